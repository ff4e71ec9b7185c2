def qSrt (β : Nat → Nat) (u i : Nat) : Nat := if i < u then (if 97 ≤ β i ∧ β i ≤ 122 then 1 else if 48 ≤ β i ∧ β i ≤ 57 then 2 else if β i = 32 then 0 else 3) else 0
theorem qSrt_le (β : Nat → Nat) (u i : Nat) : qSrt β u i ≤ 3 := by unfold qSrt; (repeat' split) <;> omega
theorem qSrt_lt (β : Nat → Nat) (u i : Nat) : qSrt β u i < 2 ^ 31 := Nat.lt_of_le_of_lt (qSrt_le β u i) (by decide)
theorem qSrt_1 {β : Nat → Nat} {u i : Nat} : qSrt β u i = 1 ↔ qLet β u i = true := by
  unfold qSrt qLet
  rw [decide_eq_true_eq]
  (repeat' split) <;> omega
theorem qSrt_2 {β : Nat → Nat} {u i : Nat} : qSrt β u i = 2 ↔ qDig β u i = true := by
  unfold qSrt qDig
  rw [decide_eq_true_eq]
  (repeat' split) <;> omega
theorem qSrt_0 {β : Nat → Nat} {u i : Nat} : qSrt β u i = 0 ↔ (u ≤ i ∨ qBla β u i = true) := by
  unfold qSrt qBla
  rw [decide_eq_true_eq]
  (repeat' split) <;> omega
theorem bnot_t {b : Bool} (h : ¬ b = true) : b = false := by cases b with | false => rfl | true => exact absurd rfl h
theorem qRunE_in {f : Nat → Bool} : ∀ c i k, i ≤ k → k < qRunE f c i → f k = true
  | 0, i, k, h1, h2 => by
    have h3 : k < i := h2
    omega
  | c + 1, i, k, h1, h2 => by
    unfold qRunE at h2
    split at h2
    · rename_i hi
      by_cases e : k = i
      · rw [e]; exact hi
      · exact qRunE_in c (i + 1) k (by omega) h2
    · omega
theorem qRunE_stop {f : Nat → Bool} {u : Nat} (hf : ∀ k, f k = true → k < u) : ∀ c i, u < i + c → f (qRunE f c i) = false
  | 0, i, h => bnot_t fun h2 => by
    have := hf i h2
    omega
  | c + 1, i, h => by
    unfold qRunE
    split
    · exact qRunE_stop hf c (i + 1) (by omega)
    · exact bnot_t (by assumption)
theorem qRunE_eq {f : Nat → Bool} : ∀ m c i, m < c → (∀ k, k < m → f (i + k) = true) → f (i + m) = false → qRunE f c i = i + m
  | 0, c, i, _, _, h2 => qRunE_e h2
  | m + 1, 0, i, h, _, _ => by omega
  | m + 1, c + 1, i, h, h1, h2 => by
    rw [qRunE, if_pos (show f i = true from h1 0 (by omega)), qRunE_eq m c (i + 1) (by omega) (fun k hk => by rw [show i + 1 + k = i + (k + 1) by omega]; exact h1 (k + 1) (by omega)) (by rw [show i + 1 + m = i + (m + 1) by omega]; exact h2)]
    omega
def qWs : List Nat := [0, 6, 12, 16, 24, 29, 36, 41, 46, 51, 54, 57, 61, 65, 71, 77, 83, 88]
def qWl : List Nat := [5, 5, 3, 7, 4, 6, 4, 4, 4, 2, 2, 3, 3, 5, 5, 5, 4, 6]
def qSta (j : Nat) : Nat := qWs.getD j 95
def qLen (j : Nat) : Nat := qWl.getD j 0
def qPm (j : Nat) : Nat := if j = 10 then 12 else if j = 12 then 10 else j
theorem zwd1 : ∀ j, j < 18 → ∀ l, l < qLen j → zRidB.getD (qSta j + l) 0 = nI (qLtr (8 * qPm j + l)) ∧ 97 ≤ qLtr (8 * qPm j + l) ∧ qLtr (8 * qPm j + l) ≤ 122 := by decide +kernel
theorem zwd2 : ∀ j, j < 18 → zRidB.getD (qSta j + qLen j) 0 = nI 32 ∧ qSta (j + 1) = qSta j + qLen j + 1 ∧ qSta j + qLen j < 95 ∧ 1 ≤ qLen j ∧ qLen j ≤ 7 := by decide +kernel
theorem zwd3 : ∀ j, j < 18 → ∀ k, k < 8 → qLen j ≤ k → qLtr (8 * qPm j + k) = 32 := by decide +kernel
theorem zwd4 : ∀ j, j < 18 → qCode (qPm j) = 10000 + j ∧ qPm j < 18 ∧ qPm (qPm j) = j := by decide +kernel
theorem zwd5 : ∀ w, w < 18 → ∀ v, v < 18 → (∀ k, k < 8 → qLtr (8 * w + k) = qLtr (8 * v + k)) → w = v := by decide +kernel
theorem zwN {β : Nat → Nat} {u p j : Nat} (hu : u ≤ 200) (hj : j < 18) : qIsN β p (qRunE (qLet β u) 201 p) (qPm j) = true ↔ ((∀ k, k < qLen j → p + k < u ∧ β (p + k) = qLtr (8 * qPm j + k)) ∧ qLet β u (p + qLen j) = false) := by
  obtain ⟨-, -, -, l1, l7⟩ := zwd2 j hj
  constructor
  · intro h
    obtain ⟨h1, h2⟩ := qIsN_iff.mp h
    have hlt : ∀ k, k < qLen j → p + k < qRunE (qLet β u) 201 p ∧ β (p + k) = qLtr (8 * qPm j + k) := fun k hk => by
      have h3 := h2 k (by omega)
      unfold qNc at h3
      have h4 := zwd1 j hj k hk
      by_cases e : p + k < qRunE (qLet β u) 201 p
      · rw [if_pos e] at h3; exact ⟨e, h3.symm⟩
      · rw [if_neg e] at h3; omega
    have hin : ∀ k, k < qLen j → p + k < u := fun k hk => qLet_lt (qRunE_in 201 p (p + k) (by omega) (hlt k hk).1)
    refine ⟨fun k hk => ⟨hin k hk, (hlt k hk).2⟩, ?_⟩
    have h5 := h2 (qLen j) (by omega)
    unfold qNc at h5
    rw [zwd3 j hj (qLen j) (by omega) (Nat.le_refl _)] at h5
    by_cases e : p + qLen j < qRunE (qLet β u) 201 p
    · rw [if_pos e] at h5
      have h6 := of_decide_eq_true (qRunE_in 201 p (p + qLen j) (by omega) e)
      omega
    · have h7 := (hlt (qLen j - 1) (by omega)).1
      have h8 : qRunE (qLet β u) 201 p = p + qLen j := by omega
      rw [← h8]
      exact qRunE_stop (u := u) (fun k h => qLet_lt h) 201 p (by have := hin 0 (by omega); omega)
  · rintro ⟨h1, h2⟩
    have hE : qRunE (qLet β u) 201 p = p + qLen j := qRunE_eq (qLen j) 201 p (by omega) (fun k hk => by
      obtain ⟨h3, h4⟩ := h1 k hk
      have h5 := zwd1 j hj k hk
      exact decide_eq_true (by omega)) h2
    refine qIsN_iff.mpr ⟨by omega, fun k hk => ?_⟩
    unfold qNc
    rw [hE]
    by_cases e : k < qLen j
    · rw [if_pos (by omega)]; exact (h1 k e).2.symm
    · rw [if_neg (by omega)]; exact zwd3 j hj k hk (by omega)
theorem qIsN_uq {β : Nat → Nat} {p e w v : Nat} (hw : w < 18) (hv : v < 18) (h1 : qIsN β p e w = true) (h2 : qIsN β p e v = true) : w = v :=
  zwd5 w hw v hv fun k hk => ((qIsN_iff.mp h1).2 k hk).trans ((qIsN_iff.mp h2).2 k hk).symm
theorem qFw_none {β : Nat → Nat} {p e : Nat} : ∀ c w t, (∀ v, w ≤ v → v < w + c → qIsN β p e v = false) → qFw β p e c w t = t
  | 0, _, _, _ => rfl
  | c + 1, w, t, h => by
    rw [qFw, h w (Nat.le_refl _) (by omega), if_neg (by decide)]
    exact qFw_none c (w + 1) t fun v h1 h2 => h v (by omega) (by omega)
theorem qFw_one {β : Nat → Nat} {p e x : Nat} (hx : qIsN β p e x = true) : ∀ c w t, w ≤ x → x < w + c → w + c = 18 → qFw β p e c w t = x
  | 0, w, t, h1, h2, _ => by omega
  | c + 1, w, t, h1, h2, h3 => by
    rw [qFw]
    by_cases e : w = x
    · subst e
      rw [if_pos hx]
      exact qFw_none c (w + 1) w fun v h4 h5 => bnot_t fun h6 => by
        have := qIsN_uq (by omega) (by omega) hx h6
        omega
    · exact qFw_one hx c (w + 1) _ (by omega) (by omega) (by omega)
theorem qWd_one {β : Nat → Nat} {p e x : Nat} (h18 : x < 18) (hx : qIsN β p e x = true) : qWd β p e = x := qFw_one hx 18 0 101 (by omega) (by omega) rfl
theorem qWd_none {β : Nat → Nat} {p e : Nat} (h : ∀ i, i < 18 → qIsN β p e (qPm i) = false) : qWd β p e = 101 := qFw_none 18 0 101 fun v _ h2 => by
  have h3 := zwd4 v (by omega)
  have h4 := h (qPm v) h3.2.1
  rw [h3.2.2] at h4
  exact h4
abbrev qLm (β : Nat → Nat) (u p j l : Nat) : Prop := ∀ k, k < l → p + k < u ∧ β (p + k) = qLtr (8 * qPm j + k)
theorem qLm_s {β : Nat → Nat} {u p j l : Nat} (h : qLm β u p j l) (h1 : p + l < u) (h2 : β (p + l) = qLtr (8 * qPm j + l)) : qLm β u p j (l + 1) := fun k hk => by
  by_cases e : k = l
  · rw [e]; exact ⟨h1, h2⟩
  · exact h k (by omega)
set_option maxRecDepth 100000 in
set_option maxHeartbeats 4000000 in
theorem ok_X6_sortAt {M : zMem} {β : Nat → Nat} {u : Nat} {i : Nat} (ht : zTq β u M) (hi : i < 100000) : zOkI zw0 0 mX6_sortAt [.ref 83, .int (nI i)] M (nI (qSrt β u i)) := by
  have hu := ht.2.1
  have hbi := ht.2.2.2 i
  refine zOk_of (by decide +kernel) (fun _ => Nat.le_of_ble_eq_true rfl) (L := [(0, .ref 83), (1, .int (nI i))]) rfl ?_
  refine zi_iload_n dX6_sortAt_0 (i := 1) rfl 1 rfl ?_
  refine zi_aload_n dX6_sortAt_1 (i := 0) rfl 0 rfl ?_
  refine zi_getI fd_X6_28_X6 rfl cw0_83 rfl dX6_sortAt_2 ?_
  refine zi_top (y := nI u) ((ht.1)) ?_
  refine zi_icmpN_ge (by  omega) (by  omega) (tgt := 17) dX6_sortAt_5 (by decide) (fun c5 => ?_) (fun c5 => ?_)
  · refine zi_bipush (v := nI 32) dX6_sortAt_17 (by decide) ?_
    refine zi_istore_n (L' := [(2, .int (nI 32)), (0, .ref 83), (1, .int (nI i))]) dX6_sortAt_19 (i := 2) rfl (by decide) rfl ?_
    refine zi_iload_n dX6_sortAt_20 (i := 2) rfl 0 rfl ?_
    refine zi_bipush (v := nI 97) dX6_sortAt_21 (by decide) ?_
    refine zi_icmpN_lt (by decide) (by decide) (tgt := 34) dX6_sortAt_23 (by decide) (fun _ => ?_) (fun c => absurd c (by decide))
    refine zi_iload_n dX6_sortAt_34 (i := 2) rfl 0 rfl ?_
    refine zi_bipush (v := nI 48) dX6_sortAt_35 (by decide) ?_
    refine zi_icmpN_lt (by decide) (by decide) (tgt := 48) dX6_sortAt_37 (by decide) (fun _ => ?_) (fun c => absurd c (by decide))
    refine zi_iload_n dX6_sortAt_48 (i := 2) rfl 0 rfl ?_
    refine zi_bipush (v := nI 32) dX6_sortAt_49 (by decide) ?_
    refine zi_icmpN_ne (by decide) (by decide) (tgt := 58) dX6_sortAt_51 (by decide) (fun c => absurd c (by decide)) (fun _ => ?_)
    refine zi_iconst (v := nI 0) dX6_sortAt_54 (by decide) ?_
    refine zi_goto (tgt := 59) dX6_sortAt_55 (by decide) ?_
    refine zi_retI rfl rfl dX6_sortAt_59 ?_
    refine congrArg nI ?_
    unfold qSrt
    (repeat' split) <;> omega
  · refine zi_aload_n dX6_sortAt_8 (i := 0) rfl 0 rfl ?_
    refine zi_getR fd_X6_11_X6 rfl cw0_83 rfl dX6_sortAt_9 ?_
    refine zi_iload_n dX6_sortAt_12 (i := 1) rfl 1 rfl ?_
    refine zi_ialdN cw0_84 (by omega) (by decide) dX6_sortAt_13 ?_
    refine zi_top (y := nI (β i)) ((ht.2.2.1 _ (by omega))) ?_
    refine zi_goto (tgt := 19) dX6_sortAt_14 (by decide) ?_
    refine zi_istore_n (L' := [(2, .int (nI (β i))), (0, .ref 83), (1, .int (nI i))]) dX6_sortAt_19 (i := 2) rfl (by decide) rfl ?_
    refine zi_iload_n dX6_sortAt_20 (i := 2) rfl 0 rfl ?_
    refine zi_bipush (v := nI 97) dX6_sortAt_21 (by decide) ?_
    refine zi_icmpN_lt (by  omega) (by decide) (tgt := 34) dX6_sortAt_23 (by decide) (fun c23 => ?_) (fun c23 => ?_)
    · refine zi_iload_n dX6_sortAt_34 (i := 2) rfl 0 rfl ?_
      refine zi_bipush (v := nI 48) dX6_sortAt_35 (by decide) ?_
      refine zi_icmpN_lt (by  omega) (by decide) (tgt := 48) dX6_sortAt_37 (by decide) (fun c37 => ?_) (fun c37 => ?_)
      · refine zi_iload_n dX6_sortAt_48 (i := 2) rfl 0 rfl ?_
        refine zi_bipush (v := nI 32) dX6_sortAt_49 (by decide) ?_
        refine zi_icmpN_ne (by  omega) (by decide) (tgt := 58) dX6_sortAt_51 (by decide) (fun c51 => ?_) (fun c51 => ?_)
        · refine zi_iconst (v := nI 3) dX6_sortAt_58 (by decide) ?_
          refine zi_retI rfl rfl dX6_sortAt_59 ?_
          refine congrArg nI ?_
          unfold qSrt
          (repeat' split) <;> omega
        · refine zi_iconst (v := nI 0) dX6_sortAt_54 (by decide) ?_
          refine zi_goto (tgt := 59) dX6_sortAt_55 (by decide) ?_
          refine zi_retI rfl rfl dX6_sortAt_59 ?_
          refine congrArg nI ?_
          unfold qSrt
          (repeat' split) <;> omega
      · refine zi_iload_n dX6_sortAt_40 (i := 2) rfl 0 rfl ?_
        refine zi_bipush (v := nI 57) dX6_sortAt_41 (by decide) ?_
        refine zi_icmpN_gt (by  omega) (by decide) (tgt := 48) dX6_sortAt_43 (by decide) (fun c43 => ?_) (fun c43 => ?_)
        · refine zi_iload_n dX6_sortAt_48 (i := 2) rfl 0 rfl ?_
          refine zi_bipush (v := nI 32) dX6_sortAt_49 (by decide) ?_
          refine zi_icmpN_ne (by  omega) (by decide) (tgt := 58) dX6_sortAt_51 (by decide) (fun c51 => ?_) (fun c51 => ?_)
          · refine zi_iconst (v := nI 3) dX6_sortAt_58 (by decide) ?_
            refine zi_retI rfl rfl dX6_sortAt_59 ?_
            refine congrArg nI ?_
            unfold qSrt
            (repeat' split) <;> omega
          · refine zi_iconst (v := nI 0) dX6_sortAt_54 (by decide) ?_
            refine zi_goto (tgt := 59) dX6_sortAt_55 (by decide) ?_
            refine zi_retI rfl rfl dX6_sortAt_59 ?_
            refine congrArg nI ?_
            unfold qSrt
            (repeat' split) <;> omega
        · refine zi_iconst (v := nI 2) dX6_sortAt_46 (by decide) ?_
          refine zi_retI rfl rfl dX6_sortAt_47 ?_
          refine congrArg nI ?_
          unfold qSrt
          (repeat' split) <;> omega
    · refine zi_iload_n dX6_sortAt_26 (i := 2) rfl 0 rfl ?_
      refine zi_bipush (v := nI 122) dX6_sortAt_27 (by decide) ?_
      refine zi_icmpN_gt (by  omega) (by decide) (tgt := 34) dX6_sortAt_29 (by decide) (fun c29 => ?_) (fun c29 => ?_)
      · refine zi_iload_n dX6_sortAt_34 (i := 2) rfl 0 rfl ?_
        refine zi_bipush (v := nI 48) dX6_sortAt_35 (by decide) ?_
        refine zi_icmpN_lt (by  omega) (by decide) (tgt := 48) dX6_sortAt_37 (by decide) (fun c37 => ?_) (fun c37 => ?_)
        · refine zi_iload_n dX6_sortAt_48 (i := 2) rfl 0 rfl ?_
          refine zi_bipush (v := nI 32) dX6_sortAt_49 (by decide) ?_
          refine zi_icmpN_ne (by  omega) (by decide) (tgt := 58) dX6_sortAt_51 (by decide) (fun c51 => ?_) (fun c51 => ?_)
          · refine zi_iconst (v := nI 3) dX6_sortAt_58 (by decide) ?_
            refine zi_retI rfl rfl dX6_sortAt_59 ?_
            refine congrArg nI ?_
            unfold qSrt
            (repeat' split) <;> omega
          · refine zi_iconst (v := nI 0) dX6_sortAt_54 (by decide) ?_
            refine zi_goto (tgt := 59) dX6_sortAt_55 (by decide) ?_
            refine zi_retI rfl rfl dX6_sortAt_59 ?_
            refine congrArg nI ?_
            unfold qSrt
            (repeat' split) <;> omega
        · refine zi_iload_n dX6_sortAt_40 (i := 2) rfl 0 rfl ?_
          refine zi_bipush (v := nI 57) dX6_sortAt_41 (by decide) ?_
          refine zi_icmpN_gt (by  omega) (by decide) (tgt := 48) dX6_sortAt_43 (by decide) (fun c43 => ?_) (fun c43 => ?_)
          · refine zi_iload_n dX6_sortAt_48 (i := 2) rfl 0 rfl ?_
            refine zi_bipush (v := nI 32) dX6_sortAt_49 (by decide) ?_
            refine zi_icmpN_ne (by  omega) (by decide) (tgt := 58) dX6_sortAt_51 (by decide) (fun c51 => ?_) (fun c51 => ?_)
            · refine zi_iconst (v := nI 3) dX6_sortAt_58 (by decide) ?_
              refine zi_retI rfl rfl dX6_sortAt_59 ?_
              refine congrArg nI ?_
              unfold qSrt
              (repeat' split) <;> omega
            · refine zi_iconst (v := nI 0) dX6_sortAt_54 (by decide) ?_
              refine zi_goto (tgt := 59) dX6_sortAt_55 (by decide) ?_
              refine zi_retI rfl rfl dX6_sortAt_59 ?_
              refine congrArg nI ?_
              unfold qSrt
              (repeat' split) <;> omega
          · refine zi_iconst (v := nI 2) dX6_sortAt_46 (by decide) ?_
            refine zi_retI rfl rfl dX6_sortAt_47 ?_
            refine congrArg nI ?_
            unfold qSrt
            (repeat' split) <;> omega
      · refine zi_iconst (v := nI 1) dX6_sortAt_32 (by decide) ?_
        refine zi_retI rfl rfl dX6_sortAt_33 ?_
        refine congrArg nI ?_
        unfold qSrt
        (repeat' split) <;> omega
set_option maxRecDepth 100000 in
set_option maxHeartbeats 4000000 in
theorem ok_X6_numberAt {M : zMem} {β : Nat → Nat} {u : Nat} {p : Nat} (ht : zTq β u M) (hp : p < u) : zOkI zw0 1 mX6_numberAt [.ref 83, .int (nI p)] M (nI (if qRunE (qDig β u) 201 p - p ≤ 4 then qNv β u p 201 p 0 else 30000)) := by
  have hu := ht.2.1
  refine zOk_of (by decide +kernel) (fun _ => Nat.le_of_ble_eq_true rfl) (L := [(0, .ref 83), (1, .int (nI p))]) rfl ?_
  refine zi_iconst (v := nI 0) dX6_numberAt_0 (by decide) ?_
  refine zi_istore_n (L' := [(2, .int (nI 0)), (0, .ref 83), (1, .int (nI p))]) dX6_numberAt_1 (i := 2) rfl (by decide) rfl ?_
  refine zi_iconst (v := nI 0) dX6_numberAt_2 (by decide) ?_
  refine zi_istore_n (L' := [(3, .int (nI 0)), (2, .int (nI 0)), (0, .ref 83), (1, .int (nI p))]) dX6_numberAt_3 (i := 3) rfl (by decide) rfl ?_
  refine zi_iconst (v := nI 0) dX6_numberAt_4 (by decide) ?_
  refine zi_istore (L' := [(4, .int (nI 0)), (3, .int (nI 0)), (2, .int (nI 0)), (0, .ref 83), (1, .int (nI p))]) dX6_numberAt_5 (by decide) rfl ?_
  have lp : ∀ (n d v : Nat), 5 - d < n → d ≤ 5 → (d ≤ 4 → qNv β u p 201 p 0 = qNv β u p (201 - d) (p + d) v) → qRunE (qDig β u) 201 p = qRunE (qDig β u) (201 - d) (p + d) → zRn zw0 1 mX6_numberAt (zQI M (nI (if qRunE (qDig β u) 201 p - p ≤ 4 then qNv β u p 201 p 0 else 30000))) 7 [(0, .ref 83), (1, .int (nI p)), (2, .int (nI v)), (3, .int (nI d)), (4, .int (nI d))] [] M := by
    intro n
    induction n with
    | zero => intro d v h1; omega
    | succ n ih =>
      intro d v h1 h2 h3 h4
      refine zi_iload dX6_numberAt_7 4 rfl ?_
      refine zi_iconst (v := nI 4) dX6_numberAt_9 (by decide) ?_
      refine zi_icmpN_gt (by  (first | omega | exact qSrt_lt _ _ _)) (by decide) (tgt := 52) dX6_numberAt_10 (by decide) (fun c10 => ?_) (fun c10 => ?_)
      · refine zi_iload_n dX6_numberAt_52 (i := 3) rfl 3 rfl ?_
        refine zi_iconst (v := nI 4) dX6_numberAt_53 (by decide) ?_
        refine zi_icmpN_le (by  (first | omega | exact qSrt_lt _ _ _)) (by decide) (tgt := 63) dX6_numberAt_54 (by decide) (fun c54 => ?_) (fun c54 => ?_)
        · refine zi_iload_n dX6_numberAt_63 (i := 2) rfl 2 rfl ?_
          refine zi_retI rfl rfl dX6_numberAt_64 ?_
          first | (exfalso; omega) | (rw [if_pos (by rw [h4, qRunE_e hdn]; omega), h3 (by omega), qNv_e hdn])
        · refine zi_sipush (v := nI 30000) dX6_numberAt_57 (by decide) ?_
          refine zi_goto (tgt := 64) dX6_numberAt_60 (by decide) ?_
          refine zi_retI rfl rfl dX6_numberAt_64 ?_
          rw [if_neg (fun q => by have := qRunE_ge (qDig β u) (201 - d) (p + d); omega)]
      · refine zi_aload_n dX6_numberAt_13 (i := 0) rfl 0 rfl ?_
        refine zi_iload_n dX6_numberAt_14 (i := 1) rfl 1 rfl ?_
        refine zi_iload dX6_numberAt_15 4 rfl ?_
        refine zi_iaddN dX6_numberAt_17 ?_
        refine zcI (zc_V (as := [.int (nI (p + d))]) lk_X6_58 ce_X6_sortAt cw0_83 rfl rfl dX6_numberAt_18 (by decide) rfl rfl (Nat.le_of_ble_eq_true rfl)) (ok_X6_sortAt ht (by omega)) ?_
        refine zi_iconst (v := nI 2) dX6_numberAt_21 (by decide) ?_
        refine zi_icmpN_ne (by  (first | omega | exact qSrt_lt _ _ _)) (by decide) (tgt := 52) dX6_numberAt_22 (by decide) (fun c22 => ?_) (fun c22 => ?_)
        · have hdn : qDig β u (p + d) = false := bnot_t fun q => c22 (qSrt_2.mpr q)
          refine zi_iload_n dX6_numberAt_52 (i := 3) rfl 3 rfl ?_
          refine zi_iconst (v := nI 4) dX6_numberAt_53 (by decide) ?_
          refine zi_icmpN_le (by  (first | omega | exact qSrt_lt _ _ _)) (by decide) (tgt := 63) dX6_numberAt_54 (by decide) (fun c54 => ?_) (fun c54 => ?_)
          · refine zi_iload_n dX6_numberAt_63 (i := 2) rfl 2 rfl ?_
            refine zi_retI rfl rfl dX6_numberAt_64 ?_
            first | (exfalso; omega) | (rw [if_pos (by rw [h4, qRunE_e hdn]; omega), h3 (by omega), qNv_e hdn])
          · refine zi_sipush (v := nI 30000) dX6_numberAt_57 (by decide) ?_
            refine zi_goto (tgt := 64) dX6_numberAt_60 (by decide) ?_
            refine zi_retI rfl rfl dX6_numberAt_64 ?_
            rw [if_neg (fun q => by have := qRunE_ge (qDig β u) (201 - d) (p + d); omega)]
        · have hdg : qDig β u (p + d) = true := qSrt_2.mp c22
          have hpd := of_decide_eq_true hdg
          refine zi_iload_n dX6_numberAt_25 (i := 2) rfl 2 rfl ?_
          refine zi_bipush (v := nI 10) dX6_numberAt_26 (by decide) ?_
          refine zi_imulN dX6_numberAt_28 ?_
          refine zi_aload_n dX6_numberAt_29 (i := 0) rfl 0 rfl ?_
          refine zi_getR fd_X6_11_X6 rfl cw0_83 rfl dX6_numberAt_30 ?_
          refine zi_iload_n dX6_numberAt_33 (i := 1) rfl 1 rfl ?_
          refine zi_iload dX6_numberAt_34 4 rfl ?_
          refine zi_iaddN dX6_numberAt_36 ?_
          refine zi_ialdN cw0_84 (by omega) (by decide) dX6_numberAt_37 ?_
          refine zi_top (y := nI (β (p + d))) ((ht.2.2.1 _ (by omega))) ?_
          refine zi_iaddN dX6_numberAt_38 ?_
          refine zi_top (y := nI (v * 10 + (β (p + d)))) (congrArg nI (by omega)) ?_
          refine zi_bipush (v := nI 48) dX6_numberAt_39 (by decide) ?_
          refine zi_isubN (by omega) dX6_numberAt_41 ?_
          refine zi_istore_n (L' := [(2, .int (nI ((v * 10 + (β (p + d))) - 48))), (0, .ref 83), (1, .int (nI p)), (3, .int (nI d)), (4, .int (nI d))]) dX6_numberAt_42 (i := 2) rfl (by decide) rfl ?_
          refine zi_iincN (L' := [(3, .int (nI (d + 1))), (2, .int (nI ((v * 10 + (β (p + d))) - 48))), (0, .ref 83), (1, .int (nI p)), (4, .int (nI d))]) dX6_numberAt_43 3 rfl (k := 1) (by decide) (by decide) rfl ?_
          refine zi_iincN (L' := [(4, .int (nI (d + 1))), (3, .int (nI (d + 1))), (2, .int (nI ((v * 10 + (β (p + d))) - 48))), (0, .ref 83), (1, .int (nI p))]) dX6_numberAt_46 4 rfl (k := 1) (by decide) (by decide) rfl ?_
          refine zi_goto (tgt := 7) dX6_numberAt_49 (by decide) ?_
          refine zi_sub [3, 4, 2, 1, 0] rfl ?_
          refine ih (d + 1) _ (by omega) (by omega) (fun h4 => ?_) ?_
          · rw [h3 (by omega), show 201 - d = (201 - (d + 1)) + 1 from by omega, qNv_s hdg, if_pos (by omega), show 10 * v + β (p + d) - 48 = v * 10 + β (p + d) - 48 from by omega]; rfl
          · rw [h4, show 201 - d = (201 - (d + 1)) + 1 from by omega, qRunE, if_pos hdg]; rfl
  refine zi_sub [3, 4, 2, 1, 0] rfl ?_
  exact lp 6 0 0 (by omega) (by omega) (fun _ => rfl) rfl
set_option maxRecDepth 100000 in
set_option maxHeartbeats 4000000 in
theorem ok_X6_wordAt {M : zMem} {β : Nat → Nat} {u : Nat} {p : Nat} (ht : zTq β u M) (hp : p < u) : zOkI zw0 4 mX6_wordAt [.ref 83, .int (nI p)] M (nI (qCode (qWd β p (qRunE (qLet β u) 201 p)))) := by
  have hu := ht.2.1
  refine zOk_of (by decide +kernel) (fun _ => Nat.le_of_ble_eq_true rfl) (L := [(0, .ref 83), (1, .int (nI p))]) rfl ?_
  refine zi_iconst (v := nI 0) dX6_wordAt_0 (by decide) ?_
  refine zi_istore_n (L' := [(2, .int (nI 0)), (0, .ref 83), (1, .int (nI p))]) dX6_wordAt_1 (i := 2) rfl (by decide) rfl ?_
  refine zi_iconst (v := nI 0) dX6_wordAt_2 (by decide) ?_
  refine zi_istore_n (L' := [(3, .int (nI 0)), (2, .int (nI 0)), (0, .ref 83), (1, .int (nI p))]) dX6_wordAt_3 (i := 3) rfl (by decide) rfl ?_
  refine zi_iconst (v := nI 1) dX6_wordAt_4 (by decide) ?_
  refine zi_istore (L' := [(4, .int (nI 1)), (3, .int (nI 0)), (2, .int (nI 0)), (0, .ref 83), (1, .int (nI p))]) dX6_wordAt_5 (by decide) rfl ?_
  refine zi_iconst (v := nI 0) dX6_wordAt_7 (by decide) ?_
  refine zi_istore (L' := [(5, .int (nI 0)), (4, .int (nI 1)), (3, .int (nI 0)), (2, .int (nI 0)), (0, .ref 83), (1, .int (nI p))]) dX6_wordAt_8 (by decide) rfl ?_
  have lp : ∀ (n c j l : Nat) (b : Bool), 95 - c < n → c = qSta j + l → j ≤ 18 → (j = 18 → l = 0) → (j < 18 → l ≤ qLen j) → (b = true ↔ qLm β u p j l) → (∀ i, i < j → qIsN β p (qRunE (qLet β u) 201 p) (qPm i) = false) → zRn zw0 4 mX6_wordAt (zQI M (nI (qCode (qWd β p (qRunE (qLet β u) 201 p))))) 10 [(0, .ref 83), (1, .int (nI p)), (2, .int (nI j)), (3, .int (nI l)), (4, .int (zb b)), (5, .int (nI c))] [] M := by
    intro n
    induction n with
    | zero => intro c j l b h1; omega
    | succ n ih =>
      intro c j l b h1 h2 h3 h4 h5 h6 h7
      have hc95 : c ≤ 95 := by
        rcases Nat.lt_or_ge j 18 with q | q
        · have := zwd2 j q; have := h5 q; omega
        · have e18 : j = 18 := by omega
          rw [e18, show qSta 18 = 95 from rfl] at h2
          have := h4 e18
          omega
      refine zi_iload dX6_wordAt_10 5 rfl ?_
      refine zi_ldcS rfl dX6_wordAt_12 ?_
      refine zcI (zc_T (as := []) lk_X6_70 ce_J0_length_8abf5 rfl dX6_wordAt_14 (by decide) rfl rfl (Nat.le_of_ble_eq_true rfl)) (ok_length) ?_
      refine zi_icmpN_ge (by  (first | omega | exact qSrt_lt _ _ _)) (by decide) (tgt := 113) dX6_wordAt_17 (by decide) (fun c17 => ?_) (fun c17 => ?_)
      · have ej : j = 18 := Decidable.byContradiction fun q => by have := zwd2 j (by omega); have := h5 (by omega); omega
        refine zi_sipush (v := nI 30000) dX6_wordAt_113 (by decide) ?_
        refine zi_retI rfl rfl dX6_wordAt_116 ?_
        rw [qWd_none (fun i hi => h7 i (by omega))]
        rfl
      · have hj18 : j < 18 := by
          rcases Nat.lt_or_ge j 18 with q | q
          · exact q
          · have e18 : j = 18 := by omega
            rw [e18, show qSta 18 = 95 from rfl] at h2
            omega
        have hl5 := h5 hj18
        have hw2 := zwd2 j hj18
        refine zi_ldcS rfl dX6_wordAt_20 ?_
        refine zi_iload dX6_wordAt_22 5 rfl ?_
        refine zcI (zc_T (as := [.int (nI c)]) lk_X6_76 ce_J0_charAt_5068e rfl dX6_wordAt_24 (by decide) rfl rfl (Nat.le_of_ble_eq_true rfl)) (ok_charAt (by omega)) ?_
        refine zi_istore (L' := [(6, .int (zRidB.getD c 0)), (0, .ref 83), (1, .int (nI p)), (2, .int (nI j)), (3, .int (nI l)), (4, .int (zb b)), (5, .int (nI c))]) dX6_wordAt_27 (by decide) rfl ?_
        refine zi_iload dX6_wordAt_29 0 rfl ?_
        refine zi_bipush (v := nI 32) dX6_wordAt_31 (by decide) ?_
        refine zi_icmp_eq (tgt := 77) dX6_wordAt_33 (by decide) (fun c33 => ?_) (fun c33 => ?_)
        · have hlen : l = qLen j := Decidable.byContradiction fun q => by
            have hw1 := zwd1 j hj18 l (by omega)
            rw [h2, hw1.1] at c33
            have := (nI_eq (by omega) (by decide)).mp c33
            omega
          refine zi_iload dX6_wordAt_77 5 rfl ?_
          refine zi_ifB_eq (tgt := 99) dX6_wordAt_79 (by decide) (fun c79 => ?_) (fun c79 => ?_)
          · refine zi_iincN (L' := [(2, .int (nI (j + 1))), (6, .int (zRidB.getD c 0)), (0, .ref 83), (1, .int (nI p)), (3, .int (nI l)), (4, .int (zb b)), (5, .int (nI c))]) dX6_wordAt_99 3 rfl (k := 1) (by decide) (by decide) rfl ?_
            refine zi_iconst (v := nI 0) dX6_wordAt_102 (by decide) ?_
            refine zi_istore_n (L' := [(3, .int (nI 0)), (2, .int (nI (j + 1))), (6, .int (zRidB.getD c 0)), (0, .ref 83), (1, .int (nI p)), (4, .int (zb b)), (5, .int (nI c))]) dX6_wordAt_103 (i := 3) rfl (by decide) rfl ?_
            refine zi_iconst (v := nI 1) dX6_wordAt_104 (by decide) ?_
            refine zi_istore (L' := [(4, .int (nI 1)), (3, .int (nI 0)), (2, .int (nI (j + 1))), (6, .int (zRidB.getD c 0)), (0, .ref 83), (1, .int (nI p)), (5, .int (nI c))]) dX6_wordAt_105 (by decide) rfl ?_
            refine zi_iincN (L' := [(5, .int (nI (c + 1))), (4, .int (nI 1)), (3, .int (nI 0)), (2, .int (nI (j + 1))), (6, .int (zRidB.getD c 0)), (0, .ref 83), (1, .int (nI p))]) dX6_wordAt_107 6 rfl (k := 1) (by decide) (by decide) rfl ?_
            refine zi_goto (tgt := 10) dX6_wordAt_110 (by decide) ?_
            refine zi_sub [5, 6, 3, 2, 1, 0] rfl ?_
            refine ih (c + 1) (j + 1) 0 true (by omega) (by omega) (by omega) (fun _ => rfl) (fun _ => Nat.zero_le _) ⟨fun _ k hk => absurd hk (Nat.not_lt_zero k), fun _ => rfl⟩ (fun i hi => ?_)
            by_cases e : i = j
            · subst e
              refine bnot_t fun q => ?_
              have q2 := (zwN hu hj18).mp q
              first
              | (exact absurd (h6.mpr (by rw [hlen]; exact q2.1)) (by rw [c79]; decide))
              | (rw [hlen] at c90; exact absurd (qSrt_1.mp c90) (by rw [q2.2]; decide))
            · exact h7 i (by omega)
          · refine zi_aload_n dX6_wordAt_82 (i := 0) rfl 1 rfl ?_
            refine zi_iload_n dX6_wordAt_83 (i := 1) rfl 2 rfl ?_
            refine zi_iload_n dX6_wordAt_84 (i := 3) rfl 4 rfl ?_
            refine zi_iaddN dX6_wordAt_85 ?_
            refine zcI (zc_V (as := [.int (nI (p + l))]) lk_X6_58 ce_X6_sortAt cw0_83 rfl rfl dX6_wordAt_86 (by decide) rfl rfl (Nat.le_of_ble_eq_true rfl)) (ok_X6_sortAt ht (by omega)) ?_
            refine zi_iconst (v := nI 1) dX6_wordAt_89 (by decide) ?_
            refine zi_icmpN_eq (by  (first | omega | exact qSrt_lt _ _ _)) (by decide) (tgt := 99) dX6_wordAt_90 (by decide) (fun c90 => ?_) (fun c90 => ?_)
            · refine zi_iincN (L' := [(2, .int (nI (j + 1))), (6, .int (zRidB.getD c 0)), (0, .ref 83), (1, .int (nI p)), (3, .int (nI l)), (4, .int (zb b)), (5, .int (nI c))]) dX6_wordAt_99 3 rfl (k := 1) (by decide) (by decide) rfl ?_
              refine zi_iconst (v := nI 0) dX6_wordAt_102 (by decide) ?_
              refine zi_istore_n (L' := [(3, .int (nI 0)), (2, .int (nI (j + 1))), (6, .int (zRidB.getD c 0)), (0, .ref 83), (1, .int (nI p)), (4, .int (zb b)), (5, .int (nI c))]) dX6_wordAt_103 (i := 3) rfl (by decide) rfl ?_
              refine zi_iconst (v := nI 1) dX6_wordAt_104 (by decide) ?_
              refine zi_istore (L' := [(4, .int (nI 1)), (3, .int (nI 0)), (2, .int (nI (j + 1))), (6, .int (zRidB.getD c 0)), (0, .ref 83), (1, .int (nI p)), (5, .int (nI c))]) dX6_wordAt_105 (by decide) rfl ?_
              refine zi_iincN (L' := [(5, .int (nI (c + 1))), (4, .int (nI 1)), (3, .int (nI 0)), (2, .int (nI (j + 1))), (6, .int (zRidB.getD c 0)), (0, .ref 83), (1, .int (nI p))]) dX6_wordAt_107 6 rfl (k := 1) (by decide) (by decide) rfl ?_
              refine zi_goto (tgt := 10) dX6_wordAt_110 (by decide) ?_
              refine zi_sub [5, 6, 3, 2, 1, 0] rfl ?_
              refine ih (c + 1) (j + 1) 0 true (by omega) (by omega) (by omega) (fun _ => rfl) (fun _ => Nat.zero_le _) ⟨fun _ k hk => absurd hk (Nat.not_lt_zero k), fun _ => rfl⟩ (fun i hi => ?_)
              by_cases e : i = j
              · subst e
                refine bnot_t fun q => ?_
                have q2 := (zwN hu hj18).mp q
                first
                | (exact absurd (h6.mpr (by rw [hlen]; exact q2.1)) (by rw [c79]; decide))
                | (rw [hlen] at c90; exact absurd (qSrt_1.mp c90) (by rw [q2.2]; decide))
              · exact h7 i (by omega)
            · refine zi_sipush (v := nI 10000) dX6_wordAt_93 (by decide) ?_
              refine zi_iload_n dX6_wordAt_96 (i := 2) rfl 3 rfl ?_
              refine zi_iaddN dX6_wordAt_97 ?_
              refine zi_retI rfl rfl dX6_wordAt_98 ?_
              have hm : qIsN β p (qRunE (qLet β u) 201 p) (qPm j) = true := (zwN hu hj18).mpr ⟨by rw [← hlen]; exact h6.mp c79, by rw [← hlen]; exact bnot_t fun q => c90 (qSrt_1.mpr q)⟩
              have hw4 := zwd4 j hj18
              rw [qWd_one hw4.2.1 hm, hw4.1]
        · have hll : l < qLen j := by
            rcases Nat.lt_or_ge l (qLen j) with q | q
            · exact q
            · have e : l = qLen j := by omega
              rw [h2, e, hw2.1] at c33
              exact absurd rfl c33
          have hw1 := zwd1 j hj18 l hll
          refine zi_iload dX6_wordAt_36 5 rfl ?_
          refine zi_ifB_eq (tgt := 68) dX6_wordAt_38 (by decide) (fun c38 => ?_) (fun c38 => ?_)
          · refine zi_iconst (v := nI 0) dX6_wordAt_68 (by decide) ?_
            refine zi_istore (L' := [(4, .int (nI 0)), (6, .int (zRidB.getD c 0)), (0, .ref 83), (1, .int (nI p)), (2, .int (nI j)), (3, .int (nI l)), (5, .int (nI c))]) dX6_wordAt_69 (by decide) rfl ?_
            refine zi_iincN (L' := [(3, .int (nI (l + 1))), (4, .int (nI 0)), (6, .int (zRidB.getD c 0)), (0, .ref 83), (1, .int (nI p)), (2, .int (nI j)), (5, .int (nI c))]) dX6_wordAt_71 5 rfl (k := 1) (by decide) (by decide) rfl ?_
            refine zi_goto (tgt := 107) dX6_wordAt_74 (by decide) ?_
            refine zi_iincN (L' := [(5, .int (nI (c + 1))), (3, .int (nI (l + 1))), (4, .int (nI 0)), (6, .int (zRidB.getD c 0)), (0, .ref 83), (1, .int (nI p)), (2, .int (nI j))]) dX6_wordAt_107 6 rfl (k := 1) (by decide) (by decide) rfl ?_
            refine zi_goto (tgt := 10) dX6_wordAt_110 (by decide) ?_
            refine zi_sub [4, 5, 6, 1, 2, 0] rfl ?_
            refine ih (c + 1) j (l + 1) false (by omega) (by omega) h3 (fun q => by omega) (fun _ => by omega) ⟨fun q => absurd q (by decide), fun q => ?_⟩ h7
            exfalso
            have q3 := q l (by omega)
            have q4 : qLm β u p j l := fun k hk => q k (by omega)
            first
            | (have q5 := h6.mpr q4; rw [c38] at q5; exact absurd q5 (by decide))
            | omega
            | (rw [h2, hw1.1, q3.2] at c61; exact c61 rfl)
          · refine zi_iload_n dX6_wordAt_41 (i := 1) rfl 2 rfl ?_
            refine zi_iload_n dX6_wordAt_42 (i := 3) rfl 4 rfl ?_
            refine zi_iaddN dX6_wordAt_43 ?_
            refine zi_aload_n dX6_wordAt_44 (i := 0) rfl 1 rfl ?_
            refine zi_getI fd_X6_28_X6 rfl cw0_83 rfl dX6_wordAt_45 ?_
            refine zi_top (y := nI u) ((ht.1)) ?_
            refine zi_icmpN_ge (by  (first | omega | exact qSrt_lt _ _ _)) (by  (first | omega | exact qSrt_lt _ _ _)) (tgt := 68) dX6_wordAt_48 (by decide) (fun c48 => ?_) (fun c48 => ?_)
            · refine zi_iconst (v := nI 0) dX6_wordAt_68 (by decide) ?_
              refine zi_istore (L' := [(4, .int (nI 0)), (6, .int (zRidB.getD c 0)), (0, .ref 83), (1, .int (nI p)), (2, .int (nI j)), (3, .int (nI l)), (5, .int (nI c))]) dX6_wordAt_69 (by decide) rfl ?_
              refine zi_iincN (L' := [(3, .int (nI (l + 1))), (4, .int (nI 0)), (6, .int (zRidB.getD c 0)), (0, .ref 83), (1, .int (nI p)), (2, .int (nI j)), (5, .int (nI c))]) dX6_wordAt_71 5 rfl (k := 1) (by decide) (by decide) rfl ?_
              refine zi_goto (tgt := 107) dX6_wordAt_74 (by decide) ?_
              refine zi_iincN (L' := [(5, .int (nI (c + 1))), (3, .int (nI (l + 1))), (4, .int (nI 0)), (6, .int (zRidB.getD c 0)), (0, .ref 83), (1, .int (nI p)), (2, .int (nI j))]) dX6_wordAt_107 6 rfl (k := 1) (by decide) (by decide) rfl ?_
              refine zi_goto (tgt := 10) dX6_wordAt_110 (by decide) ?_
              refine zi_sub [4, 5, 6, 1, 2, 0] rfl ?_
              refine ih (c + 1) j (l + 1) false (by omega) (by omega) h3 (fun q => by omega) (fun _ => by omega) ⟨fun q => absurd q (by decide), fun q => ?_⟩ h7
              exfalso
              have q3 := q l (by omega)
              have q4 : qLm β u p j l := fun k hk => q k (by omega)
              first
              | (have q5 := h6.mpr q4; rw [c38] at q5; exact absurd q5 (by decide))
              | omega
              | (rw [h2, hw1.1, q3.2] at c61; exact c61 rfl)
            · refine zi_aload_n dX6_wordAt_51 (i := 0) rfl 1 rfl ?_
              refine zi_getR fd_X6_11_X6 rfl cw0_83 rfl dX6_wordAt_52 ?_
              refine zi_iload_n dX6_wordAt_55 (i := 1) rfl 2 rfl ?_
              refine zi_iload_n dX6_wordAt_56 (i := 3) rfl 4 rfl ?_
              refine zi_iaddN dX6_wordAt_57 ?_
              refine zi_ialdN cw0_84 (by omega) (by decide) dX6_wordAt_58 ?_
              refine zi_top (y := nI (β (p + l))) ((ht.2.2.1 _ (by omega))) ?_
              refine zi_iload dX6_wordAt_59 0 rfl ?_
              refine zi_icmp_ne (tgt := 68) dX6_wordAt_61 (by decide) (fun c61 => ?_) (fun c61 => ?_)
              · refine zi_iconst (v := nI 0) dX6_wordAt_68 (by decide) ?_
                refine zi_istore (L' := [(4, .int (nI 0)), (6, .int (zRidB.getD c 0)), (0, .ref 83), (1, .int (nI p)), (2, .int (nI j)), (3, .int (nI l)), (5, .int (nI c))]) dX6_wordAt_69 (by decide) rfl ?_
                refine zi_iincN (L' := [(3, .int (nI (l + 1))), (4, .int (nI 0)), (6, .int (zRidB.getD c 0)), (0, .ref 83), (1, .int (nI p)), (2, .int (nI j)), (5, .int (nI c))]) dX6_wordAt_71 5 rfl (k := 1) (by decide) (by decide) rfl ?_
                refine zi_goto (tgt := 107) dX6_wordAt_74 (by decide) ?_
                refine zi_iincN (L' := [(5, .int (nI (c + 1))), (3, .int (nI (l + 1))), (4, .int (nI 0)), (6, .int (zRidB.getD c 0)), (0, .ref 83), (1, .int (nI p)), (2, .int (nI j))]) dX6_wordAt_107 6 rfl (k := 1) (by decide) (by decide) rfl ?_
                refine zi_goto (tgt := 10) dX6_wordAt_110 (by decide) ?_
                refine zi_sub [4, 5, 6, 1, 2, 0] rfl ?_
                refine ih (c + 1) j (l + 1) false (by omega) (by omega) h3 (fun q => by omega) (fun _ => by omega) ⟨fun q => absurd q (by decide), fun q => ?_⟩ h7
                exfalso
                have q3 := q l (by omega)
                have q4 : qLm β u p j l := fun k hk => q k (by omega)
                first
                | (have q5 := h6.mpr q4; rw [c38] at q5; exact absurd q5 (by decide))
                | omega
                | (rw [h2, hw1.1, q3.2] at c61; exact c61 rfl)
              · refine zi_iconst (v := nI 1) dX6_wordAt_64 (by decide) ?_
                refine zi_goto (tgt := 69) dX6_wordAt_65 (by decide) ?_
                refine zi_istore (L' := [(4, .int (nI 1)), (6, .int (zRidB.getD c 0)), (0, .ref 83), (1, .int (nI p)), (2, .int (nI j)), (3, .int (nI l)), (5, .int (nI c))]) dX6_wordAt_69 (by decide) rfl ?_
                refine zi_iincN (L' := [(3, .int (nI (l + 1))), (4, .int (nI 1)), (6, .int (zRidB.getD c 0)), (0, .ref 83), (1, .int (nI p)), (2, .int (nI j)), (5, .int (nI c))]) dX6_wordAt_71 5 rfl (k := 1) (by decide) (by decide) rfl ?_
                refine zi_goto (tgt := 107) dX6_wordAt_74 (by decide) ?_
                refine zi_iincN (L' := [(5, .int (nI (c + 1))), (3, .int (nI (l + 1))), (4, .int (nI 1)), (6, .int (zRidB.getD c 0)), (0, .ref 83), (1, .int (nI p)), (2, .int (nI j))]) dX6_wordAt_107 6 rfl (k := 1) (by decide) (by decide) rfl ?_
                refine zi_goto (tgt := 10) dX6_wordAt_110 (by decide) ?_
                refine zi_sub [4, 5, 6, 1, 2, 0] rfl ?_
                refine ih (c + 1) j (l + 1) true (by omega) (by omega) h3 (fun q => by omega) (fun _ => by omega) ⟨fun _ => qLm_s (h6.mp c38) (by omega) ?_, fun _ => rfl⟩ h7
                rw [h2, hw1.1] at c61
                exact (nI_eq (by have := ht.2.2.2 (p + l); omega) (by omega)).mp c61
  refine zi_sub [4, 5, 3, 2, 1, 0] rfl ?_
  exact lp 96 0 0 0 true (by omega) rfl (by omega) (fun _ => rfl) (fun _ => Nat.zero_le _) ⟨fun _ k hk => absurd hk (Nat.not_lt_zero k), fun _ => rfl⟩ (fun i hi => absurd hi (Nat.not_lt_zero i))
