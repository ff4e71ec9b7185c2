/-- where the parts of the text begin -/
def qPo (β : Nat → Nat) (u : Nat) : Nat → Nat
  | 0 => qSk β u 0
  | k + 1 => qNx β u (qPo β u k)
theorem qPo_le (β : Nat → Nat) (u : Nat) : ∀ k, qPo β u k ≤ u
  | 0 => qSk_le (Nat.zero_le u)
  | k + 1 => qNx_le (qPo_le β u k)
theorem qSk_stop {β : Nat → Nat} {u x : Nat} (hu : u ≤ 200) : qBla β u (qSk β u x) = false := qRunE_stop (u := u) (fun k h => qBla_lt h) 201 x (by omega)
theorem qPo_nb {β : Nat → Nat} {u : Nat} (hu : u ≤ 200) : ∀ k, qBla β u (qPo β u k) = false
  | 0 => qSk_stop hu
  | _ + 1 => qSk_stop hu
theorem qPo_blk {β : Nat → Nat} {u x i : Nat} (h1 : x ≤ i) (h2 : i < qSk β u x) : qSrt β u i = 0 := qSrt_0.mpr (Or.inr (qRunE_in 201 x i h1 h2))
/-- within a part but its first byte, all are of the sort of the byte ahead; behind it another sort begins -/
theorem qEnd_in {β : Nat → Nat} {u p i : Nat} (hp : p < u) (h1 : p < i) (h2 : i < qEnd β u p) : qSrt β u i ≠ 3 ∧ qSrt β u (i - 1) = qSrt β u i := by
  unfold qEnd at h2
  rw [if_neg (by omega)] at h2
  by_cases hl : qLet β u p = true
  · rw [if_pos hl] at h2
    have a := qSrt_1.mpr (qRunE_in 201 p i (by omega) h2)
    have b := qSrt_1.mpr (qRunE_in (f := qLet β u) 201 p (i - 1) (by omega) (by omega))
    omega
  · rw [if_neg hl] at h2
    by_cases hd : qDig β u p = true
    · rw [if_pos hd] at h2
      have a := qSrt_2.mpr (qRunE_in 201 p i (by omega) h2)
      have b := qSrt_2.mpr (qRunE_in (f := qDig β u) 201 p (i - 1) (by omega) (by omega))
      omega
    · rw [if_neg hd] at h2; omega
theorem qEnd_out {β : Nat → Nat} {u p : Nat} (hu : u ≤ 200) (hp : p < u) (hb : qBla β u p = false) (h3 : qSrt β u (qEnd β u p) ≠ 3) : qSrt β u (qEnd β u p - 1) ≠ qSrt β u (qEnd β u p) := by
  have hg := qEnd_gt (β := β) hp
  revert h3 hg
  unfold qEnd
  rw [if_neg (by omega)]
  by_cases hl : qLet β u p = true
  · rw [if_pos hl]
    intro h3 hg
    have a := qSrt_1.mpr (qRunE_in (f := qLet β u) 201 p (qRunE (qLet β u) 201 p - 1) (by omega) (by omega))
    have b := qRunE_stop (f := qLet β u) (u := u) (fun k h => qLet_lt h) 201 p (by omega)
    intro e
    rw [a] at e
    rw [qSrt_1.mp e.symm] at b
    exact absurd b (by decide)
  · rw [if_neg hl]
    by_cases hd : qDig β u p = true
    · rw [if_pos hd]
      intro h3 hg
      have a := qSrt_2.mpr (qRunE_in (f := qDig β u) 201 p (qRunE (qDig β u) 201 p - 1) (by omega) (by omega))
      have b := qRunE_stop (f := qDig β u) (u := u) (fun k h => qDig_lt h) 201 p (by omega)
      intro e
      rw [a] at e
      rw [qSrt_2.mp e.symm] at b
      exact absurd b (by decide)
    · rw [if_neg hd]
      intro h3 _ e
      rw [Nat.add_sub_cancel] at e
      have n1 : qSrt β u p ≠ 1 := fun q => hl (qSrt_1.mp q)
      have n2 : qSrt β u p ≠ 2 := fun q => hd (qSrt_2.mp q)
      have n0 : qSrt β u p ≠ 0 := fun q => by
        rcases qSrt_0.mp q with z | z
        · omega
        · rw [z] at hb; exact absurd hb (by decide)
      have := qSrt_le β u p
      omega
/-- a part begins at i just where its byte isn't blank and doesn't go on -/
theorem zdv {β : Nat → Nat} {u k i : Nat} (hu : u ≤ 200) (hi : i < u) (h1 : i ≤ qPo β u k) (h2 : 0 < k → qPo β u (k - 1) < i) : (qSrt β u i ≠ 0 ∧ ¬ (qSrt β u i ≠ 3 ∧ 0 < i ∧ qSrt β u (i - 1) = qSrt β u i)) ↔ i = qPo β u k := by
  constructor
  · rintro ⟨h3, h4⟩
    refine Decidable.byContradiction fun hne => ?_
    cases k with
    | zero => exact h3 (qPo_blk (Nat.zero_le i) (show i < qSk β u 0 by have : qPo β u 0 = qSk β u 0 := rfl; omega))
    | succ k =>
      have hp : qPo β u k < i := h2 (by omega)
      have hq : qPo β u (k + 1) = qSk β u (qEnd β u (qPo β u k)) := rfl
      by_cases e : qEnd β u (qPo β u k) ≤ i
      · exact h3 (qPo_blk e (by omega))
      · have h5 := qEnd_in (by omega) hp (by omega : i < qEnd β u (qPo β u k))
        exact h4 ⟨h5.1, by omega, h5.2⟩
  · intro e
    have hb := qPo_nb (β := β) hu k
    rw [← e] at hb
    refine ⟨fun q => ?_, ?_⟩
    · rcases qSrt_0.mp q with z | z
      · omega
      · rw [z] at hb; exact absurd hb (by decide)
    · rintro ⟨h3, h4, h5⟩
      have n0 : qSrt β u i ≠ 0 := fun q => by
        rcases qSrt_0.mp q with z | z
        · omega
        · rw [z] at hb; exact absurd hb (by decide)
      cases k with
      | zero => exact n0 (h5 ▸ qPo_blk (Nat.zero_le (i - 1)) (show i - 1 < qSk β u 0 by have : qPo β u 0 = qSk β u 0 := rfl; omega))
      | succ k =>
        have hp : qPo β u k < i := h2 (by omega)
        have hq : qPo β u (k + 1) = qSk β u (qEnd β u (qPo β u k)) := rfl
        have hge := qSk_ge β u (qEnd β u (qPo β u k))
        by_cases e2 : qEnd β u (qPo β u k) = i
        · have h6 := qEnd_out hu (by omega : qPo β u k < u) (qPo_nb hu k)
          rw [e2] at h6
          exact h6 h3 h5
        · exact n0 (h5 ▸ qPo_blk (x := qEnd β u (qPo β u k)) (by omega) (by omega))
theorem qTok_let {β : Nat → Nat} {u p : Nat} (h : qSrt β u p = 1) : qTok β u p = qCode (qWd β p (qRunE (qLet β u) 201 p)) := by
  have h1 := qSrt_1.mp h
  have h2 := qLet_lt h1
  unfold qTok
  rw [if_neg (by omega), if_pos h1]
theorem qTok_dig {β : Nat → Nat} {u p : Nat} (h : qSrt β u p = 2) : qTok β u p = if qRunE (qDig β u) 201 p - p ≤ 4 then qNv β u p 201 p 0 else 30000 := by
  have h1 := qSrt_2.mp h
  have h2 := qDig_lt h1
  unfold qTok
  rw [if_neg (by omega), if_neg (fun q => by rw [qSrt_1.mpr q] at h; exact absurd h (by decide)), if_pos h1]
theorem qTok_oth {β : Nat → Nat} {u p : Nat} (hp : p < u) (h : qSrt β u p ≠ 1) (h2 : qSrt β u p ≠ 2) : qTok β u p = 20000 + β p := by
  unfold qTok
  rw [if_neg (by omega), if_neg (fun q => h (qSrt_1.mpr q)), if_neg (fun q => h2 (qSrt_2.mpr q))]
/-- the text is divided: N parts -/
def zDv (β : Nat → Nat) (u N : Nat) (M : zMem) : Prop := N ≤ 200 ∧ qPo β u N = u ∧ (∀ j, j < N → qPo β u j < u) ∧ ∀ j, j ≤ N → M 85 j = nI (qTok β u (qPo β u j)) ∧ M 86 j = nI (qPo β u j)
theorem zTq_fr {β : Nat → Nat} {u : Nat} {M M' : zMem} (h : zTq β u M) (h1 : M' 83 = M 83) (h2 : M' 84 = M 84) : zTq β u M' := ⟨by rw [h1]; exact h.1, h.2.1, fun k hk => by rw [h2]; exact h.2.2.1 k hk, h.2.2.2⟩
set_option maxRecDepth 100000 in
set_option maxHeartbeats 4000000 in
theorem ok_X6_divide {M : zMem} {β : Nat → Nat} {u : Nat} (ht : zTq β u M) : zOkV zw0 5 mX6_divide [.ref 83] M (fun M' => (∃ N, zDv β u N M') ∧ zFr [85, 86] M M') := by
  have hu := ht.2.1
  refine zOk_of (by decide +kernel) (fun _ => Nat.le_of_ble_eq_true rfl) (L := [(0, .ref 83)]) rfl ?_
  refine zi_iconst (v := nI 0) dX6_divide_0 (by decide) ?_
  refine zi_istore_n (L' := [(1, .int (nI 0)), (0, .ref 83)]) dX6_divide_1 (i := 1) rfl (by decide) rfl ?_
  refine zi_iconst (v := nI 0) dX6_divide_2 (by decide) ?_
  refine zi_istore_n (L' := [(2, .int (nI 0)), (1, .int (nI 0)), (0, .ref 83)]) dX6_divide_3 (i := 2) rfl (by decide) rfl ?_
  have lp : ∀ (n k i : Nat) (M2 : zMem), u - i < n → i ≤ u → i ≤ qPo β u k → (0 < k → qPo β u (k - 1) < i) → (∀ j, j < k → qPo β u j < u) → (∀ j, j < k → M2 85 j = nI (qTok β u (qPo β u j)) ∧ M2 86 j = nI (qPo β u j)) → zFr [85, 86] M M2 → k ≤ i → zRn zw0 5 mX6_divide (zQV (fun M' => (∃ N, zDv β u N M') ∧ zFr [85, 86] M M')) 4 [(0, .ref 83), (1, .int (nI k)), (2, .int (nI i))] [] M2 := by
    intro n
    induction n with
    | zero => intro k i M2 h1; omega
    | succ n ih =>
      intro k i M2 h1 h2 h3 h4 h5 h6 hf h8
      refine zi_iload_n dX6_divide_4 (i := 2) rfl 2 rfl ?_
      refine zi_aload_n dX6_divide_5 (i := 0) rfl 0 rfl ?_
      refine zi_getI fd_X6_28_X6 rfl cw0_83 rfl dX6_divide_6 ?_
      refine zi_top (y := nI u) (((congrFun (hf 83 (by decide)) 1).trans ht.1)) ?_
      refine zi_icmpN_ge (by  (first | omega | exact qSrt_lt _ _ _)) (by  (first | omega | exact qSrt_lt _ _ _)) (tgt := 112) dX6_divide_9 (by decide) (fun c9 => ?_) (fun c9 => ?_)
      · refine zi_aload_n dX6_divide_112 (i := 0) rfl 0 rfl ?_
        refine zi_getR fd_X6_15_X6 rfl cw0_83 rfl dX6_divide_113 ?_
        refine zi_iload_n dX6_divide_116 (i := 1) rfl 1 rfl ?_
        refine zi_sipush (v := nI 30001) dX6_divide_117 (by decide) ?_
        refine zi_iastN cw0_85 (by omega) (by decide) dX6_divide_120 ?_
        refine zi_aload_n dX6_divide_121 (i := 0) rfl 0 rfl ?_
        refine zi_getR fd_X6_18_X6 rfl cw0_83 rfl dX6_divide_122 ?_
        refine zi_iload_n dX6_divide_125 (i := 1) rfl 1 rfl ?_
        refine zi_aload_n dX6_divide_126 (i := 0) rfl 0 rfl ?_
        refine zi_getI fd_X6_28_X6 rfl cw0_83 rfl dX6_divide_127 ?_
        refine zi_top (y := nI u) ((zr_c (by decide) ((congrFun (hf 83 (by decide)) 1).trans ht.1))) ?_
        refine zi_iastN cw0_86 (by omega) (by decide) dX6_divide_130 ?_
        refine zi_retV rfl dX6_divide_131 ?_
        have hpk := qPo_le β u k
        have epk : qPo β u k = u := by omega
        refine ⟨⟨k, by omega, epk, h5, fun j hj => ?_⟩, zFr_up (zFr_up hf (by decide)) (by decide)⟩
        by_cases e : j = k
        · subst e
          rw [epk]
          refine ⟨?_, zr_h⟩
          rw [zr_c (by decide) rfl, zr_h]
          unfold qTok
          rw [if_pos (Nat.le_refl u)]
        · rw [zr_c (by decide) (zr_j (by omega) rfl), zr_j (by omega) (zr_c (by decide) rfl)]; exact h6 j (by omega)
      · refine zi_aload_n dX6_divide_12 (i := 0) rfl 0 rfl ?_
        refine zi_iload_n dX6_divide_13 (i := 2) rfl 2 rfl ?_
        refine zcI (zc_V (as := [.int (nI i)]) lk_X6_58 ce_X6_sortAt cw0_83 rfl rfl dX6_divide_14 (by decide) rfl rfl (Nat.le_of_ble_eq_true rfl)) (ok_X6_sortAt (zTq_fr ht (hf 83 (by decide)) (hf 84 (by decide))) (by omega)) ?_
        refine zi_istore_n (L' := [(3, .int (nI (qSrt β u i))), (0, .ref 83), (1, .int (nI k)), (2, .int (nI i))]) dX6_divide_17 (i := 3) rfl (by decide) rfl ?_
        refine zi_iload_n dX6_divide_18 (i := 3) rfl 0 rfl ?_
        refine zi_iconst (v := nI 3) dX6_divide_19 (by decide) ?_
        refine zi_icmpN_eq (by  (first | omega | exact qSrt_lt _ _ _)) (by decide) (tgt := 42) dX6_divide_20 (by decide) (fun c20 => ?_) (fun c20 => ?_)
        · refine zi_iconst (v := nI 0) dX6_divide_42 (by decide) ?_
          refine zi_istore (L' := [(4, .int (nI 0)), (3, .int (nI (qSrt β u i))), (0, .ref 83), (1, .int (nI k)), (2, .int (nI i))]) dX6_divide_43 (by decide) rfl ?_
          refine zi_iload_n dX6_divide_45 (i := 3) rfl 1 rfl ?_
          refine zi_ifN_eq (by  (first | omega | exact qSrt_lt _ _ _)) (tgt := 106) dX6_divide_46 (by decide) (fun c46 => ?_) (fun c46 => ?_)
          · refine zi_iincN (L' := [(2, .int (nI (i + 1))), (4, .int (nI 0)), (3, .int (nI (qSrt β u i))), (0, .ref 83), (1, .int (nI k))]) dX6_divide_106 4 rfl (k := 1) (by decide) (by decide) rfl ?_
            refine zi_goto (tgt := 4) dX6_divide_109 (by decide) ?_
            refine zi_sub [3, 4, 0] rfl ?_
            have hne : i ≠ qPo β u k := fun e => by
              obtain ⟨q1, q2⟩ := (zdv hu c9 h3 h4).mpr e
              omega
            exact ih k (i + 1) _ (by omega) (by omega) (by omega) (fun q => by have := h4 q; omega) h5 h6 hf (by omega)
          · refine zi_iload dX6_divide_49 0 rfl ?_
            refine zi_ifN_ne (by decide) (tgt := 106) dX6_divide_51 (by decide) (fun c => absurd c (by decide)) (fun _ => ?_)
            refine zi_aload_n dX6_divide_54 (i := 0) rfl 2 rfl ?_
            refine zi_getR fd_X6_15_X6 rfl cw0_83 rfl dX6_divide_55 ?_
            refine zi_iload_n dX6_divide_58 (i := 1) rfl 3 rfl ?_
            refine zi_iload_n dX6_divide_59 (i := 3) rfl 1 rfl ?_
            refine zi_iconst (v := nI 1) dX6_divide_60 (by decide) ?_
            refine zi_icmpN_ne (by  (first | omega | exact qSrt_lt _ _ _)) (by decide) (tgt := 72) dX6_divide_61 (by decide) (fun c61 => ?_) (fun c61 => ?_)
            · refine zi_iload_n dX6_divide_72 (i := 3) rfl 1 rfl ?_
              refine zi_iconst (v := nI 2) dX6_divide_73 (by decide) ?_
              refine zi_icmpN_ne (by  (first | omega | exact qSrt_lt _ _ _)) (by decide) (tgt := 85) dX6_divide_74 (by decide) (fun c74 => ?_) (fun c74 => ?_)
              · refine zi_sipush (v := nI 20000) dX6_divide_85 (by decide) ?_
                refine zi_aload_n dX6_divide_88 (i := 0) rfl 2 rfl ?_
                refine zi_getR fd_X6_11_X6 rfl cw0_83 rfl dX6_divide_89 ?_
                refine zi_iload_n dX6_divide_92 (i := 2) rfl 4 rfl ?_
                refine zi_ialdN cw0_84 (by omega) (by decide) dX6_divide_93 ?_
                refine zi_top (y := nI (β i)) (((congrFun (hf 84 (by decide)) _).trans (ht.2.2.1 _ (by omega)))) ?_
                refine zi_iaddN dX6_divide_94 ?_
                refine zi_iastN cw0_85 (by omega) (by decide) dX6_divide_95 ?_
                refine zi_aload_n dX6_divide_96 (i := 0) rfl 2 rfl ?_
                refine zi_getR fd_X6_18_X6 rfl cw0_83 rfl dX6_divide_97 ?_
                refine zi_iload_n dX6_divide_100 (i := 1) rfl 3 rfl ?_
                refine zi_iload_n dX6_divide_101 (i := 2) rfl 4 rfl ?_
                refine zi_iastN cw0_86 (by omega) (by decide) dX6_divide_102 ?_
                refine zi_iincN (L' := [(1, .int (nI (k + 1))), (4, .int (nI 0)), (3, .int (nI (qSrt β u i))), (0, .ref 83), (2, .int (nI i))]) dX6_divide_103 3 rfl (k := 1) (by decide) (by decide) rfl ?_
                refine zi_iincN (L' := [(2, .int (nI (i + 1))), (1, .int (nI (k + 1))), (4, .int (nI 0)), (3, .int (nI (qSrt β u i))), (0, .ref 83)]) dX6_divide_106 4 rfl (k := 1) (by decide) (by decide) rfl ?_
                refine zi_goto (tgt := 4) dX6_divide_109 (by decide) ?_
                refine zi_sub [4, 1, 0] rfl ?_
                have hrec := (zdv hu c9 h3 h4).mp ⟨c46, fun q => by omega⟩
                refine ih (k + 1) (i + 1) _ (by omega) (by omega) ?_ (fun _ => ?_) (fun j hj => ?_) (fun j hj => ?_) (zFr_up (zFr_up hf (by decide)) (by decide)) (by omega)
                · have := qNx_gt (β := β) (u := u) (p := qPo β u k) (by omega)
                  show i + 1 ≤ qNx β u (qPo β u k)
                  omega
                · rw [Nat.add_sub_cancel]; omega
                · by_cases e : j = k
                  · rw [e]; omega
                  · exact h5 j (by omega)
                · by_cases e : j = k
                  · subst e
                    refine ⟨?_, ?_⟩
                    · rw [zr_c (by decide) rfl, zr_h, ← hrec]
                      first
                      | (rw [qTok_let c61]; done)
                      | (rw [qTok_dig c74]; done)
                      | (rw [qTok_oth c9 c61 c74]; done)
                    · rw [zr_h, hrec]
                  · rw [zr_c (by decide) (zr_j (by omega) rfl), zr_j (by omega) (zr_c (by decide) rfl)]; exact h6 j (by omega)
              · refine zi_aload_n dX6_divide_77 (i := 0) rfl 2 rfl ?_
                refine zi_iload_n dX6_divide_78 (i := 2) rfl 4 rfl ?_
                refine zcI (zc_V (as := [.int (nI i)]) lk_X6_65 ce_X6_numberAt cw0_83 rfl rfl dX6_divide_79 (by decide) rfl rfl (Nat.le_of_ble_eq_true rfl)) (ok_X6_numberAt (zTq_fr ht (hf 83 (by decide)) (hf 84 (by decide))) c9) ?_
                refine zi_goto (tgt := 95) dX6_divide_82 (by decide) ?_
                refine zi_iastN cw0_85 (by omega) (by decide) dX6_divide_95 ?_
                refine zi_aload_n dX6_divide_96 (i := 0) rfl 2 rfl ?_
                refine zi_getR fd_X6_18_X6 rfl cw0_83 rfl dX6_divide_97 ?_
                refine zi_iload_n dX6_divide_100 (i := 1) rfl 3 rfl ?_
                refine zi_iload_n dX6_divide_101 (i := 2) rfl 4 rfl ?_
                refine zi_iastN cw0_86 (by omega) (by decide) dX6_divide_102 ?_
                refine zi_iincN (L' := [(1, .int (nI (k + 1))), (4, .int (nI 0)), (3, .int (nI (qSrt β u i))), (0, .ref 83), (2, .int (nI i))]) dX6_divide_103 3 rfl (k := 1) (by decide) (by decide) rfl ?_
                refine zi_iincN (L' := [(2, .int (nI (i + 1))), (1, .int (nI (k + 1))), (4, .int (nI 0)), (3, .int (nI (qSrt β u i))), (0, .ref 83)]) dX6_divide_106 4 rfl (k := 1) (by decide) (by decide) rfl ?_
                refine zi_goto (tgt := 4) dX6_divide_109 (by decide) ?_
                refine zi_sub [4, 1, 0] rfl ?_
                have hrec := (zdv hu c9 h3 h4).mp ⟨c46, fun q => by omega⟩
                refine ih (k + 1) (i + 1) _ (by omega) (by omega) ?_ (fun _ => ?_) (fun j hj => ?_) (fun j hj => ?_) (zFr_up (zFr_up hf (by decide)) (by decide)) (by omega)
                · have := qNx_gt (β := β) (u := u) (p := qPo β u k) (by omega)
                  show i + 1 ≤ qNx β u (qPo β u k)
                  omega
                · rw [Nat.add_sub_cancel]; omega
                · by_cases e : j = k
                  · rw [e]; omega
                  · exact h5 j (by omega)
                · by_cases e : j = k
                  · subst e
                    refine ⟨?_, ?_⟩
                    · rw [zr_c (by decide) rfl, zr_h, ← hrec]
                      first
                      | (rw [qTok_let c61]; done)
                      | (rw [qTok_dig c74]; done)
                      | (rw [qTok_oth c9 c61 c74]; done)
                    · rw [zr_h, hrec]
                  · rw [zr_c (by decide) (zr_j (by omega) rfl), zr_j (by omega) (zr_c (by decide) rfl)]; exact h6 j (by omega)
            · refine zi_aload_n dX6_divide_64 (i := 0) rfl 2 rfl ?_
              refine zi_iload_n dX6_divide_65 (i := 2) rfl 4 rfl ?_
              refine zcI (zc_V (as := [.int (nI i)]) lk_X6_62 ce_X6_wordAt cw0_83 rfl rfl dX6_divide_66 (by decide) rfl rfl (Nat.le_of_ble_eq_true rfl)) (ok_X6_wordAt (zTq_fr ht (hf 83 (by decide)) (hf 84 (by decide))) c9) ?_
              refine zi_goto (tgt := 95) dX6_divide_69 (by decide) ?_
              refine zi_iastN cw0_85 (by omega) (by decide) dX6_divide_95 ?_
              refine zi_aload_n dX6_divide_96 (i := 0) rfl 2 rfl ?_
              refine zi_getR fd_X6_18_X6 rfl cw0_83 rfl dX6_divide_97 ?_
              refine zi_iload_n dX6_divide_100 (i := 1) rfl 3 rfl ?_
              refine zi_iload_n dX6_divide_101 (i := 2) rfl 4 rfl ?_
              refine zi_iastN cw0_86 (by omega) (by decide) dX6_divide_102 ?_
              refine zi_iincN (L' := [(1, .int (nI (k + 1))), (4, .int (nI 0)), (3, .int (nI (qSrt β u i))), (0, .ref 83), (2, .int (nI i))]) dX6_divide_103 3 rfl (k := 1) (by decide) (by decide) rfl ?_
              refine zi_iincN (L' := [(2, .int (nI (i + 1))), (1, .int (nI (k + 1))), (4, .int (nI 0)), (3, .int (nI (qSrt β u i))), (0, .ref 83)]) dX6_divide_106 4 rfl (k := 1) (by decide) (by decide) rfl ?_
              refine zi_goto (tgt := 4) dX6_divide_109 (by decide) ?_
              refine zi_sub [4, 1, 0] rfl ?_
              have hrec := (zdv hu c9 h3 h4).mp ⟨c46, fun q => by omega⟩
              refine ih (k + 1) (i + 1) _ (by omega) (by omega) ?_ (fun _ => ?_) (fun j hj => ?_) (fun j hj => ?_) (zFr_up (zFr_up hf (by decide)) (by decide)) (by omega)
              · have := qNx_gt (β := β) (u := u) (p := qPo β u k) (by omega)
                show i + 1 ≤ qNx β u (qPo β u k)
                omega
              · rw [Nat.add_sub_cancel]; omega
              · by_cases e : j = k
                · rw [e]; omega
                · exact h5 j (by omega)
              · by_cases e : j = k
                · subst e
                  refine ⟨?_, ?_⟩
                  · rw [zr_c (by decide) rfl, zr_h, ← hrec]
                    first
                    | (rw [qTok_let c61]; done)
                    | (rw [qTok_dig c74]; done)
                    | (rw [qTok_oth c9 c61 c74]; done)
                  · rw [zr_h, hrec]
                · rw [zr_c (by decide) (zr_j (by omega) rfl), zr_j (by omega) (zr_c (by decide) rfl)]; exact h6 j (by omega)
        · refine zi_iload_n dX6_divide_23 (i := 2) rfl 3 rfl ?_
          refine zi_ifN_le (by  (first | omega | exact qSrt_lt _ _ _)) (tgt := 42) dX6_divide_24 (by decide) (fun c24 => ?_) (fun c24 => ?_)
          · refine zi_iconst (v := nI 0) dX6_divide_42 (by decide) ?_
            refine zi_istore (L' := [(4, .int (nI 0)), (3, .int (nI (qSrt β u i))), (0, .ref 83), (1, .int (nI k)), (2, .int (nI i))]) dX6_divide_43 (by decide) rfl ?_
            refine zi_iload_n dX6_divide_45 (i := 3) rfl 1 rfl ?_
            refine zi_ifN_eq (by  (first | omega | exact qSrt_lt _ _ _)) (tgt := 106) dX6_divide_46 (by decide) (fun c46 => ?_) (fun c46 => ?_)
            · refine zi_iincN (L' := [(2, .int (nI (i + 1))), (4, .int (nI 0)), (3, .int (nI (qSrt β u i))), (0, .ref 83), (1, .int (nI k))]) dX6_divide_106 4 rfl (k := 1) (by decide) (by decide) rfl ?_
              refine zi_goto (tgt := 4) dX6_divide_109 (by decide) ?_
              refine zi_sub [3, 4, 0] rfl ?_
              have hne : i ≠ qPo β u k := fun e => by
                obtain ⟨q1, q2⟩ := (zdv hu c9 h3 h4).mpr e
                omega
              exact ih k (i + 1) _ (by omega) (by omega) (by omega) (fun q => by have := h4 q; omega) h5 h6 hf (by omega)
            · refine zi_iload dX6_divide_49 0 rfl ?_
              refine zi_ifN_ne (by decide) (tgt := 106) dX6_divide_51 (by decide) (fun c => absurd c (by decide)) (fun _ => ?_)
              refine zi_aload_n dX6_divide_54 (i := 0) rfl 2 rfl ?_
              refine zi_getR fd_X6_15_X6 rfl cw0_83 rfl dX6_divide_55 ?_
              refine zi_iload_n dX6_divide_58 (i := 1) rfl 3 rfl ?_
              refine zi_iload_n dX6_divide_59 (i := 3) rfl 1 rfl ?_
              refine zi_iconst (v := nI 1) dX6_divide_60 (by decide) ?_
              refine zi_icmpN_ne (by  (first | omega | exact qSrt_lt _ _ _)) (by decide) (tgt := 72) dX6_divide_61 (by decide) (fun c61 => ?_) (fun c61 => ?_)
              · refine zi_iload_n dX6_divide_72 (i := 3) rfl 1 rfl ?_
                refine zi_iconst (v := nI 2) dX6_divide_73 (by decide) ?_
                refine zi_icmpN_ne (by  (first | omega | exact qSrt_lt _ _ _)) (by decide) (tgt := 85) dX6_divide_74 (by decide) (fun c74 => ?_) (fun c74 => ?_)
                · refine zi_sipush (v := nI 20000) dX6_divide_85 (by decide) ?_
                  refine zi_aload_n dX6_divide_88 (i := 0) rfl 2 rfl ?_
                  refine zi_getR fd_X6_11_X6 rfl cw0_83 rfl dX6_divide_89 ?_
                  refine zi_iload_n dX6_divide_92 (i := 2) rfl 4 rfl ?_
                  refine zi_ialdN cw0_84 (by omega) (by decide) dX6_divide_93 ?_
                  refine zi_top (y := nI (β i)) (((congrFun (hf 84 (by decide)) _).trans (ht.2.2.1 _ (by omega)))) ?_
                  refine zi_iaddN dX6_divide_94 ?_
                  refine zi_iastN cw0_85 (by omega) (by decide) dX6_divide_95 ?_
                  refine zi_aload_n dX6_divide_96 (i := 0) rfl 2 rfl ?_
                  refine zi_getR fd_X6_18_X6 rfl cw0_83 rfl dX6_divide_97 ?_
                  refine zi_iload_n dX6_divide_100 (i := 1) rfl 3 rfl ?_
                  refine zi_iload_n dX6_divide_101 (i := 2) rfl 4 rfl ?_
                  refine zi_iastN cw0_86 (by omega) (by decide) dX6_divide_102 ?_
                  refine zi_iincN (L' := [(1, .int (nI (k + 1))), (4, .int (nI 0)), (3, .int (nI (qSrt β u i))), (0, .ref 83), (2, .int (nI i))]) dX6_divide_103 3 rfl (k := 1) (by decide) (by decide) rfl ?_
                  refine zi_iincN (L' := [(2, .int (nI (i + 1))), (1, .int (nI (k + 1))), (4, .int (nI 0)), (3, .int (nI (qSrt β u i))), (0, .ref 83)]) dX6_divide_106 4 rfl (k := 1) (by decide) (by decide) rfl ?_
                  refine zi_goto (tgt := 4) dX6_divide_109 (by decide) ?_
                  refine zi_sub [4, 1, 0] rfl ?_
                  have hrec := (zdv hu c9 h3 h4).mp ⟨c46, fun q => by omega⟩
                  refine ih (k + 1) (i + 1) _ (by omega) (by omega) ?_ (fun _ => ?_) (fun j hj => ?_) (fun j hj => ?_) (zFr_up (zFr_up hf (by decide)) (by decide)) (by omega)
                  · have := qNx_gt (β := β) (u := u) (p := qPo β u k) (by omega)
                    show i + 1 ≤ qNx β u (qPo β u k)
                    omega
                  · rw [Nat.add_sub_cancel]; omega
                  · by_cases e : j = k
                    · rw [e]; omega
                    · exact h5 j (by omega)
                  · by_cases e : j = k
                    · subst e
                      refine ⟨?_, ?_⟩
                      · rw [zr_c (by decide) rfl, zr_h, ← hrec]
                        first
                        | (rw [qTok_let c61]; done)
                        | (rw [qTok_dig c74]; done)
                        | (rw [qTok_oth c9 c61 c74]; done)
                      · rw [zr_h, hrec]
                    · rw [zr_c (by decide) (zr_j (by omega) rfl), zr_j (by omega) (zr_c (by decide) rfl)]; exact h6 j (by omega)
                · refine zi_aload_n dX6_divide_77 (i := 0) rfl 2 rfl ?_
                  refine zi_iload_n dX6_divide_78 (i := 2) rfl 4 rfl ?_
                  refine zcI (zc_V (as := [.int (nI i)]) lk_X6_65 ce_X6_numberAt cw0_83 rfl rfl dX6_divide_79 (by decide) rfl rfl (Nat.le_of_ble_eq_true rfl)) (ok_X6_numberAt (zTq_fr ht (hf 83 (by decide)) (hf 84 (by decide))) c9) ?_
                  refine zi_goto (tgt := 95) dX6_divide_82 (by decide) ?_
                  refine zi_iastN cw0_85 (by omega) (by decide) dX6_divide_95 ?_
                  refine zi_aload_n dX6_divide_96 (i := 0) rfl 2 rfl ?_
                  refine zi_getR fd_X6_18_X6 rfl cw0_83 rfl dX6_divide_97 ?_
                  refine zi_iload_n dX6_divide_100 (i := 1) rfl 3 rfl ?_
                  refine zi_iload_n dX6_divide_101 (i := 2) rfl 4 rfl ?_
                  refine zi_iastN cw0_86 (by omega) (by decide) dX6_divide_102 ?_
                  refine zi_iincN (L' := [(1, .int (nI (k + 1))), (4, .int (nI 0)), (3, .int (nI (qSrt β u i))), (0, .ref 83), (2, .int (nI i))]) dX6_divide_103 3 rfl (k := 1) (by decide) (by decide) rfl ?_
                  refine zi_iincN (L' := [(2, .int (nI (i + 1))), (1, .int (nI (k + 1))), (4, .int (nI 0)), (3, .int (nI (qSrt β u i))), (0, .ref 83)]) dX6_divide_106 4 rfl (k := 1) (by decide) (by decide) rfl ?_
                  refine zi_goto (tgt := 4) dX6_divide_109 (by decide) ?_
                  refine zi_sub [4, 1, 0] rfl ?_
                  have hrec := (zdv hu c9 h3 h4).mp ⟨c46, fun q => by omega⟩
                  refine ih (k + 1) (i + 1) _ (by omega) (by omega) ?_ (fun _ => ?_) (fun j hj => ?_) (fun j hj => ?_) (zFr_up (zFr_up hf (by decide)) (by decide)) (by omega)
                  · have := qNx_gt (β := β) (u := u) (p := qPo β u k) (by omega)
                    show i + 1 ≤ qNx β u (qPo β u k)
                    omega
                  · rw [Nat.add_sub_cancel]; omega
                  · by_cases e : j = k
                    · rw [e]; omega
                    · exact h5 j (by omega)
                  · by_cases e : j = k
                    · subst e
                      refine ⟨?_, ?_⟩
                      · rw [zr_c (by decide) rfl, zr_h, ← hrec]
                        first
                        | (rw [qTok_let c61]; done)
                        | (rw [qTok_dig c74]; done)
                        | (rw [qTok_oth c9 c61 c74]; done)
                      · rw [zr_h, hrec]
                    · rw [zr_c (by decide) (zr_j (by omega) rfl), zr_j (by omega) (zr_c (by decide) rfl)]; exact h6 j (by omega)
              · refine zi_aload_n dX6_divide_64 (i := 0) rfl 2 rfl ?_
                refine zi_iload_n dX6_divide_65 (i := 2) rfl 4 rfl ?_
                refine zcI (zc_V (as := [.int (nI i)]) lk_X6_62 ce_X6_wordAt cw0_83 rfl rfl dX6_divide_66 (by decide) rfl rfl (Nat.le_of_ble_eq_true rfl)) (ok_X6_wordAt (zTq_fr ht (hf 83 (by decide)) (hf 84 (by decide))) c9) ?_
                refine zi_goto (tgt := 95) dX6_divide_69 (by decide) ?_
                refine zi_iastN cw0_85 (by omega) (by decide) dX6_divide_95 ?_
                refine zi_aload_n dX6_divide_96 (i := 0) rfl 2 rfl ?_
                refine zi_getR fd_X6_18_X6 rfl cw0_83 rfl dX6_divide_97 ?_
                refine zi_iload_n dX6_divide_100 (i := 1) rfl 3 rfl ?_
                refine zi_iload_n dX6_divide_101 (i := 2) rfl 4 rfl ?_
                refine zi_iastN cw0_86 (by omega) (by decide) dX6_divide_102 ?_
                refine zi_iincN (L' := [(1, .int (nI (k + 1))), (4, .int (nI 0)), (3, .int (nI (qSrt β u i))), (0, .ref 83), (2, .int (nI i))]) dX6_divide_103 3 rfl (k := 1) (by decide) (by decide) rfl ?_
                refine zi_iincN (L' := [(2, .int (nI (i + 1))), (1, .int (nI (k + 1))), (4, .int (nI 0)), (3, .int (nI (qSrt β u i))), (0, .ref 83)]) dX6_divide_106 4 rfl (k := 1) (by decide) (by decide) rfl ?_
                refine zi_goto (tgt := 4) dX6_divide_109 (by decide) ?_
                refine zi_sub [4, 1, 0] rfl ?_
                have hrec := (zdv hu c9 h3 h4).mp ⟨c46, fun q => by omega⟩
                refine ih (k + 1) (i + 1) _ (by omega) (by omega) ?_ (fun _ => ?_) (fun j hj => ?_) (fun j hj => ?_) (zFr_up (zFr_up hf (by decide)) (by decide)) (by omega)
                · have := qNx_gt (β := β) (u := u) (p := qPo β u k) (by omega)
                  show i + 1 ≤ qNx β u (qPo β u k)
                  omega
                · rw [Nat.add_sub_cancel]; omega
                · by_cases e : j = k
                  · rw [e]; omega
                  · exact h5 j (by omega)
                · by_cases e : j = k
                  · subst e
                    refine ⟨?_, ?_⟩
                    · rw [zr_c (by decide) rfl, zr_h, ← hrec]
                      first
                      | (rw [qTok_let c61]; done)
                      | (rw [qTok_dig c74]; done)
                      | (rw [qTok_oth c9 c61 c74]; done)
                    · rw [zr_h, hrec]
                  · rw [zr_c (by decide) (zr_j (by omega) rfl), zr_j (by omega) (zr_c (by decide) rfl)]; exact h6 j (by omega)
          · refine zi_aload_n dX6_divide_27 (i := 0) rfl 1 rfl ?_
            refine zi_iload_n dX6_divide_28 (i := 2) rfl 3 rfl ?_
            refine zi_iconst (v := nI 1) dX6_divide_29 (by decide) ?_
            refine zi_isubN (by omega) dX6_divide_30 ?_
            refine zcI (zc_V (as := [.int (nI (i - 1))]) lk_X6_58 ce_X6_sortAt cw0_83 rfl rfl dX6_divide_31 (by decide) rfl rfl (Nat.le_of_ble_eq_true rfl)) (ok_X6_sortAt (zTq_fr ht (hf 83 (by decide)) (hf 84 (by decide))) (by omega)) ?_
            refine zi_iload_n dX6_divide_34 (i := 3) rfl 0 rfl ?_
            refine zi_icmpN_ne (by  (first | omega | exact qSrt_lt _ _ _)) (by  (first | omega | exact qSrt_lt _ _ _)) (tgt := 42) dX6_divide_35 (by decide) (fun c35 => ?_) (fun c35 => ?_)
            · refine zi_iconst (v := nI 0) dX6_divide_42 (by decide) ?_
              refine zi_istore (L' := [(4, .int (nI 0)), (3, .int (nI (qSrt β u i))), (0, .ref 83), (1, .int (nI k)), (2, .int (nI i))]) dX6_divide_43 (by decide) rfl ?_
              refine zi_iload_n dX6_divide_45 (i := 3) rfl 1 rfl ?_
              refine zi_ifN_eq (by  (first | omega | exact qSrt_lt _ _ _)) (tgt := 106) dX6_divide_46 (by decide) (fun c46 => ?_) (fun c46 => ?_)
              · refine zi_iincN (L' := [(2, .int (nI (i + 1))), (4, .int (nI 0)), (3, .int (nI (qSrt β u i))), (0, .ref 83), (1, .int (nI k))]) dX6_divide_106 4 rfl (k := 1) (by decide) (by decide) rfl ?_
                refine zi_goto (tgt := 4) dX6_divide_109 (by decide) ?_
                refine zi_sub [3, 4, 0] rfl ?_
                have hne : i ≠ qPo β u k := fun e => by
                  obtain ⟨q1, q2⟩ := (zdv hu c9 h3 h4).mpr e
                  omega
                exact ih k (i + 1) _ (by omega) (by omega) (by omega) (fun q => by have := h4 q; omega) h5 h6 hf (by omega)
              · refine zi_iload dX6_divide_49 0 rfl ?_
                refine zi_ifN_ne (by decide) (tgt := 106) dX6_divide_51 (by decide) (fun c => absurd c (by decide)) (fun _ => ?_)
                refine zi_aload_n dX6_divide_54 (i := 0) rfl 2 rfl ?_
                refine zi_getR fd_X6_15_X6 rfl cw0_83 rfl dX6_divide_55 ?_
                refine zi_iload_n dX6_divide_58 (i := 1) rfl 3 rfl ?_
                refine zi_iload_n dX6_divide_59 (i := 3) rfl 1 rfl ?_
                refine zi_iconst (v := nI 1) dX6_divide_60 (by decide) ?_
                refine zi_icmpN_ne (by  (first | omega | exact qSrt_lt _ _ _)) (by decide) (tgt := 72) dX6_divide_61 (by decide) (fun c61 => ?_) (fun c61 => ?_)
                · refine zi_iload_n dX6_divide_72 (i := 3) rfl 1 rfl ?_
                  refine zi_iconst (v := nI 2) dX6_divide_73 (by decide) ?_
                  refine zi_icmpN_ne (by  (first | omega | exact qSrt_lt _ _ _)) (by decide) (tgt := 85) dX6_divide_74 (by decide) (fun c74 => ?_) (fun c74 => ?_)
                  · refine zi_sipush (v := nI 20000) dX6_divide_85 (by decide) ?_
                    refine zi_aload_n dX6_divide_88 (i := 0) rfl 2 rfl ?_
                    refine zi_getR fd_X6_11_X6 rfl cw0_83 rfl dX6_divide_89 ?_
                    refine zi_iload_n dX6_divide_92 (i := 2) rfl 4 rfl ?_
                    refine zi_ialdN cw0_84 (by omega) (by decide) dX6_divide_93 ?_
                    refine zi_top (y := nI (β i)) (((congrFun (hf 84 (by decide)) _).trans (ht.2.2.1 _ (by omega)))) ?_
                    refine zi_iaddN dX6_divide_94 ?_
                    refine zi_iastN cw0_85 (by omega) (by decide) dX6_divide_95 ?_
                    refine zi_aload_n dX6_divide_96 (i := 0) rfl 2 rfl ?_
                    refine zi_getR fd_X6_18_X6 rfl cw0_83 rfl dX6_divide_97 ?_
                    refine zi_iload_n dX6_divide_100 (i := 1) rfl 3 rfl ?_
                    refine zi_iload_n dX6_divide_101 (i := 2) rfl 4 rfl ?_
                    refine zi_iastN cw0_86 (by omega) (by decide) dX6_divide_102 ?_
                    refine zi_iincN (L' := [(1, .int (nI (k + 1))), (4, .int (nI 0)), (3, .int (nI (qSrt β u i))), (0, .ref 83), (2, .int (nI i))]) dX6_divide_103 3 rfl (k := 1) (by decide) (by decide) rfl ?_
                    refine zi_iincN (L' := [(2, .int (nI (i + 1))), (1, .int (nI (k + 1))), (4, .int (nI 0)), (3, .int (nI (qSrt β u i))), (0, .ref 83)]) dX6_divide_106 4 rfl (k := 1) (by decide) (by decide) rfl ?_
                    refine zi_goto (tgt := 4) dX6_divide_109 (by decide) ?_
                    refine zi_sub [4, 1, 0] rfl ?_
                    have hrec := (zdv hu c9 h3 h4).mp ⟨c46, fun q => by omega⟩
                    refine ih (k + 1) (i + 1) _ (by omega) (by omega) ?_ (fun _ => ?_) (fun j hj => ?_) (fun j hj => ?_) (zFr_up (zFr_up hf (by decide)) (by decide)) (by omega)
                    · have := qNx_gt (β := β) (u := u) (p := qPo β u k) (by omega)
                      show i + 1 ≤ qNx β u (qPo β u k)
                      omega
                    · rw [Nat.add_sub_cancel]; omega
                    · by_cases e : j = k
                      · rw [e]; omega
                      · exact h5 j (by omega)
                    · by_cases e : j = k
                      · subst e
                        refine ⟨?_, ?_⟩
                        · rw [zr_c (by decide) rfl, zr_h, ← hrec]
                          first
                          | (rw [qTok_let c61]; done)
                          | (rw [qTok_dig c74]; done)
                          | (rw [qTok_oth c9 c61 c74]; done)
                        · rw [zr_h, hrec]
                      · rw [zr_c (by decide) (zr_j (by omega) rfl), zr_j (by omega) (zr_c (by decide) rfl)]; exact h6 j (by omega)
                  · refine zi_aload_n dX6_divide_77 (i := 0) rfl 2 rfl ?_
                    refine zi_iload_n dX6_divide_78 (i := 2) rfl 4 rfl ?_
                    refine zcI (zc_V (as := [.int (nI i)]) lk_X6_65 ce_X6_numberAt cw0_83 rfl rfl dX6_divide_79 (by decide) rfl rfl (Nat.le_of_ble_eq_true rfl)) (ok_X6_numberAt (zTq_fr ht (hf 83 (by decide)) (hf 84 (by decide))) c9) ?_
                    refine zi_goto (tgt := 95) dX6_divide_82 (by decide) ?_
                    refine zi_iastN cw0_85 (by omega) (by decide) dX6_divide_95 ?_
                    refine zi_aload_n dX6_divide_96 (i := 0) rfl 2 rfl ?_
                    refine zi_getR fd_X6_18_X6 rfl cw0_83 rfl dX6_divide_97 ?_
                    refine zi_iload_n dX6_divide_100 (i := 1) rfl 3 rfl ?_
                    refine zi_iload_n dX6_divide_101 (i := 2) rfl 4 rfl ?_
                    refine zi_iastN cw0_86 (by omega) (by decide) dX6_divide_102 ?_
                    refine zi_iincN (L' := [(1, .int (nI (k + 1))), (4, .int (nI 0)), (3, .int (nI (qSrt β u i))), (0, .ref 83), (2, .int (nI i))]) dX6_divide_103 3 rfl (k := 1) (by decide) (by decide) rfl ?_
                    refine zi_iincN (L' := [(2, .int (nI (i + 1))), (1, .int (nI (k + 1))), (4, .int (nI 0)), (3, .int (nI (qSrt β u i))), (0, .ref 83)]) dX6_divide_106 4 rfl (k := 1) (by decide) (by decide) rfl ?_
                    refine zi_goto (tgt := 4) dX6_divide_109 (by decide) ?_
                    refine zi_sub [4, 1, 0] rfl ?_
                    have hrec := (zdv hu c9 h3 h4).mp ⟨c46, fun q => by omega⟩
                    refine ih (k + 1) (i + 1) _ (by omega) (by omega) ?_ (fun _ => ?_) (fun j hj => ?_) (fun j hj => ?_) (zFr_up (zFr_up hf (by decide)) (by decide)) (by omega)
                    · have := qNx_gt (β := β) (u := u) (p := qPo β u k) (by omega)
                      show i + 1 ≤ qNx β u (qPo β u k)
                      omega
                    · rw [Nat.add_sub_cancel]; omega
                    · by_cases e : j = k
                      · rw [e]; omega
                      · exact h5 j (by omega)
                    · by_cases e : j = k
                      · subst e
                        refine ⟨?_, ?_⟩
                        · rw [zr_c (by decide) rfl, zr_h, ← hrec]
                          first
                          | (rw [qTok_let c61]; done)
                          | (rw [qTok_dig c74]; done)
                          | (rw [qTok_oth c9 c61 c74]; done)
                        · rw [zr_h, hrec]
                      · rw [zr_c (by decide) (zr_j (by omega) rfl), zr_j (by omega) (zr_c (by decide) rfl)]; exact h6 j (by omega)
                · refine zi_aload_n dX6_divide_64 (i := 0) rfl 2 rfl ?_
                  refine zi_iload_n dX6_divide_65 (i := 2) rfl 4 rfl ?_
                  refine zcI (zc_V (as := [.int (nI i)]) lk_X6_62 ce_X6_wordAt cw0_83 rfl rfl dX6_divide_66 (by decide) rfl rfl (Nat.le_of_ble_eq_true rfl)) (ok_X6_wordAt (zTq_fr ht (hf 83 (by decide)) (hf 84 (by decide))) c9) ?_
                  refine zi_goto (tgt := 95) dX6_divide_69 (by decide) ?_
                  refine zi_iastN cw0_85 (by omega) (by decide) dX6_divide_95 ?_
                  refine zi_aload_n dX6_divide_96 (i := 0) rfl 2 rfl ?_
                  refine zi_getR fd_X6_18_X6 rfl cw0_83 rfl dX6_divide_97 ?_
                  refine zi_iload_n dX6_divide_100 (i := 1) rfl 3 rfl ?_
                  refine zi_iload_n dX6_divide_101 (i := 2) rfl 4 rfl ?_
                  refine zi_iastN cw0_86 (by omega) (by decide) dX6_divide_102 ?_
                  refine zi_iincN (L' := [(1, .int (nI (k + 1))), (4, .int (nI 0)), (3, .int (nI (qSrt β u i))), (0, .ref 83), (2, .int (nI i))]) dX6_divide_103 3 rfl (k := 1) (by decide) (by decide) rfl ?_
                  refine zi_iincN (L' := [(2, .int (nI (i + 1))), (1, .int (nI (k + 1))), (4, .int (nI 0)), (3, .int (nI (qSrt β u i))), (0, .ref 83)]) dX6_divide_106 4 rfl (k := 1) (by decide) (by decide) rfl ?_
                  refine zi_goto (tgt := 4) dX6_divide_109 (by decide) ?_
                  refine zi_sub [4, 1, 0] rfl ?_
                  have hrec := (zdv hu c9 h3 h4).mp ⟨c46, fun q => by omega⟩
                  refine ih (k + 1) (i + 1) _ (by omega) (by omega) ?_ (fun _ => ?_) (fun j hj => ?_) (fun j hj => ?_) (zFr_up (zFr_up hf (by decide)) (by decide)) (by omega)
                  · have := qNx_gt (β := β) (u := u) (p := qPo β u k) (by omega)
                    show i + 1 ≤ qNx β u (qPo β u k)
                    omega
                  · rw [Nat.add_sub_cancel]; omega
                  · by_cases e : j = k
                    · rw [e]; omega
                    · exact h5 j (by omega)
                  · by_cases e : j = k
                    · subst e
                      refine ⟨?_, ?_⟩
                      · rw [zr_c (by decide) rfl, zr_h, ← hrec]
                        first
                        | (rw [qTok_let c61]; done)
                        | (rw [qTok_dig c74]; done)
                        | (rw [qTok_oth c9 c61 c74]; done)
                      · rw [zr_h, hrec]
                    · rw [zr_c (by decide) (zr_j (by omega) rfl), zr_j (by omega) (zr_c (by decide) rfl)]; exact h6 j (by omega)
            · refine zi_iconst (v := nI 1) dX6_divide_38 (by decide) ?_
              refine zi_goto (tgt := 43) dX6_divide_39 (by decide) ?_
              refine zi_istore (L' := [(4, .int (nI 1)), (3, .int (nI (qSrt β u i))), (0, .ref 83), (1, .int (nI k)), (2, .int (nI i))]) dX6_divide_43 (by decide) rfl ?_
              refine zi_iload_n dX6_divide_45 (i := 3) rfl 1 rfl ?_
              refine zi_ifN_eq (by  (first | omega | exact qSrt_lt _ _ _)) (tgt := 106) dX6_divide_46 (by decide) (fun c46 => ?_) (fun c46 => ?_)
              · refine zi_iincN (L' := [(2, .int (nI (i + 1))), (4, .int (nI 1)), (3, .int (nI (qSrt β u i))), (0, .ref 83), (1, .int (nI k))]) dX6_divide_106 4 rfl (k := 1) (by decide) (by decide) rfl ?_
                refine zi_goto (tgt := 4) dX6_divide_109 (by decide) ?_
                refine zi_sub [3, 4, 0] rfl ?_
                have hne : i ≠ qPo β u k := fun e => by
                  obtain ⟨q1, q2⟩ := (zdv hu c9 h3 h4).mpr e
                  omega
                exact ih k (i + 1) _ (by omega) (by omega) (by omega) (fun q => by have := h4 q; omega) h5 h6 hf (by omega)
              · refine zi_iload dX6_divide_49 0 rfl ?_
                refine zi_ifN_ne (by decide) (tgt := 106) dX6_divide_51 (by decide) (fun _ => ?_) (fun c => absurd c (by decide))
                refine zi_iincN (L' := [(2, .int (nI (i + 1))), (4, .int (nI 1)), (3, .int (nI (qSrt β u i))), (0, .ref 83), (1, .int (nI k))]) dX6_divide_106 4 rfl (k := 1) (by decide) (by decide) rfl ?_
                refine zi_goto (tgt := 4) dX6_divide_109 (by decide) ?_
                refine zi_sub [3, 4, 0] rfl ?_
                have hne : i ≠ qPo β u k := fun e => by
                  obtain ⟨q1, q2⟩ := (zdv hu c9 h3 h4).mpr e
                  omega
                exact ih k (i + 1) _ (by omega) (by omega) (by omega) (fun q => by have := h4 q; omega) h5 h6 hf (by omega)
  refine zi_sub [2, 1, 0] rfl ?_
  exact lp (u + 1) 0 0 M (by omega) (by omega) (Nat.zero_le _) (fun q => absurd q (by decide)) (fun j hj => absurd hj (Nat.not_lt_zero j)) (fun j hj => absurd hj (Nat.not_lt_zero j)) (zFr_rf _ _) (by omega)
