/-- the tape: u bytes β -/
def zTp (β : Nat → Nat) (u : Nat) (M : zMem) : Prop := M 0 6 = nI u ∧ u ≤ 200 ∧ (∀ k, k < u → M 5 k = nI (β k)) ∧ ∀ k, β k < 256
def qNm : List (List Nat) := [[104, 111, 117, 115, 101], [98, 114, 105, 100, 101], [115, 97, 100], [116, 114, 111, 117, 98, 108, 101], [102, 97, 114, 109], [108, 111, 118, 101, 108, 108], [103, 105, 118, 101], [104, 111, 108, 100], [115, 101, 110, 100], [105, 102], [110, 111, 116], [97, 110, 100], [111, 114], [110, 105, 103, 104, 116], [103, 114, 105, 101, 102], [100, 114, 97, 119, 115], [114, 97, 105, 110], [110, 117, 109, 98, 101, 114]]
def qLtr (k : Nat) : Nat := (qNm.getD (k / 8) []).getD (k % 8) 32
def zLt (M : zMem) : Prop := ∀ k, k < 144 → M 6 k = nI (qLtr k)
def qBy (β : Nat → Nat) (u k : Nat) : Int32 := if k < u then nI (β k) else -1
def qLet (β : Nat → Nat) (u k : Nat) : Bool := decide (k < u ∧ 97 ≤ β k ∧ β k ≤ 122)
def qDig (β : Nat → Nat) (u k : Nat) : Bool := decide (k < u ∧ 48 ≤ β k ∧ β k ≤ 57)
def qBla (β : Nat → Nat) (u k : Nat) : Bool := decide (k < u ∧ β k = 32)
theorem qBy_zin {β : Nat → Nat} {u k a b : Nat} (hβ : ∀ k, β k < 256) (ha : a < 1000) (hb : b < 1000) : zin (qBy β u k) (nI a) (nI b) = decide (k < u ∧ a ≤ β k ∧ β k ≤ b) := by
  have h := hβ k
  unfold qBy
  by_cases hk : k < u
  · rw [if_pos hk, zin_nat (by omega) (by omega) (by omega), ← Bool.decide_and]
    exact decide_eq_decide.mpr (by omega)
  · rw [if_neg hk, zin_f1 (Int32.lt_of_lt_of_le (by decide : (-1 : Int32) < 0) (nI_pos' (by omega)))]
    exact (decide_eq_false (by omega)).symm
theorem qBy_bla {β : Nat → Nat} {u k : Nat} (hβ : ∀ k, β k < 256) : qBy β u k = nI 32 ↔ qBla β u k = true := by
  have h := hβ k
  unfold qBy qBla
  rw [decide_eq_true_eq]
  by_cases hk : k < u
  · rw [if_pos hk, nI_eq (by omega) (by decide)]; omega
  · rw [if_neg hk]; exact ⟨fun e => absurd e (by decide), fun e => absurd e.1 hk⟩
theorem qBy_neg {β : Nat → Nat} {u k : Nat} (hβ : ∀ k, β k < 256) : 0 ≤ qBy β u k ↔ k < u := by
  have h := hβ k
  unfold qBy
  by_cases hk : k < u
  · rw [if_pos hk]; exact ⟨fun _ => hk, fun _ => nI_pos' (by omega)⟩
  · rw [if_neg hk]; exact ⟨fun e => absurd e (by decide), fun e => absurd e hk⟩
/-- cell 0 alone, and of it the places js alone -/
def zCh (js : List Nat) (M M' : zMem) : Prop := zFr [0] M M' ∧ ∀ j, j ∉ js → M' 0 j = M 0 j
theorem zCh_rf (js : List Nat) (M : zMem) : zCh js M M := ⟨zFr_rf _ _, fun _ _ => rfl⟩
theorem zCh_up {js : List Nat} {M M' : zMem} {j : Nat} {x : Int32} (h : zCh js M M') (hj : j ∈ js) : zCh js M (zup M' 0 j x) := ⟨zFr_up h.1 (by decide), fun i hi => (zr_j (fun e => hi (by rw [e]; exact hj)) rfl).trans (h.2 i hi)⟩
theorem zCh_tr {js js' : List Nat} {M M1 M2 : zMem} (h1 : zCh js M M1) (h2 : zCh js' M1 M2) (hs : ∀ a, a ∈ js' → a ∈ js) : zCh js M M2 := ⟨zFr_tr h1.1 h2.1 (fun _ q => q), fun j hj => (h2.2 j (fun q => hj (hs j q))).trans (h1.2 j hj)⟩
theorem zCh_tp {js : List Nat} {M M' : zMem} {β : Nat → Nat} {u : Nat} (h : zCh js M M') (hj : 6 ∉ js) (ht : zTp β u M) : zTp β u M' := ⟨(h.2 6 hj).trans ht.1, ht.2.1, fun k hk => by rw [h.1 5 (by decide)]; exact ht.2.2.1 k hk, ht.2.2.2⟩
theorem zCh_lt {js : List Nat} {M M' : zMem} (h : zCh js M M') (hl : zLt M) : zLt M' := fun k hk => by rw [h.1 6 (by decide)]; exact hl k hk
/-- as far as f goes -/
def qRunE (f : Nat → Bool) : Nat → Nat → Nat
  | 0, i => i
  | c + 1, i => if f i = true then qRunE f c (i + 1) else i
theorem qRunE_ge (f : Nat → Bool) : ∀ c i, i ≤ qRunE f c i
  | 0, _ => Nat.le_refl _
  | c + 1, i => by
    unfold qRunE
    split
    · have := qRunE_ge f c (i + 1); omega
    · exact Nat.le_refl _
theorem qRunE_le {f : Nat → Bool} {u : Nat} (hf : ∀ k, f k = true → k < u) : ∀ c i, i ≤ u → qRunE f c i ≤ u
  | 0, _, h => h
  | c + 1, i, h => by
    unfold qRunE
    split
    · rename_i hi
      exact qRunE_le hf c (i + 1) (hf i hi)
    · exact h
theorem qLet_lt {β : Nat → Nat} {u k : Nat} (h : qLet β u k = true) : k < u := (of_decide_eq_true h).1
theorem qDig_lt {β : Nat → Nat} {u k : Nat} (h : qDig β u k = true) : k < u := (of_decide_eq_true h).1
theorem qBla_lt {β : Nat → Nat} {u k : Nat} (h : qBla β u k = true) : k < u := (of_decide_eq_true h).1
abbrev qNc (β : Nat → Nat) (p e w k : Nat) : Prop := qLtr (8 * w + k) = if p + k < e then β (p + k) else 32
def qIsN (β : Nat → Nat) (p e w : Nat) : Bool := decide (e - p ≤ 8) && (List.range 8).all (fun k => decide (qLtr (8 * w + k) = if p + k < e then β (p + k) else 32))
theorem qIsN_iff {β : Nat → Nat} {p e w : Nat} : qIsN β p e w = true ↔ (e - p ≤ 8 ∧ ∀ k, k < 8 → qNc β p e w k) := by
  unfold qIsN
  rw [Bool.and_eq_true, decide_eq_true_eq, List.all_eq_true]
  exact and_congr_right fun _ => ⟨fun h k hk => of_decide_eq_true (h k (List.mem_range.mpr hk)), fun h k hk => decide_eq_true (h k (List.mem_range.mp hk))⟩
theorem qIsN_of {β : Nat → Nat} {p e w k : Nat} {b : Bool} (h : b = true ↔ (e - p ≤ 8 ∧ ∀ j, j < k → qNc β p e w j)) (hk : k ≤ 8) (hx : k = 8 ∨ b = false) : b = qIsN β p e w := by
  cases b with
  | true =>
    have hk8 : k = 8 := by
      rcases hx with z | z
      · exact z
      · exact absurd z (by decide)
    subst hk8
    exact (qIsN_iff.mpr (h.mp rfl)).symm
  | false =>
    cases hq : qIsN β p e w with
    | false => rfl
    | true =>
      have q := qIsN_iff.mp hq
      exact absurd (h.mpr ⟨q.1, fun j hj => q.2 j (by omega)⟩) (by decide)
theorem qNc_st {β : Nat → Nat} {p e w k : Nat} {b : Bool} (h : true = true ↔ (e - p ≤ 8 ∧ ∀ j, j < k → qNc β p e w j)) (hb : b = true ↔ qNc β p e w k) : b = true ↔ (e - p ≤ 8 ∧ ∀ j, j < k + 1 → qNc β p e w j) := by
  have h1 := h.mp rfl
  refine hb.trans ⟨fun q => ⟨h1.1, fun j hj => ?_⟩, fun q => q.2 k (Nat.lt_succ_self k)⟩
  by_cases e1 : j = k
  · rw [e1]; exact q
  · exact h1.2 j (by omega)
/-- the name from p to e: its number, or 101 -/
def qFw (β : Nat → Nat) (p e : Nat) : Nat → Nat → Nat → Nat
  | 0, _, t => t
  | c + 1, w, t => qFw β p e c (w + 1) (if qIsN β p e w = true then w else t)
def qWd (β : Nat → Nat) (p e : Nat) : Nat := qFw β p e 18 0 101
theorem qFw_le (β : Nat → Nat) (p e : Nat) : ∀ c w t, w + c ≤ 18 → (t ≤ 17 ∨ t = 101) → (qFw β p e c w t ≤ 17 ∨ qFw β p e c w t = 101)
  | 0, _, _, _, h => h
  | c + 1, w, t, hw, h => by
    unfold qFw
    refine qFw_le β p e c (w + 1) _ (by omega) ?_
    split
    · omega
    · exact h
theorem qWd_le (β : Nat → Nat) (p e : Nat) : qWd β p e ≤ 17 ∨ qWd β p e = 101 := qFw_le β p e 18 0 101 (by decide) (Or.inr rfl)
/-- the number from p on -/
def qNv (β : Nat → Nat) (u p : Nat) : Nat → Nat → Nat → Nat
  | 0, _, v => v
  | c + 1, i, v => if qDig β u i = true then qNv β u p c (i + 1) (if i - p < 4 then 10 * v + β i - 48 else v) else v
set_option maxRecDepth 100000 in
set_option maxHeartbeats 4000000 in
theorem ok_X12_byteAt {M : zMem} {β : Nat → Nat} {u : Nat} {k : Nat} (ht : zTp β u M) (hk : k < 100000) : zOkI zw1 0 mX12_byteAt [.ref 0, .int (nI k)] M (qBy β u k) := by
  have hu := ht.2.1
  refine zOk_of (by decide +kernel) (fun _ => Nat.le_of_ble_eq_true rfl) (L := [(0, .ref 0), (1, .int (nI k))]) rfl ?_
  refine zi_iload_n dX12_byteAt_0 (i := 1) rfl 1 rfl ?_
  refine zi_aload_n dX12_byteAt_1 (i := 0) rfl 0 rfl ?_
  refine zi_getI fd_X12_113_X12 rfl cw1_0 rfl dX12_byteAt_2 ?_
  refine zi_top (y := nI u) ((ht.1)) ?_
  refine zi_icmpN_ge (by  omega) (by  omega) (tgt := 17) dX12_byteAt_5 (by decide) (fun c5 => ?_) (fun c5 => ?_)
  · refine zi_iconst (v := (-1)) dX12_byteAt_17 (by decide) ?_
    refine zi_retI rfl rfl dX12_byteAt_18 ?_
    unfold qBy
    first | (rw [if_pos (by omega)]; done) | (rw [if_neg (by omega)]; done)
  · refine zi_aload_n dX12_byteAt_8 (i := 0) rfl 0 rfl ?_
    refine zi_getR fd_X12_22_X12 rfl cw1_0 rfl dX12_byteAt_9 ?_
    refine zi_iload_n dX12_byteAt_12 (i := 1) rfl 1 rfl ?_
    refine zi_ialdN cw1_5 (by omega) (by decide) dX12_byteAt_13 ?_
    refine zi_top (y := nI (β k)) ((ht.2.2.1 _ (by omega))) ?_
    refine zi_goto (tgt := 18) dX12_byteAt_14 (by decide) ?_
    refine zi_retI rfl rfl dX12_byteAt_18 ?_
    unfold qBy
    first | (rw [if_pos (by omega)]; done) | (rw [if_neg (by omega)]; done)
theorem qLtr_lt (k : Nat) : qLtr k < 2 ^ 31 := by
  by_cases h : k < 144
  · have h2 : ∀ k, k < 144 → qLtr k < 2 ^ 31 := by decide +kernel
    exact h2 k h
  · unfold qLtr
    rw [show qNm.getD (k / 8) [] = [] from by
      rw [List.getD_eq_getElem?_getD, List.getElem?_eq_none (by show 18 ≤ k / 8; omega)]; rfl]
    simp
set_option maxRecDepth 100000 in
set_option maxHeartbeats 4000000 in
theorem ok_X12_isNameOf {M : zMem} {β : Nat → Nat} {u : Nat} {p e w : Nat} (ht : zTp β u M) (hl : zLt M) (h8 : M 0 8 = nI e) (h9 : M 0 9 = nI p) (hw : w < 18) (hpe : p ≤ e) (heu : e ≤ u) : zOkI zw1 1 mX12_isNameOf [.ref 0, .int (nI w)] M (zb (qIsN β p e w)) := by
  have hu := ht.2.1
  refine zOk_of (by decide +kernel) (fun _ => Nat.le_of_ble_eq_true rfl) (L := [(0, .ref 0), (1, .int (nI w))]) rfl ?_
  refine zi_aload_n dX12_isNameOf_0 (i := 0) rfl 0 rfl ?_
  refine zi_getI fd_X12_117_X12 rfl cw1_0 rfl dX12_isNameOf_1 ?_
  refine zi_top (y := nI e) ((h8)) ?_
  refine zi_aload_n dX12_isNameOf_4 (i := 0) rfl 0 rfl ?_
  refine zi_getI fd_X12_120_X12 rfl cw1_0 rfl dX12_isNameOf_5 ?_
  refine zi_top (y := nI p) ((h9)) ?_
  refine zi_isubN (by omega) dX12_isNameOf_8 ?_
  refine zi_bipush (v := nI 8) dX12_isNameOf_9 (by decide) ?_
  refine zi_icmpN_gt (by  omega) (by decide) (tgt := 18) dX12_isNameOf_11 (by decide) (fun c11 => ?_) (fun c11 => ?_)
  · refine zi_iconst (v := nI 0) dX12_isNameOf_18 (by decide) ?_
    refine zi_istore_n (L' := [(2, .int (nI 0)), (0, .ref 0), (1, .int (nI w))]) dX12_isNameOf_19 (i := 2) rfl (by decide) rfl ?_
    refine zi_iconst (v := nI 0) dX12_isNameOf_20 (by decide) ?_
    refine zi_istore_n (L' := [(3, .int (nI 0)), (2, .int (nI 0)), (0, .ref 0), (1, .int (nI w))]) dX12_isNameOf_21 (i := 3) rfl (by decide) rfl ?_
    have lp : ∀ (n k : Nat) (b : Bool), 8 - k < n → k ≤ 8 → (b = true ↔ (e - p ≤ 8 ∧ ∀ j, j < k → qNc β p e w j)) → zRn zw1 1 mX12_isNameOf (zQI M (zb (qIsN β p e w))) 22 [(0, .ref 0), (1, .int (nI w)), (2, .int (zb b)), (3, .int (nI k))] [] M := by
      intro n
      induction n with
      | zero => intro k b h1; omega
      | succ n ih =>
        intro k b h1 h2 h3
        have hbk := ht.2.2.2 (p + k)
        have hqk : qLtr (8 * w + k) < 2 ^ 31 := qLtr_lt _
        refine zi_iload_n dX12_isNameOf_22 (i := 3) rfl 3 rfl ?_
        refine zi_bipush (v := nI 8) dX12_isNameOf_23 (by decide) ?_
        refine zi_icmpN_ge (by  omega) (by decide) (tgt := 86) dX12_isNameOf_25 (by decide) (fun c25 => ?_) (fun c25 => ?_)
        · refine zi_iload_n dX12_isNameOf_86 (i := 2) rfl 2 rfl ?_
          refine zi_retI rfl (zbn _) dX12_isNameOf_87 ?_
          exact congrArg zb (qIsN_of h3 h2 (by first | exact Or.inl (by omega) | exact Or.inr c29))
        · refine zi_iload_n dX12_isNameOf_28 (i := 2) rfl 2 rfl ?_
          refine zi_ifB_eq (tgt := 86) dX12_isNameOf_29 (by decide) (fun c29 => ?_) (fun c29 => ?_)
          · refine zi_iload_n dX12_isNameOf_86 (i := 2) rfl 2 rfl ?_
            refine zi_retI rfl (zbn _) dX12_isNameOf_87 ?_
            exact congrArg zb (qIsN_of h3 h2 (by first | exact Or.inl (by omega) | exact Or.inr c29))
          · refine zi_aload_n dX12_isNameOf_32 (i := 0) rfl 0 rfl ?_
            refine zi_getR fd_X12_25_X12 rfl cw1_0 rfl dX12_isNameOf_33 ?_
            refine zi_bipush (v := nI 8) dX12_isNameOf_36 (by decide) ?_
            refine zi_iload_n dX12_isNameOf_38 (i := 1) rfl 1 rfl ?_
            refine zi_imulN dX12_isNameOf_39 ?_
            refine zi_iload_n dX12_isNameOf_40 (i := 3) rfl 3 rfl ?_
            refine zi_iaddN dX12_isNameOf_41 ?_
            refine zi_caldN cw1_6 (by omega) (by decide) dX12_isNameOf_42 ?_
            refine zi_top (y := nI (qLtr (8 * w + k))) ((hl _ (by omega))) ?_
            refine zi_aload_n dX12_isNameOf_43 (i := 0) rfl 0 rfl ?_
            refine zi_getI fd_X12_120_X12 rfl cw1_0 rfl dX12_isNameOf_44 ?_
            refine zi_top (y := nI p) ((h9)) ?_
            refine zi_iload_n dX12_isNameOf_47 (i := 3) rfl 3 rfl ?_
            refine zi_iaddN dX12_isNameOf_48 ?_
            refine zi_aload_n dX12_isNameOf_49 (i := 0) rfl 0 rfl ?_
            refine zi_getI fd_X12_117_X12 rfl cw1_0 rfl dX12_isNameOf_50 ?_
            refine zi_top (y := nI e) ((h8)) ?_
            refine zi_icmpN_ge (by  omega) (by  omega) (tgt := 69) dX12_isNameOf_53 (by decide) (fun c53 => ?_) (fun c53 => ?_)
            · refine zi_bipush (v := nI 32) dX12_isNameOf_69 (by decide) ?_
              refine zi_icmpN_ne (by  omega) (by decide) (tgt := 78) dX12_isNameOf_71 (by decide) (fun c71 => ?_) (fun c71 => ?_)
              · refine zi_iconst (v := nI 0) dX12_isNameOf_78 (by decide) ?_
                refine zi_istore_n (L' := [(2, .int (nI 0)), (0, .ref 0), (1, .int (nI w)), (3, .int (nI k))]) dX12_isNameOf_79 (i := 2) rfl (by decide) rfl ?_
                refine zi_iincN (L' := [(3, .int (nI (k + 1))), (2, .int (nI 0)), (0, .ref 0), (1, .int (nI w))]) dX12_isNameOf_80 3 rfl (k := 1) (by decide) (by decide) rfl ?_
                refine zi_goto (tgt := 22) dX12_isNameOf_83 (by decide) ?_
                refine zi_sub [2, 3, 1, 0] rfl ?_
                rw [c29] at h3
                refine ih (k + 1) false (by omega) (by omega) (qNc_st h3 ?_)
                unfold qNc
                first | (rw [if_pos (by omega : p + k < e)]; simp [c71]; done) | (rw [if_neg (by omega : ¬ p + k < e)]; simp [c71]; done)
              · refine zi_iconst (v := nI 1) dX12_isNameOf_74 (by decide) ?_
                refine zi_goto (tgt := 79) dX12_isNameOf_75 (by decide) ?_
                refine zi_istore_n (L' := [(2, .int (nI 1)), (0, .ref 0), (1, .int (nI w)), (3, .int (nI k))]) dX12_isNameOf_79 (i := 2) rfl (by decide) rfl ?_
                refine zi_iincN (L' := [(3, .int (nI (k + 1))), (2, .int (nI 1)), (0, .ref 0), (1, .int (nI w))]) dX12_isNameOf_80 3 rfl (k := 1) (by decide) (by decide) rfl ?_
                refine zi_goto (tgt := 22) dX12_isNameOf_83 (by decide) ?_
                refine zi_sub [2, 3, 1, 0] rfl ?_
                rw [c29] at h3
                refine ih (k + 1) true (by omega) (by omega) (qNc_st h3 ?_)
                unfold qNc
                first | (rw [if_pos (by omega : p + k < e)]; simp [c71]; done) | (rw [if_neg (by omega : ¬ p + k < e)]; simp [c71]; done)
            · refine zi_aload_n dX12_isNameOf_56 (i := 0) rfl 0 rfl ?_
              refine zi_aload_n dX12_isNameOf_57 (i := 0) rfl 0 rfl ?_
              refine zi_getI fd_X12_120_X12 rfl cw1_0 rfl dX12_isNameOf_58 ?_
              refine zi_top (y := nI p) ((h9)) ?_
              refine zi_iload_n dX12_isNameOf_61 (i := 3) rfl 3 rfl ?_
              refine zi_iaddN dX12_isNameOf_62 ?_
              refine zcI (zc_V (as := [.int (nI (p + k))]) lk_X12_123 ce_X12_byteAt cw1_0 rfl rfl dX12_isNameOf_63 (by decide) rfl rfl (Nat.le_of_ble_eq_true rfl)) (zOkI_eq (ok_X12_byteAt ht (by omega)) (if_pos (by omega))) ?_
              refine zi_goto (tgt := 71) dX12_isNameOf_66 (by decide) ?_
              refine zi_icmpN_ne (by  omega) (by  omega) (tgt := 78) dX12_isNameOf_71 (by decide) (fun c71 => ?_) (fun c71 => ?_)
              · refine zi_iconst (v := nI 0) dX12_isNameOf_78 (by decide) ?_
                refine zi_istore_n (L' := [(2, .int (nI 0)), (0, .ref 0), (1, .int (nI w)), (3, .int (nI k))]) dX12_isNameOf_79 (i := 2) rfl (by decide) rfl ?_
                refine zi_iincN (L' := [(3, .int (nI (k + 1))), (2, .int (nI 0)), (0, .ref 0), (1, .int (nI w))]) dX12_isNameOf_80 3 rfl (k := 1) (by decide) (by decide) rfl ?_
                refine zi_goto (tgt := 22) dX12_isNameOf_83 (by decide) ?_
                refine zi_sub [2, 3, 1, 0] rfl ?_
                rw [c29] at h3
                refine ih (k + 1) false (by omega) (by omega) (qNc_st h3 ?_)
                unfold qNc
                first | (rw [if_pos (by omega : p + k < e)]; simp [c71]; done) | (rw [if_neg (by omega : ¬ p + k < e)]; simp [c71]; done)
              · refine zi_iconst (v := nI 1) dX12_isNameOf_74 (by decide) ?_
                refine zi_goto (tgt := 79) dX12_isNameOf_75 (by decide) ?_
                refine zi_istore_n (L' := [(2, .int (nI 1)), (0, .ref 0), (1, .int (nI w)), (3, .int (nI k))]) dX12_isNameOf_79 (i := 2) rfl (by decide) rfl ?_
                refine zi_iincN (L' := [(3, .int (nI (k + 1))), (2, .int (nI 1)), (0, .ref 0), (1, .int (nI w))]) dX12_isNameOf_80 3 rfl (k := 1) (by decide) (by decide) rfl ?_
                refine zi_goto (tgt := 22) dX12_isNameOf_83 (by decide) ?_
                refine zi_sub [2, 3, 1, 0] rfl ?_
                rw [c29] at h3
                refine ih (k + 1) true (by omega) (by omega) (qNc_st h3 ?_)
                unfold qNc
                first | (rw [if_pos (by omega : p + k < e)]; simp [c71]; done) | (rw [if_neg (by omega : ¬ p + k < e)]; simp [c71]; done)
    refine zi_sub [2, 3, 1, 0] rfl ?_
    refine lp 9 0 false (by omega) (by omega) ?_
    simp only [Nat.not_lt_zero, false_implies, implies_true, and_true]
    first | (simp; omega) | simp | omega
  · refine zi_iconst (v := nI 1) dX12_isNameOf_14 (by decide) ?_
    refine zi_goto (tgt := 19) dX12_isNameOf_15 (by decide) ?_
    refine zi_istore_n (L' := [(2, .int (nI 1)), (0, .ref 0), (1, .int (nI w))]) dX12_isNameOf_19 (i := 2) rfl (by decide) rfl ?_
    refine zi_iconst (v := nI 0) dX12_isNameOf_20 (by decide) ?_
    refine zi_istore_n (L' := [(3, .int (nI 0)), (2, .int (nI 1)), (0, .ref 0), (1, .int (nI w))]) dX12_isNameOf_21 (i := 3) rfl (by decide) rfl ?_
    have lp : ∀ (n k : Nat) (b : Bool), 8 - k < n → k ≤ 8 → (b = true ↔ (e - p ≤ 8 ∧ ∀ j, j < k → qNc β p e w j)) → zRn zw1 1 mX12_isNameOf (zQI M (zb (qIsN β p e w))) 22 [(0, .ref 0), (1, .int (nI w)), (2, .int (zb b)), (3, .int (nI k))] [] M := by
      intro n
      induction n with
      | zero => intro k b h1; omega
      | succ n ih =>
        intro k b h1 h2 h3
        have hbk := ht.2.2.2 (p + k)
        have hqk : qLtr (8 * w + k) < 2 ^ 31 := qLtr_lt _
        refine zi_iload_n dX12_isNameOf_22 (i := 3) rfl 3 rfl ?_
        refine zi_bipush (v := nI 8) dX12_isNameOf_23 (by decide) ?_
        refine zi_icmpN_ge (by  omega) (by decide) (tgt := 86) dX12_isNameOf_25 (by decide) (fun c25 => ?_) (fun c25 => ?_)
        · refine zi_iload_n dX12_isNameOf_86 (i := 2) rfl 2 rfl ?_
          refine zi_retI rfl (zbn _) dX12_isNameOf_87 ?_
          exact congrArg zb (qIsN_of h3 h2 (by first | exact Or.inl (by omega) | exact Or.inr c29))
        · refine zi_iload_n dX12_isNameOf_28 (i := 2) rfl 2 rfl ?_
          refine zi_ifB_eq (tgt := 86) dX12_isNameOf_29 (by decide) (fun c29 => ?_) (fun c29 => ?_)
          · refine zi_iload_n dX12_isNameOf_86 (i := 2) rfl 2 rfl ?_
            refine zi_retI rfl (zbn _) dX12_isNameOf_87 ?_
            exact congrArg zb (qIsN_of h3 h2 (by first | exact Or.inl (by omega) | exact Or.inr c29))
          · refine zi_aload_n dX12_isNameOf_32 (i := 0) rfl 0 rfl ?_
            refine zi_getR fd_X12_25_X12 rfl cw1_0 rfl dX12_isNameOf_33 ?_
            refine zi_bipush (v := nI 8) dX12_isNameOf_36 (by decide) ?_
            refine zi_iload_n dX12_isNameOf_38 (i := 1) rfl 1 rfl ?_
            refine zi_imulN dX12_isNameOf_39 ?_
            refine zi_iload_n dX12_isNameOf_40 (i := 3) rfl 3 rfl ?_
            refine zi_iaddN dX12_isNameOf_41 ?_
            refine zi_caldN cw1_6 (by omega) (by decide) dX12_isNameOf_42 ?_
            refine zi_top (y := nI (qLtr (8 * w + k))) ((hl _ (by omega))) ?_
            refine zi_aload_n dX12_isNameOf_43 (i := 0) rfl 0 rfl ?_
            refine zi_getI fd_X12_120_X12 rfl cw1_0 rfl dX12_isNameOf_44 ?_
            refine zi_top (y := nI p) ((h9)) ?_
            refine zi_iload_n dX12_isNameOf_47 (i := 3) rfl 3 rfl ?_
            refine zi_iaddN dX12_isNameOf_48 ?_
            refine zi_aload_n dX12_isNameOf_49 (i := 0) rfl 0 rfl ?_
            refine zi_getI fd_X12_117_X12 rfl cw1_0 rfl dX12_isNameOf_50 ?_
            refine zi_top (y := nI e) ((h8)) ?_
            refine zi_icmpN_ge (by  omega) (by  omega) (tgt := 69) dX12_isNameOf_53 (by decide) (fun c53 => ?_) (fun c53 => ?_)
            · refine zi_bipush (v := nI 32) dX12_isNameOf_69 (by decide) ?_
              refine zi_icmpN_ne (by  omega) (by decide) (tgt := 78) dX12_isNameOf_71 (by decide) (fun c71 => ?_) (fun c71 => ?_)
              · refine zi_iconst (v := nI 0) dX12_isNameOf_78 (by decide) ?_
                refine zi_istore_n (L' := [(2, .int (nI 0)), (0, .ref 0), (1, .int (nI w)), (3, .int (nI k))]) dX12_isNameOf_79 (i := 2) rfl (by decide) rfl ?_
                refine zi_iincN (L' := [(3, .int (nI (k + 1))), (2, .int (nI 0)), (0, .ref 0), (1, .int (nI w))]) dX12_isNameOf_80 3 rfl (k := 1) (by decide) (by decide) rfl ?_
                refine zi_goto (tgt := 22) dX12_isNameOf_83 (by decide) ?_
                refine zi_sub [2, 3, 1, 0] rfl ?_
                rw [c29] at h3
                refine ih (k + 1) false (by omega) (by omega) (qNc_st h3 ?_)
                unfold qNc
                first | (rw [if_pos (by omega : p + k < e)]; simp [c71]; done) | (rw [if_neg (by omega : ¬ p + k < e)]; simp [c71]; done)
              · refine zi_iconst (v := nI 1) dX12_isNameOf_74 (by decide) ?_
                refine zi_goto (tgt := 79) dX12_isNameOf_75 (by decide) ?_
                refine zi_istore_n (L' := [(2, .int (nI 1)), (0, .ref 0), (1, .int (nI w)), (3, .int (nI k))]) dX12_isNameOf_79 (i := 2) rfl (by decide) rfl ?_
                refine zi_iincN (L' := [(3, .int (nI (k + 1))), (2, .int (nI 1)), (0, .ref 0), (1, .int (nI w))]) dX12_isNameOf_80 3 rfl (k := 1) (by decide) (by decide) rfl ?_
                refine zi_goto (tgt := 22) dX12_isNameOf_83 (by decide) ?_
                refine zi_sub [2, 3, 1, 0] rfl ?_
                rw [c29] at h3
                refine ih (k + 1) true (by omega) (by omega) (qNc_st h3 ?_)
                unfold qNc
                first | (rw [if_pos (by omega : p + k < e)]; simp [c71]; done) | (rw [if_neg (by omega : ¬ p + k < e)]; simp [c71]; done)
            · refine zi_aload_n dX12_isNameOf_56 (i := 0) rfl 0 rfl ?_
              refine zi_aload_n dX12_isNameOf_57 (i := 0) rfl 0 rfl ?_
              refine zi_getI fd_X12_120_X12 rfl cw1_0 rfl dX12_isNameOf_58 ?_
              refine zi_top (y := nI p) ((h9)) ?_
              refine zi_iload_n dX12_isNameOf_61 (i := 3) rfl 3 rfl ?_
              refine zi_iaddN dX12_isNameOf_62 ?_
              refine zcI (zc_V (as := [.int (nI (p + k))]) lk_X12_123 ce_X12_byteAt cw1_0 rfl rfl dX12_isNameOf_63 (by decide) rfl rfl (Nat.le_of_ble_eq_true rfl)) (zOkI_eq (ok_X12_byteAt ht (by omega)) (if_pos (by omega))) ?_
              refine zi_goto (tgt := 71) dX12_isNameOf_66 (by decide) ?_
              refine zi_icmpN_ne (by  omega) (by  omega) (tgt := 78) dX12_isNameOf_71 (by decide) (fun c71 => ?_) (fun c71 => ?_)
              · refine zi_iconst (v := nI 0) dX12_isNameOf_78 (by decide) ?_
                refine zi_istore_n (L' := [(2, .int (nI 0)), (0, .ref 0), (1, .int (nI w)), (3, .int (nI k))]) dX12_isNameOf_79 (i := 2) rfl (by decide) rfl ?_
                refine zi_iincN (L' := [(3, .int (nI (k + 1))), (2, .int (nI 0)), (0, .ref 0), (1, .int (nI w))]) dX12_isNameOf_80 3 rfl (k := 1) (by decide) (by decide) rfl ?_
                refine zi_goto (tgt := 22) dX12_isNameOf_83 (by decide) ?_
                refine zi_sub [2, 3, 1, 0] rfl ?_
                rw [c29] at h3
                refine ih (k + 1) false (by omega) (by omega) (qNc_st h3 ?_)
                unfold qNc
                first | (rw [if_pos (by omega : p + k < e)]; simp [c71]; done) | (rw [if_neg (by omega : ¬ p + k < e)]; simp [c71]; done)
              · refine zi_iconst (v := nI 1) dX12_isNameOf_74 (by decide) ?_
                refine zi_goto (tgt := 79) dX12_isNameOf_75 (by decide) ?_
                refine zi_istore_n (L' := [(2, .int (nI 1)), (0, .ref 0), (1, .int (nI w)), (3, .int (nI k))]) dX12_isNameOf_79 (i := 2) rfl (by decide) rfl ?_
                refine zi_iincN (L' := [(3, .int (nI (k + 1))), (2, .int (nI 1)), (0, .ref 0), (1, .int (nI w))]) dX12_isNameOf_80 3 rfl (k := 1) (by decide) (by decide) rfl ?_
                refine zi_goto (tgt := 22) dX12_isNameOf_83 (by decide) ?_
                refine zi_sub [2, 3, 1, 0] rfl ?_
                rw [c29] at h3
                refine ih (k + 1) true (by omega) (by omega) (qNc_st h3 ?_)
                unfold qNc
                first | (rw [if_pos (by omega : p + k < e)]; simp [c71]; done) | (rw [if_neg (by omega : ¬ p + k < e)]; simp [c71]; done)
    refine zi_sub [2, 3, 1, 0] rfl ?_
    refine lp 9 0 true (by omega) (by omega) ?_
    simp only [Nat.not_lt_zero, false_implies, implies_true, and_true]
    first | (simp; omega) | simp | omega
set_option maxRecDepth 100000 in
set_option maxHeartbeats 4000000 in
theorem ok_X12_readsName {M : zMem} {β : Nat → Nat} {u : Nat} {p : Nat} (ht : zTp β u M) (hl : zLt M) (h8 : M 0 8 = nI p) (h9 : M 0 9 = nI p) (hpu : p ≤ u) : zOkV zw1 3 mX12_readsName [.ref 0] M (fun M' => M' 0 8 = nI (qRunE (qLet β u) 201 p) ∧ M' 0 10 = nI (qWd β p (qRunE (qLet β u) 201 p)) ∧ zCh [8, 10] M M') := by
  have hu := ht.2.1
  have hβ := ht.2.2.2
  have hE := qRunE_le (f := qLet β u) (fun k => qLet_lt) 201 p hpu
  have hEg := qRunE_ge (qLet β u) 201 p
  refine zOk_of (by decide +kernel) (fun _ => Nat.le_of_ble_eq_true rfl) (L := [(0, .ref 0)]) rfl ?_
  have lp : ∀ (n c i : Nat) (M2 : zMem), c < n → i + c = p + 201 → i ≤ u → p ≤ i → qRunE (qLet β u) c i = (qRunE (qLet β u) 201 p) → M2 0 8 = nI i → zCh [8] M M2 → zRn zw1 3 mX12_readsName (zQV (fun M' => M' 0 8 = nI (qRunE (qLet β u) 201 p) ∧ M' 0 10 = nI (qWd β p (qRunE (qLet β u) 201 p)) ∧ zCh [8, 10] M M')) 0 [(0, .ref 0)] [] M2 := by
    intro n
    induction n with
    | zero => intro c i M2 h1; omega
    | succ n ih =>
      intro c i M2 h1 h2 h3 h3b h4 h5 h6
      refine zi_aload_n dX12_readsName_0 (i := 0) rfl 0 rfl ?_
      refine zi_aload_n dX12_readsName_1 (i := 0) rfl 0 rfl ?_
      refine zi_getI fd_X12_117_X12 rfl cw1_0 rfl dX12_readsName_2 ?_
      refine zi_top (y := nI i) ((h5)) ?_
      refine zcI (zc_V (as := [.int (nI i)]) lk_X12_123 ce_X12_byteAt cw1_0 rfl rfl dX12_readsName_5 (by decide) rfl rfl (Nat.le_of_ble_eq_true rfl)) (ok_X12_byteAt (zCh_tp h6 (by decide) ht) (by omega)) ?_
      refine zi_bipush (v := nI 97) dX12_readsName_8 (by decide) ?_
      refine zi_bipush (v := nI 122) dX12_readsName_10 (by decide) ?_
      refine zcI (zc_S (as := [.int (qBy β u i), .int (nI 97), .int (nI 122)]) lk_X12_71 ce_X12_in1 dX12_readsName_12 (by decide) rfl rfl (Nat.le_of_ble_eq_true rfl)) ok_X12_in1 ?_
      refine zi_ifB_eq (tgt := 31) dX12_readsName_15 (by decide) (fun c15 => ?_) (fun c15 => ?_)
      · have cl : qLet β u i = false := (qBy_zin hβ (by decide) (by decide)).symm.trans c15
        refine zi_aload_n dX12_readsName_31 (i := 0) rfl 0 rfl ?_
        refine zi_bipush (v := nI 101) dX12_readsName_32 (by decide) ?_
        refine zi_putI fd_X12_126_X12 fp_X12_10 rfl cw1_0 rfl rfl dX12_readsName_34 ?_
        refine zi_iconst (v := nI 0) dX12_readsName_37 (by decide) ?_
        refine zi_istore_n (L' := [(1, .int (nI 0)), (0, .ref 0)]) dX12_readsName_38 (i := 1) rfl (by decide) rfl ?_
        have lpw : ∀ (n c w t : Nat) (M3 : zMem), c < n → w + c = 18 → qFw β p (qRunE (qLet β u) 201 p) c w t = qWd β p (qRunE (qLet β u) 201 p) → M3 0 10 = nI t → M3 0 8 = nI (qRunE (qLet β u) 201 p) → zCh [8, 10] M M3 → zRn zw1 3 mX12_readsName (zQV (fun M' => M' 0 8 = nI (qRunE (qLet β u) 201 p) ∧ M' 0 10 = nI (qWd β p (qRunE (qLet β u) 201 p)) ∧ zCh [8, 10] M M')) 39 [(0, .ref 0), (1, .int (nI w))] [] M3 := by
          intro n
          induction n with
          | zero => intro c w t M3 h1; omega
          | succ n ihw =>
            intro c w t M3 h1w h2w h3w h5w h6w h7w
            have ht2 := zCh_tp h7w (by decide) ht
            have hl2 := zCh_lt h7w hl
            have h8b := h6w
            have h9b : M3 0 9 = nI p := (h7w.2 9 (by decide)).trans h9
            refine zi_iload_n dX12_readsName_39 (i := 1) rfl 1 rfl ?_
            refine zi_bipush (v := nI 18) dX12_readsName_40 (by decide) ?_
            refine zi_icmpN_ge (by  omega) (by decide) (tgt := 71) dX12_readsName_42 (by decide) (fun c42 => ?_) (fun c42 => ?_)
            · refine zi_retV rfl dX12_readsName_71 ?_
              obtain rfl : c = 0 := (by omega)
              exact ⟨h6w, h5w.trans (congrArg nI h3w), h7w⟩
            · obtain ⟨c', rfl⟩ : ∃ c', c = c' + 1 := ⟨c - 1, by omega⟩
              refine zi_aload_n dX12_readsName_45 (i := 0) rfl 0 rfl ?_
              refine zi_aload_n dX12_readsName_46 (i := 0) rfl 0 rfl ?_
              refine zi_iload_n dX12_readsName_47 (i := 1) rfl 1 rfl ?_
              refine zcI (zc_V (as := [.int (nI w)]) lk_X12_129 ce_X12_isNameOf cw1_0 rfl rfl dX12_readsName_48 (by decide) rfl rfl (Nat.le_of_ble_eq_true rfl)) (ok_X12_isNameOf ht2 hl2 h8b h9b (by omega) (by omega) (by omega)) ?_
              refine zi_ifB_eq (tgt := 58) dX12_readsName_51 (by decide) (fun c51 => ?_) (fun c51 => ?_)
              · refine zi_aload_n dX12_readsName_58 (i := 0) rfl 0 rfl ?_
                refine zi_getI fd_X12_126_X12 rfl cw1_0 rfl dX12_readsName_59 ?_
                refine zi_top (y := nI t) ((h5w)) ?_
                refine zi_putI fd_X12_126_X12 fp_X12_10 rfl cw1_0 rfl rfl dX12_readsName_62 ?_
                refine zi_iincN (L' := [(1, .int (nI (w + 1))), (0, .ref 0)]) dX12_readsName_65 1 rfl (k := 1) (by decide) (by decide) rfl ?_
                refine zi_goto (tgt := 39) dX12_readsName_68 (by decide) ?_
                refine zi_sub [1, 0] rfl ?_
                refine ihw c' (w + 1) _ _ (by omega) (by omega) ?_ zr_h (zr_j (by decide) h6w) (zCh_up h7w (by decide))
                rw [← h3w, qFw]
                rw [if_neg (by rw [c51]; decide)]
              · refine zi_iload_n dX12_readsName_54 (i := 1) rfl 1 rfl ?_
                refine zi_goto (tgt := 62) dX12_readsName_55 (by decide) ?_
                refine zi_putI fd_X12_126_X12 fp_X12_10 rfl cw1_0 rfl rfl dX12_readsName_62 ?_
                refine zi_iincN (L' := [(1, .int (nI (w + 1))), (0, .ref 0)]) dX12_readsName_65 1 rfl (k := 1) (by decide) (by decide) rfl ?_
                refine zi_goto (tgt := 39) dX12_readsName_68 (by decide) ?_
                refine zi_sub [1, 0] rfl ?_
                refine ihw c' (w + 1) _ _ (by omega) (by omega) ?_ zr_h (zr_j (by decide) h6w) (zCh_up h7w (by decide))
                rw [← h3w, qFw]
                rw [if_pos c51]
        refine zi_sub [1, 0] rfl ?_
        have ei : i = (qRunE (qLet β u) 201 p) := by
          rw [← h4]
          cases c with
          | zero => rfl
          | succ c => rw [qRunE, if_neg (by rw [cl]; decide)]
        exact lpw 19 18 0 101 _ (by omega) (by omega) rfl zr_h ((zr_j (by decide) h5).trans (congrArg nI ei)) (zCh_up (zCh_tr (zCh_rf _ _) h6 (by decide)) (by decide))
      · have cl : qLet β u i = true := (qBy_zin hβ (by decide) (by decide)).symm.trans c15
        have hiu := qLet_lt cl
        obtain ⟨c', rfl⟩ : ∃ c', c = c' + 1 := ⟨c - 1, by omega⟩
        refine zi_aload_n dX12_readsName_18 (i := 0) rfl 0 rfl ?_
        refine zi_dupR dX12_readsName_19 ?_
        refine zi_getI fd_X12_117_X12 rfl cw1_0 rfl dX12_readsName_20 ?_
        refine zi_top (y := nI i) ((h5)) ?_
        refine zi_iconst (v := nI 1) dX12_readsName_23 (by decide) ?_
        refine zi_iaddN dX12_readsName_24 ?_
        refine zi_putI fd_X12_117_X12 fp_X12_8 rfl cw1_0 rfl rfl dX12_readsName_25 ?_
        refine zi_goto (tgt := 0) dX12_readsName_28 (by decide) ?_
        refine zi_sub [0] rfl ?_
        refine ih c' (i + 1) _ (by omega) (by omega) (by omega) (by omega) (by rw [← h4, qRunE, if_pos cl]) zr_h (zCh_up h6 (by decide))
  refine zi_sub [0] rfl ?_
  exact lp 202 201 p M (by omega) (by omega) (by omega) (by omega) rfl h8 (zCh_rf _ _)
