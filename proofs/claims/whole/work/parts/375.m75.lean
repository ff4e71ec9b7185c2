def cDs (a b : Nat) : Nat := min ((a - b) + (b - a)) (6 - ((a - b) + (b - a)))
theorem cDs_far : ∀ a, a < 6 → ∀ b, b < 6 → cDs a b = qFar b a := by decide +kernel
theorem cDs_le (a b : Nat) : cDs a b ≤ 6 := by unfold cDs; omega
/-- the fewest lanes from a lane on to the houses of l, r of them at most -/
def cWO (σ : Nat → Nat) : Nat → Nat → Nat → Nat
  | 0, _, _ => 0
  | r + 1, l, fr => if l = 0 then 0 else zfold (fun k w => if l.testBit k then min w (cDs fr (σ (38 + 6 * k + 3)) + cWO σ r (l - 2 ^ k) (σ (38 + 6 * k + 3))) else w) (σ 6) 0 36
theorem zfold_le {f : Nat → Nat → Nat} {b : Nat} (h : ∀ k w, w ≤ b → f k w ≤ b) : ∀ c a w, w ≤ b → zfold f c a w ≤ b
  | 0, _, _, hw => hw
  | c + 1, a, w, hw => zfold_le h c (a + 1) _ (h a w hw)
theorem cWO_le (σ : Nat → Nat) (r l fr : Nat) : cWO σ r l fr ≤ 36 := by
  cases r with
  | zero => exact Nat.zero_le _
  | succ r =>
    unfold cWO
    split
    · exact Nat.zero_le _
    · refine zfold_le (fun k w hw => ?_) _ _ _ (Nat.le_refl _)
      split
      · omega
      · exact hw
def zCW (r : Nat) : Prop := ∀ (M : zMem) (σ : Nat → Nat) (l fr : Nat), zV 14 M σ → qOk σ → l < 64 → fr ≤ 5 → zOkI zw0 (2 * r + 1) mX11_walkOver [.ref 14, .int (nI fr), .int (nI l), .int (nI r)] M (nI (cWO σ r l fr))
set_option maxRecDepth 100000 in
set_option maxHeartbeats 4000000 in
theorem ok_X11_walkBy {M : zMem} {σ : Nat → Nat} {l fr a r : Nat} (hv : zV 14 M σ) (hk : qOk σ) (hl : l < 64) (hfr : fr ≤ 5) (ha : a < σ 6) (hbit : l.testBit a = true) (IH : zCW r) : zOkI zw0 (2 * r + 2) mX11_walkBy [.ref 14, .int (nI fr), .int (nI a), .int (nI l), .int (nI (r + 1))] M (nI (cDs fr (σ (38 + 6 * a + 3)) + cWO σ r (l - 2 ^ a) (σ (38 + 6 * a + 3)))) := by
  have hb := hk.1
  have h66 := hk.2.1
  have hla := zVl_lane hk ha
  have hcl := zclr l hl a (by omega) hbit
  refine zOk_of (by decide +kernel) (fun _ => Nat.le_of_ble_eq_true rfl) (L := [(0, .ref 14), (1, .int (nI fr)), (2, .int (nI a)), (3, .int (nI l)), (4, .int (nI (r + 1)))]) rfl ?_
  refine zi_iload_n dX11_walkBy_0 (i := 1) rfl 1 rfl ?_
  refine zi_aload_n dX11_walkBy_1 (i := 0) rfl 0 rfl ?_
  refine zi_getR fd_X11_225_X10 rfl cw0_14 rfl dX11_walkBy_2 ?_
  refine zi_iload_n dX11_walkBy_5 (i := 2) rfl 2 rfl ?_
  refine zi_ialdN cw0_18 (by omega) (by decide) dX11_walkBy_6 ?_
  refine zi_top (y := nI (σ (38 + 6 * a + 3))) (((zV_h hv (k := a) (by omega)).2.2.2.1)) ?_
  refine zi_isub dX11_walkBy_7 ?_
  refine zi_mabs jl_X11_228 dX11_walkBy_8 (Nat.le_of_ble_eq_true rfl) ?_
  refine zi_top (y := nI ((fr - (σ (38 + 6 * a + 3))) + ((σ (38 + 6 * a + 3)) - fr))) (zabsN (by omega) (by omega)) ?_
  refine zi_istore (L' := [(5, .int (nI ((fr - (σ (38 + 6 * a + 3))) + ((σ (38 + 6 * a + 3)) - fr)))), (0, .ref 14), (1, .int (nI fr)), (2, .int (nI a)), (3, .int (nI l)), (4, .int (nI (r + 1)))]) dX11_walkBy_11 (by decide) rfl ?_
  refine zi_iload dX11_walkBy_13 0 rfl ?_
  refine zi_bipush (v := nI 6) dX11_walkBy_15 (by decide) ?_
  refine zi_iload dX11_walkBy_17 0 rfl ?_
  refine zi_isubN (by omega) dX11_walkBy_19 ?_
  refine zi_mmin jl_X11_220 dX11_walkBy_20 (Nat.le_of_ble_eq_true rfl) ?_
  refine zi_top (y := nI (cDs fr (σ (38 + 6 * a + 3)))) ((zminN (by omega) (by omega)).trans (congrArg nI (by unfold cDs; omega))) ?_
  refine zi_aload_n dX11_walkBy_23 (i := 0) rfl 1 rfl ?_
  refine zi_aload_n dX11_walkBy_24 (i := 0) rfl 1 rfl ?_
  refine zi_getR fd_X11_225_X10 rfl cw0_14 rfl dX11_walkBy_25 ?_
  refine zi_iload_n dX11_walkBy_28 (i := 2) rfl 3 rfl ?_
  refine zi_ialdN cw0_18 (by omega) (by decide) dX11_walkBy_29 ?_
  refine zi_top (y := nI (σ (38 + 6 * a + 3))) (((zV_h hv (k := a) (by omega)).2.2.2.1)) ?_
  refine zi_iload_n dX11_walkBy_30 (i := 3) rfl 4 rfl ?_
  refine zi_iconst (v := nI 1) dX11_walkBy_31 (by decide) ?_
  refine zi_iload_n dX11_walkBy_32 (i := 2) rfl 3 rfl ?_
  refine zi_ishl dX11_walkBy_33 ?_
  refine zi_top (y := nI (2 ^ a)) (zshl1 a (by omega)) ?_
  refine zi_iconst (v := (-1)) dX11_walkBy_34 (by decide) ?_
  refine zi_ixor dX11_walkBy_35 ?_
  refine zi_iand dX11_walkBy_36 ?_
  refine zi_top (y := nI (l - 2 ^ a)) hcl.1 ?_
  refine zi_iload dX11_walkBy_37 5 rfl ?_
  refine zi_iconst (v := nI 1) dX11_walkBy_39 (by decide) ?_
  refine zi_isub dX11_walkBy_40 ?_
  refine zi_top (y := nI r) (nI_pred1 r) ?_
  refine zcI (zc_S (as := [.ref 14, .int (nI (σ (38 + 6 * a + 3))), .int (nI (l - 2 ^ a)), .int (nI r)]) lk_X11_212 ce_X11_walkOver dX11_walkBy_41 (by omega) rfl rfl (Nat.le_of_ble_eq_true rfl)) (IH M σ (l - 2 ^ a) (σ (38 + 6 * a + 3)) hv hk hcl.2.1 (by omega)) ?_
  refine zi_iaddN dX11_walkBy_44 ?_
  refine zi_top (y := nI (cDs fr (σ (38 + 6 * a + 3)) + (cWO σ r (l - 2 ^ a) (σ (38 + 6 * a + 3))))) (congrArg nI (by omega)) ?_
  refine zi_retI rfl rfl dX11_walkBy_45 ?_
  rfl
set_option maxRecDepth 100000 in
set_option maxHeartbeats 4000000 in
theorem ok_X11_walkOverS {M : zMem} {σ : Nat → Nat} {l fr r : Nat} (hv : zV 14 M σ) (hk : qOk σ) (hl : l < 64) (hfr : fr ≤ 5) (hl0 : l ≠ 0) (IH : zCW r) (hr : r < 1000) : zOkI zw0 (2 * (r + 1) + 1) mX11_walkOver [.ref 14, .int (nI fr), .int (nI l), .int (nI (r + 1))] M (nI (cWO σ (r + 1) l fr)) := by
  have hb := hk.1
  have h66 := hk.2.1
  refine zOk_of (by decide +kernel) (fun _ => Nat.le_of_ble_eq_true rfl) (L := [(0, .ref 14), (1, .int (nI fr)), (2, .int (nI l)), (3, .int (nI (r + 1)))]) rfl ?_
  refine zi_iload_n dX11_walkOver_0 (i := 2) rfl 2 rfl ?_
  refine zi_ifN_eq (by  (first | omega | (split <;> omega))) (tgt := 8) dX11_walkOver_1 (by decide) (fun c1 => False.elim (by omega)) (fun c1 => ?_)
  refine zi_iload_n dX11_walkOver_4 (i := 3) rfl 3 rfl ?_
  refine zi_ifN_gt (by  (first | omega | (split <;> omega))) (tgt := 10) dX11_walkOver_5 (by decide) (fun c5 => ?_) (fun c5 => False.elim (by omega))
  refine zi_bipush (v := nI 36) dX11_walkOver_10 (by decide) ?_
  refine zi_istore (L' := [(4, .int (nI 36)), (0, .ref 14), (1, .int (nI fr)), (2, .int (nI l)), (3, .int (nI (r + 1)))]) dX11_walkOver_12 (by decide) rfl ?_
  refine zi_iconst (v := nI 0) dX11_walkOver_14 (by decide) ?_
  refine zi_istore (L' := [(5, .int (nI 0)), (4, .int (nI 36)), (0, .ref 14), (1, .int (nI fr)), (2, .int (nI l)), (3, .int (nI (r + 1)))]) dX11_walkOver_15 (by decide) rfl ?_
  have lp : ∀ (n c i w : Nat), c < n → i + c = σ 6 → w ≤ 36 → zfold (fun k w => if l.testBit k then min w (cDs fr (σ (38 + 6 * k + 3)) + cWO σ r (l - 2 ^ k) (σ (38 + 6 * k + 3))) else w) c i w = zfold (fun k w => if l.testBit k then min w (cDs fr (σ (38 + 6 * k + 3)) + cWO σ r (l - 2 ^ k) (σ (38 + 6 * k + 3))) else w) (σ 6) 0 36 → zRn zw0 (2 * (r + 1) + 1) mX11_walkOver (zQI M (nI (cWO σ (r + 1) l fr))) 17 [(0, .ref 14), (1, .int (nI fr)), (2, .int (nI l)), (3, .int (nI (r + 1))), (4, .int (nI w)), (5, .int (nI i))] [] M := by
    intro n
    induction n with
    | zero => intro c i w h1; omega
    | succ n ih =>
      intro c i w h1 h2 h3 h4
      refine zi_iload dX11_walkOver_17 5 rfl ?_
      refine zi_aload_n dX11_walkOver_19 (i := 0) rfl 0 rfl ?_
      refine zi_getI fd_X11_90_X10 rfl cw0_14 rfl dX11_walkOver_20 ?_
      refine zi_top (y := nI (σ 6)) ((hv.1)) ?_
      refine zi_icmpN_ge (by  (first | omega | (split <;> omega))) (by have := hb 6; (first | omega | (split <;> omega))) (tgt := 58) dX11_walkOver_23 (by decide) (fun c23 => ?_) (fun c23 => ?_)
      · refine zi_iload dX11_walkOver_58 4 rfl ?_
        refine zi_retI rfl rfl dX11_walkOver_60 ?_
        obtain rfl : c = 0 := by omega
        rw [show cWO σ (r + 1) l fr = w from (if_neg hl0).trans h4.symm]
      · obtain ⟨c', rfl⟩ : ∃ c', c = c' + 1 := ⟨c - 1, by omega⟩
        have hcw := cWO_le σ r (l - 2 ^ i) (σ (38 + 6 * i + 3))
        have hcd := cDs_le fr (σ (38 + 6 * i + 3))
        refine zi_iload_n dX11_walkOver_26 (i := 2) rfl 2 rfl ?_
        refine zi_iload dX11_walkOver_27 5 rfl ?_
        refine zi_ishr dX11_walkOver_29 ?_
        refine zi_iconst (v := nI 1) dX11_walkOver_30 (by decide) ?_
        refine zi_iand dX11_walkOver_31 ?_
        refine zi_top (y := nI (if l.testBit i then 1 else 0)) (zbit l hl i (by omega)) ?_
        refine zi_iconst (v := nI 1) dX11_walkOver_32 (by decide) ?_
        refine zi_icmpN_ne (by  (first | omega | (split <;> omega))) (by decide) (tgt := 52) dX11_walkOver_33 (by decide) (fun c33 => ?_) (fun c33 => ?_)
        · have c33t : l.testBit i = false := by cases hh : l.testBit i with | false => rfl | true => exact absurd (by rw [hh]; rfl) c33
          refine zi_iincN (L' := [(5, .int (nI (i + 1))), (0, .ref 14), (1, .int (nI fr)), (2, .int (nI l)), (3, .int (nI (r + 1))), (4, .int (nI w))]) dX11_walkOver_52 5 rfl (k := 1) (by decide) (by decide) rfl ?_
          refine zi_goto (tgt := 17) dX11_walkOver_55 (by decide) ?_
          refine zi_sub [1, 2, 3, 4, 5, 0] rfl ?_
          refine ih c' (i + 1) _ (by omega) (by omega) h3 ?_
          rw [← h4, zfold_s, if_neg (by rw [c33t]; decide)]
        · have c33t : l.testBit i = true := by cases hh : l.testBit i with | true => rfl | false => (rw [hh] at c33; exact absurd c33 (by decide))
          refine zi_iload dX11_walkOver_36 4 rfl ?_
          refine zi_aload_n dX11_walkOver_38 (i := 0) rfl 0 rfl ?_
          refine zi_iload_n dX11_walkOver_39 (i := 1) rfl 1 rfl ?_
          refine zi_iload dX11_walkOver_40 5 rfl ?_
          refine zi_iload_n dX11_walkOver_42 (i := 2) rfl 2 rfl ?_
          refine zi_iload_n dX11_walkOver_43 (i := 3) rfl 3 rfl ?_
          refine zcI (zc_S (as := [.ref 14, .int (nI fr), .int (nI i), .int (nI l), .int (nI (r + 1))]) lk_X11_216 ce_X11_walkBy dX11_walkOver_44 (by omega) rfl rfl (Nat.le_of_ble_eq_true rfl)) (ok_X11_walkBy hv hk hl hfr (by omega) c33t IH) ?_
          refine zi_mmin jl_X11_220 dX11_walkOver_47 (Nat.le_of_ble_eq_true rfl) ?_
          refine zi_top (y := nI (min w (cDs fr (σ (38 + 6 * i + 3)) + cWO σ r (l - 2 ^ i) (σ (38 + 6 * i + 3))))) (zminN (by omega) (by omega)) ?_
          refine zi_istore (L' := [(4, .int (nI (min w (cDs fr (σ (38 + 6 * i + 3)) + cWO σ r (l - 2 ^ i) (σ (38 + 6 * i + 3)))))), (0, .ref 14), (1, .int (nI fr)), (2, .int (nI l)), (3, .int (nI (r + 1))), (5, .int (nI i))]) dX11_walkOver_50 (by decide) rfl ?_
          refine zi_iincN (L' := [(5, .int (nI (i + 1))), (4, .int (nI (min w (cDs fr (σ (38 + 6 * i + 3)) + cWO σ r (l - 2 ^ i) (σ (38 + 6 * i + 3)))))), (0, .ref 14), (1, .int (nI fr)), (2, .int (nI l)), (3, .int (nI (r + 1)))]) dX11_walkOver_52 5 rfl (k := 1) (by decide) (by decide) rfl ?_
          refine zi_goto (tgt := 17) dX11_walkOver_55 (by decide) ?_
          refine zi_sub [2, 3, 4, 5, 1, 0] rfl ?_
          refine ih c' (i + 1) _ (by omega) (by omega) (by omega) ?_
          rw [← h4, zfold_s, if_pos c33t]
  refine zi_sub [2, 3, 4, 5, 1, 0] rfl ?_
  exact lp (σ 6 + 1) (σ 6) 0 36 (by omega) (by omega) (by omega) rfl
set_option maxRecDepth 100000 in
set_option maxHeartbeats 4000000 in
theorem none_X11_walkOver {M : zMem} {fr r : Nat}  : zOkI zw0 (2 * r + 1) mX11_walkOver [.ref 14, .int (nI fr), .int (nI 0), .int (nI r)] M (nI 0) := by
  refine zOk_of (by decide +kernel) (fun _ => Nat.le_of_ble_eq_true rfl) (L := [(0, .ref 14), (1, .int (nI fr)), (2, .int (nI 0)), (3, .int (nI r))]) rfl ?_
  refine zi_iload_n dX11_walkOver_0 (i := 2) rfl 2 rfl ?_
  refine zi_ifN_eq (by decide) (tgt := 8) dX11_walkOver_1 (by decide) (fun _ => ?_) (fun c => absurd c (by decide))
  refine zi_iconst (v := nI 0) dX11_walkOver_8 (by decide) ?_
  refine zi_retI rfl rfl dX11_walkOver_9 ?_
  rfl
set_option maxRecDepth 100000 in
set_option maxHeartbeats 4000000 in
theorem zero_X11_walkOver {M : zMem} {fr l : Nat} (hl : l < 64) : zOkI zw0 (2 * 0 + 1) mX11_walkOver [.ref 14, .int (nI fr), .int (nI l), .int (nI 0)] M (nI 0) := by
  refine zOk_of (by decide +kernel) (fun _ => Nat.le_of_ble_eq_true rfl) (L := [(0, .ref 14), (1, .int (nI fr)), (2, .int (nI l)), (3, .int (nI 0))]) rfl ?_
  refine zi_iload_n dX11_walkOver_0 (i := 2) rfl 2 rfl ?_
  refine zi_ifN_eq (by  omega) (tgt := 8) dX11_walkOver_1 (by decide) (fun c1 => ?_) (fun c1 => ?_)
  · refine zi_iconst (v := nI 0) dX11_walkOver_8 (by decide) ?_
    refine zi_retI rfl rfl dX11_walkOver_9 ?_
    rfl
  · refine zi_iload_n dX11_walkOver_4 (i := 3) rfl 3 rfl ?_
    refine zi_ifN_gt (by decide) (tgt := 10) dX11_walkOver_5 (by decide) (fun c => absurd c (by decide)) (fun _ => ?_)
    refine zi_iconst (v := nI 0) dX11_walkOver_8 (by decide) ?_
    refine zi_retI rfl rfl dX11_walkOver_9 ?_
    rfl
theorem ok_X11_walkOver : ∀ r, r < 1000 → zCW r
  | 0, _ => fun M σ l fr _ _ hl _ => zero_X11_walkOver hl
  | r + 1, hr => fun M σ l fr hv hk hl hf => by
    by_cases h0 : l = 0
    · subst h0
      rw [show cWO σ (r + 1) 0 fr = 0 from if_pos rfl]
      exact none_X11_walkOver
    · exact ok_X11_walkOverS hv hk hl hf h0 (ok_X11_walkOver r (by omega)) (by omega)
def cCost (σ : Nat → Nat) (r l fr k : Nat) : Nat := cDs fr (σ (38 + 6 * k + 3)) + cWO σ r (l - 2 ^ k) (σ (38 + 6 * k + 3))
def cFst (σ : Nat → Nat) (l fr m : Nat) : Nat → Nat → Int32
  | 0, _ => -3
  | c + 1, k => if l.testBit k = true ∧ cCost σ 5 l fr k = m then nI k else cFst σ l fr m c (k + 1)
set_option maxRecDepth 100000 in
set_option maxHeartbeats 4000000 in
theorem ok_X11_walk0 {M : zMem} {σ : Nat → Nat} {R : List gRl} {a : Nat} (ha : zVa 14 M σ R) (hk : qOk σ) (h1 : a ≤ 5) : zOkI zw0 14 mX11_walk [.ref 0, .int (nI a), .int (nI 0)] M (nI (cWO σ 6 (qLeft σ) a)) := by
  have hv := ha.1
  have hb := hk.1
  have h66 := hk.2.1
  have hpw : 2 ^ σ 6 ≤ 2 ^ 6 := Nat.pow_le_pow_right (by decide) hk.2.1
  have hpp := Nat.two_pow_pos (σ 6)
  have hcl := qCalled_lt h66
  have hlf : qLeft σ < 64 := zand_lt _ (by omega) _ (by omega)
  have hcw := cWO_le σ 6 (qLeft σ) a
  refine zOk_of (by decide +kernel) (fun _ => Nat.le_of_ble_eq_true rfl) (L := [(0, .ref 0), (1, .int (nI a)), (2, .int (nI 0))]) rfl ?_
  refine zi_iload_n dX11_walk_0 (i := 1) rfl 1 rfl ?_
  refine zi_iconst (v := nI 5) dX11_walk_1 (by decide) ?_
  refine zcI (zc_S (as := [.int (nI a), .int (nI 5)]) lk_X11_86 ce_X11_isFrom0To dX11_walk_2 (by decide) rfl rfl (Nat.le_of_ble_eq_true rfl)) (zOkI_eq ok_X11_isFrom0To (zinT (by omega) (by omega) (by omega))) ?_
  refine zi_ifN_eq (by decide) (tgt := 16) dX11_walk_5 (by decide) (fun c => absurd c (by decide)) (fun _ => ?_)
  refine zi_iload_n dX11_walk_8 (i := 2) rfl 2 rfl ?_
  refine zi_iconst (v := nI 1) dX11_walk_9 (by decide) ?_
  refine zcI (zc_S (as := [.int (nI 0), .int (nI 1)]) lk_X11_86 ce_X11_isFrom0To dX11_walk_10 (by decide) rfl rfl (Nat.le_of_ble_eq_true rfl)) (zOkI_eq ok_X11_isFrom0To (zinT (by omega) (by omega) (by omega))) ?_
  refine zi_ifN_ne (by decide) (tgt := 18) dX11_walk_13 (by decide) (fun _ => ?_) (fun c => absurd c (by decide))
  refine zi_aload_n dX11_walk_18 (i := 0) rfl 0 rfl ?_
  refine zi_getR fd_X11_34_X11 rfl cw0_0 rfl dX11_walk_19 ?_
  refine zcI (zc_V (as := []) lk_X11_209 ce_X10_all cw0_14 rfl rfl dX11_walk_22 (by decide) rfl rfl (Nat.le_of_ble_eq_true rfl)) (ok_X10_all_14 hv hk) ?_
  refine zi_aload_n dX11_walk_25 (i := 0) rfl 0 rfl ?_
  refine zi_getR fd_X11_34_X11 rfl cw0_0 rfl dX11_walk_26 ?_
  refine zi_getI fd_X11_166_X10 rfl cw0_14 rfl dX11_walk_29 ?_
  refine zi_top (y := nI (qCalled σ)) ((hv.2.1)) ?_
  refine zi_iconst (v := (-1)) dX11_walk_32 (by decide) ?_
  refine zi_ixor dX11_walk_33 ?_
  refine zi_iand dX11_walk_34 ?_
  refine zi_top (y := nI (qLeft σ)) (zandn _ (by omega) _ (by omega)) ?_
  refine zi_istore_n (L' := [(3, .int (nI (qLeft σ))), (0, .ref 0), (1, .int (nI a)), (2, .int (nI 0))]) dX11_walk_35 (i := 3) rfl (by decide) rfl ?_
  refine zi_aload_n dX11_walk_36 (i := 0) rfl 1 rfl ?_
  refine zi_getR fd_X11_34_X11 rfl cw0_0 rfl dX11_walk_37 ?_
  refine zi_iload_n dX11_walk_40 (i := 1) rfl 2 rfl ?_
  refine zi_iload_n dX11_walk_41 (i := 3) rfl 0 rfl ?_
  refine zi_bipush (v := nI 6) dX11_walk_42 (by decide) ?_
  refine zcI (zc_S (as := [.ref 14, .int (nI a), .int (nI (qLeft σ)), .int (nI 6)]) lk_X11_212 ce_X11_walkOver dX11_walk_44 (by decide) rfl rfl (Nat.le_of_ble_eq_true rfl)) (ok_X11_walkOver 6 (by decide) M σ (qLeft σ) a hv hk hlf (by omega)) ?_
  refine zi_istore (L' := [(4, .int (nI (cWO σ 6 (qLeft σ) a))), (3, .int (nI (qLeft σ))), (0, .ref 0), (1, .int (nI a)), (2, .int (nI 0))]) dX11_walk_47 (by decide) rfl ?_
  refine zi_iload_n dX11_walk_49 (i := 2) rfl 4 rfl ?_
  refine zi_ifN_ne (by decide) (tgt := 56) dX11_walk_50 (by decide) (fun c => absurd c (by decide)) (fun _ => ?_)
  refine zi_iload dX11_walk_53 0 rfl ?_
  refine zi_retI rfl rfl dX11_walk_55 ?_
  rfl
set_option maxRecDepth 100000 in
set_option maxHeartbeats 4000000 in
theorem ok_X11_walk1 {M : zMem} {σ : Nat → Nat} {R : List gRl} {a : Nat} (ha : zVa 14 M σ R) (hk : qOk σ) (h1 : a ≤ 5) : zOkI zw0 14 mX11_walk [.ref 0, .int (nI a), .int (nI 1)] M (cFst σ (qLeft σ) a (cWO σ 6 (qLeft σ) a) (σ 6) 0) := by
  have hv := ha.1
  have hb := hk.1
  have h66 := hk.2.1
  have hpw : 2 ^ σ 6 ≤ 2 ^ 6 := Nat.pow_le_pow_right (by decide) hk.2.1
  have hpp := Nat.two_pow_pos (σ 6)
  have hcl := qCalled_lt h66
  have hlf : qLeft σ < 64 := zand_lt _ (by omega) _ (by omega)
  have hcw := cWO_le σ 6 (qLeft σ) a
  refine zOk_of (by decide +kernel) (fun _ => Nat.le_of_ble_eq_true rfl) (L := [(0, .ref 0), (1, .int (nI a)), (2, .int (nI 1))]) rfl ?_
  refine zi_iload_n dX11_walk_0 (i := 1) rfl 1 rfl ?_
  refine zi_iconst (v := nI 5) dX11_walk_1 (by decide) ?_
  refine zcI (zc_S (as := [.int (nI a), .int (nI 5)]) lk_X11_86 ce_X11_isFrom0To dX11_walk_2 (by decide) rfl rfl (Nat.le_of_ble_eq_true rfl)) (zOkI_eq ok_X11_isFrom0To (zinT (by omega) (by omega) (by omega))) ?_
  refine zi_ifN_eq (by decide) (tgt := 16) dX11_walk_5 (by decide) (fun c => absurd c (by decide)) (fun _ => ?_)
  refine zi_iload_n dX11_walk_8 (i := 2) rfl 2 rfl ?_
  refine zi_iconst (v := nI 1) dX11_walk_9 (by decide) ?_
  refine zcI (zc_S (as := [.int (nI 1), .int (nI 1)]) lk_X11_86 ce_X11_isFrom0To dX11_walk_10 (by decide) rfl rfl (Nat.le_of_ble_eq_true rfl)) (zOkI_eq ok_X11_isFrom0To (zinT (by omega) (by omega) (by omega))) ?_
  refine zi_ifN_ne (by decide) (tgt := 18) dX11_walk_13 (by decide) (fun _ => ?_) (fun c => absurd c (by decide))
  refine zi_aload_n dX11_walk_18 (i := 0) rfl 0 rfl ?_
  refine zi_getR fd_X11_34_X11 rfl cw0_0 rfl dX11_walk_19 ?_
  refine zcI (zc_V (as := []) lk_X11_209 ce_X10_all cw0_14 rfl rfl dX11_walk_22 (by decide) rfl rfl (Nat.le_of_ble_eq_true rfl)) (ok_X10_all_14 hv hk) ?_
  refine zi_aload_n dX11_walk_25 (i := 0) rfl 0 rfl ?_
  refine zi_getR fd_X11_34_X11 rfl cw0_0 rfl dX11_walk_26 ?_
  refine zi_getI fd_X11_166_X10 rfl cw0_14 rfl dX11_walk_29 ?_
  refine zi_top (y := nI (qCalled σ)) ((hv.2.1)) ?_
  refine zi_iconst (v := (-1)) dX11_walk_32 (by decide) ?_
  refine zi_ixor dX11_walk_33 ?_
  refine zi_iand dX11_walk_34 ?_
  refine zi_top (y := nI (qLeft σ)) (zandn _ (by omega) _ (by omega)) ?_
  refine zi_istore_n (L' := [(3, .int (nI (qLeft σ))), (0, .ref 0), (1, .int (nI a)), (2, .int (nI 1))]) dX11_walk_35 (i := 3) rfl (by decide) rfl ?_
  refine zi_aload_n dX11_walk_36 (i := 0) rfl 1 rfl ?_
  refine zi_getR fd_X11_34_X11 rfl cw0_0 rfl dX11_walk_37 ?_
  refine zi_iload_n dX11_walk_40 (i := 1) rfl 2 rfl ?_
  refine zi_iload_n dX11_walk_41 (i := 3) rfl 0 rfl ?_
  refine zi_bipush (v := nI 6) dX11_walk_42 (by decide) ?_
  refine zcI (zc_S (as := [.ref 14, .int (nI a), .int (nI (qLeft σ)), .int (nI 6)]) lk_X11_212 ce_X11_walkOver dX11_walk_44 (by decide) rfl rfl (Nat.le_of_ble_eq_true rfl)) (ok_X11_walkOver 6 (by decide) M σ (qLeft σ) a hv hk hlf (by omega)) ?_
  refine zi_istore (L' := [(4, .int (nI (cWO σ 6 (qLeft σ) a))), (3, .int (nI (qLeft σ))), (0, .ref 0), (1, .int (nI a)), (2, .int (nI 1))]) dX11_walk_47 (by decide) rfl ?_
  refine zi_iload_n dX11_walk_49 (i := 2) rfl 4 rfl ?_
  refine zi_ifN_ne (by decide) (tgt := 56) dX11_walk_50 (by decide) (fun _ => ?_) (fun c => absurd c (by decide))
  refine zi_iconst (v := nI 0) dX11_walk_56 (by decide) ?_
  refine zi_istore (L' := [(5, .int (nI 0)), (4, .int (nI (cWO σ 6 (qLeft σ) a))), (3, .int (nI (qLeft σ))), (0, .ref 0), (1, .int (nI a)), (2, .int (nI 1))]) dX11_walk_57 (by decide) rfl ?_
  have lp : ∀ (n c i : Nat), c < n → i + c = σ 6 → cFst σ (qLeft σ) a (cWO σ 6 (qLeft σ) a) c i = cFst σ (qLeft σ) a (cWO σ 6 (qLeft σ) a) (σ 6) 0 → zRn zw0 14 mX11_walk (zQI M (cFst σ (qLeft σ) a (cWO σ 6 (qLeft σ) a) (σ 6) 0)) 59 [(0, .ref 0), (1, .int (nI a)), (3, .int (nI (qLeft σ))), (4, .int (nI (cWO σ 6 (qLeft σ) a))), (5, .int (nI i))] [] M := by
    intro n
    induction n with
    | zero => intro c i h1; omega
    | succ n ih =>
      intro c i h1 h2 h3
      refine zi_iload dX11_walk_59 4 rfl ?_
      refine zi_aload_n dX11_walk_61 (i := 0) rfl 0 rfl ?_
      refine zi_getR fd_X11_34_X11 rfl cw0_0 rfl dX11_walk_62 ?_
      refine zi_getI fd_X11_90_X10 rfl cw0_14 rfl dX11_walk_65 ?_
      refine zi_top (y := nI (σ 6)) ((hv.1)) ?_
      refine zi_icmpN_ge (by  (first | omega | (split <;> omega))) (by have := hb 6; (first | omega | (split <;> omega))) (tgt := 108) dX11_walk_68 (by decide) (fun c68 => ?_) (fun c68 => ?_)
      · refine zi_bipush (v := (-3)) dX11_walk_108 (by decide) ?_
        refine zi_retI rfl rfl dX11_walk_110 ?_
        rw [← h3]
        obtain rfl : c = 0 := by omega
        rfl
      · obtain ⟨c', rfl⟩ : ∃ c', c = c' + 1 := ⟨c - 1, by omega⟩
        have hcs : cDs a (σ (38 + 6 * i + 3)) + cWO σ 5 (qLeft σ - 2 ^ i) (σ (38 + 6 * i + 3)) < 100 := by have q1 := cWO_le σ 5 (qLeft σ - 2 ^ i) (σ (38 + 6 * i + 3)); have q2 := cDs_le a (σ (38 + 6 * i + 3)); omega
        refine zi_iload_n dX11_walk_71 (i := 3) rfl 2 rfl ?_
        refine zi_iload dX11_walk_72 4 rfl ?_
        refine zi_ishr dX11_walk_74 ?_
        refine zi_iconst (v := nI 1) dX11_walk_75 (by decide) ?_
        refine zi_iand dX11_walk_76 ?_
        refine zi_top (y := nI (if (qLeft σ).testBit i then 1 else 0)) (zbit _ hlf i (by omega)) ?_
        refine zi_iconst (v := nI 1) dX11_walk_77 (by decide) ?_
        refine zi_icmpN_ne (by  (first | omega | (split <;> omega))) (by decide) (tgt := 102) dX11_walk_78 (by decide) (fun c78 => ?_) (fun c78 => ?_)
        · have c78t : (qLeft σ).testBit i = false := by cases hh : (qLeft σ).testBit i with | false => rfl | true => exact absurd (by rw [hh]; rfl) c78
          refine zi_iincN (L' := [(5, .int (nI (i + 1))), (0, .ref 0), (1, .int (nI a)), (3, .int (nI (qLeft σ))), (4, .int (nI (cWO σ 6 (qLeft σ) a)))]) dX11_walk_102 4 rfl (k := 1) (by decide) (by decide) rfl ?_
          refine zi_goto (tgt := 59) dX11_walk_105 (by decide) ?_
          refine zi_sub [1, 2, 3, 4, 0] rfl ?_
          refine ih c' (i + 1) (by omega) (by omega) ?_
          rw [← h3, cFst, if_neg]
          intro z
          first | (rw [c78t] at z; exact Bool.noConfusion z.1) | exact c96 z.2
        · have c78t : (qLeft σ).testBit i = true := by cases hh : (qLeft σ).testBit i with | true => rfl | false => (rw [hh] at c78; exact absurd c78 (by decide))
          refine zi_aload_n dX11_walk_81 (i := 0) rfl 0 rfl ?_
          refine zi_getR fd_X11_34_X11 rfl cw0_0 rfl dX11_walk_82 ?_
          refine zi_iload_n dX11_walk_85 (i := 1) rfl 1 rfl ?_
          refine zi_iload dX11_walk_86 4 rfl ?_
          refine zi_iload_n dX11_walk_88 (i := 3) rfl 2 rfl ?_
          refine zi_bipush (v := nI 6) dX11_walk_89 (by decide) ?_
          refine zcI (zc_S (as := [.ref 14, .int (nI a), .int (nI i), .int (nI (qLeft σ)), .int (nI 6)]) lk_X11_216 ce_X11_walkBy dX11_walk_91 (by decide) rfl rfl (Nat.le_of_ble_eq_true rfl)) (ok_X11_walkBy (r := 5) hv hk hlf (by omega) (by omega) c78t (ok_X11_walkOver 5 (by decide))) ?_
          refine zi_iload dX11_walk_94 3 rfl ?_
          refine zi_icmpN_ne (by have := hb 5; (first | omega | (split <;> omega))) (by have := hb 6; (first | omega | (split <;> omega))) (tgt := 102) dX11_walk_96 (by decide) (fun c96 => ?_) (fun c96 => ?_)
          · refine zi_iincN (L' := [(5, .int (nI (i + 1))), (0, .ref 0), (1, .int (nI a)), (3, .int (nI (qLeft σ))), (4, .int (nI (cWO σ 6 (qLeft σ) a)))]) dX11_walk_102 4 rfl (k := 1) (by decide) (by decide) rfl ?_
            refine zi_goto (tgt := 59) dX11_walk_105 (by decide) ?_
            refine zi_sub [1, 2, 3, 4, 0] rfl ?_
            refine ih c' (i + 1) (by omega) (by omega) ?_
            rw [← h3, cFst, if_neg]
            intro z
            first | (rw [c78t] at z; exact Bool.noConfusion z.1) | exact c96 z.2
          · refine zi_iload dX11_walk_99 4 rfl ?_
            refine zi_retI rfl rfl dX11_walk_101 ?_
            rw [← h3, cFst, if_pos ⟨c78t, c96⟩]
  refine zi_sub [3, 4, 2, 1, 0] rfl ?_
  exact lp (σ 6 + 1) (σ 6) 0 (by omega) (by omega) rfl
