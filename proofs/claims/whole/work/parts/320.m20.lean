def qBt (ev : Bool) (val x : Nat) : Bool := if ev then decide (val < x) else decide (x < val)
def qPg (f : Nat → Nat) (ev : Bool) : Nat → Nat → Nat → Nat → Nat × Nat
  | 0, _, ch, val => (ch, val)
  | c + 1, a, ch, val => if ch = 0 ∨ qBt ev val (f a) = true then qPg f ev c (a + 1) (a + 1) (f a) else qPg f ev c (a + 1) ch val
/-- the game: 1 more than the first act chosen, and what it comes to; r nights are left, d is how many went by -/
def qPlay : Nat → (Nat → Nat) → Nat → Nat × Nat
  | 0, _, _ => (0, 0)
  | r + 1, σ, d => qPg (fun act => (qGo σ act).1 + (qPlay r (qGo σ act).2 (d + 1)).2) (d % 2 == 0) (σ 6 + 1) 0 0 0
theorem qPg_le {f : Nat → Nat} {ev : Bool} {B : Nat} (hf : ∀ a, f a ≤ B) : ∀ (c a ch val : Nat), val ≤ B → (qPg f ev c a ch val).2 ≤ B
  | 0, _, _, _, h => h
  | c + 1, a, ch, val, h => by
    unfold qPg
    split
    · exact qPg_le hf c (a + 1) _ _ (hf a)
    · exact qPg_le hf c (a + 1) _ _ h
theorem qPlay_le : ∀ (r : Nat) (σ : Nat → Nat) (d : Nat), (qPlay r σ d).2 ≤ 27 * r
  | 0, _, _ => Nat.zero_le _
  | r + 1, σ, d => by
    unfold qPlay
    exact qPg_le (fun a => by have h1 := qGo_w σ a; have h2 := qPlay_le r (qGo σ a).2 (d + 1); omega) _ _ _ _ (Nat.zero_le _)
theorem qPg_pos {f : Nat → Nat} {ev : Bool} : ∀ (c a ch val : Nat), ch ≠ 0 ∨ c ≠ 0 → (qPg f ev c a ch val).1 ≠ 0
  | 0, _, _, _, h => by have h1 : _ := h; simp at h1; exact h1
  | c + 1, a, ch, val, h => by
    unfold qPg
    split
    · exact qPg_pos c (a + 1) _ _ (Or.inl (Nat.succ_ne_zero a))
    · rename_i h2
      exact qPg_pos c (a + 1) _ _ (Or.inl (fun e => h2 (Or.inl e)))
def zPw (d : Nat) (M M' : zMem) : Prop := M' 1 = M 1 ∧ (∀ j, j < 74 * d → M' 9 j = M 9 j) ∧ (∀ k, k < d → M' 10 k = M 10 k) ∧ zFr [4, 9, 10] M M'
def zPj (d : Nat) (M M' : zMem) : Prop := zPw d M M' ∧ ∀ j, j < 74 → M' 9 (74 * d + j) = M 1 j
theorem zPj_0 {d : Nat} {M M1 : zMem} (h : M1 = zsetF M 9 (fun j => if 74 * d ≤ j ∧ j < 74 * d + 74 then M 1 (j - 74 * d) else M 9 j)) : zPj d M M1 := by
  subst h
  refine ⟨⟨zsetF_o _ _ (by decide), fun j hj => ?_, fun k hk => by rw [zsetF_o _ _ (by decide)], fun a ha => zsetF_o _ _ (by simp at ha; omega)⟩, fun j hj => ?_⟩
  · rw [zsetF_1, if_neg (by omega)]
  · rw [zsetF_1, if_pos (by omega)]; congr 1; omega
theorem zPj_step {d : Nat} {M M2 M47 M77 M82 : zMem} {σ σ' : Nat → Nat} {x2 x5 : Int32} (h : zPj d M M2) (hs : zS (M 1) σ) (h47 : zPo [1, 4] M2 σ' x2 x5 M47) (hh : ∀ j, 74 ≤ j → σ' j = σ j)
    (h77 : zPw (d + 1) M47 M77) (h82 : M82 = zsetF M77 1 (fun j => if j < 74 then M77 9 (74 * d + j) else M77 1 j)) : zPj d M M82 := by
  obtain ⟨⟨a2, a3, a5, a6⟩, a4⟩ := h
  obtain ⟨b2, b3, b4, b5⟩ := h77
  have f47 : ∀ c, c ≠ 1 → c ≠ 4 → M47 c = M2 c := fun c n1 n4 => h47.2.2.2 c (by simp; omega)
  have hrow : M82 1 = M 1 := by
    rw [h82, zsetF_1]
    funext j
    by_cases hj : j < 74
    · rw [if_pos hj, b3 _ (by omega), f47 9 (by decide) (by decide), a4 j hj]
    · rw [if_neg hj, b2, h47.1 j (by omega) (by omega), hh j (by omega), hs j (by omega) (by omega)]
  have f82 : ∀ c, c ≠ 1 → M82 c = M77 c := fun c n1 => by rw [h82, zsetF_o _ _ n1]
  refine ⟨⟨hrow, fun j hj => ?_, fun k hk => ?_, fun c hc => ?_⟩, fun j hj => ?_⟩
  · rw [f82 9 (by decide), b3 j (by omega), f47 9 (by decide) (by decide), a3 j hj]
  · rw [f82 10 (by decide), b4 k (by omega), f47 10 (by decide) (by decide), a5 k hk]
  · by_cases c1 : c = 1
    · rw [c1]; exact hrow
    · rw [f82 c c1, b5 c hc, f47 c c1 (by simp at hc; omega), a6 c hc]
  · rw [f82 9 (by decide), b3 _ (by omega), f47 9 (by decide) (by decide), a4 j hj]
def zGM (r : Nat) : Prop := ∀ (M : zMem) (σ : Nat → Nat) (d q : Nat), d + r = q → q ≤ 4 → zS (M 1) σ → qOk σ → qRuOk σ → (r = 0 ∨ σ 0 + r ≤ σ 1) →
  zOkJ zw1 (8 + r) mX12_playedFrom [.ref 0, .int (nI d), .int (nI q)] M (fun x M' => x = nI (qPlay r σ d).2 ∧ zPw d M M' ∧ (r ≠ 0 → M' 10 d = nI (qPlay r σ d).1 - nI 1))
set_option maxRecDepth 100000 in
set_option maxHeartbeats 4000000 in
theorem ok_X12_playedFrom0 {M : zMem} {σ : Nat → Nat} {d q : Nat} (hs : zS (M 1) σ) (hk : qOk σ) (hr : qRuOk σ) (hq : q ≤ 4) (hdq : d = q) : zOkJ zw1 8 mX12_playedFrom [.ref 0, .int (nI d), .int (nI q)] M (fun x M' => x = nI (qPlay 0 σ d).2 ∧ zPw d M M' ∧ ((0 : Nat) ≠ 0 → M' 10 d = nI (qPlay 0 σ d).1 - nI 1)) := by
  refine zOk_of (by decide +kernel) (fun _ => Nat.le_of_ble_eq_true rfl) (L := [(0, .ref 0), (1, .int (nI d)), (2, .int (nI q))]) rfl ?_
  refine zi_iload_n dX12_playedFrom_0 (i := 1) rfl 1 rfl ?_
  refine zi_iload_n dX12_playedFrom_1 (i := 2) rfl 2 rfl ?_
  refine zi_icmpN_ne (by  omega) (by  omega) (tgt := 7) dX12_playedFrom_2 (by decide) (fun c2 => False.elim (by omega)) (fun c2 => ?_)
  refine zi_iconst (v := nI 0) dX12_playedFrom_5 (by decide) ?_
  refine zi_retJ rfl rfl dX12_playedFrom_6 ?_
  exact ⟨rfl, ⟨rfl, fun _ _ => rfl, fun _ _ => rfl, zFr_rf _ _⟩, fun h => absurd rfl h⟩
set_option maxRecDepth 100000 in
set_option maxHeartbeats 4000000 in
theorem ok_X12_playedFromS {M : zMem} {σ : Nat → Nat} {d q r : Nat} (hs : zS (M 1) σ) (hk : qOk σ) (hr : qRuOk σ) (hq : q ≤ 4) (IH : zGM r) (hdq : d + (r + 1) = q) (hov : σ 0 + (r + 1) ≤ σ 1) : zOkJ zw1 (8 + (r + 1)) mX12_playedFrom [.ref 0, .int (nI d), .int (nI q)] M (fun x M' => x = nI (qPlay (r + 1) σ d).2 ∧ zPw d M M' ∧ (r + 1 ≠ 0 → M' 10 d = nI (qPlay (r + 1) σ d).1 - nI 1)) := by
  have hb := hk.1
  have h66 := hk.2.1
  have h11 := hk.2.2.2.2.1
  have h0 : σ 0 < 16 := by omega
  refine zOk_of (by decide +kernel) (fun _ => Nat.le_of_ble_eq_true rfl) (L := [(0, .ref 0), (1, .int (nI d)), (2, .int (nI q))]) rfl ?_
  refine zi_iload_n dX12_playedFrom_0 (i := 1) rfl 1 rfl ?_
  refine zi_iload_n dX12_playedFrom_1 (i := 2) rfl 2 rfl ?_
  refine zi_icmpN_ne (by  omega) (by  omega) (tgt := 7) dX12_playedFrom_2 (by decide) (fun c2 => ?_) (fun c2 => False.elim (by omega))
  refine zi_aload_n dX12_playedFrom_7 (i := 0) rfl 0 rfl ?_
  refine zi_iload_n dX12_playedFrom_8 (i := 1) rfl 1 rfl ?_
  refine zcV (zc_V (as := [.int (nI d)]) lk_X12_278 ce_X12_saves cw1_0 rfl rfl dX12_playedFrom_9 (by omega) rfl rfl (Nat.le_of_ble_eq_true rfl)) (ok_X12_saves (by omega)) (fun M9 h9 => ?_)
  refine zi_iconst (v := nI 0) dX12_playedFrom_12 (by decide) ?_
  refine zi_istore_n (L' := [(3, .int (nI 0)), (0, .ref 0), (1, .int (nI d)), (2, .int (nI q))]) dX12_playedFrom_13 (i := 3) rfl (by decide) rfl ?_
  refine zi_iconst (v := (-1)) dX12_playedFrom_14 (by decide) ?_
  refine zi_istore (L' := [(4, .int (-1)), (3, .int (nI 0)), (0, .ref 0), (1, .int (nI d)), (2, .int (nI q))]) dX12_playedFrom_15 (by decide) rfl ?_
  refine zi_iconst (v := nI 0) dX12_playedFrom_17 (by decide) ?_
  refine zi_istore (L' := [(5, .int (nI 0)), (4, .int (-1)), (3, .int (nI 0)), (0, .ref 0), (1, .int (nI d)), (2, .int (nI q))]) dX12_playedFrom_18 (by decide) rfl ?_
  have lp : ∀ (n c i ch val : Nat) (y : Int32) (M2 : zMem), c < n → i + c = σ 6 + 1 → zPj d M M2 → y = nI ch - nI 1 → qPg (fun act => (qGo σ act).1 + (qPlay r (qGo σ act).2 (d + 1)).2) (d % 2 == 0) c i ch val = qPg (fun act => (qGo σ act).1 + (qPlay r (qGo σ act).2 (d + 1)).2) (d % 2 == 0) (σ 6 + 1) 0 0 0 → ch ≤ 7 → val < 50000 → zRn zw1 (8 + (r + 1)) mX12_playedFrom (zQJ (fun x M' => x = nI (qPlay (r + 1) σ d).2 ∧ zPw d M M' ∧ (r + 1 ≠ 0 → M' 10 d = nI (qPlay (r + 1) σ d).1 - nI 1))) 20 [(0, .ref 0), (1, .int (nI d)), (2, .int (nI q)), (3, .int (nI val)), (4, .int y), (5, .int (nI i))] [] M2 := by
    intro n
    induction n with
    | zero => intro c i ch val y M2 h1; omega
    | succ n ih =>
      intro c i ch val y M2 h1 h2 h3 h4 h6 h7 h8
      have hs2 : zS (M2 1) σ := by rw [h3.1.1]; exact hs
      refine zi_iload dX12_playedFrom_20 5 rfl ?_
      refine zi_aload_n dX12_playedFrom_22 (i := 0) rfl 0 rfl ?_
      refine zi_getR fd_X12_9_X12 rfl cw1_0 rfl dX12_playedFrom_23 ?_
      refine zi_bipush (v := nI 6) dX12_playedFrom_26 (by decide) ?_
      refine zi_ialdN cw1_1 (by decide) (by decide) dX12_playedFrom_28 ?_
      refine zi_top (y := nI (σ 6)) ((hs2 _ (by decide) (by decide))) ?_
      refine zi_icmpN_gt (by  omega) (by have := hb 6; omega) (tgt := 123) dX12_playedFrom_29 (by decide) (fun c29 => ?_) (fun c29 => ?_)
      · refine zi_aload_n dX12_playedFrom_123 (i := 0) rfl 0 rfl ?_
        refine zi_getR fd_X12_38_X12 rfl cw1_0 rfl dX12_playedFrom_124 ?_
        refine zi_iload_n dX12_playedFrom_127 (i := 1) rfl 1 rfl ?_
        refine zi_iload dX12_playedFrom_128 4 rfl ?_
        refine zi_iastN cw1_10 (by omega) (by decide) dX12_playedFrom_130 ?_
        refine zi_iload_n dX12_playedFrom_131 (i := 3) rfl 3 rfl ?_
        refine zi_retJ rfl rfl dX12_playedFrom_132 ?_
        obtain rfl : c = 0 := (by omega)
        have e6 : (ch, val) = qPlay (r + 1) σ d := h6
        rw [← e6]
        refine ⟨rfl, ⟨?_, fun j hj => ?_, fun k hk1 => ?_, fun a ha => ?_⟩, fun _ => ?_⟩
        · rw [zup_other _ _ _ (by decide)]; exact h3.1.1
        · rw [zup_other _ _ _ (by decide)]; exact h3.1.2.1 j hj
        · rw [zr_j (by omega) (h3.1.2.2.1 k hk1)]
        · rw [zup_other _ _ _ (by simp at ha; omega)]; exact h3.1.2.2.2 a ha
        · rw [zr_h]; exact h4
      · obtain ⟨c', rfl⟩ : ∃ c', c = c' + 1 := ⟨c - 1, by omega⟩
        have hi6 : i ≤ 6 := by omega
        have hgw := qGo_w σ i
        have hpw := qPlay_le r (qGo σ i).2 (d + 1)
        refine zi_aload_n dX12_playedFrom_32 (i := 0) rfl 0 rfl ?_
        refine zi_iload dX12_playedFrom_33 5 rfl ?_
        refine zcJ (zc_V (as := [.int (nI i)]) lk_X12_232 ce_X12_goesBy cw1_0 rfl rfl dX12_playedFrom_35 (by omega) rfl rfl (Nat.le_of_ble_eq_true rfl)) (ok_X12_goesT hs2 hk hr h0 (by omega)) (fun x35 M35 h35 => ?_)
        obtain ⟨rfl, h35⟩ := h35
        refine zi_istore (L' := [(6, .int (nI ((qGo σ i).1))), (0, .ref 0), (1, .int (nI d)), (2, .int (nI q)), (3, .int (nI val)), (4, .int y), (5, .int (nI i))]) dX12_playedFrom_38 (by decide) rfl ?_
        refine zi_iload dX12_playedFrom_40 0 rfl ?_
        refine zi_aload_n dX12_playedFrom_42 (i := 0) rfl 1 rfl ?_
        refine zi_iload_n dX12_playedFrom_43 (i := 1) rfl 2 rfl ?_
        refine zi_iconst (v := nI 1) dX12_playedFrom_44 (by decide) ?_
        refine zi_iaddN dX12_playedFrom_45 ?_
        refine zi_iload_n dX12_playedFrom_46 (i := 2) rfl 3 rfl ?_
        refine zcJ (zc_V (as := [.int (nI (d + 1)), .int (nI q)]) lk_X12_301 ce_X12_playedFrom cw1_0 rfl rfl dX12_playedFrom_47 (by omega) rfl rfl (Nat.le_of_ble_eq_true rfl)) (IH M35 (qGo σ i).2 (d + 1) q (by omega) hq h35.1 (qOk_go hk h0 hi6) (qRuOk_go hi6 hr) (Or.inr (by rw [qGo_0 σ hi6, qGo_hi hi6 (by omega)]; omega))) (fun x47 M47 h47 => ?_)
        obtain ⟨rfl, h47w, -⟩ := h47
        refine zi_iaddN dX12_playedFrom_50 ?_
        refine zi_top (y := nI ((qGo σ i).1 + ((qPlay r (qGo σ i).2 (d + 1)).2))) (congrArg nI (by omega)) ?_
        refine zi_istore (L' := [(7, .int (nI ((qGo σ i).1 + ((qPlay r (qGo σ i).2 (d + 1)).2)))), (6, .int (nI ((qGo σ i).1))), (0, .ref 0), (1, .int (nI d)), (2, .int (nI q)), (3, .int (nI val)), (4, .int y), (5, .int (nI i))]) dX12_playedFrom_51 (by decide) rfl ?_
        refine zi_aload_n dX12_playedFrom_53 (i := 0) rfl 2 rfl ?_
        refine zi_iload_n dX12_playedFrom_54 (i := 1) rfl 3 rfl ?_
        refine zcV (zc_V (as := [.int (nI d)]) lk_X12_285 ce_X12_restores cw1_0 rfl rfl dX12_playedFrom_55 (by omega) rfl rfl (Nat.le_of_ble_eq_true rfl)) (ok_X12_restores (by omega)) (fun M55 h55 => ?_)
        refine zi_iload dX12_playedFrom_58 6 rfl ?_
        refine zi_if_lt (tgt := 84) dX12_playedFrom_60 (by decide) (fun c60 => ?_) (fun c60 => ?_)
        · have c60n : ch = 0 := zq_neg (by omega) (h4 ▸ c60)
          refine zi_iconst (v := nI 1) dX12_playedFrom_84 (by decide) ?_
          refine zi_goto (tgt := 89) dX12_playedFrom_85 (by decide) ?_
          refine zi_istore (L' := [(8, .int (nI 1)), (7, .int (nI ((qGo σ i).1 + ((qPlay r (qGo σ i).2 (d + 1)).2)))), (6, .int (nI ((qGo σ i).1))), (0, .ref 0), (1, .int (nI d)), (2, .int (nI q)), (3, .int (nI val)), (4, .int y), (5, .int (nI i))]) dX12_playedFrom_89 (by decide) rfl ?_
          refine zi_iload dX12_playedFrom_91 0 rfl ?_
          refine zi_ifN_eq (by decide) (tgt := 101) dX12_playedFrom_93 (by decide) (fun c => absurd c (by decide)) (fun _ => ?_)
          refine zi_iload dX12_playedFrom_96 8 rfl ?_
          refine zi_goto (tgt := 103) dX12_playedFrom_98 (by decide) ?_
          refine zi_istore (L' := [(4, .int (nI i)), (8, .int (nI 1)), (7, .int (nI ((qGo σ i).1 + ((qPlay r (qGo σ i).2 (d + 1)).2)))), (6, .int (nI ((qGo σ i).1))), (0, .ref 0), (1, .int (nI d)), (2, .int (nI q)), (3, .int (nI val)), (5, .int (nI i))]) dX12_playedFrom_103 (by decide) rfl ?_
          refine zi_iload dX12_playedFrom_105 1 rfl ?_
          refine zi_ifN_eq (by decide) (tgt := 115) dX12_playedFrom_107 (by decide) (fun c => absurd c (by decide)) (fun _ => ?_)
          refine zi_iload dX12_playedFrom_110 2 rfl ?_
          refine zi_goto (tgt := 116) dX12_playedFrom_112 (by decide) ?_
          refine zi_istore_n (L' := [(3, .int (nI ((qGo σ i).1 + ((qPlay r (qGo σ i).2 (d + 1)).2)))), (4, .int (nI i)), (8, .int (nI 1)), (7, .int (nI ((qGo σ i).1 + ((qPlay r (qGo σ i).2 (d + 1)).2)))), (6, .int (nI ((qGo σ i).1))), (0, .ref 0), (1, .int (nI d)), (2, .int (nI q)), (5, .int (nI i))]) dX12_playedFrom_116 (i := 3) rfl (by decide) rfl ?_
          refine zi_iincN (L' := [(5, .int (nI (i + 1))), (3, .int (nI ((qGo σ i).1 + ((qPlay r (qGo σ i).2 (d + 1)).2)))), (4, .int (nI i)), (8, .int (nI 1)), (7, .int (nI ((qGo σ i).1 + ((qPlay r (qGo σ i).2 (d + 1)).2)))), (6, .int (nI ((qGo σ i).1))), (0, .ref 0), (1, .int (nI d)), (2, .int (nI q))]) dX12_playedFrom_117 8 rfl (k := 1) (by decide) (by decide) rfl ?_
          refine zi_goto (tgt := 20) dX12_playedFrom_120 (by decide) ?_
          refine zi_sub [6, 7, 8, 1, 2, 0] rfl ?_
          have hB : ch = 0 ∨ qBt (d % 2 == 0) val ((qGo σ i).1 + (qPlay r (qGo σ i).2 (d + 1)).2) = true := by
            first
            | exact Or.inl c60n
            | (right; unfold qBt; rw [if_pos (by simpa using c66)]; exact decide_eq_true c72)
            | (right; unfold qBt; rw [if_neg (by simpa using c66)]; exact decide_eq_true c81)
          rw [qPg, if_pos hB] at h6
          exact ih c' (i + 1) (i + 1) _ _ _ (by omega) (by omega) (zPj_step h3 hs h35 (fun j hj => qGo_hi hi6 (by omega)) h47w h55) (nI_add1 i) h6 (by omega) (by omega)
        · have c60n : ¬ ch = 0 := by have z := zq_pos (h4 ▸ c60); omega
          refine zi_iload_n dX12_playedFrom_63 (i := 1) rfl 3 rfl ?_
          refine zi_iconst (v := nI 2) dX12_playedFrom_64 (by decide) ?_
          refine zi_iremN (by  omega) (by decide) (by decide) dX12_playedFrom_65 ?_
          refine zi_ifN_ne (by  omega) (tgt := 78) dX12_playedFrom_66 (by decide) (fun c66 => ?_) (fun c66 => ?_)
          · refine zi_iload dX12_playedFrom_78 0 rfl ?_
            refine zi_iload_n dX12_playedFrom_80 (i := 3) rfl 5 rfl ?_
            refine zi_icmpN_ge (by have := hb i; omega) (by  omega) (tgt := 88) dX12_playedFrom_81 (by decide) (fun c81 => ?_) (fun c81 => ?_)
            · refine zi_iconst (v := nI 0) dX12_playedFrom_88 (by decide) ?_
              refine zi_istore (L' := [(8, .int (nI 0)), (7, .int (nI ((qGo σ i).1 + ((qPlay r (qGo σ i).2 (d + 1)).2)))), (6, .int (nI ((qGo σ i).1))), (0, .ref 0), (1, .int (nI d)), (2, .int (nI q)), (3, .int (nI val)), (4, .int y), (5, .int (nI i))]) dX12_playedFrom_89 (by decide) rfl ?_
              refine zi_iload dX12_playedFrom_91 0 rfl ?_
              refine zi_ifN_eq (by decide) (tgt := 101) dX12_playedFrom_93 (by decide) (fun _ => ?_) (fun c => absurd c (by decide))
              refine zi_iload dX12_playedFrom_101 7 rfl ?_
              refine zi_istore (L' := [(4, .int y), (8, .int (nI 0)), (7, .int (nI ((qGo σ i).1 + ((qPlay r (qGo σ i).2 (d + 1)).2)))), (6, .int (nI ((qGo σ i).1))), (0, .ref 0), (1, .int (nI d)), (2, .int (nI q)), (3, .int (nI val)), (5, .int (nI i))]) dX12_playedFrom_103 (by decide) rfl ?_
              refine zi_iload dX12_playedFrom_105 1 rfl ?_
              refine zi_ifN_eq (by decide) (tgt := 115) dX12_playedFrom_107 (by decide) (fun _ => ?_) (fun c => absurd c (by decide))
              refine zi_iload_n dX12_playedFrom_115 (i := 3) rfl 7 rfl ?_
              refine zi_istore_n (L' := [(3, .int (nI val)), (4, .int y), (8, .int (nI 0)), (7, .int (nI ((qGo σ i).1 + ((qPlay r (qGo σ i).2 (d + 1)).2)))), (6, .int (nI ((qGo σ i).1))), (0, .ref 0), (1, .int (nI d)), (2, .int (nI q)), (5, .int (nI i))]) dX12_playedFrom_116 (i := 3) rfl (by decide) rfl ?_
              refine zi_iincN (L' := [(5, .int (nI (i + 1))), (3, .int (nI val)), (4, .int y), (8, .int (nI 0)), (7, .int (nI ((qGo σ i).1 + ((qPlay r (qGo σ i).2 (d + 1)).2)))), (6, .int (nI ((qGo σ i).1))), (0, .ref 0), (1, .int (nI d)), (2, .int (nI q))]) dX12_playedFrom_117 8 rfl (k := 1) (by decide) (by decide) rfl ?_
              refine zi_goto (tgt := 20) dX12_playedFrom_120 (by decide) ?_
              refine zi_sub [6, 7, 8, 1, 2, 0] rfl ?_
              have hB : ¬ (ch = 0 ∨ qBt (d % 2 == 0) val ((qGo σ i).1 + (qPlay r (qGo σ i).2 (d + 1)).2) = true) := by
                rintro (z | z)
                · exact c60n z
                · unfold qBt at z
                  first
                  | (rw [if_pos (by simpa using c66)] at z; have z2 := of_decide_eq_true z; omega)
                  | (rw [if_neg (by simpa using c66)] at z; have z2 := of_decide_eq_true z; omega)
              rw [qPg, if_neg hB] at h6
              exact ih c' (i + 1) ch _ _ _ (by omega) (by omega) (zPj_step h3 hs h35 (fun j hj => qGo_hi hi6 (by omega)) h47w h55) h4 h6 h7 h8
            · refine zi_iconst (v := nI 1) dX12_playedFrom_84 (by decide) ?_
              refine zi_goto (tgt := 89) dX12_playedFrom_85 (by decide) ?_
              refine zi_istore (L' := [(8, .int (nI 1)), (7, .int (nI ((qGo σ i).1 + ((qPlay r (qGo σ i).2 (d + 1)).2)))), (6, .int (nI ((qGo σ i).1))), (0, .ref 0), (1, .int (nI d)), (2, .int (nI q)), (3, .int (nI val)), (4, .int y), (5, .int (nI i))]) dX12_playedFrom_89 (by decide) rfl ?_
              refine zi_iload dX12_playedFrom_91 0 rfl ?_
              refine zi_ifN_eq (by decide) (tgt := 101) dX12_playedFrom_93 (by decide) (fun c => absurd c (by decide)) (fun _ => ?_)
              refine zi_iload dX12_playedFrom_96 8 rfl ?_
              refine zi_goto (tgt := 103) dX12_playedFrom_98 (by decide) ?_
              refine zi_istore (L' := [(4, .int (nI i)), (8, .int (nI 1)), (7, .int (nI ((qGo σ i).1 + ((qPlay r (qGo σ i).2 (d + 1)).2)))), (6, .int (nI ((qGo σ i).1))), (0, .ref 0), (1, .int (nI d)), (2, .int (nI q)), (3, .int (nI val)), (5, .int (nI i))]) dX12_playedFrom_103 (by decide) rfl ?_
              refine zi_iload dX12_playedFrom_105 1 rfl ?_
              refine zi_ifN_eq (by decide) (tgt := 115) dX12_playedFrom_107 (by decide) (fun c => absurd c (by decide)) (fun _ => ?_)
              refine zi_iload dX12_playedFrom_110 2 rfl ?_
              refine zi_goto (tgt := 116) dX12_playedFrom_112 (by decide) ?_
              refine zi_istore_n (L' := [(3, .int (nI ((qGo σ i).1 + ((qPlay r (qGo σ i).2 (d + 1)).2)))), (4, .int (nI i)), (8, .int (nI 1)), (7, .int (nI ((qGo σ i).1 + ((qPlay r (qGo σ i).2 (d + 1)).2)))), (6, .int (nI ((qGo σ i).1))), (0, .ref 0), (1, .int (nI d)), (2, .int (nI q)), (5, .int (nI i))]) dX12_playedFrom_116 (i := 3) rfl (by decide) rfl ?_
              refine zi_iincN (L' := [(5, .int (nI (i + 1))), (3, .int (nI ((qGo σ i).1 + ((qPlay r (qGo σ i).2 (d + 1)).2)))), (4, .int (nI i)), (8, .int (nI 1)), (7, .int (nI ((qGo σ i).1 + ((qPlay r (qGo σ i).2 (d + 1)).2)))), (6, .int (nI ((qGo σ i).1))), (0, .ref 0), (1, .int (nI d)), (2, .int (nI q))]) dX12_playedFrom_117 8 rfl (k := 1) (by decide) (by decide) rfl ?_
              refine zi_goto (tgt := 20) dX12_playedFrom_120 (by decide) ?_
              refine zi_sub [6, 7, 8, 1, 2, 0] rfl ?_
              have hB : ch = 0 ∨ qBt (d % 2 == 0) val ((qGo σ i).1 + (qPlay r (qGo σ i).2 (d + 1)).2) = true := by
                first
                | exact Or.inl c60n
                | (right; unfold qBt; rw [if_pos (by simpa using c66)]; exact decide_eq_true c72)
                | (right; unfold qBt; rw [if_neg (by simpa using c66)]; exact decide_eq_true c81)
              rw [qPg, if_pos hB] at h6
              exact ih c' (i + 1) (i + 1) _ _ _ (by omega) (by omega) (zPj_step h3 hs h35 (fun j hj => qGo_hi hi6 (by omega)) h47w h55) (nI_add1 i) h6 (by omega) (by omega)
          · refine zi_iload dX12_playedFrom_69 0 rfl ?_
            refine zi_iload_n dX12_playedFrom_71 (i := 3) rfl 5 rfl ?_
            refine zi_icmpN_le (by have := hb i; omega) (by  omega) (tgt := 88) dX12_playedFrom_72 (by decide) (fun c72 => ?_) (fun c72 => ?_)
            · refine zi_iconst (v := nI 0) dX12_playedFrom_88 (by decide) ?_
              refine zi_istore (L' := [(8, .int (nI 0)), (7, .int (nI ((qGo σ i).1 + ((qPlay r (qGo σ i).2 (d + 1)).2)))), (6, .int (nI ((qGo σ i).1))), (0, .ref 0), (1, .int (nI d)), (2, .int (nI q)), (3, .int (nI val)), (4, .int y), (5, .int (nI i))]) dX12_playedFrom_89 (by decide) rfl ?_
              refine zi_iload dX12_playedFrom_91 0 rfl ?_
              refine zi_ifN_eq (by decide) (tgt := 101) dX12_playedFrom_93 (by decide) (fun _ => ?_) (fun c => absurd c (by decide))
              refine zi_iload dX12_playedFrom_101 7 rfl ?_
              refine zi_istore (L' := [(4, .int y), (8, .int (nI 0)), (7, .int (nI ((qGo σ i).1 + ((qPlay r (qGo σ i).2 (d + 1)).2)))), (6, .int (nI ((qGo σ i).1))), (0, .ref 0), (1, .int (nI d)), (2, .int (nI q)), (3, .int (nI val)), (5, .int (nI i))]) dX12_playedFrom_103 (by decide) rfl ?_
              refine zi_iload dX12_playedFrom_105 1 rfl ?_
              refine zi_ifN_eq (by decide) (tgt := 115) dX12_playedFrom_107 (by decide) (fun _ => ?_) (fun c => absurd c (by decide))
              refine zi_iload_n dX12_playedFrom_115 (i := 3) rfl 7 rfl ?_
              refine zi_istore_n (L' := [(3, .int (nI val)), (4, .int y), (8, .int (nI 0)), (7, .int (nI ((qGo σ i).1 + ((qPlay r (qGo σ i).2 (d + 1)).2)))), (6, .int (nI ((qGo σ i).1))), (0, .ref 0), (1, .int (nI d)), (2, .int (nI q)), (5, .int (nI i))]) dX12_playedFrom_116 (i := 3) rfl (by decide) rfl ?_
              refine zi_iincN (L' := [(5, .int (nI (i + 1))), (3, .int (nI val)), (4, .int y), (8, .int (nI 0)), (7, .int (nI ((qGo σ i).1 + ((qPlay r (qGo σ i).2 (d + 1)).2)))), (6, .int (nI ((qGo σ i).1))), (0, .ref 0), (1, .int (nI d)), (2, .int (nI q))]) dX12_playedFrom_117 8 rfl (k := 1) (by decide) (by decide) rfl ?_
              refine zi_goto (tgt := 20) dX12_playedFrom_120 (by decide) ?_
              refine zi_sub [6, 7, 8, 1, 2, 0] rfl ?_
              have hB : ¬ (ch = 0 ∨ qBt (d % 2 == 0) val ((qGo σ i).1 + (qPlay r (qGo σ i).2 (d + 1)).2) = true) := by
                rintro (z | z)
                · exact c60n z
                · unfold qBt at z
                  first
                  | (rw [if_pos (by simpa using c66)] at z; have z2 := of_decide_eq_true z; omega)
                  | (rw [if_neg (by simpa using c66)] at z; have z2 := of_decide_eq_true z; omega)
              rw [qPg, if_neg hB] at h6
              exact ih c' (i + 1) ch _ _ _ (by omega) (by omega) (zPj_step h3 hs h35 (fun j hj => qGo_hi hi6 (by omega)) h47w h55) h4 h6 h7 h8
            · refine zi_goto (tgt := 84) dX12_playedFrom_75 (by decide) ?_
              refine zi_iconst (v := nI 1) dX12_playedFrom_84 (by decide) ?_
              refine zi_goto (tgt := 89) dX12_playedFrom_85 (by decide) ?_
              refine zi_istore (L' := [(8, .int (nI 1)), (7, .int (nI ((qGo σ i).1 + ((qPlay r (qGo σ i).2 (d + 1)).2)))), (6, .int (nI ((qGo σ i).1))), (0, .ref 0), (1, .int (nI d)), (2, .int (nI q)), (3, .int (nI val)), (4, .int y), (5, .int (nI i))]) dX12_playedFrom_89 (by decide) rfl ?_
              refine zi_iload dX12_playedFrom_91 0 rfl ?_
              refine zi_ifN_eq (by decide) (tgt := 101) dX12_playedFrom_93 (by decide) (fun c => absurd c (by decide)) (fun _ => ?_)
              refine zi_iload dX12_playedFrom_96 8 rfl ?_
              refine zi_goto (tgt := 103) dX12_playedFrom_98 (by decide) ?_
              refine zi_istore (L' := [(4, .int (nI i)), (8, .int (nI 1)), (7, .int (nI ((qGo σ i).1 + ((qPlay r (qGo σ i).2 (d + 1)).2)))), (6, .int (nI ((qGo σ i).1))), (0, .ref 0), (1, .int (nI d)), (2, .int (nI q)), (3, .int (nI val)), (5, .int (nI i))]) dX12_playedFrom_103 (by decide) rfl ?_
              refine zi_iload dX12_playedFrom_105 1 rfl ?_
              refine zi_ifN_eq (by decide) (tgt := 115) dX12_playedFrom_107 (by decide) (fun c => absurd c (by decide)) (fun _ => ?_)
              refine zi_iload dX12_playedFrom_110 2 rfl ?_
              refine zi_goto (tgt := 116) dX12_playedFrom_112 (by decide) ?_
              refine zi_istore_n (L' := [(3, .int (nI ((qGo σ i).1 + ((qPlay r (qGo σ i).2 (d + 1)).2)))), (4, .int (nI i)), (8, .int (nI 1)), (7, .int (nI ((qGo σ i).1 + ((qPlay r (qGo σ i).2 (d + 1)).2)))), (6, .int (nI ((qGo σ i).1))), (0, .ref 0), (1, .int (nI d)), (2, .int (nI q)), (5, .int (nI i))]) dX12_playedFrom_116 (i := 3) rfl (by decide) rfl ?_
              refine zi_iincN (L' := [(5, .int (nI (i + 1))), (3, .int (nI ((qGo σ i).1 + ((qPlay r (qGo σ i).2 (d + 1)).2)))), (4, .int (nI i)), (8, .int (nI 1)), (7, .int (nI ((qGo σ i).1 + ((qPlay r (qGo σ i).2 (d + 1)).2)))), (6, .int (nI ((qGo σ i).1))), (0, .ref 0), (1, .int (nI d)), (2, .int (nI q))]) dX12_playedFrom_117 8 rfl (k := 1) (by decide) (by decide) rfl ?_
              refine zi_goto (tgt := 20) dX12_playedFrom_120 (by decide) ?_
              refine zi_sub [6, 7, 8, 1, 2, 0] rfl ?_
              have hB : ch = 0 ∨ qBt (d % 2 == 0) val ((qGo σ i).1 + (qPlay r (qGo σ i).2 (d + 1)).2) = true := by
                first
                | exact Or.inl c60n
                | (right; unfold qBt; rw [if_pos (by simpa using c66)]; exact decide_eq_true c72)
                | (right; unfold qBt; rw [if_neg (by simpa using c66)]; exact decide_eq_true c81)
              rw [qPg, if_pos hB] at h6
              exact ih c' (i + 1) (i + 1) _ _ _ (by omega) (by omega) (zPj_step h3 hs h35 (fun j hj => qGo_hi hi6 (by omega)) h47w h55) (nI_add1 i) h6 (by omega) (by omega)
  refine zi_sub [3, 4, 5, 2, 1, 0] rfl ?_
  exact lp (σ 6 + 2) (σ 6 + 1) 0 0 0 _ _ (by omega) (by omega) (zPj_0 h9) (by decide) rfl (by omega) (by omega)
theorem ok_X12_playedFrom : ∀ r, zGM r
  | 0 => fun M σ d q h1 h2 h3 h4 h5 _ => ok_X12_playedFrom0 h3 h4 h5 h2 (by omega)
  | r + 1 => fun M σ d q h1 h2 h3 h4 h5 h6 => ok_X12_playedFromS h3 h4 h5 h2 (ok_X12_playedFrom r) (by omega) (by omega)
set_option maxRecDepth 100000 in
set_option maxHeartbeats 4000000 in
theorem ok_X12_game {M : zMem} {σ : Nat → Nat} {v : Nat} (hs : zS (M 1) σ) (hk : qOk σ) (hr : qRuOk σ) (h1 : 1 ≤ v) (hv : v ≤ 4) : zOkJ zw1 14 mX12_game [.ref 0, .int (nI v)] M (fun r M' => r = nI (qPlay (qDays σ v) σ 0).2 ∧ zFr [4, 9, 10] M M') := by
  have hb := hk.1
  have hpl := qPlay_le (qDays σ v) σ 0
  have hqd : qDays σ v ≤ 4 := by unfold qDays; omega
  refine zOk_of (by decide +kernel) (fun _ => Nat.le_of_ble_eq_true rfl) (L := [(0, .ref 0), (1, .int (nI v))]) rfl ?_
  refine zi_iload_n dX12_game_0 (i := 1) rfl 1 rfl ?_
  refine zi_iconst (v := nI 1) dX12_game_1 (by decide) ?_
  refine zi_iconst (v := nI 4) dX12_game_2 (by decide) ?_
  refine zcI (zc_S (as := [.int (nI v), .int (nI 1), .int (nI 4)]) lk_X12_71 ce_X12_in1 dX12_game_3 (by decide) rfl rfl (Nat.le_of_ble_eq_true rfl)) (zOkI_eq ok_X12_in1 (zinT (by omega) (by omega) (by decide))) ?_
  refine zi_ifN_eq (by decide) (tgt := 22) dX12_game_6 (by decide) (fun c => absurd c (by decide)) (fun _ => ?_)
  refine zi_aload_n dX12_game_9 (i := 0) rfl 0 rfl ?_
  refine zi_iconst (v := nI 0) dX12_game_10 (by decide) ?_
  refine zi_aload_n dX12_game_11 (i := 0) rfl 0 rfl ?_
  refine zi_iload_n dX12_game_12 (i := 1) rfl 1 rfl ?_
  refine zcI (zc_V (as := [.int (nI v)]) lk_X12_288 ce_X12_daysOf cw1_0 rfl rfl dX12_game_13 (by decide) rfl rfl (Nat.le_of_ble_eq_true rfl)) (ok_X12_daysOf hs hk (by omega)) ?_
  refine zcJ (zc_V (as := [.int (nI 0), .int (nI (qDays σ v))]) lk_X12_301 ce_X12_playedFrom cw1_0 rfl rfl dX12_game_16 (by unfold qDays; omega) rfl rfl (Nat.le_of_ble_eq_true rfl)) (ok_X12_playedFrom (qDays σ v) _ σ 0 (qDays σ v) (by omega) (by unfold qDays; omega) hs hk hr (by unfold qDays; omega)) (fun x16 M16 h16 => ?_)
  obtain ⟨rfl, h16w, h16c⟩ := h16
  refine zi_goto (tgt := 23) dX12_game_19 (by decide) ?_
  refine zi_retJ rfl rfl dX12_game_23 ?_
  exact ⟨rfl, h16w.2.2.2⟩
set_option maxRecDepth 100000 in
set_option maxHeartbeats 4000000 in
theorem bad_X12_game {M : zMem} {x : Int32} (hB : zin x (nI 1) (nI 4) = false) : zOkI zw1 14 mX12_game [.ref 0, .int x] M (-1) := by
  refine zOk_of (by decide +kernel) (fun _ => Nat.le_of_ble_eq_true rfl) (L := [(0, .ref 0), (1, .int x)]) rfl ?_
  refine zi_iload_n dX12_game_0 (i := 1) rfl 1 rfl ?_
  refine zi_iconst (v := nI 1) dX12_game_1 (by decide) ?_
  refine zi_iconst (v := nI 4) dX12_game_2 (by decide) ?_
  refine zcI (zc_S (as := [.int x, .int (nI 1), .int (nI 4)]) lk_X12_71 ce_X12_in1 dX12_game_3 (by decide) rfl rfl (Nat.le_of_ble_eq_true rfl)) ok_X12_in1 ?_
  refine zi_ifB_eq (tgt := 22) dX12_game_6 (by decide) (fun c6 => ?_) (fun c6 => False.elim (by simp_all))
  refine zi_iconst (v := (-1)) dX12_game_22 (by decide) ?_
  refine zi_retI rfl rfl dX12_game_23 ?_
  rfl
set_option maxRecDepth 100000 in
set_option maxHeartbeats 4000000 in
theorem ok_X12_play {M : zMem} {σ : Nat → Nat} {v : Nat} (hs : zS (M 1) σ) (hk : qOk σ) (hr : qRuOk σ) (h1 : 1 ≤ v) (hv : v ≤ 4) (ho : qOver σ = false) : zOkJ zw1 14 mX12_play [.ref 0, .int (nI v)] M (fun r M' => r = nI (qPlay (qDays σ v) σ 0).1 - nI 1 ∧ zFr [4, 9, 10] M M') := by
  have hb := hk.1
  have hpl := qPlay_le (qDays σ v) σ 0
  have hqd : qDays σ v ≤ 4 := by unfold qDays; omega
  have ho2 : σ 0 < σ 1 := Nat.not_le.mp (of_decide_eq_false ho)
  have hqn : qDays σ v ≠ 0 := by unfold qDays; omega
  refine zOk_of (by decide +kernel) (fun _ => Nat.le_of_ble_eq_true rfl) (L := [(0, .ref 0), (1, .int (nI v))]) rfl ?_
  refine zi_iload_n dX12_play_0 (i := 1) rfl 1 rfl ?_
  refine zi_iconst (v := nI 1) dX12_play_1 (by decide) ?_
  refine zi_iconst (v := nI 4) dX12_play_2 (by decide) ?_
  refine zcI (zc_S (as := [.int (nI v), .int (nI 1), .int (nI 4)]) lk_X12_71 ce_X12_in1 dX12_play_3 (by decide) rfl rfl (Nat.le_of_ble_eq_true rfl)) (zOkI_eq ok_X12_in1 (zinT (by omega) (by omega) (by decide))) ?_
  refine zi_ifN_ne (by decide) (tgt := 11) dX12_play_6 (by decide) (fun _ => ?_) (fun c => absurd c (by decide))
  refine zi_aload_n dX12_play_11 (i := 0) rfl 0 rfl ?_
  refine zcI (zc_V (as := []) lk_X12_226 ce_X12_isOver cw1_0 rfl rfl dX12_play_12 (by decide) rfl rfl (Nat.le_of_ble_eq_true rfl)) (ok_X12_isOver hs hk.1) ?_
  refine zi_ifB_eq (tgt := 21) dX12_play_15 (by decide) (fun c15 => ?_) (fun c15 => False.elim (by rw [ho] at c15; exact Bool.noConfusion c15))
  refine zi_aload_n dX12_play_21 (i := 0) rfl 0 rfl ?_
  refine zi_iconst (v := nI 0) dX12_play_22 (by decide) ?_
  refine zi_aload_n dX12_play_23 (i := 0) rfl 0 rfl ?_
  refine zi_iload_n dX12_play_24 (i := 1) rfl 1 rfl ?_
  refine zcI (zc_V (as := [.int (nI v)]) lk_X12_288 ce_X12_daysOf cw1_0 rfl rfl dX12_play_25 (by decide) rfl rfl (Nat.le_of_ble_eq_true rfl)) (ok_X12_daysOf hs hk (by omega)) ?_
  refine zcJ (zc_V (as := [.int (nI 0), .int (nI (qDays σ v))]) lk_X12_301 ce_X12_playedFrom cw1_0 rfl rfl dX12_play_28 (by unfold qDays; omega) rfl rfl (Nat.le_of_ble_eq_true rfl)) (ok_X12_playedFrom (qDays σ v) _ σ 0 (qDays σ v) (by omega) (by unfold qDays; omega) hs hk hr (by unfold qDays; omega)) (fun x28 M28 h28 => ?_)
  obtain ⟨rfl, h28w, h28c⟩ := h28
  refine zi_istore_n (L' := [(2, .int (nI ((qPlay (qDays σ v) σ 0).2))), (0, .ref 0), (1, .int (nI v))]) dX12_play_31 (i := 2) rfl (by decide) rfl ?_
  refine zi_iload_n dX12_play_32 (i := 2) rfl 0 rfl ?_
  refine zi_ifN_ge (by have := hb v; have := hb 0; omega) (tgt := 41) dX12_play_33 (by decide) (fun c33 => ?_) (fun c33 => False.elim (by omega))
  refine zi_aload_n dX12_play_41 (i := 0) rfl 1 rfl ?_
  refine zi_getR fd_X12_38_X12 rfl cw1_0 rfl dX12_play_42 ?_
  refine zi_iconst (v := nI 0) dX12_play_45 (by decide) ?_
  refine zi_ialdN cw1_10 (by decide) (by decide) dX12_play_46 ?_
  refine zi_retJ rfl rfl dX12_play_47 ?_
  exact ⟨h28c hqn, h28w.2.2.2⟩
set_option maxRecDepth 100000 in
set_option maxHeartbeats 4000000 in
theorem over_X12_play {M : zMem} {σ : Nat → Nat} {v : Nat} (hs : zS (M 1) σ) (hk : qOk σ) (h1 : 1 ≤ v) (hv : v ≤ 4) (ho : qOver σ = true) : zOkI zw1 14 mX12_play [.ref 0, .int (nI v)] M (-3) := by
  refine zOk_of (by decide +kernel) (fun _ => Nat.le_of_ble_eq_true rfl) (L := [(0, .ref 0), (1, .int (nI v))]) rfl ?_
  refine zi_iload_n dX12_play_0 (i := 1) rfl 1 rfl ?_
  refine zi_iconst (v := nI 1) dX12_play_1 (by decide) ?_
  refine zi_iconst (v := nI 4) dX12_play_2 (by decide) ?_
  refine zcI (zc_S (as := [.int (nI v), .int (nI 1), .int (nI 4)]) lk_X12_71 ce_X12_in1 dX12_play_3 (by decide) rfl rfl (Nat.le_of_ble_eq_true rfl)) (zOkI_eq ok_X12_in1 (zinT (by omega) (by omega) (by decide))) ?_
  refine zi_ifN_ne (by decide) (tgt := 11) dX12_play_6 (by decide) (fun _ => ?_) (fun c => absurd c (by decide))
  refine zi_aload_n dX12_play_11 (i := 0) rfl 0 rfl ?_
  refine zcI (zc_V (as := []) lk_X12_226 ce_X12_isOver cw1_0 rfl rfl dX12_play_12 (by decide) rfl rfl (Nat.le_of_ble_eq_true rfl)) (ok_X12_isOver hs hk.1) ?_
  refine zi_ifB_eq (tgt := 21) dX12_play_15 (by decide) (fun c15 => False.elim (by rw [ho] at c15; exact Bool.noConfusion c15)) (fun c15 => ?_)
  refine zi_bipush (v := (-3)) dX12_play_18 (by decide) ?_
  refine zi_retI rfl rfl dX12_play_20 ?_
  rfl
set_option maxRecDepth 100000 in
set_option maxHeartbeats 4000000 in
theorem bad_X12_play {M : zMem} {x : Int32} (hB : zin x (nI 1) (nI 4) = false) : zOkI zw1 14 mX12_play [.ref 0, .int x] M (-1) := by
  refine zOk_of (by decide +kernel) (fun _ => Nat.le_of_ble_eq_true rfl) (L := [(0, .ref 0), (1, .int x)]) rfl ?_
  refine zi_iload_n dX12_play_0 (i := 1) rfl 1 rfl ?_
  refine zi_iconst (v := nI 1) dX12_play_1 (by decide) ?_
  refine zi_iconst (v := nI 4) dX12_play_2 (by decide) ?_
  refine zcI (zc_S (as := [.int x, .int (nI 1), .int (nI 4)]) lk_X12_71 ce_X12_in1 dX12_play_3 (by decide) rfl rfl (Nat.le_of_ble_eq_true rfl)) ok_X12_in1 ?_
  refine zi_ifB_ne (tgt := 11) dX12_play_6 (by decide) (fun c6 => False.elim (by simp_all)) (fun c6 => ?_)
  refine zi_iconst (v := (-1)) dX12_play_9 (by decide) ?_
  refine zi_retI rfl rfl dX12_play_10 ?_
  rfl
