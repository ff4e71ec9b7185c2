theorem zabsN {x y : Nat} (hx : x < 2 ^ 30) (hy : y < 2 ^ 30) : (if 0 ≤ nI x - nI y then nI x - nI y else 0 - (nI x - nI y)) = nI ((x - y) + (y - x)) := by
  by_cases h : 0 ≤ nI x - nI y
  · have h2 := (zsub_toInt hx hy).mp h
    rw [if_pos h, pk_sub h2]; congr 1; omega
  · have h2 := zsub_neg h hx hy
    have h3 : x < y := Nat.not_le.mp fun q => h ((zsub_toInt hx hy).mpr q)
    rw [if_neg h]
    have e : (0 : Int32) - (nI x - nI y) = nI y - nI x := by
      apply Int32.toBitVec_inj.mp
      show (0#32) - (BitVec.ofNat 32 x - BitVec.ofNat 32 y) = BitVec.ofNat 32 y - BitVec.ofNat 32 x
      bv_omega
    rw [e, pk_sub (by omega)]; congr 1; omega
def cNear (σ : Nat → Nat) (k o : Nat) : Bool := decide (σ (38 + 6 * k + 3) = σ (38 + 6 * o + 3) ∨ (σ (38 + 6 * k + 2) ≤ σ (38 + 6 * o + 2) + 1 ∧ σ (38 + 6 * o + 2) ≤ σ (38 + 6 * k + 2) + 1))
def cAny (σ : Nat → Nat) (o s : Nat) : Nat → Nat → Bool
  | 0, _ => false
  | c + 1, k => if (s.testBit k && cNear σ k o) = true then true else cAny σ o s c (k + 1)
def cKs (σ : Nat → Nat) (s o : Nat) : Nat := if σ (38 + 6 * o + 5) = 0 ∧ cAny σ o s (σ 6) 0 = true then s ||| 2 ^ o else s
def cKb (σ : Nat → Nat) : Nat → Nat → Nat → Nat
  | 0, _, s => s
  | c + 1, o, s => cKb σ c (o + 1) (cKs σ s o)
def zit (f : Nat → Nat) : Nat → Nat → Nat
  | 0, s => s
  | c + 1, s => zit f c (f s)
theorem cKs_lt {σ : Nat → Nat} {s o : Nat} (hs : s < 64) (ho : o < 6) : cKs σ s o < 64 := by
  unfold cKs
  split
  · exact zor_lt s hs o ho
  · exact hs
theorem cKb_lt {σ : Nat → Nat} : ∀ (c o s : Nat), s < 64 → o + c ≤ 6 → cKb σ c o s < 64
  | 0, _, _, h, _ => h
  | c + 1, o, s, h, ho => cKb_lt c (o + 1) _ (cKs_lt h (by omega)) (by omega)
theorem zit_lt {f : Nat → Nat} (hf : ∀ s, s < 64 → f s < 64) : ∀ c s, s < 64 → zit f c s < 64
  | 0, _, h => h
  | c + 1, s, h => zit_lt hf c _ (hf s h)
def cKin (σ : Nat → Nat) (k : Nat) : Nat := zit (cKb σ (σ 6) 0) (σ 6) (2 ^ k)
theorem cKin_lt {σ : Nat → Nat} (h6 : σ 6 ≤ 6) {k : Nat} (hk : k < 6) : cKin σ k < 64 := zit_lt (fun s hs => cKb_lt _ _ _ hs (by omega)) _ _ (Nat.lt_of_le_of_lt (Nat.pow_le_pow_right (by decide) (Nat.le_of_lt_succ hk)) (by decide))
set_option maxRecDepth 100000 in
set_option maxHeartbeats 4000000 in
theorem ok_X10_isCloseToOne_14 {M : zMem} {σ : Nat → Nat} {o s : Nat} (hv : zV 14 M σ) (hk : qOk σ) (ho : o < σ 6) (hs : s < 64) : zOkI zw0 1 mX10_isCloseToOne [.ref 14, .int (nI o), .int (nI s)] M (zb (decide (σ (38 + 6 * o + 5) = 0) && cAny σ o s (σ 6) 0)) := by
  have hb := hk.1
  have h66 := hk.2.1
  refine zOk_of (by decide +kernel) (fun _ => Nat.le_of_ble_eq_true rfl) (L := [(0, .ref 14), (1, .int (nI o)), (2, .int (nI s))]) rfl ?_
  refine zi_aload_n dX10_isCloseToOne_0 (i := 0) rfl 0 rfl ?_
  refine zi_iload_n dX10_isCloseToOne_1 (i := 1) rfl 1 rfl ?_
  refine zcI (zc_V (as := [.int (nI o)]) lk_X10_94 ce_X10_isCalled cw0_14 rfl rfl dX10_isCloseToOne_2 (by decide) rfl rfl (Nat.le_of_ble_eq_true rfl)) (ok_X10_isCalled_14 hv hk (by omega)) ?_
  refine zi_ifB_eq (tgt := 10) dX10_isCloseToOne_5 (by decide) (fun c5 => ?_) (fun c5 => ?_)
  · have hc0 : σ (38 + 6 * o + 5) = 0 := by have := of_decide_eq_false c5; omega
    refine zi_iconst (v := nI 0) dX10_isCloseToOne_10 (by decide) ?_
    refine zi_istore_n (L' := [(3, .int (nI 0)), (0, .ref 14), (1, .int (nI o)), (2, .int (nI s))]) dX10_isCloseToOne_11 (i := 3) rfl (by decide) rfl ?_
    have lp : ∀ (n c k : Nat), c < n → k + c = σ 6 → cAny σ o s c k = cAny σ o s (σ 6) 0 → zRn zw0 1 mX10_isCloseToOne (zQI M (zb (decide (σ (38 + 6 * o + 5) = 0) && cAny σ o s (σ 6) 0))) 12 [(0, .ref 14), (1, .int (nI o)), (2, .int (nI s)), (3, .int (nI k))] [] M := by
      intro n
      induction n with
      | zero => intro c k h1; omega
      | succ n ih =>
        intro c k h1 h2 h3
        refine zi_iload_n dX10_isCloseToOne_12 (i := 3) rfl 3 rfl ?_
        refine zi_aload_n dX10_isCloseToOne_13 (i := 0) rfl 0 rfl ?_
        refine zi_getI fd_X10_79_X10 rfl cw0_14 rfl dX10_isCloseToOne_14 ?_
        refine zi_top (y := nI (σ 6)) ((hv.1)) ?_
        refine zi_icmpN_ge (by  (first | omega | (split <;> omega))) (by have := hb 6; (first | omega | (split <;> omega))) (tgt := 84) dX10_isCloseToOne_17 (by decide) (fun c17 => ?_) (fun c17 => ?_)
        · refine zi_iconst (v := nI 0) dX10_isCloseToOne_84 (by decide) ?_
          refine zi_retI rfl rfl dX10_isCloseToOne_85 ?_
          first
          | (rw [decide_eq_false hc0]; rfl)
          | (have hc : c = 0 := (by omega); rw [decide_eq_true hc0, Bool.true_and, ← h3, hc]; rfl)
        · obtain ⟨c', rfl⟩ : ∃ c', c = c' + 1 := ⟨c - 1, by omega⟩
          have hg1 := hb (38 + 6 * k + 2)
          have hg2 := hb (38 + 6 * o + 2)
          have hg3 := hb (38 + 6 * k + 3)
          have hg4 := hb (38 + 6 * o + 3)
          refine zi_aload_n dX10_isCloseToOne_20 (i := 0) rfl 0 rfl ?_
          refine zi_getR fd_X10_21_X10 rfl cw0_14 rfl dX10_isCloseToOne_21 ?_
          refine zi_iload_n dX10_isCloseToOne_24 (i := 3) rfl 3 rfl ?_
          refine zi_ialdN cw0_18 (by omega) (by decide) dX10_isCloseToOne_25 ?_
          refine zi_top (y := nI (σ (38 + 6 * k + 3))) (((zV_h hv (k := k) (by omega)).2.2.2.1)) ?_
          refine zi_aload_n dX10_isCloseToOne_26 (i := 0) rfl 0 rfl ?_
          refine zi_getR fd_X10_21_X10 rfl cw0_14 rfl dX10_isCloseToOne_27 ?_
          refine zi_iload_n dX10_isCloseToOne_30 (i := 1) rfl 1 rfl ?_
          refine zi_ialdN cw0_18 (by omega) (by decide) dX10_isCloseToOne_31 ?_
          refine zi_top (y := nI (σ (38 + 6 * o + 3))) (((zV_h hv (k := o) (by omega)).2.2.2.1)) ?_
          refine zi_icmpN_eq (by have := hb (38 + 6 * k + 3); (first | omega | (split <;> omega))) (by have := hb (38 + 6 * o + 3); (first | omega | (split <;> omega))) (tgt := 55) dX10_isCloseToOne_32 (by decide) (fun c32 => ?_) (fun c32 => ?_)
          · refine zi_iconst (v := nI 1) dX10_isCloseToOne_55 (by decide) ?_
            refine zi_goto (tgt := 60) dX10_isCloseToOne_56 (by decide) ?_
            refine zi_istore (L' := [(4, .int (nI 1)), (0, .ref 14), (1, .int (nI o)), (2, .int (nI s)), (3, .int (nI k))]) dX10_isCloseToOne_60 (by decide) rfl ?_
            refine zi_iload_n dX10_isCloseToOne_62 (i := 2) rfl 3 rfl ?_
            refine zi_iload_n dX10_isCloseToOne_63 (i := 3) rfl 4 rfl ?_
            refine zi_ishr dX10_isCloseToOne_64 ?_
            refine zi_iconst (v := nI 1) dX10_isCloseToOne_65 (by decide) ?_
            refine zi_iand dX10_isCloseToOne_66 ?_
            refine zi_top (y := nI (if s.testBit k then 1 else 0)) (zbit s hs k (by omega)) ?_
            refine zi_iconst (v := nI 1) dX10_isCloseToOne_67 (by decide) ?_
            refine zi_icmpN_ne (by  (first | omega | (split <;> omega))) (by decide) (tgt := 78) dX10_isCloseToOne_68 (by decide) (fun c68 => ?_) (fun c68 => ?_)
            · have c68t : s.testBit k = false := by cases hh : s.testBit k with | false => rfl | true => exact absurd (by rw [hh]; rfl) c68
              refine zi_iincN (L' := [(3, .int (nI (k + 1))), (4, .int (nI 1)), (0, .ref 14), (1, .int (nI o)), (2, .int (nI s))]) dX10_isCloseToOne_78 4 rfl (k := 1) (by decide) (by decide) rfl ?_
              refine zi_goto (tgt := 12) dX10_isCloseToOne_81 (by decide) ?_
              refine zi_sub [2, 3, 4, 0] rfl ?_
              refine ih c' (k + 1) (by omega) (by omega) ?_
              rw [← h3, cAny, if_neg]
              intro z
              rw [Bool.and_eq_true] at z
              first
              | (rw [c68t] at z; exact Bool.noConfusion z.1)
              | (have z2 := of_decide_eq_true z.2; omega)
            · have c68t : s.testBit k = true := by cases hh : s.testBit k with | true => rfl | false => (rw [hh] at c68; exact absurd c68 (by decide))
              refine zi_iload dX10_isCloseToOne_71 0 rfl ?_
              refine zi_ifN_eq (by decide) (tgt := 78) dX10_isCloseToOne_73 (by decide) (fun c => absurd c (by decide)) (fun _ => ?_)
              refine zi_iconst (v := nI 1) dX10_isCloseToOne_76 (by decide) ?_
              refine zi_retI rfl rfl dX10_isCloseToOne_77 ?_
              rw [decide_eq_true hc0, Bool.true_and, ← h3, cAny, if_pos (by rw [c68t, Bool.true_and]; exact decide_eq_true (by omega))]
              rfl
          · refine zi_aload_n dX10_isCloseToOne_35 (i := 0) rfl 0 rfl ?_
            refine zi_getR fd_X10_18_X10 rfl cw0_14 rfl dX10_isCloseToOne_36 ?_
            refine zi_iload_n dX10_isCloseToOne_39 (i := 3) rfl 3 rfl ?_
            refine zi_ialdN cw0_17 (by omega) (by decide) dX10_isCloseToOne_40 ?_
            refine zi_top (y := nI (σ (38 + 6 * k + 2))) (((zV_h hv (k := k) (by omega)).2.2.1)) ?_
            refine zi_aload_n dX10_isCloseToOne_41 (i := 0) rfl 0 rfl ?_
            refine zi_getR fd_X10_18_X10 rfl cw0_14 rfl dX10_isCloseToOne_42 ?_
            refine zi_iload_n dX10_isCloseToOne_45 (i := 1) rfl 1 rfl ?_
            refine zi_ialdN cw0_17 (by omega) (by decide) dX10_isCloseToOne_46 ?_
            refine zi_top (y := nI (σ (38 + 6 * o + 2))) (((zV_h hv (k := o) (by omega)).2.2.1)) ?_
            refine zi_isub dX10_isCloseToOne_47 ?_
            refine zi_mabs jl_X10_163 dX10_isCloseToOne_48 (Nat.le_of_ble_eq_true rfl) ?_
            refine zi_top (y := nI ((σ (38 + 6 * k + 2) - σ (38 + 6 * o + 2)) + (σ (38 + 6 * o + 2) - σ (38 + 6 * k + 2)))) (zabsN (by omega) (by omega)) ?_
            refine zi_iconst (v := nI 1) dX10_isCloseToOne_51 (by decide) ?_
            refine zi_icmpN_gt (by have := hb (38 + 6 * k + 2); have := hb (38 + 6 * o + 2); (first | omega | (split <;> omega))) (by decide) (tgt := 59) dX10_isCloseToOne_52 (by decide) (fun c52 => ?_) (fun c52 => ?_)
            · refine zi_iconst (v := nI 0) dX10_isCloseToOne_59 (by decide) ?_
              refine zi_istore (L' := [(4, .int (nI 0)), (0, .ref 14), (1, .int (nI o)), (2, .int (nI s)), (3, .int (nI k))]) dX10_isCloseToOne_60 (by decide) rfl ?_
              refine zi_iload_n dX10_isCloseToOne_62 (i := 2) rfl 3 rfl ?_
              refine zi_iload_n dX10_isCloseToOne_63 (i := 3) rfl 4 rfl ?_
              refine zi_ishr dX10_isCloseToOne_64 ?_
              refine zi_iconst (v := nI 1) dX10_isCloseToOne_65 (by decide) ?_
              refine zi_iand dX10_isCloseToOne_66 ?_
              refine zi_top (y := nI (if s.testBit k then 1 else 0)) (zbit s hs k (by omega)) ?_
              refine zi_iconst (v := nI 1) dX10_isCloseToOne_67 (by decide) ?_
              refine zi_icmpN_ne (by  (first | omega | (split <;> omega))) (by decide) (tgt := 78) dX10_isCloseToOne_68 (by decide) (fun c68 => ?_) (fun c68 => ?_)
              · have c68t : s.testBit k = false := by cases hh : s.testBit k with | false => rfl | true => exact absurd (by rw [hh]; rfl) c68
                refine zi_iincN (L' := [(3, .int (nI (k + 1))), (4, .int (nI 0)), (0, .ref 14), (1, .int (nI o)), (2, .int (nI s))]) dX10_isCloseToOne_78 4 rfl (k := 1) (by decide) (by decide) rfl ?_
                refine zi_goto (tgt := 12) dX10_isCloseToOne_81 (by decide) ?_
                refine zi_sub [2, 3, 4, 0] rfl ?_
                refine ih c' (k + 1) (by omega) (by omega) ?_
                rw [← h3, cAny, if_neg]
                intro z
                rw [Bool.and_eq_true] at z
                first
                | (rw [c68t] at z; exact Bool.noConfusion z.1)
                | (have z2 := of_decide_eq_true z.2; omega)
              · have c68t : s.testBit k = true := by cases hh : s.testBit k with | true => rfl | false => (rw [hh] at c68; exact absurd c68 (by decide))
                refine zi_iload dX10_isCloseToOne_71 0 rfl ?_
                refine zi_ifN_eq (by decide) (tgt := 78) dX10_isCloseToOne_73 (by decide) (fun _ => ?_) (fun c => absurd c (by decide))
                refine zi_iincN (L' := [(3, .int (nI (k + 1))), (4, .int (nI 0)), (0, .ref 14), (1, .int (nI o)), (2, .int (nI s))]) dX10_isCloseToOne_78 4 rfl (k := 1) (by decide) (by decide) rfl ?_
                refine zi_goto (tgt := 12) dX10_isCloseToOne_81 (by decide) ?_
                refine zi_sub [2, 3, 4, 0] rfl ?_
                refine ih c' (k + 1) (by omega) (by omega) ?_
                rw [← h3, cAny, if_neg]
                intro z
                rw [Bool.and_eq_true] at z
                first
                | (rw [c68t] at z; exact Bool.noConfusion z.1)
                | (have z2 := of_decide_eq_true z.2; omega)
            · refine zi_iconst (v := nI 1) dX10_isCloseToOne_55 (by decide) ?_
              refine zi_goto (tgt := 60) dX10_isCloseToOne_56 (by decide) ?_
              refine zi_istore (L' := [(4, .int (nI 1)), (0, .ref 14), (1, .int (nI o)), (2, .int (nI s)), (3, .int (nI k))]) dX10_isCloseToOne_60 (by decide) rfl ?_
              refine zi_iload_n dX10_isCloseToOne_62 (i := 2) rfl 3 rfl ?_
              refine zi_iload_n dX10_isCloseToOne_63 (i := 3) rfl 4 rfl ?_
              refine zi_ishr dX10_isCloseToOne_64 ?_
              refine zi_iconst (v := nI 1) dX10_isCloseToOne_65 (by decide) ?_
              refine zi_iand dX10_isCloseToOne_66 ?_
              refine zi_top (y := nI (if s.testBit k then 1 else 0)) (zbit s hs k (by omega)) ?_
              refine zi_iconst (v := nI 1) dX10_isCloseToOne_67 (by decide) ?_
              refine zi_icmpN_ne (by  (first | omega | (split <;> omega))) (by decide) (tgt := 78) dX10_isCloseToOne_68 (by decide) (fun c68 => ?_) (fun c68 => ?_)
              · have c68t : s.testBit k = false := by cases hh : s.testBit k with | false => rfl | true => exact absurd (by rw [hh]; rfl) c68
                refine zi_iincN (L' := [(3, .int (nI (k + 1))), (4, .int (nI 1)), (0, .ref 14), (1, .int (nI o)), (2, .int (nI s))]) dX10_isCloseToOne_78 4 rfl (k := 1) (by decide) (by decide) rfl ?_
                refine zi_goto (tgt := 12) dX10_isCloseToOne_81 (by decide) ?_
                refine zi_sub [2, 3, 4, 0] rfl ?_
                refine ih c' (k + 1) (by omega) (by omega) ?_
                rw [← h3, cAny, if_neg]
                intro z
                rw [Bool.and_eq_true] at z
                first
                | (rw [c68t] at z; exact Bool.noConfusion z.1)
                | (have z2 := of_decide_eq_true z.2; omega)
              · have c68t : s.testBit k = true := by cases hh : s.testBit k with | true => rfl | false => (rw [hh] at c68; exact absurd c68 (by decide))
                refine zi_iload dX10_isCloseToOne_71 0 rfl ?_
                refine zi_ifN_eq (by decide) (tgt := 78) dX10_isCloseToOne_73 (by decide) (fun c => absurd c (by decide)) (fun _ => ?_)
                refine zi_iconst (v := nI 1) dX10_isCloseToOne_76 (by decide) ?_
                refine zi_retI rfl rfl dX10_isCloseToOne_77 ?_
                rw [decide_eq_true hc0, Bool.true_and, ← h3, cAny, if_pos (by rw [c68t, Bool.true_and]; exact decide_eq_true (by omega))]
                rfl
    refine zi_sub [1, 2, 3, 0] rfl ?_
    exact lp (σ 6 + 1) (σ 6) 0 (by omega) (by omega) rfl
  · have hc0 : ¬ σ (38 + 6 * o + 5) = 0 := by have := of_decide_eq_true c5; omega
    refine zi_iconst (v := nI 0) dX10_isCloseToOne_8 (by decide) ?_
    refine zi_retI rfl rfl dX10_isCloseToOne_9 ?_
    first
    | (rw [decide_eq_false hc0]; rfl)
    | (have hc : c = 0 := (by omega); rw [decide_eq_true hc0, Bool.true_and, ← h3, hc]; rfl)
set_option maxRecDepth 100000 in
set_option maxHeartbeats 4000000 in
theorem ok_X10_kinOf_14 {M : zMem} {σ : Nat → Nat} {k : Nat} (hv : zV 14 M σ) (hk : qOk σ) (hk6 : k < σ 6) : zOkI zw0 2 mX10_kinOf [.ref 14, .int (nI k)] M (nI (cKin σ k)) := by
  have hb := hk.1
  have h66 := hk.2.1
  refine zOk_of (by decide +kernel) (fun _ => Nat.le_of_ble_eq_true rfl) (L := [(0, .ref 14), (1, .int (nI k))]) rfl ?_
  refine zi_iconst (v := nI 1) dX10_kinOf_0 (by decide) ?_
  refine zi_iload_n dX10_kinOf_1 (i := 1) rfl 1 rfl ?_
  refine zi_ishl dX10_kinOf_2 ?_
  refine zi_top (y := nI (2 ^ k)) (zshl1 k (by omega)) ?_
  refine zi_istore_n (L' := [(2, .int (nI (2 ^ k))), (0, .ref 14), (1, .int (nI k))]) dX10_kinOf_3 (i := 2) rfl (by decide) rfl ?_
  refine zi_iconst (v := nI 0) dX10_kinOf_4 (by decide) ?_
  refine zi_istore_n (L' := [(3, .int (nI 0)), (2, .int (nI (2 ^ k))), (0, .ref 14), (1, .int (nI k))]) dX10_kinOf_5 (i := 3) rfl (by decide) rfl ?_
  have lpT : ∀ (n c t s : Nat), c < n → t + c = σ 6 → s < 64 → zit (cKb σ (σ 6) 0) c s = cKin σ k → zRn zw0 2 mX10_kinOf (zQI M (nI (cKin σ k))) 6 [(0, .ref 14), (1, .int (nI k)), (2, .int (nI s)), (3, .int (nI t))] [] M := by
    intro n
    induction n with
    | zero => intro c t s h1; omega
    | succ n ihT =>
      intro c t s h1 h2 h3 h4
      refine zi_iload_n dX10_kinOf_6 (i := 3) rfl 3 rfl ?_
      refine zi_aload_n dX10_kinOf_7 (i := 0) rfl 0 rfl ?_
      refine zi_getI fd_X10_79_X10 rfl cw0_14 rfl dX10_kinOf_8 ?_
      refine zi_top (y := nI (σ 6)) ((hv.1)) ?_
      refine zi_icmpN_ge (by  omega) (by have := hb 6; omega) (tgt := 59) dX10_kinOf_11 (by decide) (fun c11 => ?_) (fun c11 => ?_)
      · refine zi_iload_n dX10_kinOf_59 (i := 2) rfl 2 rfl ?_
        refine zi_retI rfl rfl dX10_kinOf_60 ?_
        rw [← h4]
        obtain rfl : c = 0 := by omega
        rfl
      · obtain ⟨c', rfl⟩ : ∃ c', c = c' + 1 := ⟨c - 1, by omega⟩
        refine zi_iconst (v := nI 0) dX10_kinOf_14 (by decide) ?_
        refine zi_istore (L' := [(4, .int (nI 0)), (0, .ref 14), (1, .int (nI k)), (2, .int (nI s)), (3, .int (nI t))]) dX10_kinOf_15 (by decide) rfl ?_
        have lpB : ∀ (n c2 j s : Nat), c2 < n → j + c2 = σ 6 → s < 64 → zit (cKb σ (σ 6) 0) c' (cKb σ c2 j s) = cKin σ k → zRn zw0 2 mX10_kinOf (zQI M (nI (cKin σ k))) 17 [(0, .ref 14), (1, .int (nI k)), (2, .int (nI s)), (3, .int (nI t)), (4, .int (nI j))] [] M := by
          intro n
          induction n with
          | zero => intro c2 j s h1; omega
          | succ n ihB =>
            intro c2 j s h1a h2a h3a h4a
            refine zi_iload dX10_kinOf_17 4 rfl ?_
            refine zi_aload_n dX10_kinOf_19 (i := 0) rfl 0 rfl ?_
            refine zi_getI fd_X10_79_X10 rfl cw0_14 rfl dX10_kinOf_20 ?_
            refine zi_top (y := nI (σ 6)) ((hv.1)) ?_
            refine zi_icmpN_ge (by  omega) (by have := hb 6; omega) (tgt := 53) dX10_kinOf_23 (by decide) (fun c23 => ?_) (fun c23 => ?_)
            · refine zi_iincN (L' := [(3, .int (nI (t + 1))), (0, .ref 14), (1, .int (nI k)), (2, .int (nI s)), (4, .int (nI j))]) dX10_kinOf_53 3 rfl (k := 1) (by decide) (by decide) rfl ?_
              refine zi_goto (tgt := 6) dX10_kinOf_56 (by decide) ?_
              refine zi_sub [1, 2, 3, 0] rfl ?_
              exact ihT c' (t + 1) s (by omega) (by omega) h3a (by rw [← h4a]; obtain rfl : c2 = 0 := (by omega); rfl)
            · obtain ⟨c2', rfl⟩ : ∃ c', c2 = c' + 1 := ⟨c2 - 1, by omega⟩
              refine zi_iload_n dX10_kinOf_26 (i := 2) rfl 2 rfl ?_
              refine zi_aload_n dX10_kinOf_27 (i := 0) rfl 0 rfl ?_
              refine zi_iload dX10_kinOf_28 4 rfl ?_
              refine zi_iload_n dX10_kinOf_30 (i := 2) rfl 2 rfl ?_
              refine zcI (zc_V (as := [.int (nI j), .int (nI s)]) lk_X10_159 ce_X10_isCloseToOne cw0_14 rfl rfl dX10_kinOf_31 (by decide) rfl rfl (Nat.le_of_ble_eq_true rfl)) (ok_X10_isCloseToOne_14 hv hk (by omega) h3a) ?_
              refine zi_ifB_eq (tgt := 44) dX10_kinOf_34 (by decide) (fun c34 => ?_) (fun c34 => ?_)
              · refine zi_iconst (v := nI 0) dX10_kinOf_44 (by decide) ?_
                refine zi_ior dX10_kinOf_45 ?_
                refine zi_top (y := nI s) (zor_0 s (by omega)) ?_
                refine zi_istore_n (L' := [(2, .int (nI s)), (0, .ref 14), (1, .int (nI k)), (3, .int (nI t)), (4, .int (nI j))]) dX10_kinOf_46 (i := 2) rfl (by decide) rfl ?_
                refine zi_iincN (L' := [(4, .int (nI (j + 1))), (2, .int (nI s)), (0, .ref 14), (1, .int (nI k)), (3, .int (nI t))]) dX10_kinOf_47 4 rfl (k := 1) (by decide) (by decide) rfl ?_
                refine zi_goto (tgt := 17) dX10_kinOf_50 (by decide) ?_
                refine zi_sub [2, 3, 1, 4, 0] rfl ?_
                refine ihB c2' (j + 1) _ (by omega) (by omega) h3a ?_
                rw [← h4a]
                simp only [cKb]
                rw [cKs, if_neg (fun z => by rw [decide_eq_true z.1, z.2] at c34; exact Bool.noConfusion c34)]
              · refine zi_iconst (v := nI 1) dX10_kinOf_37 (by decide) ?_
                refine zi_iload dX10_kinOf_38 4 rfl ?_
                refine zi_ishl dX10_kinOf_40 ?_
                refine zi_top (y := nI (2 ^ j)) (zshl1 j (by omega)) ?_
                refine zi_goto (tgt := 45) dX10_kinOf_41 (by decide) ?_
                refine zi_ior dX10_kinOf_45 ?_
                refine zi_top (y := nI (s ||| 2 ^ j)) (zor_bit s h3a j (by omega)) ?_
                refine zi_istore_n (L' := [(2, .int (nI (s ||| 2 ^ j))), (0, .ref 14), (1, .int (nI k)), (3, .int (nI t)), (4, .int (nI j))]) dX10_kinOf_46 (i := 2) rfl (by decide) rfl ?_
                refine zi_iincN (L' := [(4, .int (nI (j + 1))), (2, .int (nI (s ||| 2 ^ j))), (0, .ref 14), (1, .int (nI k)), (3, .int (nI t))]) dX10_kinOf_47 4 rfl (k := 1) (by decide) (by decide) rfl ?_
                refine zi_goto (tgt := 17) dX10_kinOf_50 (by decide) ?_
                refine zi_sub [2, 3, 1, 4, 0] rfl ?_
                refine ihB c2' (j + 1) _ (by omega) (by omega) (zor_lt s h3a j (by omega)) ?_
                rw [← h4a]
                simp only [cKb]
                rw [cKs, if_pos ⟨by rw [Bool.and_eq_true] at c34; exact of_decide_eq_true c34.1, by rw [Bool.and_eq_true] at c34; exact c34.2⟩]
        refine zi_sub [1, 2, 3, 4, 0] rfl ?_
        exact lpB (σ 6 + 1) (σ 6) 0 s (by omega) (by omega) h3 (by rw [← h4]; rfl)
  refine zi_sub [2, 3, 1, 0] rfl ?_
  exact lpT (σ 6 + 1) (σ 6) 0 (2 ^ k) (by omega) (by omega) (Nat.lt_of_le_of_lt (Nat.pow_le_pow_right (by decide) (show k ≤ 5 by omega)) (by decide)) rfl
def cCnt (σ : Nat → Nat) : Nat → Nat → Nat → Nat
  | 0, _, _ => 0
  | c + 1, k, s => if s.testBit k = true then cCnt σ c (k + 1) s else cCnt σ c (k + 1) (s ||| cKin σ k) + 1
set_option maxRecDepth 100000 in
set_option maxHeartbeats 4000000 in
theorem ok_X11_countKin {M : zMem} {σ : Nat → Nat} {R : List gRl} (ha : zVa 14 M σ R) (hk : qOk σ) : zOkI zw0 3 mX11_countKin [.ref 0] M (nI (cCnt σ (σ 6) 0 (qCalled σ))) := by
  have hv := ha.1
  have hb := hk.1
  have h66 := hk.2.1
  refine zOk_of (by decide +kernel) (fun _ => Nat.le_of_ble_eq_true rfl) (L := [(0, .ref 0)]) rfl ?_
  refine zi_aload_n dX11_countKin_0 (i := 0) rfl 0 rfl ?_
  refine zi_getR fd_X11_34_X11 rfl cw0_0 rfl dX11_countKin_1 ?_
  refine zi_getI fd_X11_166_X10 rfl cw0_14 rfl dX11_countKin_4 ?_
  refine zi_top (y := nI (qCalled σ)) ((hv.2.1)) ?_
  refine zi_istore_n (L' := [(1, .int (nI (qCalled σ))), (0, .ref 0)]) dX11_countKin_7 (i := 1) rfl (by decide) rfl ?_
  refine zi_iconst (v := nI 0) dX11_countKin_8 (by decide) ?_
  refine zi_istore_n (L' := [(2, .int (nI 0)), (1, .int (nI (qCalled σ))), (0, .ref 0)]) dX11_countKin_9 (i := 2) rfl (by decide) rfl ?_
  refine zi_iconst (v := nI 0) dX11_countKin_10 (by decide) ?_
  refine zi_istore_n (L' := [(3, .int (nI 0)), (2, .int (nI 0)), (1, .int (nI (qCalled σ))), (0, .ref 0)]) dX11_countKin_11 (i := 3) rfl (by decide) rfl ?_
  have lp : ∀ (n c i w s : Nat), c < n → i + c = σ 6 → s < 64 → w + cCnt σ c i s = cCnt σ (σ 6) 0 (qCalled σ) → zRn zw0 3 mX11_countKin (zQI M (nI (cCnt σ (σ 6) 0 (qCalled σ)))) 12 [(0, .ref 0), (1, .int (nI s)), (2, .int (nI w)), (3, .int (nI i))] [] M := by
    intro n
    induction n with
    | zero => intro c i w s h1; omega
    | succ n ih =>
      intro c i w s h1 h2 h3 h4
      refine zi_iload_n dX11_countKin_12 (i := 3) rfl 3 rfl ?_
      refine zi_aload_n dX11_countKin_13 (i := 0) rfl 0 rfl ?_
      refine zi_getR fd_X11_34_X11 rfl cw0_0 rfl dX11_countKin_14 ?_
      refine zi_getI fd_X11_90_X10 rfl cw0_14 rfl dX11_countKin_17 ?_
      refine zi_top (y := nI (σ 6)) ((hv.1)) ?_
      refine zi_icmpN_ge (by  (first | omega | (split <;> omega))) (by have := hb 6; (first | omega | (split <;> omega))) (tgt := 51) dX11_countKin_20 (by decide) (fun c20 => ?_) (fun c20 => ?_)
      · refine zi_iload_n dX11_countKin_51 (i := 2) rfl 2 rfl ?_
        refine zi_retI rfl rfl dX11_countKin_52 ?_
        obtain rfl : c = 0 := by omega
        rw [← h4]
        rfl
      · obtain ⟨c', rfl⟩ : ∃ c', c = c' + 1 := ⟨c - 1, by omega⟩
        refine zi_iload_n dX11_countKin_23 (i := 1) rfl 1 rfl ?_
        refine zi_iload_n dX11_countKin_24 (i := 3) rfl 3 rfl ?_
        refine zi_ishr dX11_countKin_25 ?_
        refine zi_iconst (v := nI 1) dX11_countKin_26 (by decide) ?_
        refine zi_iand dX11_countKin_27 ?_
        refine zi_top (y := nI (if s.testBit i then 1 else 0)) (zbit s h3 i (by omega)) ?_
        refine zi_ifN_ne (by  (first | omega | (split <;> omega))) (tgt := 45) dX11_countKin_28 (by decide) (fun c28 => ?_) (fun c28 => ?_)
        · have c28t : s.testBit i = true := by cases hh : s.testBit i with | true => rfl | false => exact absurd (by rw [hh]; rfl) c28
          refine zi_iincN (L' := [(3, .int (nI (i + 1))), (0, .ref 0), (1, .int (nI s)), (2, .int (nI w))]) dX11_countKin_45 3 rfl (k := 1) (by decide) (by decide) rfl ?_
          refine zi_goto (tgt := 12) dX11_countKin_48 (by decide) ?_
          refine zi_sub [1, 2, 3, 0] rfl ?_
          refine ih c' (i + 1) _ _ (by omega) (by omega) h3 ?_
          rw [← h4, cCnt]
          first | (rw [if_pos c28t]; done) | (rw [if_neg (by rw [c28t]; decide)]; omega)
        · have c28t : s.testBit i = false := by cases hh : s.testBit i with | false => rfl | true => (rw [hh] at c28; exact absurd c28 (by decide))
          refine zi_iload_n dX11_countKin_31 (i := 1) rfl 1 rfl ?_
          refine zi_aload_n dX11_countKin_32 (i := 0) rfl 0 rfl ?_
          refine zi_getR fd_X11_34_X11 rfl cw0_0 rfl dX11_countKin_33 ?_
          refine zi_iload_n dX11_countKin_36 (i := 3) rfl 3 rfl ?_
          refine zcI (zc_V (as := [.int (nI i)]) lk_X11_206 ce_X10_kinOf cw0_14 rfl rfl dX11_countKin_37 (by decide) rfl rfl (Nat.le_of_ble_eq_true rfl)) (ok_X10_kinOf_14 hv hk (by omega)) ?_
          refine zi_ior dX11_countKin_40 ?_
          refine zi_top (y := nI (s ||| cKin σ i)) (zor64 _ h3 _ (cKin_lt h66 (by omega))) ?_
          refine zi_istore_n (L' := [(1, .int (nI (s ||| cKin σ i))), (0, .ref 0), (2, .int (nI w)), (3, .int (nI i))]) dX11_countKin_41 (i := 1) rfl (by decide) rfl ?_
          refine zi_iincN (L' := [(2, .int (nI (w + 1))), (1, .int (nI (s ||| cKin σ i))), (0, .ref 0), (3, .int (nI i))]) dX11_countKin_42 2 rfl (k := 1) (by decide) (by decide) rfl ?_
          refine zi_iincN (L' := [(3, .int (nI (i + 1))), (2, .int (nI (w + 1))), (1, .int (nI (s ||| cKin σ i))), (0, .ref 0)]) dX11_countKin_45 3 rfl (k := 1) (by decide) (by decide) rfl ?_
          refine zi_goto (tgt := 12) dX11_countKin_48 (by decide) ?_
          refine zi_sub [3, 2, 1, 0] rfl ?_
          refine ih c' (i + 1) _ _ (by omega) (by omega) (zor64lt _ h3 _ (cKin_lt h66 (by omega))) ?_
          rw [← h4, cCnt]
          first | (rw [if_pos c28t]; done) | (rw [if_neg (by rw [c28t]; decide)]; omega)
  refine zi_sub [3, 2, 1, 0] rfl ?_
  exact lp (σ 6 + 1) (σ 6) 0 0 _ (by omega) (by omega) (qCalled_lt h66) (Nat.zero_add _)
set_option maxRecDepth 100000 in
set_option maxHeartbeats 4000000 in
theorem ok_X11_kin {M : zMem} {σ : Nat → Nat} {R : List gRl} {a : Nat} (ha : zVa 14 M σ R) (hk : qOk σ) (ha6 : a < σ 6) : zOkI zw0 4 mX11_kin [.ref 0, .int (nI a)] M (nI (if 0 < σ (38 + 6 * a + 5) then 0 else cKin σ a)) := by
  have hv := ha.1
  have hb := hk.1
  have h66 := hk.2.1
  refine zOk_of (by decide +kernel) (fun _ => Nat.le_of_ble_eq_true rfl) (L := [(0, .ref 0), (1, .int (nI a))]) rfl ?_
  refine zi_iload_n dX11_kin_0 (i := 1) rfl 1 rfl ?_
  refine zi_iconst (v := (-1)) dX11_kin_1 (by decide) ?_
  refine zi_icmp_ne (tgt := 10) dX11_kin_2 (by decide) (fun c2 => ?_) (fun c2 => False.elim (by exact absurd c2 (nI_ne_neg (by omega))))
  refine zi_aload_n dX11_kin_10 (i := 0) rfl 0 rfl ?_
  refine zi_getR fd_X11_34_X11 rfl cw0_0 rfl dX11_kin_11 ?_
  refine zi_iload_n dX11_kin_14 (i := 1) rfl 1 rfl ?_
  refine zcI (zc_V (as := [.int (nI a)]) lk_X11_98 ce_X10_has cw0_14 rfl rfl dX11_kin_15 (by decide) rfl rfl (Nat.le_of_ble_eq_true rfl)) (zOkI_eq (ok_X10_has_14 hv hk) (qIsT ha6 (by omega))) ?_
  refine zi_ifN_ne (by decide) (tgt := 23) dX11_kin_18 (by decide) (fun _ => ?_) (fun c => absurd c (by decide))
  refine zi_aload_n dX11_kin_23 (i := 0) rfl 0 rfl ?_
  refine zi_getR fd_X11_34_X11 rfl cw0_0 rfl dX11_kin_24 ?_
  refine zi_iload_n dX11_kin_27 (i := 1) rfl 1 rfl ?_
  refine zcI (zc_V (as := [.int (nI a)]) lk_X11_197 ce_X10_isCalled cw0_14 rfl rfl dX11_kin_28 (by decide) rfl rfl (Nat.le_of_ble_eq_true rfl)) (ok_X10_isCalled_14 hv hk ha6) ?_
  refine zi_ifB_eq (tgt := 38) dX11_kin_31 (by decide) (fun c31 => ?_) (fun c31 => ?_)
  · refine zi_aload_n dX11_kin_38 (i := 0) rfl 0 rfl ?_
    refine zi_getR fd_X11_34_X11 rfl cw0_0 rfl dX11_kin_39 ?_
    refine zi_iload_n dX11_kin_42 (i := 1) rfl 1 rfl ?_
    refine zcI (zc_V (as := [.int (nI a)]) lk_X11_206 ce_X10_kinOf cw0_14 rfl rfl dX11_kin_43 (by decide) rfl rfl (Nat.le_of_ble_eq_true rfl)) (ok_X10_kinOf_14 hv hk (by omega)) ?_
    refine zi_retI rfl rfl dX11_kin_46 ?_
    first | (rw [if_pos (of_decide_eq_true c31)]; done) | (rw [if_neg (of_decide_eq_false c31)])
  · refine zi_iconst (v := nI 0) dX11_kin_34 (by decide) ?_
    refine zi_goto (tgt := 46) dX11_kin_35 (by decide) ?_
    refine zi_retI rfl rfl dX11_kin_46 ?_
    first | (rw [if_pos (of_decide_eq_true c31)]; done) | (rw [if_neg (of_decide_eq_false c31)])
set_option maxRecDepth 100000 in
set_option maxHeartbeats 4000000 in
theorem ok_X11_kinN {M : zMem} {σ : Nat → Nat} {R : List gRl} (ha : zVa 14 M σ R) (hk : qOk σ) : zOkI zw0 4 mX11_kin [.ref 0, .int (-1)] M (nI (cCnt σ (σ 6) 0 (qCalled σ))) := by
  refine zOk_of (by decide +kernel) (fun _ => Nat.le_of_ble_eq_true rfl) (L := [(0, .ref 0), (1, .int (-1))]) rfl ?_
  refine zi_iload_n dX11_kin_0 (i := 1) rfl 1 rfl ?_
  refine zi_iconst (v := (-1)) dX11_kin_1 (by decide) ?_
  refine zi_icmp_ne (tgt := 10) dX11_kin_2 (by decide) (fun c2 => False.elim (by exact c2 rfl)) (fun c2 => ?_)
  refine zi_aload_n dX11_kin_5 (i := 0) rfl 0 rfl ?_
  refine zcI (zc_V (as := []) lk_X11_203 ce_X11_countKin cw0_0 rfl rfl dX11_kin_6 (by decide) rfl rfl (Nat.le_of_ble_eq_true rfl)) (ok_X11_countKin ha hk) ?_
  refine zi_retI rfl rfl dX11_kin_9 ?_
  rfl
set_option maxRecDepth 100000 in
set_option maxHeartbeats 4000000 in
theorem bad_X11_kin {M : zMem} {σ : Nat → Nat} {R : List gRl} {x : Int32} (ha : zVa 14 M σ R) (hk : qOk σ) (hB : qIs (σ 6) x = false) (hn : x ≠ -1) : zOkI zw0 4 mX11_kin [.ref 0, .int x] M (-1) := by
  have hv := ha.1
  have hb := hk.1
  have h66 := hk.2.1
  refine zOk_of (by decide +kernel) (fun _ => Nat.le_of_ble_eq_true rfl) (L := [(0, .ref 0), (1, .int x)]) rfl ?_
  refine zi_iload_n dX11_kin_0 (i := 1) rfl 1 rfl ?_
  refine zi_iconst (v := (-1)) dX11_kin_1 (by decide) ?_
  refine zi_icmp_ne (tgt := 10) dX11_kin_2 (by decide) (fun c2 => ?_) (fun c2 => False.elim (by exact absurd c2 hn))
  refine zi_aload_n dX11_kin_10 (i := 0) rfl 0 rfl ?_
  refine zi_getR fd_X11_34_X11 rfl cw0_0 rfl dX11_kin_11 ?_
  refine zi_iload_n dX11_kin_14 (i := 1) rfl 1 rfl ?_
  refine zcI (zc_V (as := [.int x]) lk_X11_98 ce_X10_has cw0_14 rfl rfl dX11_kin_15 (by decide) rfl rfl (Nat.le_of_ble_eq_true rfl)) (zOkI_eq (ok_X10_has_14 hv hk) (congrArg zb hB)) ?_
  refine zi_ifN_ne (by decide) (tgt := 23) dX11_kin_18 (by decide) (fun c => absurd c (by decide)) (fun _ => ?_)
  refine zi_iconst (v := (-1)) dX11_kin_21 (by decide) ?_
  refine zi_retI rfl rfl dX11_kin_22 ?_
  rfl
