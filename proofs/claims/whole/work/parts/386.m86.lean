/-- a report told: its tray or rain lies in its bounds -/
def qIn (σ : Nat → Nat) (r t w : Nat) : Bool := decide (σ (74 + 4 * r + 2) ≤ (if σ (74 + 4 * r + 1) = 0 then t else w)) && decide ((if σ (74 + 4 * r + 1) = 0 then t else w) ≤ σ (74 + 4 * r + 3))
theorem qSo_in (σ : Nat → Nat) (T : Nat → Nat × Nat) (r : Nat) : qSo σ T r = qIn σ r (T (σ (74 + 4 * r))).1 (T (σ (74 + 4 * r))).2 := rfl
def qWbP (σ : Nat → Nat) (k t w r : Nat) : Bool := decide (σ (74 + 4 * r) = k) && !qIn σ r t w
def qWw (σ : Nat → Nat) (k t w : Nat) : Nat := qSetN (qWbP σ k t w) (σ 8)
/-- reports told wrong up to night i -/
def qWj (σ : Nat → Nat) (T : Nat → Nat × Nat) (i : Nat) : Nat := qSetN (fun r => decide (σ (74 + 4 * r) ≤ i) && !qSo σ T r) (σ 8)
def qWt (σ : Nat → Nat) (T : Nat → Nat × Nat) : Nat := qSetN (fun r => !qSo σ T r) (σ 8)
theorem qSetN_ext {p q : Nat → Bool} {n : Nat} (h : ∀ r, r < n → p r = q r) : qSetN p n = qSetN q n := by
  apply Nat.eq_of_testBit_eq
  intro i
  rw [qSetN_tb, qSetN_tb]
  by_cases hi : i < n
  · rw [h i hi]
  · rw [decide_eq_false hi]; rfl
theorem qWj_0 (σ : Nat → Nat) (T : Nat → Nat × Nat) : qWw σ 0 (T 0).1 (T 0).2 = qWj σ T 0 := by
  refine qSetN_ext fun r _ => ?_
  unfold qWbP
  by_cases h : σ (74 + 4 * r) = 0
  · rw [decide_eq_true h, decide_eq_true (Nat.le_of_eq h), qSo_in, h]
  · rw [decide_eq_false h, decide_eq_false (by omega)]; rfl
theorem qWj_s (σ : Nat → Nat) (T : Nat → Nat × Nat) (i : Nat) : qWj σ T i ||| qWw σ (i + 1) (T (i + 1)).1 (T (i + 1)).2 = qWj σ T (i + 1) := by
  apply Nat.eq_of_testBit_eq
  intro r
  unfold qWj qWw
  rw [Nat.testBit_or, qSetN_tb, qSetN_tb, qSetN_tb]
  unfold qWbP
  by_cases h : σ (74 + 4 * r) = i + 1
  · rw [decide_eq_true h, decide_eq_false (by omega : ¬ σ (74 + 4 * r) ≤ i), decide_eq_true (by omega : σ (74 + 4 * r) ≤ i + 1), qSo_in, h]
    simp
  · rw [decide_eq_false h]
    by_cases h2 : σ (74 + 4 * r) ≤ i
    · rw [decide_eq_true h2, decide_eq_true (by omega : σ (74 + 4 * r) ≤ i + 1)]; simp
    · rw [decide_eq_false h2, decide_eq_false (by omega : ¬ σ (74 + 4 * r) ≤ i + 1)]; simp
theorem qWj_e {σ : Nat → Nat} (h : qRpOk σ) (T : Nat → Nat × Nat) : qWj σ T 15 = qWt σ T := qSetN_ext fun r hr => by rw [decide_eq_true (h r hr)]; rfl
theorem qWj_lt {σ : Nat → Nat} (h : σ 8 ≤ 6) (T : Nat → Nat × Nat) (i : Nat) : qWj σ T i < 64 := Nat.lt_of_lt_of_le (qSetN_lt _ _) (Nat.pow_le_pow_right (by decide) h)
theorem qWw_lt {σ : Nat → Nat} (h : σ 8 ≤ 6) (k t w : Nat) : qWw σ k t w < 64 := Nat.lt_of_lt_of_le (qSetN_lt _ _) (Nat.pow_le_pow_right (by decide) h)
theorem zsubp {t a : Nat} (h : a ≤ t) (ht : t < 100000) : nI t - (nI a - nI 1) = nI (t - a + 1) := by
  rcases Nat.eq_zero_or_pos a with rfl | e
  · have : nI 0 - nI 1 = -1 := by decide
    rw [this, Int32.sub_neg, show t - 0 + 1 = t + 1 from rfl]
    exact Int32.toBitVec_inj.mp (by show BitVec.ofNat 32 t + BitVec.ofNat 32 1 = BitVec.ofNat 32 (t + 1); rw [BitVec.ofNat_add])
  · rw [pk_sub (show 1 ≤ a from e), pk_sub (by omega)]; congr 1; omega
set_option maxRecDepth 100000 in
set_option maxHeartbeats 4000000 in
theorem ok_X5_wrongBehind {M : zMem} {σ : Nat → Nat} {k t w : Nat} (hR : zRp 31 M σ) (hk : qOk σ) (hk5 : k ≤ 15) (ht : t ≤ 99) (hw : w ≤ 9) : zOkI zw0 0 mX5_wrongBehind [.ref 31, .int (nI k), .int (nI t), .int (nI w)] M (nI (qWw σ k t w)) := by
  have hb := hk.1
  have h86 := hk.2.2.2.2.2.2.2.2.1
  refine zOk_of (by decide +kernel) (fun _ => Nat.le_of_ble_eq_true rfl) (L := [(0, .ref 31), (1, .int (nI k)), (2, .int (nI t)), (3, .int (nI w))]) rfl ?_
  refine zi_iconst (v := nI 0) dX5_wrongBehind_0 (by decide) ?_
  refine zi_istore (L' := [(4, .int (nI 0)), (0, .ref 31), (1, .int (nI k)), (2, .int (nI t)), (3, .int (nI w))]) dX5_wrongBehind_1 (by decide) rfl ?_
  refine zi_iconst (v := nI 0) dX5_wrongBehind_3 (by decide) ?_
  refine zi_istore (L' := [(5, .int (nI 0)), (4, .int (nI 0)), (0, .ref 31), (1, .int (nI k)), (2, .int (nI t)), (3, .int (nI w))]) dX5_wrongBehind_4 (by decide) rfl ?_
  have lp : ∀ (n c i : Nat), c < n → i + c = σ 8 → zRn zw0 0 mX5_wrongBehind (zQI M (nI (qWw σ k t w))) 6 [(0, .ref 31), (1, .int (nI k)), (2, .int (nI t)), (3, .int (nI w)), (4, .int (nI (qSetN (qWbP σ k t w) i))), (5, .int (nI i))] [] M := by
    intro n
    induction n with
    | zero => intro c i h1; omega
    | succ n ih =>
      intro c i h1 h2
      have hb1 := hb (74 + 4 * i)
      have hb2 := hb (74 + 4 * i + 1)
      have hb3 := hb (74 + 4 * i + 2)
      have hb4 := hb (74 + 4 * i + 3)
      have hql := qSetN_lt (qWbP σ k t w) i
      have h2p : 2 ^ i ≤ 2 ^ 6 := Nat.pow_le_pow_right (by decide) (by omega)
      refine zi_iload dX5_wrongBehind_6 5 rfl ?_
      refine zi_aload_n dX5_wrongBehind_8 (i := 0) rfl 0 rfl ?_
      refine zi_getI fd_X5_27_X5 rfl cw0_31 rfl dX5_wrongBehind_9 ?_
      refine zi_top (y := nI (σ 8)) ((hR.1)) ?_
      refine zi_icmpN_ge (by  omega) (by have := hb 8; omega) (tgt := 98) dX5_wrongBehind_12 (by decide) (fun c12 => ?_) (fun c12 => ?_)
      · refine zi_iload dX5_wrongBehind_98 4 rfl ?_
        refine zi_retI rfl rfl dX5_wrongBehind_100 ?_
        obtain rfl : i = σ 8 := by omega
        rfl
      · refine zi_aload_n dX5_wrongBehind_15 (i := 0) rfl 0 rfl ?_
        refine zi_getR fd_X5_15_X5 rfl cw0_31 rfl dX5_wrongBehind_16 ?_
        refine zi_iload dX5_wrongBehind_19 5 rfl ?_
        refine zi_ialdN cw0_33 (by omega) (by decide) dX5_wrongBehind_21 ?_
        refine zi_top (y := nI (σ (74 + 4 * i + 1))) (((hR.2 _ (by omega)).2.1)) ?_
        refine zi_ifN_ne (by have := hb (74 + 4 * i + 1); omega) (tgt := 29) dX5_wrongBehind_22 (by decide) (fun c22 => ?_) (fun c22 => ?_)
        · refine zi_iload_n dX5_wrongBehind_29 (i := 3) rfl 3 rfl ?_
          refine zi_istore (L' := [(6, .int (nI w)), (0, .ref 31), (1, .int (nI k)), (2, .int (nI t)), (3, .int (nI w)), (4, .int (nI (qSetN (qWbP σ k t w) i))), (5, .int (nI i))]) dX5_wrongBehind_30 (by decide) rfl ?_
          refine zi_iload dX5_wrongBehind_32 0 rfl ?_
          refine zi_aload_n dX5_wrongBehind_34 (i := 0) rfl 1 rfl ?_
          refine zi_getR fd_X5_18_X5 rfl cw0_31 rfl dX5_wrongBehind_35 ?_
          refine zi_iload dX5_wrongBehind_38 6 rfl ?_
          refine zi_ialdN cw0_34 (by omega) (by decide) dX5_wrongBehind_40 ?_
          refine zi_top (y := nI (σ (74 + 4 * i + 2))) (((hR.2 _ (by omega)).2.2.1)) ?_
          refine zi_icmpN_lt (by  omega) (by have := hb (74 + 4 * i + 2); omega) (tgt := 60) dX5_wrongBehind_41 (by decide) (fun c41 => ?_) (fun c41 => ?_)
          · refine zi_iconst (v := nI 0) dX5_wrongBehind_60 (by decide) ?_
            refine zi_istore (L' := [(7, .int (nI 0)), (6, .int (nI w)), (0, .ref 31), (1, .int (nI k)), (2, .int (nI t)), (3, .int (nI w)), (4, .int (nI (qSetN (qWbP σ k t w) i))), (5, .int (nI i))]) dX5_wrongBehind_61 (by decide) rfl ?_
            refine zi_iload dX5_wrongBehind_63 6 rfl ?_
            refine zi_aload_n dX5_wrongBehind_65 (i := 0) rfl 2 rfl ?_
            refine zi_getR fd_X5_9_X5 rfl cw0_31 rfl dX5_wrongBehind_66 ?_
            refine zi_iload dX5_wrongBehind_69 7 rfl ?_
            refine zi_ialdN cw0_32 (by omega) (by decide) dX5_wrongBehind_71 ?_
            refine zi_top (y := nI (σ (74 + 4 * i))) (((hR.2 _ (by omega)).1)) ?_
            refine zi_iload_n dX5_wrongBehind_72 (i := 1) rfl 3 rfl ?_
            refine zi_icmpN_ne (by have := hb (74 + 4 * i); omega) (by  omega) (tgt := 88) dX5_wrongBehind_73 (by decide) (fun c73 => ?_) (fun c73 => ?_)
            · refine zi_iconst (v := nI 0) dX5_wrongBehind_88 (by decide) ?_
              refine zi_ior dX5_wrongBehind_89 ?_
              refine zi_top (y := nI (qSetN (qWbP σ k t w) (i + 1))) (by first | exact zset_t (by omega) (by unfold qWbP qIn; simp_all <;> omega) | exact zset_f (by omega) (by unfold qWbP qIn; simp_all <;> omega)) ?_
              refine zi_istore (L' := [(4, .int (nI (qSetN (qWbP σ k t w) (i + 1)))), (7, .int (nI 0)), (6, .int (nI w)), (0, .ref 31), (1, .int (nI k)), (2, .int (nI t)), (3, .int (nI w)), (5, .int (nI i))]) dX5_wrongBehind_90 (by decide) rfl ?_
              refine zi_iincN (L' := [(5, .int (nI (i + 1))), (4, .int (nI (qSetN (qWbP σ k t w) (i + 1)))), (7, .int (nI 0)), (6, .int (nI w)), (0, .ref 31), (1, .int (nI k)), (2, .int (nI t)), (3, .int (nI w))]) dX5_wrongBehind_92 7 rfl (k := 1) (by decide) (by decide) rfl ?_
              refine zi_goto (tgt := 6) dX5_wrongBehind_95 (by decide) ?_
              refine zi_sub [4, 5, 6, 7, 1, 0] rfl ?_
              exact ih (c - 1) (i + 1) (by omega) (by omega)
            · refine zi_iload dX5_wrongBehind_76 0 rfl ?_
              refine zi_ifN_ne (by decide) (tgt := 88) dX5_wrongBehind_78 (by decide) (fun c => absurd c (by decide)) (fun _ => ?_)
              refine zi_iconst (v := nI 1) dX5_wrongBehind_81 (by decide) ?_
              refine zi_iload dX5_wrongBehind_82 7 rfl ?_
              refine zi_ishl dX5_wrongBehind_84 ?_
              refine zi_top (y := nI (2 ^ i)) (zshl1 i (by omega)) ?_
              refine zi_goto (tgt := 89) dX5_wrongBehind_85 (by decide) ?_
              refine zi_ior dX5_wrongBehind_89 ?_
              refine zi_top (y := nI (qSetN (qWbP σ k t w) (i + 1))) (by first | exact zset_t (by omega) (by unfold qWbP qIn; simp_all <;> omega) | exact zset_f (by omega) (by unfold qWbP qIn; simp_all <;> omega)) ?_
              refine zi_istore (L' := [(4, .int (nI (qSetN (qWbP σ k t w) (i + 1)))), (7, .int (nI 0)), (6, .int (nI w)), (0, .ref 31), (1, .int (nI k)), (2, .int (nI t)), (3, .int (nI w)), (5, .int (nI i))]) dX5_wrongBehind_90 (by decide) rfl ?_
              refine zi_iincN (L' := [(5, .int (nI (i + 1))), (4, .int (nI (qSetN (qWbP σ k t w) (i + 1)))), (7, .int (nI 0)), (6, .int (nI w)), (0, .ref 31), (1, .int (nI k)), (2, .int (nI t)), (3, .int (nI w))]) dX5_wrongBehind_92 7 rfl (k := 1) (by decide) (by decide) rfl ?_
              refine zi_goto (tgt := 6) dX5_wrongBehind_95 (by decide) ?_
              refine zi_sub [4, 5, 6, 7, 1, 0] rfl ?_
              exact ih (c - 1) (i + 1) (by omega) (by omega)
          · refine zi_iload dX5_wrongBehind_44 0 rfl ?_
            refine zi_aload_n dX5_wrongBehind_46 (i := 0) rfl 1 rfl ?_
            refine zi_getR fd_X5_21_X5 rfl cw0_31 rfl dX5_wrongBehind_47 ?_
            refine zi_iload dX5_wrongBehind_50 6 rfl ?_
            refine zi_ialdN cw0_35 (by omega) (by decide) dX5_wrongBehind_52 ?_
            refine zi_top (y := nI (σ (74 + 4 * i + 3))) (((hR.2 _ (by omega)).2.2.2)) ?_
            refine zi_icmpN_gt (by  omega) (by have := hb (74 + 4 * i + 3); omega) (tgt := 60) dX5_wrongBehind_53 (by decide) (fun c53 => ?_) (fun c53 => ?_)
            · refine zi_iconst (v := nI 0) dX5_wrongBehind_60 (by decide) ?_
              refine zi_istore (L' := [(7, .int (nI 0)), (6, .int (nI w)), (0, .ref 31), (1, .int (nI k)), (2, .int (nI t)), (3, .int (nI w)), (4, .int (nI (qSetN (qWbP σ k t w) i))), (5, .int (nI i))]) dX5_wrongBehind_61 (by decide) rfl ?_
              refine zi_iload dX5_wrongBehind_63 6 rfl ?_
              refine zi_aload_n dX5_wrongBehind_65 (i := 0) rfl 2 rfl ?_
              refine zi_getR fd_X5_9_X5 rfl cw0_31 rfl dX5_wrongBehind_66 ?_
              refine zi_iload dX5_wrongBehind_69 7 rfl ?_
              refine zi_ialdN cw0_32 (by omega) (by decide) dX5_wrongBehind_71 ?_
              refine zi_top (y := nI (σ (74 + 4 * i))) (((hR.2 _ (by omega)).1)) ?_
              refine zi_iload_n dX5_wrongBehind_72 (i := 1) rfl 3 rfl ?_
              refine zi_icmpN_ne (by have := hb (74 + 4 * i); omega) (by  omega) (tgt := 88) dX5_wrongBehind_73 (by decide) (fun c73 => ?_) (fun c73 => ?_)
              · refine zi_iconst (v := nI 0) dX5_wrongBehind_88 (by decide) ?_
                refine zi_ior dX5_wrongBehind_89 ?_
                refine zi_top (y := nI (qSetN (qWbP σ k t w) (i + 1))) (by first | exact zset_t (by omega) (by unfold qWbP qIn; simp_all <;> omega) | exact zset_f (by omega) (by unfold qWbP qIn; simp_all <;> omega)) ?_
                refine zi_istore (L' := [(4, .int (nI (qSetN (qWbP σ k t w) (i + 1)))), (7, .int (nI 0)), (6, .int (nI w)), (0, .ref 31), (1, .int (nI k)), (2, .int (nI t)), (3, .int (nI w)), (5, .int (nI i))]) dX5_wrongBehind_90 (by decide) rfl ?_
                refine zi_iincN (L' := [(5, .int (nI (i + 1))), (4, .int (nI (qSetN (qWbP σ k t w) (i + 1)))), (7, .int (nI 0)), (6, .int (nI w)), (0, .ref 31), (1, .int (nI k)), (2, .int (nI t)), (3, .int (nI w))]) dX5_wrongBehind_92 7 rfl (k := 1) (by decide) (by decide) rfl ?_
                refine zi_goto (tgt := 6) dX5_wrongBehind_95 (by decide) ?_
                refine zi_sub [4, 5, 6, 7, 1, 0] rfl ?_
                exact ih (c - 1) (i + 1) (by omega) (by omega)
              · refine zi_iload dX5_wrongBehind_76 0 rfl ?_
                refine zi_ifN_ne (by decide) (tgt := 88) dX5_wrongBehind_78 (by decide) (fun c => absurd c (by decide)) (fun _ => ?_)
                refine zi_iconst (v := nI 1) dX5_wrongBehind_81 (by decide) ?_
                refine zi_iload dX5_wrongBehind_82 7 rfl ?_
                refine zi_ishl dX5_wrongBehind_84 ?_
                refine zi_top (y := nI (2 ^ i)) (zshl1 i (by omega)) ?_
                refine zi_goto (tgt := 89) dX5_wrongBehind_85 (by decide) ?_
                refine zi_ior dX5_wrongBehind_89 ?_
                refine zi_top (y := nI (qSetN (qWbP σ k t w) (i + 1))) (by first | exact zset_t (by omega) (by unfold qWbP qIn; simp_all <;> omega) | exact zset_f (by omega) (by unfold qWbP qIn; simp_all <;> omega)) ?_
                refine zi_istore (L' := [(4, .int (nI (qSetN (qWbP σ k t w) (i + 1)))), (7, .int (nI 0)), (6, .int (nI w)), (0, .ref 31), (1, .int (nI k)), (2, .int (nI t)), (3, .int (nI w)), (5, .int (nI i))]) dX5_wrongBehind_90 (by decide) rfl ?_
                refine zi_iincN (L' := [(5, .int (nI (i + 1))), (4, .int (nI (qSetN (qWbP σ k t w) (i + 1)))), (7, .int (nI 0)), (6, .int (nI w)), (0, .ref 31), (1, .int (nI k)), (2, .int (nI t)), (3, .int (nI w))]) dX5_wrongBehind_92 7 rfl (k := 1) (by decide) (by decide) rfl ?_
                refine zi_goto (tgt := 6) dX5_wrongBehind_95 (by decide) ?_
                refine zi_sub [4, 5, 6, 7, 1, 0] rfl ?_
                exact ih (c - 1) (i + 1) (by omega) (by omega)
            · refine zi_iconst (v := nI 1) dX5_wrongBehind_56 (by decide) ?_
              refine zi_goto (tgt := 61) dX5_wrongBehind_57 (by decide) ?_
              refine zi_istore (L' := [(7, .int (nI 1)), (6, .int (nI w)), (0, .ref 31), (1, .int (nI k)), (2, .int (nI t)), (3, .int (nI w)), (4, .int (nI (qSetN (qWbP σ k t w) i))), (5, .int (nI i))]) dX5_wrongBehind_61 (by decide) rfl ?_
              refine zi_iload dX5_wrongBehind_63 6 rfl ?_
              refine zi_aload_n dX5_wrongBehind_65 (i := 0) rfl 2 rfl ?_
              refine zi_getR fd_X5_9_X5 rfl cw0_31 rfl dX5_wrongBehind_66 ?_
              refine zi_iload dX5_wrongBehind_69 7 rfl ?_
              refine zi_ialdN cw0_32 (by omega) (by decide) dX5_wrongBehind_71 ?_
              refine zi_top (y := nI (σ (74 + 4 * i))) (((hR.2 _ (by omega)).1)) ?_
              refine zi_iload_n dX5_wrongBehind_72 (i := 1) rfl 3 rfl ?_
              refine zi_icmpN_ne (by have := hb (74 + 4 * i); omega) (by  omega) (tgt := 88) dX5_wrongBehind_73 (by decide) (fun c73 => ?_) (fun c73 => ?_)
              · refine zi_iconst (v := nI 0) dX5_wrongBehind_88 (by decide) ?_
                refine zi_ior dX5_wrongBehind_89 ?_
                refine zi_top (y := nI (qSetN (qWbP σ k t w) (i + 1))) (by first | exact zset_t (by omega) (by unfold qWbP qIn; simp_all <;> omega) | exact zset_f (by omega) (by unfold qWbP qIn; simp_all <;> omega)) ?_
                refine zi_istore (L' := [(4, .int (nI (qSetN (qWbP σ k t w) (i + 1)))), (7, .int (nI 1)), (6, .int (nI w)), (0, .ref 31), (1, .int (nI k)), (2, .int (nI t)), (3, .int (nI w)), (5, .int (nI i))]) dX5_wrongBehind_90 (by decide) rfl ?_
                refine zi_iincN (L' := [(5, .int (nI (i + 1))), (4, .int (nI (qSetN (qWbP σ k t w) (i + 1)))), (7, .int (nI 1)), (6, .int (nI w)), (0, .ref 31), (1, .int (nI k)), (2, .int (nI t)), (3, .int (nI w))]) dX5_wrongBehind_92 7 rfl (k := 1) (by decide) (by decide) rfl ?_
                refine zi_goto (tgt := 6) dX5_wrongBehind_95 (by decide) ?_
                refine zi_sub [4, 5, 6, 7, 1, 0] rfl ?_
                exact ih (c - 1) (i + 1) (by omega) (by omega)
              · refine zi_iload dX5_wrongBehind_76 0 rfl ?_
                refine zi_ifN_ne (by decide) (tgt := 88) dX5_wrongBehind_78 (by decide) (fun _ => ?_) (fun c => absurd c (by decide))
                refine zi_iconst (v := nI 0) dX5_wrongBehind_88 (by decide) ?_
                refine zi_ior dX5_wrongBehind_89 ?_
                refine zi_top (y := nI (qSetN (qWbP σ k t w) (i + 1))) (by first | exact zset_t (by omega) (by unfold qWbP qIn; simp_all <;> omega) | exact zset_f (by omega) (by unfold qWbP qIn; simp_all <;> omega)) ?_
                refine zi_istore (L' := [(4, .int (nI (qSetN (qWbP σ k t w) (i + 1)))), (7, .int (nI 1)), (6, .int (nI w)), (0, .ref 31), (1, .int (nI k)), (2, .int (nI t)), (3, .int (nI w)), (5, .int (nI i))]) dX5_wrongBehind_90 (by decide) rfl ?_
                refine zi_iincN (L' := [(5, .int (nI (i + 1))), (4, .int (nI (qSetN (qWbP σ k t w) (i + 1)))), (7, .int (nI 1)), (6, .int (nI w)), (0, .ref 31), (1, .int (nI k)), (2, .int (nI t)), (3, .int (nI w))]) dX5_wrongBehind_92 7 rfl (k := 1) (by decide) (by decide) rfl ?_
                refine zi_goto (tgt := 6) dX5_wrongBehind_95 (by decide) ?_
                refine zi_sub [4, 5, 6, 7, 1, 0] rfl ?_
                exact ih (c - 1) (i + 1) (by omega) (by omega)
        · refine zi_iload_n dX5_wrongBehind_25 (i := 2) rfl 2 rfl ?_
          refine zi_goto (tgt := 30) dX5_wrongBehind_26 (by decide) ?_
          refine zi_istore (L' := [(6, .int (nI t)), (0, .ref 31), (1, .int (nI k)), (2, .int (nI t)), (3, .int (nI w)), (4, .int (nI (qSetN (qWbP σ k t w) i))), (5, .int (nI i))]) dX5_wrongBehind_30 (by decide) rfl ?_
          refine zi_iload dX5_wrongBehind_32 0 rfl ?_
          refine zi_aload_n dX5_wrongBehind_34 (i := 0) rfl 1 rfl ?_
          refine zi_getR fd_X5_18_X5 rfl cw0_31 rfl dX5_wrongBehind_35 ?_
          refine zi_iload dX5_wrongBehind_38 6 rfl ?_
          refine zi_ialdN cw0_34 (by omega) (by decide) dX5_wrongBehind_40 ?_
          refine zi_top (y := nI (σ (74 + 4 * i + 2))) (((hR.2 _ (by omega)).2.2.1)) ?_
          refine zi_icmpN_lt (by  omega) (by have := hb (74 + 4 * i + 2); omega) (tgt := 60) dX5_wrongBehind_41 (by decide) (fun c41 => ?_) (fun c41 => ?_)
          · refine zi_iconst (v := nI 0) dX5_wrongBehind_60 (by decide) ?_
            refine zi_istore (L' := [(7, .int (nI 0)), (6, .int (nI t)), (0, .ref 31), (1, .int (nI k)), (2, .int (nI t)), (3, .int (nI w)), (4, .int (nI (qSetN (qWbP σ k t w) i))), (5, .int (nI i))]) dX5_wrongBehind_61 (by decide) rfl ?_
            refine zi_iload dX5_wrongBehind_63 6 rfl ?_
            refine zi_aload_n dX5_wrongBehind_65 (i := 0) rfl 2 rfl ?_
            refine zi_getR fd_X5_9_X5 rfl cw0_31 rfl dX5_wrongBehind_66 ?_
            refine zi_iload dX5_wrongBehind_69 7 rfl ?_
            refine zi_ialdN cw0_32 (by omega) (by decide) dX5_wrongBehind_71 ?_
            refine zi_top (y := nI (σ (74 + 4 * i))) (((hR.2 _ (by omega)).1)) ?_
            refine zi_iload_n dX5_wrongBehind_72 (i := 1) rfl 3 rfl ?_
            refine zi_icmpN_ne (by have := hb (74 + 4 * i); omega) (by  omega) (tgt := 88) dX5_wrongBehind_73 (by decide) (fun c73 => ?_) (fun c73 => ?_)
            · refine zi_iconst (v := nI 0) dX5_wrongBehind_88 (by decide) ?_
              refine zi_ior dX5_wrongBehind_89 ?_
              refine zi_top (y := nI (qSetN (qWbP σ k t w) (i + 1))) (by first | exact zset_t (by omega) (by unfold qWbP qIn; simp_all <;> omega) | exact zset_f (by omega) (by unfold qWbP qIn; simp_all <;> omega)) ?_
              refine zi_istore (L' := [(4, .int (nI (qSetN (qWbP σ k t w) (i + 1)))), (7, .int (nI 0)), (6, .int (nI t)), (0, .ref 31), (1, .int (nI k)), (2, .int (nI t)), (3, .int (nI w)), (5, .int (nI i))]) dX5_wrongBehind_90 (by decide) rfl ?_
              refine zi_iincN (L' := [(5, .int (nI (i + 1))), (4, .int (nI (qSetN (qWbP σ k t w) (i + 1)))), (7, .int (nI 0)), (6, .int (nI t)), (0, .ref 31), (1, .int (nI k)), (2, .int (nI t)), (3, .int (nI w))]) dX5_wrongBehind_92 7 rfl (k := 1) (by decide) (by decide) rfl ?_
              refine zi_goto (tgt := 6) dX5_wrongBehind_95 (by decide) ?_
              refine zi_sub [4, 5, 6, 7, 1, 0] rfl ?_
              exact ih (c - 1) (i + 1) (by omega) (by omega)
            · refine zi_iload dX5_wrongBehind_76 0 rfl ?_
              refine zi_ifN_ne (by decide) (tgt := 88) dX5_wrongBehind_78 (by decide) (fun c => absurd c (by decide)) (fun _ => ?_)
              refine zi_iconst (v := nI 1) dX5_wrongBehind_81 (by decide) ?_
              refine zi_iload dX5_wrongBehind_82 7 rfl ?_
              refine zi_ishl dX5_wrongBehind_84 ?_
              refine zi_top (y := nI (2 ^ i)) (zshl1 i (by omega)) ?_
              refine zi_goto (tgt := 89) dX5_wrongBehind_85 (by decide) ?_
              refine zi_ior dX5_wrongBehind_89 ?_
              refine zi_top (y := nI (qSetN (qWbP σ k t w) (i + 1))) (by first | exact zset_t (by omega) (by unfold qWbP qIn; simp_all <;> omega) | exact zset_f (by omega) (by unfold qWbP qIn; simp_all <;> omega)) ?_
              refine zi_istore (L' := [(4, .int (nI (qSetN (qWbP σ k t w) (i + 1)))), (7, .int (nI 0)), (6, .int (nI t)), (0, .ref 31), (1, .int (nI k)), (2, .int (nI t)), (3, .int (nI w)), (5, .int (nI i))]) dX5_wrongBehind_90 (by decide) rfl ?_
              refine zi_iincN (L' := [(5, .int (nI (i + 1))), (4, .int (nI (qSetN (qWbP σ k t w) (i + 1)))), (7, .int (nI 0)), (6, .int (nI t)), (0, .ref 31), (1, .int (nI k)), (2, .int (nI t)), (3, .int (nI w))]) dX5_wrongBehind_92 7 rfl (k := 1) (by decide) (by decide) rfl ?_
              refine zi_goto (tgt := 6) dX5_wrongBehind_95 (by decide) ?_
              refine zi_sub [4, 5, 6, 7, 1, 0] rfl ?_
              exact ih (c - 1) (i + 1) (by omega) (by omega)
          · refine zi_iload dX5_wrongBehind_44 0 rfl ?_
            refine zi_aload_n dX5_wrongBehind_46 (i := 0) rfl 1 rfl ?_
            refine zi_getR fd_X5_21_X5 rfl cw0_31 rfl dX5_wrongBehind_47 ?_
            refine zi_iload dX5_wrongBehind_50 6 rfl ?_
            refine zi_ialdN cw0_35 (by omega) (by decide) dX5_wrongBehind_52 ?_
            refine zi_top (y := nI (σ (74 + 4 * i + 3))) (((hR.2 _ (by omega)).2.2.2)) ?_
            refine zi_icmpN_gt (by  omega) (by have := hb (74 + 4 * i + 3); omega) (tgt := 60) dX5_wrongBehind_53 (by decide) (fun c53 => ?_) (fun c53 => ?_)
            · refine zi_iconst (v := nI 0) dX5_wrongBehind_60 (by decide) ?_
              refine zi_istore (L' := [(7, .int (nI 0)), (6, .int (nI t)), (0, .ref 31), (1, .int (nI k)), (2, .int (nI t)), (3, .int (nI w)), (4, .int (nI (qSetN (qWbP σ k t w) i))), (5, .int (nI i))]) dX5_wrongBehind_61 (by decide) rfl ?_
              refine zi_iload dX5_wrongBehind_63 6 rfl ?_
              refine zi_aload_n dX5_wrongBehind_65 (i := 0) rfl 2 rfl ?_
              refine zi_getR fd_X5_9_X5 rfl cw0_31 rfl dX5_wrongBehind_66 ?_
              refine zi_iload dX5_wrongBehind_69 7 rfl ?_
              refine zi_ialdN cw0_32 (by omega) (by decide) dX5_wrongBehind_71 ?_
              refine zi_top (y := nI (σ (74 + 4 * i))) (((hR.2 _ (by omega)).1)) ?_
              refine zi_iload_n dX5_wrongBehind_72 (i := 1) rfl 3 rfl ?_
              refine zi_icmpN_ne (by have := hb (74 + 4 * i); omega) (by  omega) (tgt := 88) dX5_wrongBehind_73 (by decide) (fun c73 => ?_) (fun c73 => ?_)
              · refine zi_iconst (v := nI 0) dX5_wrongBehind_88 (by decide) ?_
                refine zi_ior dX5_wrongBehind_89 ?_
                refine zi_top (y := nI (qSetN (qWbP σ k t w) (i + 1))) (by first | exact zset_t (by omega) (by unfold qWbP qIn; simp_all <;> omega) | exact zset_f (by omega) (by unfold qWbP qIn; simp_all <;> omega)) ?_
                refine zi_istore (L' := [(4, .int (nI (qSetN (qWbP σ k t w) (i + 1)))), (7, .int (nI 0)), (6, .int (nI t)), (0, .ref 31), (1, .int (nI k)), (2, .int (nI t)), (3, .int (nI w)), (5, .int (nI i))]) dX5_wrongBehind_90 (by decide) rfl ?_
                refine zi_iincN (L' := [(5, .int (nI (i + 1))), (4, .int (nI (qSetN (qWbP σ k t w) (i + 1)))), (7, .int (nI 0)), (6, .int (nI t)), (0, .ref 31), (1, .int (nI k)), (2, .int (nI t)), (3, .int (nI w))]) dX5_wrongBehind_92 7 rfl (k := 1) (by decide) (by decide) rfl ?_
                refine zi_goto (tgt := 6) dX5_wrongBehind_95 (by decide) ?_
                refine zi_sub [4, 5, 6, 7, 1, 0] rfl ?_
                exact ih (c - 1) (i + 1) (by omega) (by omega)
              · refine zi_iload dX5_wrongBehind_76 0 rfl ?_
                refine zi_ifN_ne (by decide) (tgt := 88) dX5_wrongBehind_78 (by decide) (fun c => absurd c (by decide)) (fun _ => ?_)
                refine zi_iconst (v := nI 1) dX5_wrongBehind_81 (by decide) ?_
                refine zi_iload dX5_wrongBehind_82 7 rfl ?_
                refine zi_ishl dX5_wrongBehind_84 ?_
                refine zi_top (y := nI (2 ^ i)) (zshl1 i (by omega)) ?_
                refine zi_goto (tgt := 89) dX5_wrongBehind_85 (by decide) ?_
                refine zi_ior dX5_wrongBehind_89 ?_
                refine zi_top (y := nI (qSetN (qWbP σ k t w) (i + 1))) (by first | exact zset_t (by omega) (by unfold qWbP qIn; simp_all <;> omega) | exact zset_f (by omega) (by unfold qWbP qIn; simp_all <;> omega)) ?_
                refine zi_istore (L' := [(4, .int (nI (qSetN (qWbP σ k t w) (i + 1)))), (7, .int (nI 0)), (6, .int (nI t)), (0, .ref 31), (1, .int (nI k)), (2, .int (nI t)), (3, .int (nI w)), (5, .int (nI i))]) dX5_wrongBehind_90 (by decide) rfl ?_
                refine zi_iincN (L' := [(5, .int (nI (i + 1))), (4, .int (nI (qSetN (qWbP σ k t w) (i + 1)))), (7, .int (nI 0)), (6, .int (nI t)), (0, .ref 31), (1, .int (nI k)), (2, .int (nI t)), (3, .int (nI w))]) dX5_wrongBehind_92 7 rfl (k := 1) (by decide) (by decide) rfl ?_
                refine zi_goto (tgt := 6) dX5_wrongBehind_95 (by decide) ?_
                refine zi_sub [4, 5, 6, 7, 1, 0] rfl ?_
                exact ih (c - 1) (i + 1) (by omega) (by omega)
            · refine zi_iconst (v := nI 1) dX5_wrongBehind_56 (by decide) ?_
              refine zi_goto (tgt := 61) dX5_wrongBehind_57 (by decide) ?_
              refine zi_istore (L' := [(7, .int (nI 1)), (6, .int (nI t)), (0, .ref 31), (1, .int (nI k)), (2, .int (nI t)), (3, .int (nI w)), (4, .int (nI (qSetN (qWbP σ k t w) i))), (5, .int (nI i))]) dX5_wrongBehind_61 (by decide) rfl ?_
              refine zi_iload dX5_wrongBehind_63 6 rfl ?_
              refine zi_aload_n dX5_wrongBehind_65 (i := 0) rfl 2 rfl ?_
              refine zi_getR fd_X5_9_X5 rfl cw0_31 rfl dX5_wrongBehind_66 ?_
              refine zi_iload dX5_wrongBehind_69 7 rfl ?_
              refine zi_ialdN cw0_32 (by omega) (by decide) dX5_wrongBehind_71 ?_
              refine zi_top (y := nI (σ (74 + 4 * i))) (((hR.2 _ (by omega)).1)) ?_
              refine zi_iload_n dX5_wrongBehind_72 (i := 1) rfl 3 rfl ?_
              refine zi_icmpN_ne (by have := hb (74 + 4 * i); omega) (by  omega) (tgt := 88) dX5_wrongBehind_73 (by decide) (fun c73 => ?_) (fun c73 => ?_)
              · refine zi_iconst (v := nI 0) dX5_wrongBehind_88 (by decide) ?_
                refine zi_ior dX5_wrongBehind_89 ?_
                refine zi_top (y := nI (qSetN (qWbP σ k t w) (i + 1))) (by first | exact zset_t (by omega) (by unfold qWbP qIn; simp_all <;> omega) | exact zset_f (by omega) (by unfold qWbP qIn; simp_all <;> omega)) ?_
                refine zi_istore (L' := [(4, .int (nI (qSetN (qWbP σ k t w) (i + 1)))), (7, .int (nI 1)), (6, .int (nI t)), (0, .ref 31), (1, .int (nI k)), (2, .int (nI t)), (3, .int (nI w)), (5, .int (nI i))]) dX5_wrongBehind_90 (by decide) rfl ?_
                refine zi_iincN (L' := [(5, .int (nI (i + 1))), (4, .int (nI (qSetN (qWbP σ k t w) (i + 1)))), (7, .int (nI 1)), (6, .int (nI t)), (0, .ref 31), (1, .int (nI k)), (2, .int (nI t)), (3, .int (nI w))]) dX5_wrongBehind_92 7 rfl (k := 1) (by decide) (by decide) rfl ?_
                refine zi_goto (tgt := 6) dX5_wrongBehind_95 (by decide) ?_
                refine zi_sub [4, 5, 6, 7, 1, 0] rfl ?_
                exact ih (c - 1) (i + 1) (by omega) (by omega)
              · refine zi_iload dX5_wrongBehind_76 0 rfl ?_
                refine zi_ifN_ne (by decide) (tgt := 88) dX5_wrongBehind_78 (by decide) (fun _ => ?_) (fun c => absurd c (by decide))
                refine zi_iconst (v := nI 0) dX5_wrongBehind_88 (by decide) ?_
                refine zi_ior dX5_wrongBehind_89 ?_
                refine zi_top (y := nI (qSetN (qWbP σ k t w) (i + 1))) (by first | exact zset_t (by omega) (by unfold qWbP qIn; simp_all <;> omega) | exact zset_f (by omega) (by unfold qWbP qIn; simp_all <;> omega)) ?_
                refine zi_istore (L' := [(4, .int (nI (qSetN (qWbP σ k t w) (i + 1)))), (7, .int (nI 1)), (6, .int (nI t)), (0, .ref 31), (1, .int (nI k)), (2, .int (nI t)), (3, .int (nI w)), (5, .int (nI i))]) dX5_wrongBehind_90 (by decide) rfl ?_
                refine zi_iincN (L' := [(5, .int (nI (i + 1))), (4, .int (nI (qSetN (qWbP σ k t w) (i + 1)))), (7, .int (nI 1)), (6, .int (nI t)), (0, .ref 31), (1, .int (nI k)), (2, .int (nI t)), (3, .int (nI w))]) dX5_wrongBehind_92 7 rfl (k := 1) (by decide) (by decide) rfl ?_
                refine zi_goto (tgt := 6) dX5_wrongBehind_95 (by decide) ?_
                refine zi_sub [4, 5, 6, 7, 1, 0] rfl ?_
                exact ih (c - 1) (i + 1) (by omega) (by omega)
  refine zi_sub [2, 3, 4, 5, 1, 0] rfl ?_
  exact lp (σ 8 + 1) (σ 8) 0 (by omega) (by omega)
set_option maxRecDepth 100000 in
set_option maxHeartbeats 4000000 in
theorem ok_X5_wrongBy {M : zMem} {σ : Nat → Nat} {k g w : Nat} (hR : zRp 31 M σ) (hD : ∀ j, j < 16 → M 22 j = nI (σ (10 + j))) (hk : qOk σ) (hrp : qRpOk σ) (hk1 : 1 ≤ k) (hk5 : k ≤ 5) (hg : g ≤ 9) (hw : w ≤ 9) : zOkI zw0 2 mX5_wrongBy [.ref 31, .int (nI k), .int (nI g), .int (nI w), .ref 22] M (nI (qWt σ (qStr σ k g w))) := by
  have hb := hk.1
  have h86 := hk.2.2.2.2.2.2.2.2.1
  refine zOk_of (by decide +kernel) (fun _ => Nat.le_of_ble_eq_true rfl) (L := [(0, .ref 31), (1, .int (nI k)), (2, .int (nI g)), (3, .int (nI w)), (4, .ref 22)]) rfl ?_
  refine zi_iload_n dX5_wrongBy_0 (i := 3) rfl 3 rfl ?_
  refine zi_istore (L' := [(5, .int (nI w)), (0, .ref 31), (1, .int (nI k)), (2, .int (nI g)), (3, .int (nI w)), (4, .ref 22)]) dX5_wrongBy_1 (by decide) rfl ?_
  refine zi_bipush (v := nI 26) dX5_wrongBy_3 (by decide) ?_
  refine zi_istore (L' := [(6, .int (nI 26)), (5, .int (nI w)), (0, .ref 31), (1, .int (nI k)), (2, .int (nI g)), (3, .int (nI w)), (4, .ref 22)]) dX5_wrongBy_5 (by decide) rfl ?_
  refine zi_aload_n dX5_wrongBy_7 (i := 0) rfl 2 rfl ?_
  refine zi_iconst (v := nI 0) dX5_wrongBy_8 (by decide) ?_
  refine zi_iload dX5_wrongBy_9 0 rfl ?_
  refine zi_iload dX5_wrongBy_11 1 rfl ?_
  refine zcI (zc_V (as := [.int (nI 0), .int (nI 26), .int (nI w)]) lk_X5_57 ce_X5_wrongBehind cw0_31 rfl rfl dX5_wrongBy_13 (by decide) rfl rfl (Nat.le_of_ble_eq_true rfl)) (zOkI_eq (ok_X5_wrongBehind hR hk (by omega) (by omega) (by omega)) (congrArg nI (qWj_0 σ (qStr σ k g w)))) ?_
  refine zi_istore (L' := [(7, .int (nI (qWj σ (qStr σ k g w) 0))), (6, .int (nI 26)), (5, .int (nI w)), (0, .ref 31), (1, .int (nI k)), (2, .int (nI g)), (3, .int (nI w)), (4, .ref 22)]) dX5_wrongBy_16 (by decide) rfl ?_
  refine zi_iconst (v := nI 0) dX5_wrongBy_18 (by decide) ?_
  refine zi_istore (L' := [(8, .int (nI 0)), (7, .int (nI (qWj σ (qStr σ k g w) 0))), (6, .int (nI 26)), (5, .int (nI w)), (0, .ref 31), (1, .int (nI k)), (2, .int (nI g)), (3, .int (nI w)), (4, .ref 22)]) dX5_wrongBy_19 (by decide) rfl ?_
  have lp : ∀ (n i : Nat), 15 - i < n → i ≤ 15 → zRn zw0 2 mX5_wrongBy (zQI M (nI (qWt σ (qStr σ k g w)))) 21 [(0, .ref 31), (1, .int (nI k)), (2, .int (nI g)), (3, .int (nI w)), (4, .ref 22), (5, .int (nI (((qStr σ k g w) i).2))), (6, .int (nI (((qStr σ k g w) i).1))), (7, .int (nI (qWj σ (qStr σ k g w) i))), (8, .int (nI i))] [] M := by
    intro n
    induction n with
    | zero => intro i h1; omega
    | succ n ih =>
      intro i h1 h2
      obtain ⟨hq1, hq2⟩ := qStr_le hk hw i (by omega) (kind := k) (grief := g)
      obtain ⟨hq3, hq4⟩ := qStr_le hk hw (i + 1) (by omega) (kind := k) (grief := g)
      have hdk := hk.2.2.2.2.2.2.2.2.2.1 i (by omega)
      have hql := qAsks_le k 0 i (by omega)
      have hdl := qDraws_le (kind := k) (night := i) hg hq4
      have hwl := qWj_lt h86 (qStr σ k g w) i
      have hwl2 := qWw_lt h86 (i + 1) ((qStr σ k g w) (i + 1)).1 ((qStr σ k g w) (i + 1)).2
      refine zi_iload dX5_wrongBy_21 8 rfl ?_
      refine zi_bipush (v := nI 15) dX5_wrongBy_23 (by decide) ?_
      refine zi_icmpN_ge (by  omega) (by decide) (tgt := 123) dX5_wrongBy_25 (by decide) (fun c25 => ?_) (fun c25 => ?_)
      · refine zi_iload dX5_wrongBy_123 7 rfl ?_
        refine zi_retI rfl rfl dX5_wrongBy_125 ?_
        obtain rfl : i = 15 := by omega
        rw [qWj_e hrp]
      · refine zi_iload dX5_wrongBy_28 5 rfl ?_
        refine zi_aload dX5_wrongBy_30 4 rfl ?_
        refine zi_iload dX5_wrongBy_32 8 rfl ?_
        refine zi_ialdN cw0_22 (by omega) (by decide) dX5_wrongBy_34 ?_
        refine zi_top (y := nI (σ (10 + i))) ((hD _ (by omega))) ?_
        refine zcI (zc_N (as := [.int (nI (((qStr σ k g w) i).2)), .int (nI (σ (10 + i)))]) lk_X5_61 ce_X11_rainBehind dX5_wrongBy_35 (by decide) rfl rfl (Nat.le_of_ble_eq_true rfl)) (zOkI_eq (ok_X11_rainBehind (by omega) (by omega)) (congrArg nI (rfl : qRain ((qStr σ k g w) i).2 (σ (10 + i)) = ((qStr σ k g w) (i + 1)).2))) ?_
        refine zi_istore (L' := [(5, .int (nI (((qStr σ k g w) (i + 1)).2))), (0, .ref 31), (1, .int (nI k)), (2, .int (nI g)), (3, .int (nI w)), (4, .ref 22), (6, .int (nI (((qStr σ k g w) i).1))), (7, .int (nI (qWj σ (qStr σ k g w) i))), (8, .int (nI i))]) dX5_wrongBy_38 (by decide) rfl ?_
        refine zi_iload_n dX5_wrongBy_40 (i := 1) rfl 2 rfl ?_
        refine zi_iconst (v := nI 0) dX5_wrongBy_41 (by decide) ?_
        refine zi_iload dX5_wrongBy_42 8 rfl ?_
        refine zcI (zc_N (as := [.int (nI k), .int (nI 0), .int (nI i)]) lk_X5_65 ce_X11_asks dX5_wrongBy_44 (by decide) rfl rfl (Nat.le_of_ble_eq_true rfl)) (ok_X11_asks (by omega) (by omega) (by omega) (by omega)) ?_
        refine zi_istore (L' := [(9, .int (nI (qAsks k 0 i))), (5, .int (nI (((qStr σ k g w) (i + 1)).2))), (0, .ref 31), (1, .int (nI k)), (2, .int (nI g)), (3, .int (nI w)), (4, .ref 22), (6, .int (nI (((qStr σ k g w) i).1))), (7, .int (nI (qWj σ (qStr σ k g w) i))), (8, .int (nI i))]) dX5_wrongBy_47 (by decide) rfl ?_
        refine zi_iload dX5_wrongBy_49 9 rfl ?_
        refine zi_iconst (v := nI 2) dX5_wrongBy_51 (by decide) ?_
        refine zi_iremN (by  omega) (by decide) (by decide) dX5_wrongBy_52 ?_
        refine zi_ifN_ne (by  omega) (tgt := 91) dX5_wrongBy_53 (by decide) (fun c53 => ?_) (fun c53 => ?_)
        · refine zi_iload dX5_wrongBy_91 7 rfl ?_
          refine zi_iload dX5_wrongBy_93 1 rfl ?_
          refine zcI (zc_N (as := [.int (nI (((qStr σ k g w) i).1)), .int (nI (((qStr σ k g w) (i + 1)).2))]) lk_X5_72 ce_X11_trayBehind dX5_wrongBy_95 (by decide) rfl rfl (Nat.le_of_ble_eq_true rfl)) (zOkI_eq (ok_X11_trayBehind (by omega) (by omega)) (congrArg nI (show min 99 (((qStr σ k g w) i).1 + 14 - ((qStr σ k g w) (i + 1)).2) = ((qStr σ k g w) (i + 1)).1 from by show _ = min 99 ((if i % 2 = 0 ∧ qAsks k 0 i ≤ ((qStr σ k g w) i).1 then ((qStr σ k g w) i).1 - qAsks k 0 i + (if qDraws k g ((qStr σ k g w) (i + 1)).2 i < 6 then 1 else 0) else ((qStr σ k g w) i).1) + 14 - ((qStr σ k g w) (i + 1)).2); first | (rw [if_pos (by omega), if_pos (by omega)]; done) | (rw [if_pos (by omega), if_neg (by omega)]; done) | (rw [if_neg (by omega)]; done)))) ?_
          refine zi_istore (L' := [(6, .int (nI (((qStr σ k g w) (i + 1)).1))), (9, .int (nI (qAsks k 0 i))), (5, .int (nI (((qStr σ k g w) (i + 1)).2))), (0, .ref 31), (1, .int (nI k)), (2, .int (nI g)), (3, .int (nI w)), (4, .ref 22), (7, .int (nI (qWj σ (qStr σ k g w) i))), (8, .int (nI i))]) dX5_wrongBy_98 (by decide) rfl ?_
          refine zi_iload dX5_wrongBy_100 8 rfl ?_
          refine zi_aload_n dX5_wrongBy_102 (i := 0) rfl 3 rfl ?_
          refine zi_iload dX5_wrongBy_103 9 rfl ?_
          refine zi_iconst (v := nI 1) dX5_wrongBy_105 (by decide) ?_
          refine zi_iaddN dX5_wrongBy_106 ?_
          refine zi_iload dX5_wrongBy_107 0 rfl ?_
          refine zi_iload dX5_wrongBy_109 2 rfl ?_
          refine zcI (zc_V (as := [.int (nI (i + 1)), .int (nI (((qStr σ k g w) (i + 1)).1)), .int (nI (((qStr σ k g w) (i + 1)).2))]) lk_X5_57 ce_X5_wrongBehind cw0_31 rfl rfl dX5_wrongBy_111 (by decide) rfl rfl (Nat.le_of_ble_eq_true rfl)) (ok_X5_wrongBehind hR hk (by omega) (by omega) (by omega)) ?_
          refine zi_ior dX5_wrongBy_114 ?_
          refine zi_top (y := nI (qWj σ (qStr σ k g w) (i + 1))) ((zor2 _ _).trans (congrArg nI (qWj_s σ (qStr σ k g w) i))) ?_
          refine zi_istore (L' := [(7, .int (nI (qWj σ (qStr σ k g w) (i + 1)))), (6, .int (nI (((qStr σ k g w) (i + 1)).1))), (9, .int (nI (qAsks k 0 i))), (5, .int (nI (((qStr σ k g w) (i + 1)).2))), (0, .ref 31), (1, .int (nI k)), (2, .int (nI g)), (3, .int (nI w)), (4, .ref 22), (8, .int (nI i))]) dX5_wrongBy_115 (by decide) rfl ?_
          refine zi_iincN (L' := [(8, .int (nI (i + 1))), (7, .int (nI (qWj σ (qStr σ k g w) (i + 1)))), (6, .int (nI (((qStr σ k g w) (i + 1)).1))), (9, .int (nI (qAsks k 0 i))), (5, .int (nI (((qStr σ k g w) (i + 1)).2))), (0, .ref 31), (1, .int (nI k)), (2, .int (nI g)), (3, .int (nI w)), (4, .ref 22)]) dX5_wrongBy_117 9 rfl (k := 1) (by decide) (by decide) rfl ?_
          refine zi_goto (tgt := 21) dX5_wrongBy_120 (by decide) ?_
          refine zi_sub [5, 6, 7, 8, 9, 4, 2, 1, 0] rfl ?_
          exact ih (i + 1) (by omega) (by omega)
        · refine zi_iload dX5_wrongBy_56 7 rfl ?_
          refine zi_iload dX5_wrongBy_58 0 rfl ?_
          refine zi_icmpN_lt (by have := hb k; omega) (by  omega) (tgt := 91) dX5_wrongBy_60 (by decide) (fun c60 => ?_) (fun c60 => ?_)
          · refine zi_iload dX5_wrongBy_91 7 rfl ?_
            refine zi_iload dX5_wrongBy_93 1 rfl ?_
            refine zcI (zc_N (as := [.int (nI (((qStr σ k g w) i).1)), .int (nI (((qStr σ k g w) (i + 1)).2))]) lk_X5_72 ce_X11_trayBehind dX5_wrongBy_95 (by decide) rfl rfl (Nat.le_of_ble_eq_true rfl)) (zOkI_eq (ok_X11_trayBehind (by omega) (by omega)) (congrArg nI (show min 99 (((qStr σ k g w) i).1 + 14 - ((qStr σ k g w) (i + 1)).2) = ((qStr σ k g w) (i + 1)).1 from by show _ = min 99 ((if i % 2 = 0 ∧ qAsks k 0 i ≤ ((qStr σ k g w) i).1 then ((qStr σ k g w) i).1 - qAsks k 0 i + (if qDraws k g ((qStr σ k g w) (i + 1)).2 i < 6 then 1 else 0) else ((qStr σ k g w) i).1) + 14 - ((qStr σ k g w) (i + 1)).2); first | (rw [if_pos (by omega), if_pos (by omega)]; done) | (rw [if_pos (by omega), if_neg (by omega)]; done) | (rw [if_neg (by omega)]; done)))) ?_
            refine zi_istore (L' := [(6, .int (nI (((qStr σ k g w) (i + 1)).1))), (9, .int (nI (qAsks k 0 i))), (5, .int (nI (((qStr σ k g w) (i + 1)).2))), (0, .ref 31), (1, .int (nI k)), (2, .int (nI g)), (3, .int (nI w)), (4, .ref 22), (7, .int (nI (qWj σ (qStr σ k g w) i))), (8, .int (nI i))]) dX5_wrongBy_98 (by decide) rfl ?_
            refine zi_iload dX5_wrongBy_100 8 rfl ?_
            refine zi_aload_n dX5_wrongBy_102 (i := 0) rfl 3 rfl ?_
            refine zi_iload dX5_wrongBy_103 9 rfl ?_
            refine zi_iconst (v := nI 1) dX5_wrongBy_105 (by decide) ?_
            refine zi_iaddN dX5_wrongBy_106 ?_
            refine zi_iload dX5_wrongBy_107 0 rfl ?_
            refine zi_iload dX5_wrongBy_109 2 rfl ?_
            refine zcI (zc_V (as := [.int (nI (i + 1)), .int (nI (((qStr σ k g w) (i + 1)).1)), .int (nI (((qStr σ k g w) (i + 1)).2))]) lk_X5_57 ce_X5_wrongBehind cw0_31 rfl rfl dX5_wrongBy_111 (by decide) rfl rfl (Nat.le_of_ble_eq_true rfl)) (ok_X5_wrongBehind hR hk (by omega) (by omega) (by omega)) ?_
            refine zi_ior dX5_wrongBy_114 ?_
            refine zi_top (y := nI (qWj σ (qStr σ k g w) (i + 1))) ((zor2 _ _).trans (congrArg nI (qWj_s σ (qStr σ k g w) i))) ?_
            refine zi_istore (L' := [(7, .int (nI (qWj σ (qStr σ k g w) (i + 1)))), (6, .int (nI (((qStr σ k g w) (i + 1)).1))), (9, .int (nI (qAsks k 0 i))), (5, .int (nI (((qStr σ k g w) (i + 1)).2))), (0, .ref 31), (1, .int (nI k)), (2, .int (nI g)), (3, .int (nI w)), (4, .ref 22), (8, .int (nI i))]) dX5_wrongBy_115 (by decide) rfl ?_
            refine zi_iincN (L' := [(8, .int (nI (i + 1))), (7, .int (nI (qWj σ (qStr σ k g w) (i + 1)))), (6, .int (nI (((qStr σ k g w) (i + 1)).1))), (9, .int (nI (qAsks k 0 i))), (5, .int (nI (((qStr σ k g w) (i + 1)).2))), (0, .ref 31), (1, .int (nI k)), (2, .int (nI g)), (3, .int (nI w)), (4, .ref 22)]) dX5_wrongBy_117 9 rfl (k := 1) (by decide) (by decide) rfl ?_
            refine zi_goto (tgt := 21) dX5_wrongBy_120 (by decide) ?_
            refine zi_sub [5, 6, 7, 8, 9, 4, 2, 1, 0] rfl ?_
            exact ih (i + 1) (by omega) (by omega)
          · refine zi_iload dX5_wrongBy_63 7 rfl ?_
            refine zi_iload_n dX5_wrongBy_65 (i := 1) rfl 3 rfl ?_
            refine zi_iload_n dX5_wrongBy_66 (i := 2) rfl 4 rfl ?_
            refine zi_iload dX5_wrongBy_67 1 rfl ?_
            refine zi_iload dX5_wrongBy_69 9 rfl ?_
            refine zcI (zc_N (as := [.int (nI k), .int (nI g), .int (nI (((qStr σ k g w) (i + 1)).2)), .int (nI i)]) lk_X5_68 ce_X11_draws dX5_wrongBy_71 (by decide) rfl rfl (Nat.le_of_ble_eq_true rfl)) (ok_X11_draws (by omega) (by omega) (by omega) (by omega) (by omega)) ?_
            refine zi_bipush (v := nI 6) dX5_wrongBy_74 (by decide) ?_
            refine zi_icmpN_ge (by have := hb k; omega) (by decide) (tgt := 86) dX5_wrongBy_76 (by decide) (fun c76 => ?_) (fun c76 => ?_)
            · refine zi_iload dX5_wrongBy_86 0 rfl ?_
              refine zi_isub dX5_wrongBy_88 ?_
              refine zi_top (y := nI (((qStr σ k g w) i).1 - qAsks k 0 i)) (pk_sub (by omega)) ?_
              refine zi_istore (L' := [(6, .int (nI (((qStr σ k g w) i).1 - qAsks k 0 i))), (9, .int (nI (qAsks k 0 i))), (5, .int (nI (((qStr σ k g w) (i + 1)).2))), (0, .ref 31), (1, .int (nI k)), (2, .int (nI g)), (3, .int (nI w)), (4, .ref 22), (7, .int (nI (qWj σ (qStr σ k g w) i))), (8, .int (nI i))]) dX5_wrongBy_89 (by decide) rfl ?_
              refine zi_iload dX5_wrongBy_91 0 rfl ?_
              refine zi_iload dX5_wrongBy_93 2 rfl ?_
              refine zcI (zc_N (as := [.int (nI (((qStr σ k g w) i).1 - qAsks k 0 i)), .int (nI (((qStr σ k g w) (i + 1)).2))]) lk_X5_72 ce_X11_trayBehind dX5_wrongBy_95 (by decide) rfl rfl (Nat.le_of_ble_eq_true rfl)) (zOkI_eq (ok_X11_trayBehind (by omega) (by omega)) (congrArg nI (show min 99 (((qStr σ k g w) i).1 - qAsks k 0 i + 14 - ((qStr σ k g w) (i + 1)).2) = ((qStr σ k g w) (i + 1)).1 from by show _ = min 99 ((if i % 2 = 0 ∧ qAsks k 0 i ≤ ((qStr σ k g w) i).1 then ((qStr σ k g w) i).1 - qAsks k 0 i + (if qDraws k g ((qStr σ k g w) (i + 1)).2 i < 6 then 1 else 0) else ((qStr σ k g w) i).1) + 14 - ((qStr σ k g w) (i + 1)).2); first | (rw [if_pos (by omega), if_pos (by omega)]; done) | (rw [if_pos (by omega), if_neg (by omega)]; done) | (rw [if_neg (by omega)]; done)))) ?_
              refine zi_istore (L' := [(6, .int (nI (((qStr σ k g w) (i + 1)).1))), (9, .int (nI (qAsks k 0 i))), (5, .int (nI (((qStr σ k g w) (i + 1)).2))), (0, .ref 31), (1, .int (nI k)), (2, .int (nI g)), (3, .int (nI w)), (4, .ref 22), (7, .int (nI (qWj σ (qStr σ k g w) i))), (8, .int (nI i))]) dX5_wrongBy_98 (by decide) rfl ?_
              refine zi_iload dX5_wrongBy_100 8 rfl ?_
              refine zi_aload_n dX5_wrongBy_102 (i := 0) rfl 3 rfl ?_
              refine zi_iload dX5_wrongBy_103 9 rfl ?_
              refine zi_iconst (v := nI 1) dX5_wrongBy_105 (by decide) ?_
              refine zi_iaddN dX5_wrongBy_106 ?_
              refine zi_iload dX5_wrongBy_107 0 rfl ?_
              refine zi_iload dX5_wrongBy_109 2 rfl ?_
              refine zcI (zc_V (as := [.int (nI (i + 1)), .int (nI (((qStr σ k g w) (i + 1)).1)), .int (nI (((qStr σ k g w) (i + 1)).2))]) lk_X5_57 ce_X5_wrongBehind cw0_31 rfl rfl dX5_wrongBy_111 (by decide) rfl rfl (Nat.le_of_ble_eq_true rfl)) (ok_X5_wrongBehind hR hk (by omega) (by omega) (by omega)) ?_
              refine zi_ior dX5_wrongBy_114 ?_
              refine zi_top (y := nI (qWj σ (qStr σ k g w) (i + 1))) ((zor2 _ _).trans (congrArg nI (qWj_s σ (qStr σ k g w) i))) ?_
              refine zi_istore (L' := [(7, .int (nI (qWj σ (qStr σ k g w) (i + 1)))), (6, .int (nI (((qStr σ k g w) (i + 1)).1))), (9, .int (nI (qAsks k 0 i))), (5, .int (nI (((qStr σ k g w) (i + 1)).2))), (0, .ref 31), (1, .int (nI k)), (2, .int (nI g)), (3, .int (nI w)), (4, .ref 22), (8, .int (nI i))]) dX5_wrongBy_115 (by decide) rfl ?_
              refine zi_iincN (L' := [(8, .int (nI (i + 1))), (7, .int (nI (qWj σ (qStr σ k g w) (i + 1)))), (6, .int (nI (((qStr σ k g w) (i + 1)).1))), (9, .int (nI (qAsks k 0 i))), (5, .int (nI (((qStr σ k g w) (i + 1)).2))), (0, .ref 31), (1, .int (nI k)), (2, .int (nI g)), (3, .int (nI w)), (4, .ref 22)]) dX5_wrongBy_117 9 rfl (k := 1) (by decide) (by decide) rfl ?_
              refine zi_goto (tgt := 21) dX5_wrongBy_120 (by decide) ?_
              refine zi_sub [5, 6, 7, 8, 9, 4, 2, 1, 0] rfl ?_
              exact ih (i + 1) (by omega) (by omega)
            · refine zi_iload dX5_wrongBy_79 0 rfl ?_
              refine zi_iconst (v := nI 1) dX5_wrongBy_81 (by decide) ?_
              refine zi_isub dX5_wrongBy_82 ?_
              refine zi_goto (tgt := 88) dX5_wrongBy_83 (by decide) ?_
              refine zi_isub dX5_wrongBy_88 ?_
              refine zi_top (y := nI (((qStr σ k g w) i).1 - qAsks k 0 i + 1)) (zsubp (by omega) (by omega)) ?_
              refine zi_istore (L' := [(6, .int (nI (((qStr σ k g w) i).1 - qAsks k 0 i + 1))), (9, .int (nI (qAsks k 0 i))), (5, .int (nI (((qStr σ k g w) (i + 1)).2))), (0, .ref 31), (1, .int (nI k)), (2, .int (nI g)), (3, .int (nI w)), (4, .ref 22), (7, .int (nI (qWj σ (qStr σ k g w) i))), (8, .int (nI i))]) dX5_wrongBy_89 (by decide) rfl ?_
              refine zi_iload dX5_wrongBy_91 0 rfl ?_
              refine zi_iload dX5_wrongBy_93 2 rfl ?_
              refine zcI (zc_N (as := [.int (nI (((qStr σ k g w) i).1 - qAsks k 0 i + 1)), .int (nI (((qStr σ k g w) (i + 1)).2))]) lk_X5_72 ce_X11_trayBehind dX5_wrongBy_95 (by decide) rfl rfl (Nat.le_of_ble_eq_true rfl)) (zOkI_eq (ok_X11_trayBehind (by omega) (by omega)) (congrArg nI (show min 99 (((qStr σ k g w) i).1 - qAsks k 0 i + 1 + 14 - ((qStr σ k g w) (i + 1)).2) = ((qStr σ k g w) (i + 1)).1 from by show _ = min 99 ((if i % 2 = 0 ∧ qAsks k 0 i ≤ ((qStr σ k g w) i).1 then ((qStr σ k g w) i).1 - qAsks k 0 i + (if qDraws k g ((qStr σ k g w) (i + 1)).2 i < 6 then 1 else 0) else ((qStr σ k g w) i).1) + 14 - ((qStr σ k g w) (i + 1)).2); first | (rw [if_pos (by omega), if_pos (by omega)]; done) | (rw [if_pos (by omega), if_neg (by omega)]; done) | (rw [if_neg (by omega)]; done)))) ?_
              refine zi_istore (L' := [(6, .int (nI (((qStr σ k g w) (i + 1)).1))), (9, .int (nI (qAsks k 0 i))), (5, .int (nI (((qStr σ k g w) (i + 1)).2))), (0, .ref 31), (1, .int (nI k)), (2, .int (nI g)), (3, .int (nI w)), (4, .ref 22), (7, .int (nI (qWj σ (qStr σ k g w) i))), (8, .int (nI i))]) dX5_wrongBy_98 (by decide) rfl ?_
              refine zi_iload dX5_wrongBy_100 8 rfl ?_
              refine zi_aload_n dX5_wrongBy_102 (i := 0) rfl 3 rfl ?_
              refine zi_iload dX5_wrongBy_103 9 rfl ?_
              refine zi_iconst (v := nI 1) dX5_wrongBy_105 (by decide) ?_
              refine zi_iaddN dX5_wrongBy_106 ?_
              refine zi_iload dX5_wrongBy_107 0 rfl ?_
              refine zi_iload dX5_wrongBy_109 2 rfl ?_
              refine zcI (zc_V (as := [.int (nI (i + 1)), .int (nI (((qStr σ k g w) (i + 1)).1)), .int (nI (((qStr σ k g w) (i + 1)).2))]) lk_X5_57 ce_X5_wrongBehind cw0_31 rfl rfl dX5_wrongBy_111 (by decide) rfl rfl (Nat.le_of_ble_eq_true rfl)) (ok_X5_wrongBehind hR hk (by omega) (by omega) (by omega)) ?_
              refine zi_ior dX5_wrongBy_114 ?_
              refine zi_top (y := nI (qWj σ (qStr σ k g w) (i + 1))) ((zor2 _ _).trans (congrArg nI (qWj_s σ (qStr σ k g w) i))) ?_
              refine zi_istore (L' := [(7, .int (nI (qWj σ (qStr σ k g w) (i + 1)))), (6, .int (nI (((qStr σ k g w) (i + 1)).1))), (9, .int (nI (qAsks k 0 i))), (5, .int (nI (((qStr σ k g w) (i + 1)).2))), (0, .ref 31), (1, .int (nI k)), (2, .int (nI g)), (3, .int (nI w)), (4, .ref 22), (8, .int (nI i))]) dX5_wrongBy_115 (by decide) rfl ?_
              refine zi_iincN (L' := [(8, .int (nI (i + 1))), (7, .int (nI (qWj σ (qStr σ k g w) (i + 1)))), (6, .int (nI (((qStr σ k g w) (i + 1)).1))), (9, .int (nI (qAsks k 0 i))), (5, .int (nI (((qStr σ k g w) (i + 1)).2))), (0, .ref 31), (1, .int (nI k)), (2, .int (nI g)), (3, .int (nI w)), (4, .ref 22)]) dX5_wrongBy_117 9 rfl (k := 1) (by decide) (by decide) rfl ?_
              refine zi_goto (tgt := 21) dX5_wrongBy_120 (by decide) ?_
              refine zi_sub [5, 6, 7, 8, 9, 4, 2, 1, 0] rfl ?_
              exact ih (i + 1) (by omega) (by omega)
  refine zi_sub [4, 5, 6, 7, 8, 3, 2, 1, 0] rfl ?_
  exact lp 16 0 (by omega) (by omega)
