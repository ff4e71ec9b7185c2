def qClose (σ : Nat → Nat) (a b : Nat) : Bool := decide (σ (38 + 6 * a + 5) = 0 ∧ σ (38 + 6 * b + 5) = 0 ∧ (σ (38 + 6 * a + 3) = σ (38 + 6 * b + 3) ∨ (σ (38 + 6 * a + 2) ≤ σ (38 + 6 * b + 2) + 1 ∧ σ (38 + 6 * b + 2) ≤ σ (38 + 6 * a + 2) + 1)))
theorem zin_apart {x y : Nat} (hx : x < 2 ^ 30) (hy : y < 2 ^ 30) : zin (nI x - nI y) (-1) (nI 1) = decide (x ≤ y + 1 ∧ y ≤ x + 1) := by
  have e := pk_sub_toInt hx hy
  have e1 : decide (nI x - nI y < -1) = decide (x + 1 < y) := decide_eq_decide.mpr (by rw [Int32.lt_iff_toInt_lt, e, show (-1 : Int32).toInt = -1 from by decide]; omega)
  have e2 : decide (nI 1 < nI x - nI y) = decide (y + 1 < x) := decide_eq_decide.mpr (by rw [Int32.lt_iff_toInt_lt, e, show (nI 1).toInt = 1 from by decide]; omega)
  rw [zin, e1, e2, ← decide_not, ← decide_not, ← Bool.decide_and]
  exact decide_eq_decide.mpr (by omega)
theorem zbit : ∀ s, s < 64 → ∀ a, a < 6 → (nI s >>> (nI a &&& 31)) &&& nI 1 = nI (if s.testBit a then 1 else 0) := by decide +kernel
theorem zor_bit : ∀ s, s < 64 → ∀ a, a < 6 → nI s ||| nI (2 ^ a) = nI (s ||| 2 ^ a) := by decide +kernel
theorem zor_lt : ∀ s, s < 64 → ∀ a, a < 6 → s ||| 2 ^ a < 64 := by decide +kernel
def qKs (σ : Nat → Nat) (s a b : Nat) : Nat := if s.testBit a && qClose σ a b then s ||| 2 ^ b else s
def qKb (σ : Nat → Nat) (a : Nat) : Nat → Nat → Nat → Nat
  | 0, _, s => s
  | c + 1, b, s => qKb σ a c (b + 1) (qKs σ s a b)
def qKa (σ : Nat → Nat) : Nat → Nat → Nat → Nat
  | 0, _, s => s
  | c + 1, a, s => qKa σ c (a + 1) (qKb σ a (σ 6) 0 s)
def qKt (σ : Nat → Nat) : Nat → Nat → Nat
  | 0, s => s
  | c + 1, s => qKt σ c (qKa σ (σ 6) 0 s)
def qKin (σ : Nat → Nat) (k : Nat) : Nat := if σ (38 + 6 * k + 5) = 1 then 0 else qKt σ (σ 6) (2 ^ k)
def qKinN (σ : Nat → Nat) : Nat → Nat → Nat
  | 0, _ => 0
  | c + 1, k => (if qKin σ k ≠ 0 ∧ qKin σ k % 2 ^ k = 0 then 1 else 0) + qKinN σ c (k + 1)
theorem qKs_lt {σ : Nat → Nat} {s a b : Nat} (hs : s < 64) (hb : b < 6) : qKs σ s a b < 64 := by
  unfold qKs
  split
  · exact zor_lt s hs b hb
  · exact hs
theorem qKb_lt {σ : Nat → Nat} {a : Nat} : ∀ (c b s : Nat), s < 64 → b + c ≤ 6 → qKb σ a c b s < 64
  | 0, _, _, h, _ => h
  | c + 1, b, s, h, hb => qKb_lt c (b + 1) _ (qKs_lt h (by omega)) (by omega)
theorem qKa_lt {σ : Nat → Nat} (h6 : σ 6 ≤ 6) : ∀ (c a s : Nat), s < 64 → qKa σ c a s < 64
  | 0, _, _, h => h
  | c + 1, a, s, h => qKa_lt h6 c (a + 1) _ (qKb_lt _ _ _ h (by omega))
theorem qKt_lt {σ : Nat → Nat} (h6 : σ 6 ≤ 6) : ∀ (c s : Nat), s < 64 → qKt σ c s < 64
  | 0, _, h => h
  | c + 1, s, h => qKt_lt h6 c _ (qKa_lt h6 _ _ _ h)
theorem qKin_lt {σ : Nat → Nat} (h6 : σ 6 ≤ 6) {k : Nat} (hk : k < 6) : qKin σ k < 64 := by
  unfold qKin
  split
  · decide
  · exact qKt_lt h6 _ _ (Nat.lt_of_le_of_lt (Nat.pow_le_pow_right (by decide) (Nat.le_of_lt_succ hk)) (by decide))
set_option maxRecDepth 100000 in
set_option maxHeartbeats 4000000 in
theorem ok_X12_areClose {M : zMem} {σ : Nat → Nat} {a b : Nat} (hs : zS (M 1) σ) (hk : qOk σ) (ha : a < 6) (hb6 : b < 6) : zOkI zw1 2 mX12_areClose [.ref 0, .int (nI a), .int (nI b)] M (zb (qClose σ a b)) := by
  have hb := hk.1
  have hz := zin_apart (Nat.lt_trans (hb (38 + 6 * a + 2)) (by decide)) (Nat.lt_trans (hb (38 + 6 * b + 2)) (by decide))
  refine zOk_of (by decide +kernel) (fun _ => Nat.le_of_ble_eq_true rfl) (L := [(0, .ref 0), (1, .int (nI a)), (2, .int (nI b))]) rfl ?_
  refine zi_aload_n dX12_areClose_0 (i := 0) rfl 0 rfl ?_
  refine zi_iload_n dX12_areClose_1 (i := 1) rfl 1 rfl ?_
  refine zi_iconst (v := nI 2) dX12_areClose_2 (by decide) ?_
  refine zcI (zc_V (as := [.int (nI a), .int (nI 2)]) lk_X12_79 ce_X12_get cw1_0 rfl rfl dX12_areClose_3 (by decide) rfl rfl (Nat.le_of_ble_eq_true rfl)) (ok_X12_get (j := 38 + 6 * a + 2) hs (by (first | omega | (have := hb _; omega))) (by decide) (by omega)) ?_
  refine zi_aload_n dX12_areClose_6 (i := 0) rfl 0 rfl ?_
  refine zi_iload_n dX12_areClose_7 (i := 2) rfl 2 rfl ?_
  refine zi_iconst (v := nI 2) dX12_areClose_8 (by decide) ?_
  refine zcI (zc_V (as := [.int (nI b), .int (nI 2)]) lk_X12_79 ce_X12_get cw1_0 rfl rfl dX12_areClose_9 (by decide) rfl rfl (Nat.le_of_ble_eq_true rfl)) (ok_X12_get (j := 38 + 6 * b + 2) hs (by (first | omega | (have := hb _; omega))) (by decide) (by omega)) ?_
  refine zi_isub dX12_areClose_12 ?_
  refine zi_istore_n (L' := [(3, .int ((nI (σ (38 + 6 * a + 2))) - (nI (σ (38 + 6 * b + 2))))), (0, .ref 0), (1, .int (nI a)), (2, .int (nI b))]) dX12_areClose_13 (i := 3) rfl (by decide) rfl ?_
  refine zi_aload_n dX12_areClose_14 (i := 0) rfl 1 rfl ?_
  refine zi_iload_n dX12_areClose_15 (i := 1) rfl 2 rfl ?_
  refine zi_iconst (v := nI 5) dX12_areClose_16 (by decide) ?_
  refine zcI (zc_V (as := [.int (nI a), .int (nI 5)]) lk_X12_79 ce_X12_get cw1_0 rfl rfl dX12_areClose_17 (by decide) rfl rfl (Nat.le_of_ble_eq_true rfl)) (ok_X12_get (j := 38 + 6 * a + 5) hs (by (first | omega | (have := hb _; omega))) (by decide) (by omega)) ?_
  refine zi_ifN_ne (by have := hb (38 + 6 * a + 5); omega) (tgt := 60) dX12_areClose_20 (by decide) (fun c20 => ?_) (fun c20 => ?_)
  · refine zi_iconst (v := nI 0) dX12_areClose_60 (by decide) ?_
    refine zi_retI rfl rfl dX12_areClose_61 ?_
    refine zb_eq0 ?_
    unfold qClose
    simp only [decide_eq_false_iff_not]
    first | omega | (rw [hz] at c53; have z := of_decide_eq_false c53; omega)
  · refine zi_aload_n dX12_areClose_23 (i := 0) rfl 1 rfl ?_
    refine zi_iload_n dX12_areClose_24 (i := 2) rfl 3 rfl ?_
    refine zi_iconst (v := nI 5) dX12_areClose_25 (by decide) ?_
    refine zcI (zc_V (as := [.int (nI b), .int (nI 5)]) lk_X12_79 ce_X12_get cw1_0 rfl rfl dX12_areClose_26 (by decide) rfl rfl (Nat.le_of_ble_eq_true rfl)) (ok_X12_get (j := 38 + 6 * b + 5) hs (by (first | omega | (have := hb _; omega))) (by decide) (by omega)) ?_
    refine zi_ifN_ne (by have := hb (38 + 6 * b + 5); omega) (tgt := 60) dX12_areClose_29 (by decide) (fun c29 => ?_) (fun c29 => ?_)
    · refine zi_iconst (v := nI 0) dX12_areClose_60 (by decide) ?_
      refine zi_retI rfl rfl dX12_areClose_61 ?_
      refine zb_eq0 ?_
      unfold qClose
      simp only [decide_eq_false_iff_not]
      first | omega | (rw [hz] at c53; have z := of_decide_eq_false c53; omega)
    · refine zi_aload_n dX12_areClose_32 (i := 0) rfl 1 rfl ?_
      refine zi_iload_n dX12_areClose_33 (i := 1) rfl 2 rfl ?_
      refine zi_iconst (v := nI 3) dX12_areClose_34 (by decide) ?_
      refine zcI (zc_V (as := [.int (nI a), .int (nI 3)]) lk_X12_79 ce_X12_get cw1_0 rfl rfl dX12_areClose_35 (by decide) rfl rfl (Nat.le_of_ble_eq_true rfl)) (ok_X12_get (j := 38 + 6 * a + 3) hs (by (first | omega | (have := hb _; omega))) (by decide) (by omega)) ?_
      refine zi_aload_n dX12_areClose_38 (i := 0) rfl 1 rfl ?_
      refine zi_iload_n dX12_areClose_39 (i := 2) rfl 3 rfl ?_
      refine zi_iconst (v := nI 3) dX12_areClose_40 (by decide) ?_
      refine zcI (zc_V (as := [.int (nI b), .int (nI 3)]) lk_X12_79 ce_X12_get cw1_0 rfl rfl dX12_areClose_41 (by decide) rfl rfl (Nat.le_of_ble_eq_true rfl)) (ok_X12_get (j := 38 + 6 * b + 3) hs (by (first | omega | (have := hb _; omega))) (by decide) (by omega)) ?_
      refine zi_icmpN_eq (by have := hb (38 + 6 * a + 3); omega) (by have := hb (38 + 6 * b + 3); omega) (tgt := 56) dX12_areClose_44 (by decide) (fun c44 => ?_) (fun c44 => ?_)
      · refine zi_iconst (v := nI 1) dX12_areClose_56 (by decide) ?_
        refine zi_goto (tgt := 61) dX12_areClose_57 (by decide) ?_
        refine zi_retI rfl rfl dX12_areClose_61 ?_
        refine zb_eq1 ?_
        unfold qClose
        simp only [decide_eq_true_eq]
        first | omega | (rw [hz] at c53; have z := of_decide_eq_true c53; omega)
      · refine zi_iload_n dX12_areClose_47 (i := 3) rfl 0 rfl ?_
        refine zi_iconst (v := (-1)) dX12_areClose_48 (by decide) ?_
        refine zi_iconst (v := nI 1) dX12_areClose_49 (by decide) ?_
        refine zcI (zc_S (as := [.int ((nI (σ (38 + 6 * a + 2))) - (nI (σ (38 + 6 * b + 2)))), .int (-1), .int (nI 1)]) lk_X12_71 ce_X12_in1 dX12_areClose_50 (by decide) rfl rfl (Nat.le_of_ble_eq_true rfl)) ok_X12_in1 ?_
        refine zi_ifB_eq (tgt := 60) dX12_areClose_53 (by decide) (fun c53 => ?_) (fun c53 => ?_)
        · refine zi_iconst (v := nI 0) dX12_areClose_60 (by decide) ?_
          refine zi_retI rfl rfl dX12_areClose_61 ?_
          refine zb_eq0 ?_
          unfold qClose
          simp only [decide_eq_false_iff_not]
          first | omega | (rw [hz] at c53; have z := of_decide_eq_false c53; omega)
        · refine zi_iconst (v := nI 1) dX12_areClose_56 (by decide) ?_
          refine zi_goto (tgt := 61) dX12_areClose_57 (by decide) ?_
          refine zi_retI rfl rfl dX12_areClose_61 ?_
          refine zb_eq1 ?_
          unfold qClose
          simp only [decide_eq_true_eq]
          first | omega | (rw [hz] at c53; have z := of_decide_eq_true c53; omega)
set_option maxRecDepth 100000 in
set_option maxHeartbeats 4000000 in
theorem ok_X12_kinOf {M : zMem} {σ : Nat → Nat} {k : Nat} (hs : zS (M 1) σ) (hk : qOk σ) (hk6 : k < σ 6) : zOkI zw1 3 mX12_kinOf [.ref 0, .int (nI k)] M (nI (qKin σ k)) := by
  have hb := hk.1
  have h66 := hk.2.1
  have hck := qOk_called hk (a := k) (by omega)
  refine zOk_of (by decide +kernel) (fun _ => Nat.le_of_ble_eq_true rfl) (L := [(0, .ref 0), (1, .int (nI k))]) rfl ?_
  refine zi_iconst (v := nI 1) dX12_kinOf_0 (by decide) ?_
  refine zi_iload_n dX12_kinOf_1 (i := 1) rfl 1 rfl ?_
  refine zi_ishl dX12_kinOf_2 ?_
  refine zi_top (y := nI (2 ^ k)) (zshl1 k (by omega)) ?_
  refine zi_istore_n (L' := [(2, .int (nI (2 ^ k))), (0, .ref 0), (1, .int (nI k))]) dX12_kinOf_3 (i := 2) rfl (by decide) rfl ?_
  refine zi_iconst (v := nI 0) dX12_kinOf_4 (by decide) ?_
  refine zi_istore_n (L' := [(3, .int (nI 0)), (2, .int (nI (2 ^ k))), (0, .ref 0), (1, .int (nI k))]) dX12_kinOf_5 (i := 3) rfl (by decide) rfl ?_
  have lpT : ∀ (n c t s : Nat), c < n → t + c = σ 6 → s < 64 → qKt σ c s = qKt σ (σ 6) (2 ^ k) → zRn zw1 3 mX12_kinOf (zQI M (nI (qKin σ k))) 6 [(0, .ref 0), (1, .int (nI k)), (2, .int (nI s)), (3, .int (nI t))] [] M := by
    intro n
    induction n with
    | zero => intro c t s h1; omega
    | succ n ihT =>
      intro c t s h1 h2 h3 h4
      refine zi_iload_n dX12_kinOf_6 (i := 3) rfl 3 rfl ?_
      refine zi_aload_n dX12_kinOf_7 (i := 0) rfl 0 rfl ?_
      refine zi_getR fd_X12_9_X12 rfl cw1_0 rfl dX12_kinOf_8 ?_
      refine zi_bipush (v := nI 6) dX12_kinOf_11 (by decide) ?_
      refine zi_ialdN cw1_1 (by decide) (by decide) dX12_kinOf_13 ?_
      refine zi_top (y := nI (σ 6)) ((hs _ (by decide) (by decide))) ?_
      refine zi_icmpN_ge (by  (first | omega | (split <;> omega))) (by have := hb 6; (first | omega | (split <;> omega))) (tgt := 97) dX12_kinOf_14 (by decide) (fun c14 => ?_) (fun c14 => ?_)
      · refine zi_aload_n dX12_kinOf_97 (i := 0) rfl 0 rfl ?_
        refine zi_iload_n dX12_kinOf_98 (i := 1) rfl 1 rfl ?_
        refine zi_iconst (v := nI 5) dX12_kinOf_99 (by decide) ?_
        refine zcI (zc_V (as := [.int (nI k), .int (nI 5)]) lk_X12_79 ce_X12_get cw1_0 rfl rfl dX12_kinOf_100 (by decide) rfl rfl (Nat.le_of_ble_eq_true rfl)) (ok_X12_get (j := 38 + 6 * k + 5) hs (by (first | omega | (have := hb _; omega))) (by decide) (by omega)) ?_
        refine zi_iconst (v := nI 1) dX12_kinOf_103 (by decide) ?_
        refine zi_icmpN_ne (by have := hb (38 + 6 * k + 5); (first | omega | (split <;> omega))) (by decide) (tgt := 111) dX12_kinOf_104 (by decide) (fun c104 => ?_) (fun c104 => ?_)
        · refine zi_iload_n dX12_kinOf_111 (i := 2) rfl 2 rfl ?_
          refine zi_retI rfl rfl dX12_kinOf_112 ?_
          unfold qKin
          first | (rw [if_pos c104]; done) | (rw [if_neg c104, ← h4]; obtain rfl : c = 0 := (by omega); rfl)
        · refine zi_iconst (v := nI 0) dX12_kinOf_107 (by decide) ?_
          refine zi_goto (tgt := 112) dX12_kinOf_108 (by decide) ?_
          refine zi_retI rfl rfl dX12_kinOf_112 ?_
          unfold qKin
          first | (rw [if_pos c104]; done) | (rw [if_neg c104, ← h4]; obtain rfl : c = 0 := (by omega); rfl)
      · obtain ⟨c', rfl⟩ : ∃ c', c = c' + 1 := ⟨c - 1, by omega⟩
        refine zi_iconst (v := nI 0) dX12_kinOf_17 (by decide) ?_
        refine zi_istore (L' := [(4, .int (nI 0)), (0, .ref 0), (1, .int (nI k)), (2, .int (nI s)), (3, .int (nI t))]) dX12_kinOf_18 (by decide) rfl ?_
        have lpA : ∀ (n c2 i s : Nat), c2 < n → i + c2 = σ 6 → s < 64 → qKt σ c' (qKa σ c2 i s) = qKt σ (σ 6) (2 ^ k) → zRn zw1 3 mX12_kinOf (zQI M (nI (qKin σ k))) 20 [(0, .ref 0), (1, .int (nI k)), (2, .int (nI s)), (3, .int (nI t)), (4, .int (nI i))] [] M := by
          intro n
          induction n with
          | zero => intro c2 i s h1; omega
          | succ n ihA =>
            intro c2 i s h1a h2a h3a h4a
            refine zi_iload dX12_kinOf_20 4 rfl ?_
            refine zi_aload_n dX12_kinOf_22 (i := 0) rfl 0 rfl ?_
            refine zi_getR fd_X12_9_X12 rfl cw1_0 rfl dX12_kinOf_23 ?_
            refine zi_bipush (v := nI 6) dX12_kinOf_26 (by decide) ?_
            refine zi_ialdN cw1_1 (by decide) (by decide) dX12_kinOf_28 ?_
            refine zi_top (y := nI (σ 6)) ((hs _ (by decide) (by decide))) ?_
            refine zi_icmpN_ge (by  (first | omega | (split <;> omega))) (by have := hb 6; (first | omega | (split <;> omega))) (tgt := 91) dX12_kinOf_29 (by decide) (fun c29 => ?_) (fun c29 => ?_)
            · refine zi_iincN (L' := [(3, .int (nI (t + 1))), (0, .ref 0), (1, .int (nI k)), (2, .int (nI s)), (4, .int (nI i))]) dX12_kinOf_91 3 rfl (k := 1) (by decide) (by decide) rfl ?_
              refine zi_goto (tgt := 6) dX12_kinOf_94 (by decide) ?_
              refine zi_sub [1, 2, 3, 0] rfl ?_
              exact ihT c' (t + 1) s (by omega) (by omega) h3a (by rw [← h4a]; obtain rfl : c2 = 0 := (by omega); rfl)
            · obtain ⟨c2', rfl⟩ : ∃ c', c2 = c' + 1 := ⟨c2 - 1, by omega⟩
              refine zi_iconst (v := nI 0) dX12_kinOf_32 (by decide) ?_
              refine zi_istore (L' := [(5, .int (nI 0)), (0, .ref 0), (1, .int (nI k)), (2, .int (nI s)), (3, .int (nI t)), (4, .int (nI i))]) dX12_kinOf_33 (by decide) rfl ?_
              have lpB : ∀ (n c3 j s : Nat), c3 < n → j + c3 = σ 6 → s < 64 → qKt σ c' (qKa σ c2' (i + 1) (qKb σ i c3 j s)) = qKt σ (σ 6) (2 ^ k) → zRn zw1 3 mX12_kinOf (zQI M (nI (qKin σ k))) 35 [(0, .ref 0), (1, .int (nI k)), (2, .int (nI s)), (3, .int (nI t)), (4, .int (nI i)), (5, .int (nI j))] [] M := by
                intro n
                induction n with
                | zero => intro c3 j s h1; omega
                | succ n ihB =>
                  intro c3 j s h1b h2b h3b h4b
                  refine zi_iload dX12_kinOf_35 5 rfl ?_
                  refine zi_aload_n dX12_kinOf_37 (i := 0) rfl 0 rfl ?_
                  refine zi_getR fd_X12_9_X12 rfl cw1_0 rfl dX12_kinOf_38 ?_
                  refine zi_bipush (v := nI 6) dX12_kinOf_41 (by decide) ?_
                  refine zi_ialdN cw1_1 (by decide) (by decide) dX12_kinOf_43 ?_
                  refine zi_top (y := nI (σ 6)) ((hs _ (by decide) (by decide))) ?_
                  refine zi_icmpN_ge (by  (first | omega | (split <;> omega))) (by have := hb 6; (first | omega | (split <;> omega))) (tgt := 85) dX12_kinOf_44 (by decide) (fun c44 => ?_) (fun c44 => ?_)
                  · refine zi_iincN (L' := [(4, .int (nI (i + 1))), (0, .ref 0), (1, .int (nI k)), (2, .int (nI s)), (3, .int (nI t)), (5, .int (nI j))]) dX12_kinOf_85 4 rfl (k := 1) (by decide) (by decide) rfl ?_
                    refine zi_goto (tgt := 20) dX12_kinOf_88 (by decide) ?_
                    refine zi_sub [1, 2, 3, 4, 0] rfl ?_
                    exact ihA c2' (i + 1) s (by omega) (by omega) h3b (by rw [← h4b]; obtain rfl : c3 = 0 := (by omega); rfl)
                  · obtain ⟨c3', rfl⟩ : ∃ c', c3 = c' + 1 := ⟨c3 - 1, by omega⟩
                    refine zi_iload_n dX12_kinOf_47 (i := 2) rfl 2 rfl ?_
                    refine zi_iload_n dX12_kinOf_48 (i := 2) rfl 2 rfl ?_
                    refine zi_iload dX12_kinOf_49 4 rfl ?_
                    refine zi_ishr dX12_kinOf_51 ?_
                    refine zi_iconst (v := nI 1) dX12_kinOf_52 (by decide) ?_
                    refine zi_iand dX12_kinOf_53 ?_
                    refine zi_top (y := nI (if s.testBit i then 1 else 0)) (zbit s h3b i (by omega)) ?_
                    refine zi_iconst (v := nI 1) dX12_kinOf_54 (by decide) ?_
                    refine zi_icmpN_ne (by  (first | omega | (split <;> omega))) (by decide) (tgt := 76) dX12_kinOf_55 (by decide) (fun c55 => ?_) (fun c55 => ?_)
                    · have c55t : s.testBit i = false := by cases hh : s.testBit i with | false => rfl | true => exact absurd (by rw [hh]; rfl) c55
                      refine zi_iconst (v := nI 0) dX12_kinOf_76 (by decide) ?_
                      refine zi_ior dX12_kinOf_77 ?_
                      refine zi_top (y := nI s) (zor_0 s (by omega)) ?_
                      refine zi_istore_n (L' := [(2, .int (nI s)), (0, .ref 0), (1, .int (nI k)), (3, .int (nI t)), (4, .int (nI i)), (5, .int (nI j))]) dX12_kinOf_78 (i := 2) rfl (by decide) rfl ?_
                      refine zi_iincN (L' := [(5, .int (nI (j + 1))), (2, .int (nI s)), (0, .ref 0), (1, .int (nI k)), (3, .int (nI t)), (4, .int (nI i))]) dX12_kinOf_79 5 rfl (k := 1) (by decide) (by decide) rfl ?_
                      refine zi_goto (tgt := 35) dX12_kinOf_82 (by decide) ?_
                      refine zi_sub [2, 3, 1, 4, 5, 0] rfl ?_
                      refine ihB c3' (j + 1) _ (by omega) (by omega) h3b ?_
                      rw [← h4b]
                      simp only [qKb]
                      rw [qKs, if_neg (by first | (rw [c55t]; simp; done) | (rw [c66]; simp; done))]
                    · have c55t : s.testBit i = true := by cases hh : s.testBit i with | true => rfl | false => (rw [hh] at c55; exact absurd c55 (by decide))
                      refine zi_aload_n dX12_kinOf_58 (i := 0) rfl 0 rfl ?_
                      refine zi_iload dX12_kinOf_59 4 rfl ?_
                      refine zi_iload dX12_kinOf_61 5 rfl ?_
                      refine zcI (zc_V (as := [.int (nI i), .int (nI j)]) lk_X12_247 ce_X12_areClose cw1_0 rfl rfl dX12_kinOf_63 (by decide) rfl rfl (Nat.le_of_ble_eq_true rfl)) (ok_X12_areClose hs hk (by omega) (by omega)) ?_
                      refine zi_ifB_eq (tgt := 76) dX12_kinOf_66 (by decide) (fun c66 => ?_) (fun c66 => ?_)
                      · refine zi_iconst (v := nI 0) dX12_kinOf_76 (by decide) ?_
                        refine zi_ior dX12_kinOf_77 ?_
                        refine zi_top (y := nI s) (zor_0 s (by omega)) ?_
                        refine zi_istore_n (L' := [(2, .int (nI s)), (0, .ref 0), (1, .int (nI k)), (3, .int (nI t)), (4, .int (nI i)), (5, .int (nI j))]) dX12_kinOf_78 (i := 2) rfl (by decide) rfl ?_
                        refine zi_iincN (L' := [(5, .int (nI (j + 1))), (2, .int (nI s)), (0, .ref 0), (1, .int (nI k)), (3, .int (nI t)), (4, .int (nI i))]) dX12_kinOf_79 5 rfl (k := 1) (by decide) (by decide) rfl ?_
                        refine zi_goto (tgt := 35) dX12_kinOf_82 (by decide) ?_
                        refine zi_sub [2, 3, 1, 4, 5, 0] rfl ?_
                        refine ihB c3' (j + 1) _ (by omega) (by omega) h3b ?_
                        rw [← h4b]
                        simp only [qKb]
                        rw [qKs, if_neg (by first | (rw [c55t]; simp; done) | (rw [c66]; simp; done))]
                      · refine zi_iconst (v := nI 1) dX12_kinOf_69 (by decide) ?_
                        refine zi_iload dX12_kinOf_70 5 rfl ?_
                        refine zi_ishl dX12_kinOf_72 ?_
                        refine zi_top (y := nI (2 ^ j)) (zshl1 j (by omega)) ?_
                        refine zi_goto (tgt := 77) dX12_kinOf_73 (by decide) ?_
                        refine zi_ior dX12_kinOf_77 ?_
                        refine zi_top (y := nI (s ||| 2 ^ j)) (zor_bit s h3b j (by omega)) ?_
                        refine zi_istore_n (L' := [(2, .int (nI (s ||| 2 ^ j))), (0, .ref 0), (1, .int (nI k)), (3, .int (nI t)), (4, .int (nI i)), (5, .int (nI j))]) dX12_kinOf_78 (i := 2) rfl (by decide) rfl ?_
                        refine zi_iincN (L' := [(5, .int (nI (j + 1))), (2, .int (nI (s ||| 2 ^ j))), (0, .ref 0), (1, .int (nI k)), (3, .int (nI t)), (4, .int (nI i))]) dX12_kinOf_79 5 rfl (k := 1) (by decide) (by decide) rfl ?_
                        refine zi_goto (tgt := 35) dX12_kinOf_82 (by decide) ?_
                        refine zi_sub [2, 3, 1, 4, 5, 0] rfl ?_
                        refine ihB c3' (j + 1) _ (by omega) (by omega) (zor_lt s h3b j (by omega)) ?_
                        rw [← h4b]
                        simp only [qKb]
                        rw [qKs, if_pos (by rw [c55t, c66]; rfl)]
              refine zi_sub [1, 2, 3, 4, 5, 0] rfl ?_
              exact lpB (σ 6 + 1) (σ 6) 0 s (by omega) (by omega) h3a (by rw [← h4a]; rfl)
        refine zi_sub [1, 2, 3, 4, 0] rfl ?_
        exact lpA (σ 6 + 1) (σ 6) 0 s (by omega) (by omega) h3 (by rw [← h4]; rfl)
  refine zi_sub [2, 3, 1, 0] rfl ?_
  exact lpT (σ 6 + 1) (σ 6) 0 (2 ^ k) (by omega) (by omega) (Nat.lt_of_le_of_lt (Nat.pow_le_pow_right (by decide) (show k ≤ 5 by omega)) (by decide)) rfl
theorem nI_ne_neg {n : Nat} (h : n < 2 ^ 31) : nI n ≠ -1 := fun e => absurd (e ▸ nI_pos' h : (0 : Int32) ≤ -1) (by decide)
set_option maxRecDepth 100000 in
set_option maxHeartbeats 4000000 in
theorem ok_X12_kin {M : zMem} {σ : Nat → Nat} {a : Nat} (hs : zS (M 1) σ) (hk : qOk σ) (ha : a < σ 6) : zOkI zw1 4 mX12_kin [.ref 0, .int (nI a)] M (nI (qKin σ a)) := by
  have hb := hk.1
  have h66 := hk.2.1
  refine zOk_of (by decide +kernel) (fun _ => Nat.le_of_ble_eq_true rfl) (L := [(0, .ref 0), (1, .int (nI a))]) rfl ?_
  refine zi_iload_n dX12_kin_0 (i := 1) rfl 1 rfl ?_
  refine zi_iconst (v := (-1)) dX12_kin_1 (by decide) ?_
  refine zi_icmp_eq (tgt := 15) dX12_kin_2 (by decide) (fun c2 => False.elim (by exact absurd c2 (nI_ne_neg (by omega)))) (fun c2 => ?_)
  refine zi_aload_n dX12_kin_5 (i := 0) rfl 0 rfl ?_
  refine zi_iload_n dX12_kin_6 (i := 1) rfl 1 rfl ?_
  refine zcI (zc_V (as := [.int (nI a)]) lk_X12_220 ce_X12_isHouse cw1_0 rfl rfl dX12_kin_7 (by decide) rfl rfl (Nat.le_of_ble_eq_true rfl)) (zOkI_eq (ok_X12_isHouse hs) (qIsT (by omega) (by omega))) ?_
  refine zi_ifN_ne (by decide) (tgt := 15) dX12_kin_10 (by decide) (fun _ => ?_) (fun c => absurd c (by decide))
  refine zi_iload_n dX12_kin_15 (i := 1) rfl 1 rfl ?_
  refine zi_ifN_lt (by  omega) (tgt := 25) dX12_kin_16 (by decide) (fun c16 => False.elim (by omega)) (fun c16 => ?_)
  refine zi_aload_n dX12_kin_19 (i := 0) rfl 0 rfl ?_
  refine zi_iload_n dX12_kin_20 (i := 1) rfl 1 rfl ?_
  refine zcI (zc_V (as := [.int (nI a)]) lk_X12_250 ce_X12_kinOf cw1_0 rfl rfl dX12_kin_21 (by decide) rfl rfl (Nat.le_of_ble_eq_true rfl)) (ok_X12_kinOf hs hk (by omega)) ?_
  refine zi_retI rfl rfl dX12_kin_24 ?_
  rfl
set_option maxRecDepth 100000 in
set_option maxHeartbeats 4000000 in
theorem ok_X12_kinN {M : zMem} {σ : Nat → Nat} (hs : zS (M 1) σ) (hk : qOk σ) : zOkI zw1 4 mX12_kin [.ref 0, .int (-1)] M (nI (qKinN σ (σ 6) 0)) := by
  have hb := hk.1
  have h66 := hk.2.1
  refine zOk_of (by decide +kernel) (fun _ => Nat.le_of_ble_eq_true rfl) (L := [(0, .ref 0), (1, .int (-1))]) rfl ?_
  refine zi_iload_n dX12_kin_0 (i := 1) rfl 1 rfl ?_
  refine zi_iconst (v := (-1)) dX12_kin_1 (by decide) ?_
  refine zi_icmp_eq (tgt := 15) dX12_kin_2 (by decide) (fun c2 => ?_) (fun c2 => False.elim (by exact absurd rfl c2))
  refine zi_iload_n dX12_kin_15 (i := 1) rfl 1 rfl ?_
  refine zi_if_lt (tgt := 25) dX12_kin_16 (by decide) (fun c16 => ?_) (fun c16 => False.elim (by exact absurd (by decide) c16))
  refine zi_iconst (v := nI 0) dX12_kin_25 (by decide) ?_
  refine zi_istore_n (L' := [(2, .int (nI 0)), (0, .ref 0), (1, .int (-1))]) dX12_kin_26 (i := 2) rfl (by decide) rfl ?_
  refine zi_iconst (v := nI 0) dX12_kin_27 (by decide) ?_
  refine zi_istore_n (L' := [(3, .int (nI 0)), (2, .int (nI 0)), (0, .ref 0), (1, .int (-1))]) dX12_kin_28 (i := 3) rfl (by decide) rfl ?_
  have lp : ∀ (n c w i : Nat), c < n → i + c = σ 6 → w + qKinN σ c i = qKinN σ (σ 6) 0 → zRn zw1 4 mX12_kin (zQI M (nI (qKinN σ (σ 6) 0))) 29 [(0, .ref 0), (2, .int (nI w)), (3, .int (nI i))] [] M := by
    intro n
    induction n with
    | zero => intro c w i h1; omega
    | succ n ih =>
      intro c w i h1 h2 h3
      refine zi_iload_n dX12_kin_29 (i := 3) rfl 2 rfl ?_
      refine zi_aload_n dX12_kin_30 (i := 0) rfl 0 rfl ?_
      refine zi_getR fd_X12_9_X12 rfl cw1_0 rfl dX12_kin_31 ?_
      refine zi_bipush (v := nI 6) dX12_kin_34 (by decide) ?_
      refine zi_ialdN cw1_1 (by decide) (by decide) dX12_kin_36 ?_
      refine zi_top (y := nI (σ 6)) ((hs _ (by decide) (by decide))) ?_
      refine zi_icmpN_ge (by  omega) (by have := hb 6; omega) (tgt := 75) dX12_kin_37 (by decide) (fun c37 => ?_) (fun c37 => ?_)
      · obtain rfl : c = 0 := by omega
        refine zi_iload_n dX12_kin_75 (i := 2) rfl 1 rfl ?_
        refine zi_retI rfl rfl dX12_kin_76 ?_
        rw [← h3]
        rfl
      · obtain ⟨c', rfl⟩ : ∃ c', c = c' + 1 := ⟨c - 1, by omega⟩
        have hq := qKin_lt h66 (k := i) (by omega)
        have hp1 : 0 < 2 ^ i := Nat.two_pow_pos i
        have hp2 : 2 ^ i ≤ 2 ^ 5 := Nat.pow_le_pow_right (by decide) (by omega)
        have hm := Nat.mod_lt (qKin σ i) hp1
        refine zi_aload_n dX12_kin_40 (i := 0) rfl 0 rfl ?_
        refine zi_iload_n dX12_kin_41 (i := 3) rfl 2 rfl ?_
        refine zcI (zc_V (as := [.int (nI i)]) lk_X12_250 ce_X12_kinOf cw1_0 rfl rfl dX12_kin_42 (by decide) rfl rfl (Nat.le_of_ble_eq_true rfl)) (ok_X12_kinOf hs hk (by omega)) ?_
        refine zi_istore (L' := [(4, .int (nI (qKin σ i))), (0, .ref 0), (2, .int (nI w)), (3, .int (nI i))]) dX12_kin_45 (by decide) rfl ?_
        refine zi_iload_n dX12_kin_47 (i := 2) rfl 2 rfl ?_
        refine zi_iload dX12_kin_48 0 rfl ?_
        refine zi_ifN_eq (by have := hb i; omega) (tgt := 66) dX12_kin_50 (by decide) (fun c50 => ?_) (fun c50 => ?_)
        · refine zi_iconst (v := nI 0) dX12_kin_66 (by decide) ?_
          refine zi_iaddN dX12_kin_67 ?_
          refine zi_top (y := nI w) (congrArg nI (by omega)) ?_
          refine zi_istore_n (L' := [(2, .int (nI w)), (4, .int (nI (qKin σ i))), (0, .ref 0), (3, .int (nI i))]) dX12_kin_68 (i := 2) rfl (by decide) rfl ?_
          refine zi_iincN (L' := [(3, .int (nI (i + 1))), (2, .int (nI w)), (4, .int (nI (qKin σ i))), (0, .ref 0)]) dX12_kin_69 3 rfl (k := 1) (by decide) (by decide) rfl ?_
          refine zi_goto (tgt := 29) dX12_kin_72 (by decide) ?_
          refine zi_sub [3, 1, 0] rfl ?_
          refine ih c' _ (i + 1) (by omega) (by omega) ?_
          rw [← h3, qKinN]
          rw [if_neg (by omega)]
          omega
        · refine zi_iload dX12_kin_53 0 rfl ?_
          refine zi_iconst (v := nI 1) dX12_kin_55 (by decide) ?_
          refine zi_iload_n dX12_kin_56 (i := 3) rfl 3 rfl ?_
          refine zi_ishl dX12_kin_57 ?_
          refine zi_top (y := nI (2 ^ i)) (zshl1 i (by omega)) ?_
          refine zi_iremN (by have := hb i; omega) (by (first | omega | (have := hb _; omega))) (by  omega) dX12_kin_58 ?_
          refine zi_ifN_ne (by have := hb i; omega) (tgt := 66) dX12_kin_59 (by decide) (fun c59 => ?_) (fun c59 => ?_)
          · refine zi_iconst (v := nI 0) dX12_kin_66 (by decide) ?_
            refine zi_iaddN dX12_kin_67 ?_
            refine zi_top (y := nI w) (congrArg nI (by omega)) ?_
            refine zi_istore_n (L' := [(2, .int (nI w)), (4, .int (nI (qKin σ i))), (0, .ref 0), (3, .int (nI i))]) dX12_kin_68 (i := 2) rfl (by decide) rfl ?_
            refine zi_iincN (L' := [(3, .int (nI (i + 1))), (2, .int (nI w)), (4, .int (nI (qKin σ i))), (0, .ref 0)]) dX12_kin_69 3 rfl (k := 1) (by decide) (by decide) rfl ?_
            refine zi_goto (tgt := 29) dX12_kin_72 (by decide) ?_
            refine zi_sub [3, 1, 0] rfl ?_
            refine ih c' _ (i + 1) (by omega) (by omega) ?_
            rw [← h3, qKinN]
            rw [if_neg (by omega)]
            omega
          · refine zi_iconst (v := nI 1) dX12_kin_62 (by decide) ?_
            refine zi_goto (tgt := 67) dX12_kin_63 (by decide) ?_
            refine zi_iaddN dX12_kin_67 ?_
            refine zi_istore_n (L' := [(2, .int (nI (w + 1))), (4, .int (nI (qKin σ i))), (0, .ref 0), (3, .int (nI i))]) dX12_kin_68 (i := 2) rfl (by decide) rfl ?_
            refine zi_iincN (L' := [(3, .int (nI (i + 1))), (2, .int (nI (w + 1))), (4, .int (nI (qKin σ i))), (0, .ref 0)]) dX12_kin_69 3 rfl (k := 1) (by decide) (by decide) rfl ?_
            refine zi_goto (tgt := 29) dX12_kin_72 (by decide) ?_
            refine zi_sub [3, 1, 0] rfl ?_
            refine ih c' _ (i + 1) (by omega) (by omega) ?_
            rw [← h3, qKinN]
            rw [if_pos ⟨c50, c59⟩]
            omega
  refine zi_sub [2, 1, 0] rfl ?_
  exact lp (σ 6 + 1) (σ 6) 0 0 (by omega) (by omega) (by omega)
set_option maxRecDepth 100000 in
set_option maxHeartbeats 4000000 in
theorem bad_X12_kin {M : zMem} {σ : Nat → Nat} {x : Int32} (hs : zS (M 1) σ) (hk : qOk σ) (hB : qIs (σ 6) x = false) (hn : x ≠ -1) : zOkI zw1 4 mX12_kin [.ref 0, .int x] M (-1) := by
  refine zOk_of (by decide +kernel) (fun _ => Nat.le_of_ble_eq_true rfl) (L := [(0, .ref 0), (1, .int x)]) rfl ?_
  refine zi_iload_n dX12_kin_0 (i := 1) rfl 1 rfl ?_
  refine zi_iconst (v := (-1)) dX12_kin_1 (by decide) ?_
  refine zi_icmp_eq (tgt := 15) dX12_kin_2 (by decide) (fun c2 => False.elim (by exact absurd c2 hn)) (fun c2 => ?_)
  refine zi_aload_n dX12_kin_5 (i := 0) rfl 0 rfl ?_
  refine zi_iload_n dX12_kin_6 (i := 1) rfl 1 rfl ?_
  refine zcI (zc_V (as := [.int x]) lk_X12_220 ce_X12_isHouse cw1_0 rfl rfl dX12_kin_7 (by decide) rfl rfl (Nat.le_of_ble_eq_true rfl)) (ok_X12_isHouse hs) ?_
  refine zi_ifB_ne (tgt := 15) dX12_kin_10 (by decide) (fun c10 => False.elim (by simp_all)) (fun c10 => ?_)
  refine zi_iconst (v := (-1)) dX12_kin_13 (by decide) ?_
  refine zi_retI rfl rfl dX12_kin_14 ?_
  rfl
