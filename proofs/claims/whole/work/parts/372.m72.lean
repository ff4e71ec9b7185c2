theorem lk_X5_51 : zLkS RX5 51 mJ6_bitCount_0f7a4 := ⟨zm4 158 rfl rfl, zm4 159 rfl rfl, zm1 21 rfl rfl⟩
theorem lk_X11_356 : zLkS RX11 356 mJ6_bitCount_0f7a4 := ⟨zm5 142 rfl rfl, zm4 159 rfl rfl, zm1 21 rfl rfl⟩
theorem zfl_next {g : Nat → Int32} {x : Int32} {i : Nat} : upd (fun j => if j < i then x else g j) i x = fun j => if j < i + 1 then x else g j := zcp_next (f := fun _ => x)
set_option maxRecDepth 100000 in
set_option maxHeartbeats 4000000 in
theorem ok_fill_19 {M : zMem} {x : Int32}  : zOkV zw0 0 mJ7_fill_53178 [.ref 19, .int x] M (fun M' => M' = zsetF M 19 (fun j => if j < 6 then x else M 19 j)) := by
  refine zOk_of (by decide +kernel) (fun _ => Nat.le_of_ble_eq_true rfl) (L := [(0, .ref 19), (1, .int x)]) rfl ?_
  refine zi_iconst (v := nI 0) dJ7_fill_53178_0 (by decide) ?_
  refine zi_istore_n (L' := [(2, .int (nI 0)), (0, .ref 19), (1, .int x)]) dJ7_fill_53178_1 (i := 2) rfl (by decide) rfl ?_
  refine zi_aload_n dJ7_fill_53178_2 (i := 0) rfl 1 rfl ?_
  refine zi_alen cw0_19 (by decide) dJ7_fill_53178_3 ?_
  refine zi_istore_n (L' := [(3, .int (nI 6)), (2, .int (nI 0)), (0, .ref 19), (1, .int x)]) dJ7_fill_53178_4 (i := 3) rfl (by decide) rfl ?_
  have lp : ∀ (n i : Nat) (M2 : zMem), 6 - i < n → i ≤ 6 → M2 = zsetF M 19 (fun j => if j < i then x else M 19 j) → zRn zw0 0 mJ7_fill_53178 (zQV (fun M' => M' = zsetF M 19 (fun j => if j < 6 then x else M 19 j))) 5 [(0, .ref 19), (1, .int x), (2, .int (nI i)), (3, .int (nI 6))] [] M2 := by
    intro n
    induction n with
    | zero => intro i M2 h1; omega
    | succ n ih =>
      intro i M2 h1 h2 h3
      refine zi_iload_n dJ7_fill_53178_5 (i := 2) rfl 2 rfl ?_
      refine zi_iload_n dJ7_fill_53178_6 (i := 3) rfl 3 rfl ?_
      refine zi_icmpN_ge (by  omega) (by decide) (tgt := 20) dJ7_fill_53178_7 (by decide) (fun c7 => ?_) (fun c7 => ?_)
      · refine zi_retV rfl dJ7_fill_53178_20 ?_
        have ei : i = 6 := by omega
        rw [ei] at h3
        exact h3
      · refine zi_aload_n dJ7_fill_53178_10 (i := 0) rfl 0 rfl ?_
        refine zi_iload_n dJ7_fill_53178_11 (i := 2) rfl 2 rfl ?_
        refine zi_iload_n dJ7_fill_53178_12 (i := 1) rfl 1 rfl ?_
        refine zi_iastN cw0_19 (by omega) (by decide) dJ7_fill_53178_13 ?_
        refine zi_iincN (L' := [(2, .int (nI (i + 1))), (0, .ref 19), (1, .int x), (3, .int (nI 6))]) dJ7_fill_53178_14 2 rfl (k := 1) (by decide) (by decide) rfl ?_
        refine zi_goto (tgt := 5) dJ7_fill_53178_17 (by decide) ?_
        refine zi_sub [1, 2, 0, 3] rfl ?_
        refine ih (i + 1) _ (by omega) (by omega) ?_
        rw [h3, zup_eq, zsetF_1, zfl_next]
        exact zsetF_2 _ _ _ _
  refine zi_sub [2, 3, 1, 0] rfl ?_
  exact lp 7 0 M (by omega) (by omega) (by rw [zcp_0, zsetF_id])
set_option maxRecDepth 100000 in
set_option maxHeartbeats 4000000 in
theorem ok_fill_100 {M : zMem} {x : Int32}  : zOkV zw0 0 mJ7_fill_d0a16 [.ref 100, .long x.toInt64] M (fun M' => M' = zsetF M 100 (fun j => if j < 40 then x else M 100 j)) := by
  refine zOk_of (by decide +kernel) (fun _ => Nat.le_of_ble_eq_true rfl) (L := [(0, .ref 100), (1, .long x.toInt64)]) rfl ?_
  refine zi_iconst (v := nI 0) dJ7_fill_d0a16_0 (by decide) ?_
  refine zi_istore_n (L' := [(3, .int (nI 0)), (0, .ref 100), (1, .long x.toInt64)]) dJ7_fill_d0a16_1 (i := 3) rfl (by decide) rfl ?_
  refine zi_aload_n dJ7_fill_d0a16_2 (i := 0) rfl 1 rfl ?_
  refine zi_alen cw0_100 (by decide) dJ7_fill_d0a16_3 ?_
  refine zi_istore (L' := [(4, .int (nI 40)), (3, .int (nI 0)), (0, .ref 100), (1, .long x.toInt64)]) dJ7_fill_d0a16_4 (by decide) rfl ?_
  have lp : ∀ (n i : Nat) (M2 : zMem), 40 - i < n → i ≤ 40 → M2 = zsetF M 100 (fun j => if j < i then x else M 100 j) → zRn zw0 0 mJ7_fill_d0a16 (zQV (fun M' => M' = zsetF M 100 (fun j => if j < 40 then x else M 100 j))) 6 [(0, .ref 100), (1, .long x.toInt64), (3, .int (nI i)), (4, .int (nI 40))] [] M2 := by
    intro n
    induction n with
    | zero => intro i M2 h1; omega
    | succ n ih =>
      intro i M2 h1 h2 h3
      refine zi_iload_n dJ7_fill_d0a16_6 (i := 3) rfl 2 rfl ?_
      refine zi_iload dJ7_fill_d0a16_7 3 rfl ?_
      refine zi_icmpN_ge (by  omega) (by decide) (tgt := 22) dJ7_fill_d0a16_9 (by decide) (fun c9 => ?_) (fun c9 => ?_)
      · refine zi_retV rfl dJ7_fill_d0a16_22 ?_
        have ei : i = 40 := by omega
        rw [ei] at h3
        exact h3
      · refine zi_aload_n dJ7_fill_d0a16_12 (i := 0) rfl 0 rfl ?_
        refine zi_iload_n dJ7_fill_d0a16_13 (i := 3) rfl 2 rfl ?_
        refine zi_lload_n dJ7_fill_d0a16_14 (i := 1) rfl 1 rfl ?_
        refine zi_lastN cw0_100 (by omega) (by decide) dJ7_fill_d0a16_15 ?_
        refine zi_iincN (L' := [(3, .int (nI (i + 1))), (0, .ref 100), (1, .long x.toInt64), (4, .int (nI 40))]) dJ7_fill_d0a16_16 2 rfl (k := 1) (by decide) (by decide) rfl ?_
        refine zi_goto (tgt := 6) dJ7_fill_d0a16_19 (by decide) ?_
        refine zi_sub [1, 2, 0, 3] rfl ?_
        refine ih (i + 1) _ (by omega) (by omega) ?_
        rw [h3, zup_eq, zsetF_1, zfl_next]
        exact zsetF_2 _ _ _ _
  refine zi_sub [2, 3, 1, 0] rfl ?_
  exact lp 41 0 M (by omega) (by omega) (by rw [zcp_0, zsetF_id])
set_option maxRecDepth 100000 in
set_option maxHeartbeats 4000000 in
theorem ok_fill_101 {M : zMem} {x : Int32}  : zOkV zw0 0 mJ7_fill_d0a16 [.ref 101, .long x.toInt64] M (fun M' => M' = zsetF M 101 (fun j => if j < 40 then x else M 101 j)) := by
  refine zOk_of (by decide +kernel) (fun _ => Nat.le_of_ble_eq_true rfl) (L := [(0, .ref 101), (1, .long x.toInt64)]) rfl ?_
  refine zi_iconst (v := nI 0) dJ7_fill_d0a16_0 (by decide) ?_
  refine zi_istore_n (L' := [(3, .int (nI 0)), (0, .ref 101), (1, .long x.toInt64)]) dJ7_fill_d0a16_1 (i := 3) rfl (by decide) rfl ?_
  refine zi_aload_n dJ7_fill_d0a16_2 (i := 0) rfl 1 rfl ?_
  refine zi_alen cw0_101 (by decide) dJ7_fill_d0a16_3 ?_
  refine zi_istore (L' := [(4, .int (nI 40)), (3, .int (nI 0)), (0, .ref 101), (1, .long x.toInt64)]) dJ7_fill_d0a16_4 (by decide) rfl ?_
  have lp : ∀ (n i : Nat) (M2 : zMem), 40 - i < n → i ≤ 40 → M2 = zsetF M 101 (fun j => if j < i then x else M 101 j) → zRn zw0 0 mJ7_fill_d0a16 (zQV (fun M' => M' = zsetF M 101 (fun j => if j < 40 then x else M 101 j))) 6 [(0, .ref 101), (1, .long x.toInt64), (3, .int (nI i)), (4, .int (nI 40))] [] M2 := by
    intro n
    induction n with
    | zero => intro i M2 h1; omega
    | succ n ih =>
      intro i M2 h1 h2 h3
      refine zi_iload_n dJ7_fill_d0a16_6 (i := 3) rfl 2 rfl ?_
      refine zi_iload dJ7_fill_d0a16_7 3 rfl ?_
      refine zi_icmpN_ge (by  omega) (by decide) (tgt := 22) dJ7_fill_d0a16_9 (by decide) (fun c9 => ?_) (fun c9 => ?_)
      · refine zi_retV rfl dJ7_fill_d0a16_22 ?_
        have ei : i = 40 := by omega
        rw [ei] at h3
        exact h3
      · refine zi_aload_n dJ7_fill_d0a16_12 (i := 0) rfl 0 rfl ?_
        refine zi_iload_n dJ7_fill_d0a16_13 (i := 3) rfl 2 rfl ?_
        refine zi_lload_n dJ7_fill_d0a16_14 (i := 1) rfl 1 rfl ?_
        refine zi_lastN cw0_101 (by omega) (by decide) dJ7_fill_d0a16_15 ?_
        refine zi_iincN (L' := [(3, .int (nI (i + 1))), (0, .ref 101), (1, .long x.toInt64), (4, .int (nI 40))]) dJ7_fill_d0a16_16 2 rfl (k := 1) (by decide) (by decide) rfl ?_
        refine zi_goto (tgt := 6) dJ7_fill_d0a16_19 (by decide) ?_
        refine zi_sub [1, 2, 0, 3] rfl ?_
        refine ih (i + 1) _ (by omega) (by omega) ?_
        rw [h3, zup_eq, zsetF_1, zfl_next]
        exact zsetF_2 _ _ _ _
  refine zi_sub [2, 3, 1, 0] rfl ?_
  exact lp 41 0 M (by omega) (by omega) (by rw [zcp_0, zsetF_id])
set_option maxRecDepth 100000 in
set_option maxHeartbeats 4000000 in
theorem ok_fill_102 {M : zMem} {x : Int32}  : zOkV zw0 0 mJ7_fill_d0a16 [.ref 102, .long x.toInt64] M (fun M' => M' = zsetF M 102 (fun j => if j < 40 then x else M 102 j)) := by
  refine zOk_of (by decide +kernel) (fun _ => Nat.le_of_ble_eq_true rfl) (L := [(0, .ref 102), (1, .long x.toInt64)]) rfl ?_
  refine zi_iconst (v := nI 0) dJ7_fill_d0a16_0 (by decide) ?_
  refine zi_istore_n (L' := [(3, .int (nI 0)), (0, .ref 102), (1, .long x.toInt64)]) dJ7_fill_d0a16_1 (i := 3) rfl (by decide) rfl ?_
  refine zi_aload_n dJ7_fill_d0a16_2 (i := 0) rfl 1 rfl ?_
  refine zi_alen cw0_102 (by decide) dJ7_fill_d0a16_3 ?_
  refine zi_istore (L' := [(4, .int (nI 40)), (3, .int (nI 0)), (0, .ref 102), (1, .long x.toInt64)]) dJ7_fill_d0a16_4 (by decide) rfl ?_
  have lp : ∀ (n i : Nat) (M2 : zMem), 40 - i < n → i ≤ 40 → M2 = zsetF M 102 (fun j => if j < i then x else M 102 j) → zRn zw0 0 mJ7_fill_d0a16 (zQV (fun M' => M' = zsetF M 102 (fun j => if j < 40 then x else M 102 j))) 6 [(0, .ref 102), (1, .long x.toInt64), (3, .int (nI i)), (4, .int (nI 40))] [] M2 := by
    intro n
    induction n with
    | zero => intro i M2 h1; omega
    | succ n ih =>
      intro i M2 h1 h2 h3
      refine zi_iload_n dJ7_fill_d0a16_6 (i := 3) rfl 2 rfl ?_
      refine zi_iload dJ7_fill_d0a16_7 3 rfl ?_
      refine zi_icmpN_ge (by  omega) (by decide) (tgt := 22) dJ7_fill_d0a16_9 (by decide) (fun c9 => ?_) (fun c9 => ?_)
      · refine zi_retV rfl dJ7_fill_d0a16_22 ?_
        have ei : i = 40 := by omega
        rw [ei] at h3
        exact h3
      · refine zi_aload_n dJ7_fill_d0a16_12 (i := 0) rfl 0 rfl ?_
        refine zi_iload_n dJ7_fill_d0a16_13 (i := 3) rfl 2 rfl ?_
        refine zi_lload_n dJ7_fill_d0a16_14 (i := 1) rfl 1 rfl ?_
        refine zi_lastN cw0_102 (by omega) (by decide) dJ7_fill_d0a16_15 ?_
        refine zi_iincN (L' := [(3, .int (nI (i + 1))), (0, .ref 102), (1, .long x.toInt64), (4, .int (nI 40))]) dJ7_fill_d0a16_16 2 rfl (k := 1) (by decide) (by decide) rfl ?_
        refine zi_goto (tgt := 6) dJ7_fill_d0a16_19 (by decide) ?_
        refine zi_sub [1, 2, 0, 3] rfl ?_
        refine ih (i + 1) _ (by omega) (by omega) ?_
        rw [h3, zup_eq, zsetF_1, zfl_next]
        exact zsetF_2 _ _ _ _
  refine zi_sub [2, 3, 1, 0] rfl ?_
  exact lp 41 0 M (by omega) (by omega) (by rw [zcp_0, zsetF_id])
set_option maxRecDepth 100000 in
set_option maxHeartbeats 4000000 in
theorem ok_fill_103 {M : zMem} {x : Int32}  : zOkV zw0 0 mJ7_fill_d0a16 [.ref 103, .long x.toInt64] M (fun M' => M' = zsetF M 103 (fun j => if j < 40 then x else M 103 j)) := by
  refine zOk_of (by decide +kernel) (fun _ => Nat.le_of_ble_eq_true rfl) (L := [(0, .ref 103), (1, .long x.toInt64)]) rfl ?_
  refine zi_iconst (v := nI 0) dJ7_fill_d0a16_0 (by decide) ?_
  refine zi_istore_n (L' := [(3, .int (nI 0)), (0, .ref 103), (1, .long x.toInt64)]) dJ7_fill_d0a16_1 (i := 3) rfl (by decide) rfl ?_
  refine zi_aload_n dJ7_fill_d0a16_2 (i := 0) rfl 1 rfl ?_
  refine zi_alen cw0_103 (by decide) dJ7_fill_d0a16_3 ?_
  refine zi_istore (L' := [(4, .int (nI 40)), (3, .int (nI 0)), (0, .ref 103), (1, .long x.toInt64)]) dJ7_fill_d0a16_4 (by decide) rfl ?_
  have lp : ∀ (n i : Nat) (M2 : zMem), 40 - i < n → i ≤ 40 → M2 = zsetF M 103 (fun j => if j < i then x else M 103 j) → zRn zw0 0 mJ7_fill_d0a16 (zQV (fun M' => M' = zsetF M 103 (fun j => if j < 40 then x else M 103 j))) 6 [(0, .ref 103), (1, .long x.toInt64), (3, .int (nI i)), (4, .int (nI 40))] [] M2 := by
    intro n
    induction n with
    | zero => intro i M2 h1; omega
    | succ n ih =>
      intro i M2 h1 h2 h3
      refine zi_iload_n dJ7_fill_d0a16_6 (i := 3) rfl 2 rfl ?_
      refine zi_iload dJ7_fill_d0a16_7 3 rfl ?_
      refine zi_icmpN_ge (by  omega) (by decide) (tgt := 22) dJ7_fill_d0a16_9 (by decide) (fun c9 => ?_) (fun c9 => ?_)
      · refine zi_retV rfl dJ7_fill_d0a16_22 ?_
        have ei : i = 40 := by omega
        rw [ei] at h3
        exact h3
      · refine zi_aload_n dJ7_fill_d0a16_12 (i := 0) rfl 0 rfl ?_
        refine zi_iload_n dJ7_fill_d0a16_13 (i := 3) rfl 2 rfl ?_
        refine zi_lload_n dJ7_fill_d0a16_14 (i := 1) rfl 1 rfl ?_
        refine zi_lastN cw0_103 (by omega) (by decide) dJ7_fill_d0a16_15 ?_
        refine zi_iincN (L' := [(3, .int (nI (i + 1))), (0, .ref 103), (1, .long x.toInt64), (4, .int (nI 40))]) dJ7_fill_d0a16_16 2 rfl (k := 1) (by decide) (by decide) rfl ?_
        refine zi_goto (tgt := 6) dJ7_fill_d0a16_19 (by decide) ?_
        refine zi_sub [1, 2, 0, 3] rfl ?_
        refine ih (i + 1) _ (by omega) (by omega) ?_
        rw [h3, zup_eq, zsetF_1, zfl_next]
        exact zsetF_2 _ _ _ _
  refine zi_sub [2, 3, 1, 0] rfl ?_
  exact lp 41 0 M (by omega) (by omega) (by rw [zcp_0, zsetF_id])
def zbc1 (x : Int32) : Int32 := x - ((x.toUInt32 >>> ((nI 1).toUInt32 &&& Int32.toUInt32 31)).toInt32 &&& (nI 1431655765))
def zbc2 (x : Int32) : Int32 := (x &&& (nI 858993459)) + ((x.toUInt32 >>> ((nI 2).toUInt32 &&& Int32.toUInt32 31)).toInt32 &&& (nI 858993459))
def zbc3 (x : Int32) : Int32 := (x + (x.toUInt32 >>> ((nI 4).toUInt32 &&& Int32.toUInt32 31)).toInt32) &&& (nI 252645135)
def zbc4 (x : Int32) : Int32 := x + (x.toUInt32 >>> ((nI 8).toUInt32 &&& Int32.toUInt32 31)).toInt32
def zbc5 (x : Int32) : Int32 := x + (x.toUInt32 >>> ((nI 16).toUInt32 &&& Int32.toUInt32 31)).toInt32
theorem zbc_all : ∀ a, a < 64 → zbc5 (zbc4 (zbc3 (zbc2 (zbc1 (nI a))))) &&& nI 63 = nI (qOnes a) := by decide +kernel
set_option maxRecDepth 100000 in
set_option maxHeartbeats 4000000 in
theorem ok_bitCount {M : zMem} {a : Nat} (ha : a < 64) : zOkI zw0 0 mJ6_bitCount_0f7a4 [.int (nI a)] M (nI (qOnes a)) := by
  refine zOk_of (by decide +kernel) (fun _ => Nat.le_of_ble_eq_true rfl) (L := [(0, .int (nI a))]) rfl ?_
  refine zi_iload_n dJ6_bitCount_0f7a4_0 (i := 0) rfl 0 rfl ?_
  refine zi_iload_n dJ6_bitCount_0f7a4_1 (i := 0) rfl 0 rfl ?_
  refine zi_iconst (v := nI 1) dJ6_bitCount_0f7a4_2 (by decide) ?_
  refine zi_iushr dJ6_bitCount_0f7a4_3 ?_
  refine zi_ldcw (v := nI 1431655765) dJ6_bitCount_0f7a4_4 (zm4 161 rfl rfl) ?_
  refine zi_iand dJ6_bitCount_0f7a4_7 ?_
  refine zi_isub dJ6_bitCount_0f7a4_8 ?_
  refine zi_top (y := zbc1 (nI a)) rfl ?_
  refine zi_istore_n (L' := [(0, .int (zbc1 (nI a)))]) dJ6_bitCount_0f7a4_9 (i := 0) rfl (by decide) rfl ?_
  refine zi_iload_n dJ6_bitCount_0f7a4_10 (i := 0) rfl 0 rfl ?_
  refine zi_ldcw (v := nI 858993459) dJ6_bitCount_0f7a4_11 (zm4 162 rfl rfl) ?_
  refine zi_iand dJ6_bitCount_0f7a4_14 ?_
  refine zi_iload_n dJ6_bitCount_0f7a4_15 (i := 0) rfl 0 rfl ?_
  refine zi_iconst (v := nI 2) dJ6_bitCount_0f7a4_16 (by decide) ?_
  refine zi_iushr dJ6_bitCount_0f7a4_17 ?_
  refine zi_ldcw (v := nI 858993459) dJ6_bitCount_0f7a4_18 (zm4 162 rfl rfl) ?_
  refine zi_iand dJ6_bitCount_0f7a4_21 ?_
  refine zi_iadd dJ6_bitCount_0f7a4_22 ?_
  refine zi_top (y := zbc2 (zbc1 (nI a))) rfl ?_
  refine zi_istore_n (L' := [(0, .int (zbc2 (zbc1 (nI a))))]) dJ6_bitCount_0f7a4_23 (i := 0) rfl (by decide) rfl ?_
  refine zi_iload_n dJ6_bitCount_0f7a4_24 (i := 0) rfl 0 rfl ?_
  refine zi_iload_n dJ6_bitCount_0f7a4_25 (i := 0) rfl 0 rfl ?_
  refine zi_iconst (v := nI 4) dJ6_bitCount_0f7a4_26 (by decide) ?_
  refine zi_iushr dJ6_bitCount_0f7a4_27 ?_
  refine zi_iadd dJ6_bitCount_0f7a4_28 ?_
  refine zi_ldcw (v := nI 252645135) dJ6_bitCount_0f7a4_29 (zm4 163 rfl rfl) ?_
  refine zi_iand dJ6_bitCount_0f7a4_32 ?_
  refine zi_top (y := zbc3 (zbc2 (zbc1 (nI a)))) rfl ?_
  refine zi_istore_n (L' := [(0, .int (zbc3 (zbc2 (zbc1 (nI a)))))]) dJ6_bitCount_0f7a4_33 (i := 0) rfl (by decide) rfl ?_
  refine zi_iload_n dJ6_bitCount_0f7a4_34 (i := 0) rfl 0 rfl ?_
  refine zi_iload_n dJ6_bitCount_0f7a4_35 (i := 0) rfl 0 rfl ?_
  refine zi_bipush (v := nI 8) dJ6_bitCount_0f7a4_36 (by decide) ?_
  refine zi_iushr dJ6_bitCount_0f7a4_38 ?_
  refine zi_iadd dJ6_bitCount_0f7a4_39 ?_
  refine zi_top (y := zbc4 (zbc3 (zbc2 (zbc1 (nI a))))) rfl ?_
  refine zi_istore_n (L' := [(0, .int (zbc4 (zbc3 (zbc2 (zbc1 (nI a))))))]) dJ6_bitCount_0f7a4_40 (i := 0) rfl (by decide) rfl ?_
  refine zi_iload_n dJ6_bitCount_0f7a4_41 (i := 0) rfl 0 rfl ?_
  refine zi_iload_n dJ6_bitCount_0f7a4_42 (i := 0) rfl 0 rfl ?_
  refine zi_bipush (v := nI 16) dJ6_bitCount_0f7a4_43 (by decide) ?_
  refine zi_iushr dJ6_bitCount_0f7a4_45 ?_
  refine zi_iadd dJ6_bitCount_0f7a4_46 ?_
  refine zi_top (y := zbc5 (zbc4 (zbc3 (zbc2 (zbc1 (nI a)))))) rfl ?_
  refine zi_istore_n (L' := [(0, .int (zbc5 (zbc4 (zbc3 (zbc2 (zbc1 (nI a)))))))]) dJ6_bitCount_0f7a4_47 (i := 0) rfl (by decide) rfl ?_
  refine zi_iload_n dJ6_bitCount_0f7a4_48 (i := 0) rfl 0 rfl ?_
  refine zi_bipush (v := nI 63) dJ6_bitCount_0f7a4_49 (by decide) ?_
  refine zi_iand dJ6_bitCount_0f7a4_51 ?_
  refine zi_retI rfl rfl dJ6_bitCount_0f7a4_52 ?_
  exact zbc_all a ha
set_option maxRecDepth 100000 in
set_option maxHeartbeats 4000000 in
theorem ok_X10_withBuns_14 {M : zMem} {σ : Nat → Nat} (hv : zV 14 M σ) (hk : qOk σ) : zOkI zw0 0 mX10_withBuns [.ref 14] M (nI (qSetN (fun k => decide (0 < σ (38 + 6 * k + 4))) (σ 6))) := by
  have hb := hk.1
  have h66 := hk.2.1
  refine zOk_of (by decide +kernel) (fun _ => Nat.le_of_ble_eq_true rfl) (L := [(0, .ref 14)]) rfl ?_
  refine zi_iconst (v := nI 0) dX10_withBuns_0 (by decide) ?_
  refine zi_istore_n (L' := [(1, .int (nI 0)), (0, .ref 14)]) dX10_withBuns_1 (i := 1) rfl (by decide) rfl ?_
  refine zi_iconst (v := nI 0) dX10_withBuns_2 (by decide) ?_
  refine zi_istore_n (L' := [(2, .int (nI 0)), (1, .int (nI 0)), (0, .ref 14)]) dX10_withBuns_3 (i := 2) rfl (by decide) rfl ?_
  have lp : ∀ (n c i : Nat), c < n → i + c = σ 6 → True → zRn zw0 0 mX10_withBuns (zQI M (nI (qSetN (fun k => decide (0 < σ (38 + 6 * k + 4))) (σ 6)))) 4 [(0, .ref 14), (1, .int (nI (qSetN (fun k => decide (0 < σ (38 + 6 * k + 4))) i))), (2, .int (nI i))] [] M := by
    intro n
    induction n with
    | zero => intro c i h1; omega
    | succ n ih =>
      intro c i h1 h2 h3
      refine zi_iload_n dX10_withBuns_4 (i := 2) rfl 2 rfl ?_
      refine zi_aload_n dX10_withBuns_5 (i := 0) rfl 0 rfl ?_
      refine zi_getI fd_X10_79_X10 rfl cw0_14 rfl dX10_withBuns_6 ?_
      refine zi_top (y := nI (σ 6)) ((hv.1)) ?_
      refine zi_icmpN_ge (by  omega) (by have := hb 6; omega) (tgt := 37) dX10_withBuns_9 (by decide) (fun c9 => ?_) (fun c9 => ?_)
      · refine zi_iload_n dX10_withBuns_37 (i := 1) rfl 1 rfl ?_
        refine zi_retI rfl rfl dX10_withBuns_38 ?_
        obtain rfl : c = 0 := by omega
        rw [show i = σ 6 by omega]
      · obtain ⟨c', rfl⟩ : ∃ c', c = c' + 1 := ⟨c - 1, by omega⟩
        have hbn := hb (38 + 6 * i + 4)
        refine zi_iload_n dX10_withBuns_12 (i := 1) rfl 1 rfl ?_
        refine zi_aload_n dX10_withBuns_13 (i := 0) rfl 0 rfl ?_
        refine zi_getR fd_X10_24_X10 rfl cw0_14 rfl dX10_withBuns_14 ?_
        refine zi_iload_n dX10_withBuns_17 (i := 2) rfl 2 rfl ?_
        refine zi_ialdN cw0_19 (by omega) (by decide) dX10_withBuns_18 ?_
        refine zi_top (y := nI (σ (38 + 6 * i + 4))) (((zV_h hv (k := i) (by omega)).2.2.2.2.1)) ?_
        refine zi_ifN_le (by have := hb (38 + 6 * i + 4); omega) (tgt := 28) dX10_withBuns_19 (by decide) (fun c19 => ?_) (fun c19 => ?_)
        · refine zi_iconst (v := nI 0) dX10_withBuns_28 (by decide) ?_
          refine zi_ior dX10_withBuns_29 ?_
          refine zi_top (y := nI (qSetN (fun k => decide (0 < σ (38 + 6 * k + 4))) (i + 1))) (by first | exact zset_t (by omega) (decide_eq_true (by omega)) | exact zset_f (by omega) (decide_eq_false (by omega))) ?_
          refine zi_istore_n (L' := [(1, .int (nI (qSetN (fun k => decide (0 < σ (38 + 6 * k + 4))) (i + 1)))), (0, .ref 14), (2, .int (nI i))]) dX10_withBuns_30 (i := 1) rfl (by decide) rfl ?_
          refine zi_iincN (L' := [(2, .int (nI (i + 1))), (1, .int (nI (qSetN (fun k => decide (0 < σ (38 + 6 * k + 4))) (i + 1)))), (0, .ref 14)]) dX10_withBuns_31 2 rfl (k := 1) (by decide) (by decide) rfl ?_
          refine zi_goto (tgt := 4) dX10_withBuns_34 (by decide) ?_
          refine zi_sub [2, 1, 0] rfl ?_
          exact ih c' (i + 1) (by omega) (by omega) trivial
        · refine zi_iconst (v := nI 1) dX10_withBuns_22 (by decide) ?_
          refine zi_iload_n dX10_withBuns_23 (i := 2) rfl 2 rfl ?_
          refine zi_ishl dX10_withBuns_24 ?_
          refine zi_top (y := nI (2 ^ i)) (zshl1 i (by omega)) ?_
          refine zi_goto (tgt := 29) dX10_withBuns_25 (by decide) ?_
          refine zi_ior dX10_withBuns_29 ?_
          refine zi_top (y := nI (qSetN (fun k => decide (0 < σ (38 + 6 * k + 4))) (i + 1))) (by first | exact zset_t (by omega) (decide_eq_true (by omega)) | exact zset_f (by omega) (decide_eq_false (by omega))) ?_
          refine zi_istore_n (L' := [(1, .int (nI (qSetN (fun k => decide (0 < σ (38 + 6 * k + 4))) (i + 1)))), (0, .ref 14), (2, .int (nI i))]) dX10_withBuns_30 (i := 1) rfl (by decide) rfl ?_
          refine zi_iincN (L' := [(2, .int (nI (i + 1))), (1, .int (nI (qSetN (fun k => decide (0 < σ (38 + 6 * k + 4))) (i + 1)))), (0, .ref 14)]) dX10_withBuns_31 2 rfl (k := 1) (by decide) (by decide) rfl ?_
          refine zi_goto (tgt := 4) dX10_withBuns_34 (by decide) ?_
          refine zi_sub [2, 1, 0] rfl ?_
          exact ih c' (i + 1) (by omega) (by omega) trivial
  refine zi_sub [2, 1, 0] rfl ?_
  exact lp (σ 6 + 1) (σ 6) 0 (by omega) (by omega) trivial
set_option maxRecDepth 100000 in
set_option maxHeartbeats 4000000 in
theorem ok_X10_startAnew {M : zMem}   : zOkV zw0 1 mX10_startAnew [.ref 14] M (fun M' => M' = zsetF (zup (zup (zup (zup (zup M 14 12 (nI 0)) 14 16 (nI 0)) 14 14 (nI 0)) 14 15 (nI 26)) 14 11 (nI 0)) 19 (fun j => if j < 6 then nI 0 else M 19 j)) := by
  refine zOk_of (by decide +kernel) (fun _ => Nat.le_of_ble_eq_true rfl) (L := [(0, .ref 14)]) rfl ?_
  refine zi_aload_n dX10_startAnew_0 (i := 0) rfl 0 rfl ?_
  refine zi_iconst (v := nI 0) dX10_startAnew_1 (by decide) ?_
  refine zi_putI fd_X10_85_X10 fp_X10_12 rfl cw0_14 rfl rfl dX10_startAnew_2 ?_
  refine zi_aload_n dX10_startAnew_5 (i := 0) rfl 0 rfl ?_
  refine zi_iconst (v := nI 0) dX10_startAnew_6 (by decide) ?_
  refine zi_putI fd_X10_91_X10 fp_X10_16 rfl cw0_14 rfl rfl dX10_startAnew_7 ?_
  refine zi_aload_n dX10_startAnew_10 (i := 0) rfl 0 rfl ?_
  refine zi_iconst (v := nI 0) dX10_startAnew_11 (by decide) ?_
  refine zi_putI fd_X10_88_X10 fp_X10_14 rfl cw0_14 rfl rfl dX10_startAnew_12 ?_
  refine zi_aload_n dX10_startAnew_15 (i := 0) rfl 0 rfl ?_
  refine zi_bipush (v := nI 26) dX10_startAnew_16 (by decide) ?_
  refine zi_putI fd_X10_54_X10 fp_X10_15 rfl cw0_14 rfl rfl dX10_startAnew_18 ?_
  refine zi_aload_n dX10_startAnew_21 (i := 0) rfl 0 rfl ?_
  refine zi_iconst (v := nI 0) dX10_startAnew_22 (by decide) ?_
  refine zi_putI fd_X10_82_X10 fp_X10_11 rfl cw0_14 rfl rfl dX10_startAnew_23 ?_
  refine zi_aload_n dX10_startAnew_26 (i := 0) rfl 0 rfl ?_
  refine zi_getR fd_X10_24_X10 rfl cw0_14 rfl dX10_startAnew_27 ?_
  refine zi_iconst (v := nI 0) dX10_startAnew_30 (by decide) ?_
  refine zcV (zc_S (as := [.ref 19, .int (nI 0)]) lk_X10_60 ce_J7_fill_53178 dX10_startAnew_31 (by decide) rfl rfl (Nat.le_of_ble_eq_true rfl)) ok_fill_19 (fun M31 h31 => ?_)
  refine zi_retV rfl dX10_startAnew_34 ?_
  rw [h31]
  rw [show (zup (zup (zup (zup (zup M 14 12 (nI 0)) 14 16 (nI 0)) 14 14 (nI 0)) 14 15 (nI 26)) 14 11 (nI 0)) 19 = M 19 from by rw [zup_other _ _ _ (by decide), zup_other _ _ _ (by decide), zup_other _ _ _ (by decide), zup_other _ _ _ (by decide), zup_other _ _ _ (by decide)]]
theorem zV_an {M M' : zMem} {σ : Nat → Nat} (h : zV 14 M σ) (h66 : σ 6 ≤ 6) (hM : M' = zsetF (zup (zup (zup (zup (zup M 14 12 (nI 0)) 14 16 (nI 0)) 14 14 (nI 0)) 14 15 (nI 26)) 14 11 (nI 0)) 19 (fun j => if j < 6 then nI 0 else M 19 j)) : zV 14 M' (zun (qAn σ (σ 6)) 0 0) := by
  obtain ⟨a1, a2, a3, a4, a5, a6, a7, a8, a9, a10⟩ := h
  have e14 : ∀ j, M' 14 j = (zup (zup (zup (zup (zup M 14 12 (nI 0)) 14 16 (nI 0)) 14 14 (nI 0)) 14 15 (nI 26)) 14 11 (nI 0)) 14 j := fun j => by rw [hM, zsetF_o _ _ (by decide)]
  have eo : ∀ c, c ≠ 14 → c ≠ 19 → M' c = M c := fun c h1 h2 => by rw [hM, zsetF_o _ _ h2, zup_other _ _ _ h1, zup_other _ _ _ h1, zup_other _ _ _ h1, zup_other _ _ _ h1, zup_other _ _ _ h1]
  have e19 : ∀ k, k < 6 → M' 19 k = nI 0 := fun k hk => by rw [hM, zsetF_1, if_pos hk]
  have zo : ∀ j, (j < 38 ∨ 38 + 6 * σ 6 ≤ j ∨ (j - 38) % 6 < 4) → j ≠ 0 → j ≠ 3 → j ≠ 4 → zun (qAn σ (σ 6)) 0 0 j = σ j := fun j h1 h0 h3 h4 => by
    rw [zun_other _ _ h0]
    unfold qAn
    rw [if_neg h3, if_neg h4, if_neg (by omega)]
  have zz : ∀ k, k < σ 6 → zun (qAn σ (σ 6)) 0 0 (38 + 6 * k + 4) = 0 ∧ zun (qAn σ (σ 6)) 0 0 (38 + 6 * k + 5) = 0 := fun k hk => by
    rw [zun_other _ _ (by omega), zun_other _ _ (by omega)]
    unfold qAn
    rw [if_neg (by omega), if_neg (by omega), if_pos (by omega), if_neg (by omega), if_neg (by omega), if_pos (by omega)]
    exact ⟨rfl, rfl⟩
  have zc : qCalled (zun (qAn σ (σ 6)) 0 0) = 0 := by
    apply Nat.eq_of_testBit_eq
    intro i
    rw [qCalled_tb, zo 6 (by omega) (by decide) (by decide) (by decide), Nat.zero_testBit]
    by_cases hi : i < σ 6
    · rw [(zz i hi).2, decide_eq_true hi]; rfl
    · rw [decide_eq_false hi]; rfl
  refine ⟨?_, ?_, ?_, ?_, ?_, ?_, fun k hk => ?_, fun k hk hk6 => e19 k hk6, fun k hk => ?_, fun k hk => ?_⟩
  · rw [zo 6 (by omega) (by decide) (by decide) (by decide), e14]; exact (zr_j (by decide) (zr_j (by decide) (zr_j (by decide) (zr_j (by decide) (zr_j (by decide) a1)))))
  · rw [zc, e14]; exact zr_h
  · rw [zun_same, e14]; exact (zr_j (by decide) (zr_j (by decide) (zr_j (by decide) (zr_j (by decide) zr_h))))
  · rw [zo 1 (by omega) (by decide) (by decide) (by decide), e14]; exact (zr_j (by decide) (zr_j (by decide) (zr_j (by decide) (zr_j (by decide) (zr_j (by decide) a4)))))
  · rw [zun_other _ _ (by decide), e14, show qAn σ (σ 6) 3 = 0 from rfl]; exact (zr_j (by decide) (zr_j (by decide) zr_h))
  · rw [zun_other _ _ (by decide), e14, show qAn σ (σ 6) 4 = 26 from rfl]; exact (zr_j (by decide) zr_h)
  · rw [zo 6 (by omega) (by decide) (by decide) (by decide)] at hk
    obtain ⟨c1, c2, c3, c4, c5, c6⟩ := a7 k hk
    rw [zo (38 + 6 * k) (by omega) (by omega) (by omega) (by omega), zo (38 + 6 * k + 1) (by omega) (by omega) (by omega) (by omega), zo (38 + 6 * k + 2) (by omega) (by omega) (by omega) (by omega), zo (38 + 6 * k + 3) (by omega) (by omega) (by omega) (by omega), (zz k hk).1, eo 15 (by decide) (by decide), eo 16 (by decide) (by decide), eo 17 (by decide) (by decide), eo 18 (by decide) (by decide)]
    exact ⟨c1, c2, c3, c4, e19 k (by omega), c6⟩
  · rw [zo _ (by omega) (by omega) (by omega) (by omega), zo _ (by omega) (by omega) (by omega) (by omega), eo 20 (by decide) (by decide), eo 21 (by decide) (by decide)]; exact a9 k hk
  · rw [zo _ (by omega) (by omega) (by omega) (by omega), eo 22 (by decide) (by decide)]; exact a10 k hk
set_option maxRecDepth 100000 in
set_option maxHeartbeats 4000000 in
theorem ok_X11_anew {M : zMem} {σ : Nat → Nat} {R : List gRl} (ha : zVa 14 M σ R) (hk : qOk σ) : zOkJ zw0 3 mX11_anew [.ref 0] M (fun x M' => x = nI (σ 0) ∧ zNs M (zun (qAn σ (σ 6)) 0 0) R (nI 0) (M 14 17) M') := by
  have hv := ha.1
  have hb := hk.1
  have h66 := hk.2.1
  refine zOk_of (by decide +kernel) (fun _ => Nat.le_of_ble_eq_true rfl) (L := [(0, .ref 0)]) rfl ?_
  refine zi_aload_n dX11_anew_0 (i := 0) rfl 0 rfl ?_
  refine zi_getR fd_X11_34_X11 rfl cw0_0 rfl dX11_anew_1 ?_
  refine zi_getI fd_X11_146_X10 rfl cw0_14 rfl dX11_anew_4 ?_
  refine zi_top (y := nI (σ 0)) ((hv.2.2.1)) ?_
  refine zi_istore_n (L' := [(1, .int (nI (σ 0))), (0, .ref 0)]) dX11_anew_7 (i := 1) rfl (by decide) rfl ?_
  refine zi_aload_n dX11_anew_8 (i := 0) rfl 1 rfl ?_
  refine zi_getR fd_X11_34_X11 rfl cw0_0 rfl dX11_anew_9 ?_
  refine zcV (zc_V (as := []) lk_X11_152 ce_X10_startAnew cw0_14 rfl rfl dX11_anew_12 (by decide) rfl rfl (Nat.le_of_ble_eq_true rfl)) ok_X10_startAnew (fun M12 h12 => ?_)
  refine zi_iload_n dX11_anew_15 (i := 1) rfl 0 rfl ?_
  refine zi_retJ rfl rfl dX11_anew_16 ?_
  have eo : ∀ c, c ≠ 14 → c ≠ 19 → M12 c = M c := fun c h1 h2 => by rw [h12, zsetF_o _ _ h2, zup_other _ _ _ h1, zup_other _ _ _ h1, zup_other _ _ _ h1, zup_other _ _ _ h1, zup_other _ _ _ h1]
  refine ⟨rfl, ⟨zV_an hv h66 h12, zRC_of ha.2.1 (fun c h1 h2 => eo c (by omega) (by omega)), zRp_up (zRp_of ha.2.2 (fun c h1 h2 => eo c (by omega) (by omega))) (fun j hj => ?_)⟩, ?_, ?_, fun c hc => eo c (by omega) (by omega)⟩
  · rw [zun_other _ _ (by omega)]; unfold qAn; rw [if_neg (by omega), if_neg (by omega), if_neg (by omega)]
  · rw [h12, zsetF_o _ _ (by decide)]; exact zr_j (by decide) (zr_j (by decide) (zr_j (by decide) zr_h))
  · rw [h12, zsetF_o _ _ (by decide)]; exact (zr_j (by decide) (zr_j (by decide) (zr_j (by decide) (zr_j (by decide) (zr_j (by decide) rfl)))))
set_option maxRecDepth 100000 in
set_option maxHeartbeats 4000000 in
theorem ok_X11_state0 {M : zMem} {σ : Nat → Nat} {R : List gRl} (ha : zVa 14 M σ R) (hk : qOk σ) : zOkI zw0 3 mX11_state [.ref 0, .int (nI 0)] M (nI (σ 0)) := by
  have hv := ha.1
  have hb := hk.1
  have h66 := hk.2.1
  refine zOk_of (by decide +kernel) (fun _ => Nat.le_of_ble_eq_true rfl) (L := [(0, .ref 0), (1, .int (nI 0))]) rfl ?_
  refine zi_iload_n dX11_state_0 (i := 1) rfl 1 rfl ?_
  refine zi_tableIn (off := 51) (tgt := 52) dX11_state_1 (by decide) (by decide) (by decide) (by decide) ?_
  refine zi_aload_n dX11_state_52 (i := 0) rfl 0 rfl ?_
  refine zi_getR fd_X11_34_X11 rfl cw0_0 rfl dX11_state_53 ?_
  refine zi_getI fd_X11_146_X10 rfl cw0_14 rfl dX11_state_56 ?_
  refine zi_top (y := nI (σ 0)) ((hv.2.2.1)) ?_
  refine zi_retI rfl rfl dX11_state_59 ?_
  rfl
set_option maxRecDepth 100000 in
set_option maxHeartbeats 4000000 in
theorem ok_X11_state1 {M : zMem} {σ : Nat → Nat} {R : List gRl} (ha : zVa 14 M σ R) (hk : qOk σ) : zOkI zw0 3 mX11_state [.ref 0, .int (nI 1)] M (nI (σ 1)) := by
  have hv := ha.1
  have hb := hk.1
  have h66 := hk.2.1
  refine zOk_of (by decide +kernel) (fun _ => Nat.le_of_ble_eq_true rfl) (L := [(0, .ref 0), (1, .int (nI 1))]) rfl ?_
  refine zi_iload_n dX11_state_0 (i := 1) rfl 1 rfl ?_
  refine zi_tableIn (off := 59) (tgt := 60) dX11_state_1 (by decide) (by decide) (by decide) (by decide) ?_
  refine zi_aload_n dX11_state_60 (i := 0) rfl 0 rfl ?_
  refine zi_getR fd_X11_34_X11 rfl cw0_0 rfl dX11_state_61 ?_
  refine zi_getI fd_X11_149_X10 rfl cw0_14 rfl dX11_state_64 ?_
  refine zi_top (y := nI (σ 1)) ((hv.2.2.2.1)) ?_
  refine zi_retI rfl rfl dX11_state_67 ?_
  rfl
set_option maxRecDepth 100000 in
set_option maxHeartbeats 4000000 in
theorem ok_X11_state2 {M : zMem} {σ : Nat → Nat} {R : List gRl} (ha : zVa 14 M σ R) (hk : qOk σ) : zOkI zw0 3 mX11_state [.ref 0, .int (nI 2)] M (M 14 16) := by
  have hv := ha.1
  have hb := hk.1
  have h66 := hk.2.1
  refine zOk_of (by decide +kernel) (fun _ => Nat.le_of_ble_eq_true rfl) (L := [(0, .ref 0), (1, .int (nI 2))]) rfl ?_
  refine zi_iload_n dX11_state_0 (i := 1) rfl 1 rfl ?_
  refine zi_tableIn (off := 67) (tgt := 68) dX11_state_1 (by decide) (by decide) (by decide) (by decide) ?_
  refine zi_aload_n dX11_state_68 (i := 0) rfl 0 rfl ?_
  refine zi_getR fd_X11_34_X11 rfl cw0_0 rfl dX11_state_69 ?_
  refine zi_getI fd_X11_155_X10 rfl cw0_14 rfl dX11_state_72 ?_
  refine zi_retI rfl rfl dX11_state_75 ?_
  rfl
set_option maxRecDepth 100000 in
set_option maxHeartbeats 4000000 in
theorem ok_X11_state3 {M : zMem} {σ : Nat → Nat} {R : List gRl} (ha : zVa 14 M σ R) (hk : qOk σ) : zOkI zw0 3 mX11_state [.ref 0, .int (nI 3)] M (zb (qOver σ)) := by
  have hv := ha.1
  have hb := hk.1
  have h66 := hk.2.1
  refine zOk_of (by decide +kernel) (fun _ => Nat.le_of_ble_eq_true rfl) (L := [(0, .ref 0), (1, .int (nI 3))]) rfl ?_
  refine zi_iload_n dX11_state_0 (i := 1) rfl 1 rfl ?_
  refine zi_tableIn (off := 75) (tgt := 76) dX11_state_1 (by decide) (by decide) (by decide) (by decide) ?_
  refine zi_aload_n dX11_state_76 (i := 0) rfl 0 rfl ?_
  refine zi_getR fd_X11_34_X11 rfl cw0_0 rfl dX11_state_77 ?_
  refine zcI (zc_V (as := []) lk_X11_158 ce_X10_isOver cw0_14 rfl rfl dX11_state_80 (by decide) rfl rfl (Nat.le_of_ble_eq_true rfl)) (ok_X10_isOver_14 hv hk) ?_
  refine zi_ifB_eq (tgt := 90) dX11_state_83 (by decide) (fun c83 => ?_) (fun c83 => ?_)
  · refine zi_iconst (v := nI 0) dX11_state_90 (by decide) ?_
    refine zi_retI rfl rfl dX11_state_91 ?_
    rw [c83]
    rfl
  · refine zi_iconst (v := nI 1) dX11_state_86 (by decide) ?_
    refine zi_goto (tgt := 91) dX11_state_87 (by decide) ?_
    refine zi_retI rfl rfl dX11_state_91 ?_
    rw [c83]
    rfl
set_option maxRecDepth 100000 in
set_option maxHeartbeats 4000000 in
theorem ok_X11_state4 {M : zMem} {σ : Nat → Nat} {R : List gRl} (ha : zVa 14 M σ R) (hk : qOk σ) : zOkI zw0 3 mX11_state [.ref 0, .int (nI 4)] M (nI (qSetN (fun k => decide (0 < σ (38 + 6 * k + 4))) (σ 6))) := by
  have hv := ha.1
  have hb := hk.1
  have h66 := hk.2.1
  refine zOk_of (by decide +kernel) (fun _ => Nat.le_of_ble_eq_true rfl) (L := [(0, .ref 0), (1, .int (nI 4))]) rfl ?_
  refine zi_iload_n dX11_state_0 (i := 1) rfl 1 rfl ?_
  refine zi_tableIn (off := 91) (tgt := 92) dX11_state_1 (by decide) (by decide) (by decide) (by decide) ?_
  refine zi_aload_n dX11_state_92 (i := 0) rfl 0 rfl ?_
  refine zi_getR fd_X11_34_X11 rfl cw0_0 rfl dX11_state_93 ?_
  refine zcI (zc_V (as := []) lk_X11_162 ce_X10_withBuns cw0_14 rfl rfl dX11_state_96 (by decide) rfl rfl (Nat.le_of_ble_eq_true rfl)) (ok_X10_withBuns_14 hv hk) ?_
  refine zi_retI rfl rfl dX11_state_99 ?_
  rfl
set_option maxRecDepth 100000 in
set_option maxHeartbeats 4000000 in
theorem ok_X11_state5 {M : zMem} {σ : Nat → Nat} {R : List gRl} (ha : zVa 14 M σ R) (hk : qOk σ) : zOkI zw0 3 mX11_state [.ref 0, .int (nI 5)] M (nI (qCalled σ)) := by
  have hv := ha.1
  have hb := hk.1
  have h66 := hk.2.1
  refine zOk_of (by decide +kernel) (fun _ => Nat.le_of_ble_eq_true rfl) (L := [(0, .ref 0), (1, .int (nI 5))]) rfl ?_
  refine zi_iload_n dX11_state_0 (i := 1) rfl 1 rfl ?_
  refine zi_tableIn (off := 99) (tgt := 100) dX11_state_1 (by decide) (by decide) (by decide) (by decide) ?_
  refine zi_aload_n dX11_state_100 (i := 0) rfl 0 rfl ?_
  refine zi_getR fd_X11_34_X11 rfl cw0_0 rfl dX11_state_101 ?_
  refine zi_getI fd_X11_166_X10 rfl cw0_14 rfl dX11_state_104 ?_
  refine zi_top (y := nI (qCalled σ)) ((hv.2.1)) ?_
  refine zi_retI rfl rfl dX11_state_107 ?_
  rfl
set_option maxRecDepth 100000 in
set_option maxHeartbeats 4000000 in
theorem ok_X11_state6 {M : zMem} {σ : Nat → Nat} {R : List gRl} (ha : zVa 14 M σ R) (hk : qOk σ) : zOkI zw0 3 mX11_state [.ref 0, .int (nI 6)] M ((if σ 0 < 16 then nI (σ (10 + σ 0)) else nI 0)) := by
  have hv := ha.1
  have hb := hk.1
  have h66 := hk.2.1
  refine zOk_of (by decide +kernel) (fun _ => Nat.le_of_ble_eq_true rfl) (L := [(0, .ref 0), (1, .int (nI 6))]) rfl ?_
  refine zi_iload_n dX11_state_0 (i := 1) rfl 1 rfl ?_
  refine zi_tableIn (off := 107) (tgt := 108) dX11_state_1 (by decide) (by decide) (by decide) (by decide) ?_
  refine zi_aload_n dX11_state_108 (i := 0) rfl 0 rfl ?_
  refine zi_getR fd_X11_34_X11 rfl cw0_0 rfl dX11_state_109 ?_
  refine zcI (zc_V (as := []) lk_X11_169 ce_X10_duskNow cw0_14 rfl rfl dX11_state_112 (by decide) rfl rfl (Nat.le_of_ble_eq_true rfl)) (ok_X10_duskNow_14 hv hk) ?_
  refine zi_retI rfl rfl dX11_state_115 ?_
  split <;> rfl
set_option maxRecDepth 100000 in
set_option maxHeartbeats 4000000 in
theorem ok_X11_state7 {M : zMem} {σ : Nat → Nat} {R : List gRl} (ha : zVa 14 M σ R) (hk : qOk σ) : zOkI zw0 3 mX11_state [.ref 0, .int (nI 7)] M (nI (σ 3)) := by
  have hv := ha.1
  have hb := hk.1
  have h66 := hk.2.1
  refine zOk_of (by decide +kernel) (fun _ => Nat.le_of_ble_eq_true rfl) (L := [(0, .ref 0), (1, .int (nI 7))]) rfl ?_
  refine zi_iload_n dX11_state_0 (i := 1) rfl 1 rfl ?_
  refine zi_tableIn (off := 115) (tgt := 116) dX11_state_1 (by decide) (by decide) (by decide) (by decide) ?_
  refine zi_aload_n dX11_state_116 (i := 0) rfl 0 rfl ?_
  refine zi_getR fd_X11_34_X11 rfl cw0_0 rfl dX11_state_117 ?_
  refine zi_getI fd_X11_140_X10 rfl cw0_14 rfl dX11_state_120 ?_
  refine zi_top (y := nI (σ 3)) ((hv.2.2.2.2.1)) ?_
  refine zi_retI rfl rfl dX11_state_123 ?_
  rfl
set_option maxRecDepth 100000 in
set_option maxHeartbeats 4000000 in
theorem ok_X11_state8 {M : zMem} {σ : Nat → Nat} {R : List gRl} (ha : zVa 14 M σ R) (hk : qOk σ) : zOkI zw0 3 mX11_state [.ref 0, .int (nI 8)] M (nI (σ 4)) := by
  have hv := ha.1
  have hb := hk.1
  have h66 := hk.2.1
  refine zOk_of (by decide +kernel) (fun _ => Nat.le_of_ble_eq_true rfl) (L := [(0, .ref 0), (1, .int (nI 8))]) rfl ?_
  refine zi_iload_n dX11_state_0 (i := 1) rfl 1 rfl ?_
  refine zi_tableIn (off := 123) (tgt := 124) dX11_state_1 (by decide) (by decide) (by decide) (by decide) ?_
  refine zi_aload_n dX11_state_124 (i := 0) rfl 0 rfl ?_
  refine zi_getR fd_X11_34_X11 rfl cw0_0 rfl dX11_state_125 ?_
  refine zi_getI fd_X11_143_X10 rfl cw0_14 rfl dX11_state_128 ?_
  refine zi_top (y := nI (σ 4)) ((hv.2.2.2.2.2.1)) ?_
  refine zi_retI rfl rfl dX11_state_131 ?_
  rfl
set_option maxRecDepth 100000 in
set_option maxHeartbeats 4000000 in
theorem bad_X11_state {M : zMem} {x : Int32} (hB : zin x (nI 0) (nI 8) = false) : zOkI zw0 3 mX11_state [.ref 0, .int x] M (-1) := by
  refine zOk_of (by decide +kernel) (fun _ => Nat.le_of_ble_eq_true rfl) (L := [(0, .ref 0), (1, .int x)]) rfl ?_
  refine zi_iload_n dX11_state_0 (i := 1) rfl 1 rfl ?_
  by_cases e1_0 : x = nI 0
  · exact False.elim (by rw [e1_0] at hB; exact absurd hB (by decide))
  · skip
    by_cases e1_1 : x = nI 1
    · exact False.elim (by rw [e1_1] at hB; exact absurd hB (by decide))
    · skip
      by_cases e1_2 : x = nI 2
      · exact False.elim (by rw [e1_2] at hB; exact absurd hB (by decide))
      · skip
        by_cases e1_3 : x = nI 3
        · exact False.elim (by rw [e1_3] at hB; exact absurd hB (by decide))
        · skip
          by_cases e1_4 : x = nI 4
          · exact False.elim (by rw [e1_4] at hB; exact absurd hB (by decide))
          · skip
            by_cases e1_5 : x = nI 5
            · exact False.elim (by rw [e1_5] at hB; exact absurd hB (by decide))
            · skip
              by_cases e1_6 : x = nI 6
              · exact False.elim (by rw [e1_6] at hB; exact absurd hB (by decide))
              · skip
                by_cases e1_7 : x = nI 7
                · exact False.elim (by rw [e1_7] at hB; exact absurd hB (by decide))
                · skip
                  by_cases e1_8 : x = nI 8
                  · exact False.elim (by rw [e1_8] at hB; exact absurd hB (by decide))
                  · skip
                    refine zi_tableOut (tgt := 132) dX11_state_1 (by have t0 := zne (by decide) e1_0; have t1 := zne (by decide) e1_1; have t2 := zne (by decide) e1_2; have t3 := zne (by decide) e1_3; have t4 := zne (by decide) e1_4; have t5 := zne (by decide) e1_5; have t6 := zne (by decide) e1_6; have t7 := zne (by decide) e1_7; have t8 := zne (by decide) e1_8; omega) (by decide) ?_
                    refine zi_iconst (v := (-1)) dX11_state_132 (by decide) ?_
                    refine zi_retI rfl rfl dX11_state_133 ?_
                    rfl
