def zfC (x : Int64) (k : Nat) : Int32 := ((x.toUInt64 >>> ((nI (8 * k)).toInt64.toUInt64 &&& Int64.toUInt64 63)).toInt64 &&& 255).toInt32
theorem zfC_bv (b : BitVec 64) (s : Nat) (h : s = 0 ∨ s = 8 ∨ s = 16 ∨ s = 24 ∨ s = 32 ∨ s = 40 ∨ s = 48 ∨ s = 56) : ((b >>> s) &&& 255#64).setWidth 32 = BitVec.ofNat 32 (b.toNat / 2 ^ s % 256) := by
  apply BitVec.eq_of_toNat_eq
  have hb := b.isLt
  rw [BitVec.toNat_setWidth, BitVec.toNat_and, BitVec.toNat_ofNat, BitVec.toNat_ofNat, show 255 % 2 ^ 64 = 2 ^ 8 - 1 from rfl, Nat.and_two_pow_sub_one_eq_mod, BitVec.toNat_ushiftRight, Nat.shiftRight_eq_div_pow]
theorem zfC_eq (x : Int64) {k : Nat} (hk : k < 8) : zfC x k = nI (qByte x k) := by
  apply Int32.toBitVec_inj.mp
  show ((x.toBitVec >>> (((nI (8 * k)).toInt64.toBitVec &&& 63#64) % 64#64)) &&& 255#64).signExtend 32 = BitVec.ofNat 32 (x.toBitVec.toNat / 2 ^ (8 * k) % 256)
  have e : (((nI (8 * k)).toInt64.toBitVec &&& 63#64) % 64#64).toNat = 8 * k := by
    have h : ∀ k, k < 8 → (((nI (8 * k)).toInt64.toBitVec &&& 63#64) % 64#64).toNat = 8 * k := by decide +kernel
    exact h k hk
  have e2 : x.toBitVec >>> (((nI (8 * k)).toInt64.toBitVec &&& 63#64) % 64#64) = x.toBitVec >>> (8 * k) := by
    rw [BitVec.ushiftRight_eq', e]
  rw [e2, BitVec.signExtend_eq_setWidth_of_le _ (by decide)]
  exact zfC_bv _ _ (by omega)
/-- the class's tape: u bytes β -/
def zTq (β : Nat → Nat) (u : Nat) (M : zMem) : Prop := M 83 1 = nI u ∧ u ≤ 200 ∧ (∀ k, k < u → M 84 k = nI (β k)) ∧ ∀ k, β k < 256
theorem zTq_fed {β : Nat → Nat} {u q : Nat} {x : Int64} {M M' : zMem} (ht : zTq β u M) (hq : q ≤ 8) (hu : u + q ≤ 200) (h6 : M' 83 1 = nI (u + q)) (h5 : ∀ k, k < u + q → M' 84 k = if k < u then M 84 k else zfC x (k - u)) : zTq (qFed β u x) (u + q) M' := by
  refine ⟨h6, hu, fun k hk => ?_, fun k => ?_⟩
  · rw [h5 k hk]
    unfold qFed
    split
    · exact ht.2.2.1 k (by assumption)
    · exact zfC_eq x (by omega)
  · unfold qFed
    split
    · exact ht.2.2.2 k
    · exact qByte_lt _ _
set_option maxRecDepth 100000 in
set_option maxHeartbeats 4000000 in
theorem ok_X6_takes {M : zMem} {β : Nat → Nat} {u : Nat} {q : Nat} {x : Int64} (ht : zTq β u M) (h1q : 1 ≤ q) (hq : q ≤ 8) (huq : u + q ≤ 200) : zOkJ zw0 0 mX6_takes [.ref 83, .long x, .int (nI q)] M (fun r M' => r = nI 1 ∧ zTq (qFed β u x) (u + q) M' ∧ (∀ j, j ≠ 1 → M' 83 j = M 83 j) ∧ zFr [83, 84] M M') := by
  refine zOk_of (by decide +kernel) (fun _ => Nat.le_of_ble_eq_true rfl) (L := [(0, .ref 83), (1, .long x), (3, .int (nI q))]) rfl ?_
  refine zi_aload_n dX6_takes_0 (i := 0) rfl 0 rfl ?_
  refine zi_getI fd_X6_28_X6 rfl cw0_83 rfl dX6_takes_1 ?_
  refine zi_top (y := nI u) ((ht.1)) ?_
  refine zi_iload_n dX6_takes_4 (i := 3) rfl 2 rfl ?_
  refine zi_iaddN dX6_takes_5 ?_
  refine zi_sipush (v := nI 200) dX6_takes_6 (by decide) ?_
  refine zi_icmpN_le (by  omega) (by decide) (tgt := 14) dX6_takes_9 (by decide) (fun c9 => ?_) (fun c9 => False.elim (by omega))
  refine zi_iconst (v := nI 0) dX6_takes_14 (by decide) ?_
  refine zi_istore (L' := [(4, .int (nI 0)), (0, .ref 83), (1, .long x), (3, .int (nI q))]) dX6_takes_15 (by decide) rfl ?_
  have lp : ∀ (n k : Nat) (M2 : zMem), q - k < n → k ≤ q → M2 83 1 = nI u → (∀ j, j ≠ 1 → M2 83 j = M 83 j) → zFr [83, 84] M M2 → (∀ j, M2 84 j = if u ≤ j ∧ j < u + k then zfC x (j - u) else M 84 j) → zRn zw0 0 mX6_takes (zQJ (fun r M' => r = nI 1 ∧ zTq (qFed β u x) (u + q) M' ∧ (∀ j, j ≠ 1 → M' 83 j = M 83 j) ∧ zFr [83, 84] M M')) 17 [(0, .ref 83), (1, .long x), (3, .int (nI q)), (4, .int (nI k))] [] M2 := by
    intro n
    induction n with
    | zero => intro k M2 h1; omega
    | succ n ih =>
      intro k M2 h1 h2 h3 h4 h5 h6
      refine zi_iload dX6_takes_17 3 rfl ?_
      refine zi_iload_n dX6_takes_19 (i := 3) rfl 2 rfl ?_
      refine zi_icmpN_ge (by  omega) (by  omega) (tgt := 53) dX6_takes_20 (by decide) (fun c20 => ?_) (fun c20 => ?_)
      · refine zi_aload_n dX6_takes_53 (i := 0) rfl 0 rfl ?_
        refine zi_dupR dX6_takes_54 ?_
        refine zi_getI fd_X6_28_X6 rfl cw0_83 rfl dX6_takes_55 ?_
        refine zi_top (y := nI u) ((h3)) ?_
        refine zi_iload_n dX6_takes_58 (i := 3) rfl 2 rfl ?_
        refine zi_iaddN dX6_takes_59 ?_
        refine zi_putI fd_X6_28_X6 fp_X6_1 rfl cw0_83 rfl rfl dX6_takes_60 ?_
        refine zi_iconst (v := nI 1) dX6_takes_63 (by decide) ?_
        refine zi_retJ rfl rfl dX6_takes_64 ?_
        have ek : k = q := by omega
        rw [ek] at h6
        refine ⟨rfl, zTq_fed ht hq huq zr_h (fun k hk => ?_), fun j hj => (zr_j hj rfl).trans (h4 j hj), zFr_up h5 (by decide)⟩
        rw [zr_c (by decide) rfl, h6 k]
        by_cases e : k < u
        · rw [if_pos e, if_neg (by omega)]
        · rw [if_neg e, if_pos (by omega)]
      · refine zi_aload_n dX6_takes_23 (i := 0) rfl 0 rfl ?_
        refine zi_getR fd_X6_11_X6 rfl cw0_83 rfl dX6_takes_24 ?_
        refine zi_aload_n dX6_takes_27 (i := 0) rfl 0 rfl ?_
        refine zi_getI fd_X6_28_X6 rfl cw0_83 rfl dX6_takes_28 ?_
        refine zi_top (y := nI u) ((h3)) ?_
        refine zi_iload dX6_takes_31 3 rfl ?_
        refine zi_iaddN dX6_takes_33 ?_
        refine zi_lload_n dX6_takes_34 (i := 1) rfl 1 rfl ?_
        refine zi_bipush (v := nI 8) dX6_takes_35 (by decide) ?_
        refine zi_iload dX6_takes_37 3 rfl ?_
        refine zi_imulN dX6_takes_39 ?_
        refine zi_lushr dX6_takes_40 rfl ?_
        refine zi_ldc2 (v := (255)) dX6_takes_41 (zm3 68 rfl rfl) ?_
        refine zi_land dX6_takes_44 ?_
        refine zi_l2i dX6_takes_45 ?_
        refine zi_iastN cw0_84 (by omega) (by decide) dX6_takes_46 ?_
        refine zi_iincN (L' := [(4, .int (nI (k + 1))), (0, .ref 83), (1, .long x), (3, .int (nI q))]) dX6_takes_47 3 rfl (k := 1) (by decide) (by decide) rfl ?_
        refine zi_goto (tgt := 17) dX6_takes_50 (by decide) ?_
        refine zi_sub [1, 2, 3, 0] rfl ?_
        refine ih (k + 1) _ (by omega) (by omega) (zr_c (by decide) h3) (fun j hj => (zr_c (by decide) rfl).trans (h4 j hj)) (zFr_up h5 (by decide)) (fun j => ?_)
        by_cases e : j = u + k
        · rw [e, zr_h, if_pos (by omega), show u + k - u = k from by omega]; rfl
        · rw [zr_j e rfl, h6 j]
          by_cases e2 : u ≤ j ∧ j < u + k
          · rw [if_pos e2, if_pos (by omega)]
          · rw [if_neg e2, if_neg (by omega)]
  refine zi_sub [1, 2, 3, 0] rfl ?_
  exact lp (q + 1) 0 M (by omega) (by omega) ht.1 (fun _ _ => rfl) (zFr_rf _ _) (fun j => (if_neg (by omega)).symm)
set_option maxRecDepth 100000 in
set_option maxHeartbeats 4000000 in
theorem full_X6_takes {M : zMem} {q u : Nat} {x : Int64} (h6 : M 83 1 = nI u) (hu : u ≤ 200) (hq : q ≤ 8) (huq : 200 < u + q) : zOkI zw0 0 mX6_takes [.ref 83, .long x, .int (nI q)] M (nI 0) := by
  refine zOk_of (by decide +kernel) (fun _ => Nat.le_of_ble_eq_true rfl) (L := [(0, .ref 83), (1, .long x), (3, .int (nI q))]) rfl ?_
  refine zi_aload_n dX6_takes_0 (i := 0) rfl 0 rfl ?_
  refine zi_getI fd_X6_28_X6 rfl cw0_83 rfl dX6_takes_1 ?_
  refine zi_top (y := nI u) ((h6)) ?_
  refine zi_iload_n dX6_takes_4 (i := 3) rfl 2 rfl ?_
  refine zi_iaddN dX6_takes_5 ?_
  refine zi_sipush (v := nI 200) dX6_takes_6 (by decide) ?_
  refine zi_icmpN_le (by  omega) (by decide) (tgt := 14) dX6_takes_9 (by decide) (fun c9 => False.elim (by omega)) (fun c9 => ?_)
  refine zi_iconst (v := nI 0) dX6_takes_12 (by decide) ?_
  refine zi_retI rfl rfl dX6_takes_13 ?_
  rfl
set_option maxRecDepth 100000 in
set_option maxHeartbeats 4000000 in
theorem ok_X11_feed {M : zMem} {β : Nat → Nat} {u : Nat} {q : Nat} {x : Int64} (ht : zTq β u M) (h1q : 1 ≤ q) (hq : q ≤ 8) (huq : u + q ≤ 200) : zOkJ zw0 1 mX11_feed [.ref 0, .long x, .int (nI q)] M (fun r M' => r = nI (u + q) ∧ zTq (qFed β u x) (u + q) M' ∧ (∀ j, j ≠ 1 → M' 83 j = M 83 j) ∧ zFr [83, 84] M M') := by
  refine zOk_of (by decide +kernel) (fun _ => Nat.le_of_ble_eq_true rfl) (L := [(0, .ref 0), (1, .long x), (3, .int (nI q))]) rfl ?_
  refine zi_iload_n dX11_feed_0 (i := 3) rfl 2 rfl ?_
  refine zi_iconst (v := nI 1) dX11_feed_1 (by decide) ?_
  refine zi_icmpN_lt (by  omega) (by decide) (tgt := 11) dX11_feed_2 (by decide) (fun c2 => False.elim (by omega)) (fun c2 => ?_)
  refine zi_iload_n dX11_feed_5 (i := 3) rfl 2 rfl ?_
  refine zi_bipush (v := nI 8) dX11_feed_6 (by decide) ?_
  refine zi_icmpN_le (by  omega) (by decide) (tgt := 13) dX11_feed_8 (by decide) (fun c8 => ?_) (fun c8 => False.elim (by omega))
  refine zi_aload_n dX11_feed_13 (i := 0) rfl 0 rfl ?_
  refine zi_getR fd_X11_47_X11 rfl cw0_0 rfl dX11_feed_14 ?_
  refine zi_lload_n dX11_feed_17 (i := 1) rfl 1 rfl ?_
  refine zi_iload_n dX11_feed_18 (i := 3) rfl 2 rfl ?_
  refine zcJ (zc_V (as := [.long x, .int (nI q)]) lk_X11_172 ce_X6_takes cw0_83 rfl rfl dX11_feed_19 (by decide) rfl rfl (Nat.le_of_ble_eq_true rfl)) (ok_X6_takes ht h1q hq huq) (fun x19 M19 h19 => ?_)
  obtain ⟨rfl, hf1, hf2, hf3⟩ := h19
  refine zi_ifN_eq (by decide) (tgt := 35) dX11_feed_22 (by decide) (fun c => absurd c (by decide)) (fun _ => ?_)
  refine zi_aload_n dX11_feed_25 (i := 0) rfl 0 rfl ?_
  refine zi_getR fd_X11_47_X11 rfl cw0_0 rfl dX11_feed_26 ?_
  refine zi_getI fd_X11_176_X6 rfl cw0_83 rfl dX11_feed_29 ?_
  refine zi_top (y := nI (u + q)) ((hf1.1)) ?_
  refine zi_goto (tgt := 37) dX11_feed_32 (by decide) ?_
  refine zi_retJ rfl rfl dX11_feed_37 ?_
  exact ⟨rfl, hf1, hf2, hf3⟩
set_option maxRecDepth 100000 in
set_option maxHeartbeats 4000000 in
theorem bad_X11_feed {M : zMem} {x : Int64} {y : Int32} (hB : zin y (nI 1) (nI 8) = false) : zOkI zw0 1 mX11_feed [.ref 0, .long x, .int y] M (-1) := by
  refine zOk_of (by decide +kernel) (fun _ => Nat.le_of_ble_eq_true rfl) (L := [(0, .ref 0), (1, .long x), (3, .int y)]) rfl ?_
  refine zi_iload_n dX11_feed_0 (i := 3) rfl 2 rfl ?_
  refine zi_iconst (v := nI 1) dX11_feed_1 (by decide) ?_
  refine zi_icmp_lt (tgt := 11) dX11_feed_2 (by decide) (fun c2 => ?_) (fun c2 => ?_)
  · refine zi_iconst (v := (-1)) dX11_feed_11 (by decide) ?_
    refine zi_retI rfl rfl dX11_feed_12 ?_
    rfl
  · refine zi_iload_n dX11_feed_5 (i := 3) rfl 2 rfl ?_
    refine zi_bipush (v := nI 8) dX11_feed_6 (by decide) ?_
    refine zi_icmp_le (tgt := 13) dX11_feed_8 (by decide) (fun c8 => False.elim (by rw [zin_t c2 (Int32.not_lt.mpr c8)] at hB; exact Bool.noConfusion hB)) (fun c8 => ?_)
    refine zi_iconst (v := (-1)) dX11_feed_11 (by decide) ?_
    refine zi_retI rfl rfl dX11_feed_12 ?_
    rfl
set_option maxRecDepth 100000 in
set_option maxHeartbeats 4000000 in
theorem full_X11_feed {M : zMem} {q u : Nat} {x : Int64} (h6 : M 83 1 = nI u) (hu : u ≤ 200) (h1q : 1 ≤ q) (hq : q ≤ 8) (huq : 200 < u + q) : zOkI zw0 1 mX11_feed [.ref 0, .long x, .int (nI q)] M (-2) := by
  refine zOk_of (by decide +kernel) (fun _ => Nat.le_of_ble_eq_true rfl) (L := [(0, .ref 0), (1, .long x), (3, .int (nI q))]) rfl ?_
  refine zi_iload_n dX11_feed_0 (i := 3) rfl 2 rfl ?_
  refine zi_iconst (v := nI 1) dX11_feed_1 (by decide) ?_
  refine zi_icmpN_lt (by  omega) (by decide) (tgt := 11) dX11_feed_2 (by decide) (fun c2 => False.elim (by omega)) (fun c2 => ?_)
  refine zi_iload_n dX11_feed_5 (i := 3) rfl 2 rfl ?_
  refine zi_bipush (v := nI 8) dX11_feed_6 (by decide) ?_
  refine zi_icmpN_le (by  omega) (by decide) (tgt := 13) dX11_feed_8 (by decide) (fun c8 => ?_) (fun c8 => False.elim (by omega))
  refine zi_aload_n dX11_feed_13 (i := 0) rfl 0 rfl ?_
  refine zi_getR fd_X11_47_X11 rfl cw0_0 rfl dX11_feed_14 ?_
  refine zi_lload_n dX11_feed_17 (i := 1) rfl 1 rfl ?_
  refine zi_iload_n dX11_feed_18 (i := 3) rfl 2 rfl ?_
  refine zcI (zc_V (as := [.long x, .int (nI q)]) lk_X11_172 ce_X6_takes cw0_83 rfl rfl dX11_feed_19 (by decide) rfl rfl (Nat.le_of_ble_eq_true rfl)) (full_X6_takes h6 hu hq huq) ?_
  refine zi_ifN_eq (by decide) (tgt := 35) dX11_feed_22 (by decide) (fun _ => ?_) (fun c => absurd c (by decide))
  refine zi_bipush (v := (-2)) dX11_feed_35 (by decide) ?_
  refine zi_retI rfl rfl dX11_feed_37 ?_
  rfl
