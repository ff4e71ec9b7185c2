/-- byte k of a number of 64 bits -/
def qByte (x : Int64) (k : Nat) : Nat := x.toBitVec.toNat / 2 ^ (8 * k) % 256
def zfB (x : Int64) (k : Nat) : Int32 := ((x >>> ((nI (8 * k)).toInt64 &&& 63)) &&& 255).toInt32
theorem qByte_lt (x : Int64) (k : Nat) : qByte x k < 256 := Nat.mod_lt _ (by decide)
theorem zfB_bv (b : BitVec 64) (s : Nat) (h : s = 0 ∨ s = 8 ∨ s = 16 ∨ s = 24 ∨ s = 32 ∨ s = 40 ∨ s = 48 ∨ s = 56) : ((b.sshiftRight s) &&& 255#64).setWidth 32 = BitVec.ofNat 32 (b.toNat / 2 ^ s % 256) := by
  apply BitVec.eq_of_toNat_eq
  have hb := b.isLt
  rw [BitVec.toNat_setWidth, BitVec.toNat_and, BitVec.toNat_ofNat, BitVec.toNat_ofNat, show 255 % 2 ^ 64 = 2 ^ 8 - 1 from rfl, Nat.and_two_pow_sub_one_eq_mod, BitVec.toNat_sshiftRight]
  split
  · rw [Nat.shiftRight_eq_div_pow]
    rcases h with rfl | rfl | rfl | rfl | rfl | rfl | rfl | rfl <;> omega
  · rw [Nat.shiftRight_eq_div_pow]
theorem zfB_eq (x : Int64) {k : Nat} (hk : k < 8) : zfB x k = nI (qByte x k) := by
  apply Int32.toBitVec_inj.mp
  show ((x.toBitVec.sshiftRight' (((nI (8 * k)).toInt64 &&& 63).toBitVec.smod 64)) &&& 255#64).signExtend 32 = BitVec.ofNat 32 (x.toBitVec.toNat / 2 ^ (8 * k) % 256)
  have e : (((nI (8 * k)).toInt64 &&& 63).toBitVec.smod 64).toNat = 8 * k := by
    have h : ∀ k, k < 8 → (((nI (8 * k)).toInt64 &&& 63).toBitVec.smod 64).toNat = 8 * k := by decide +kernel
    exact h k hk
  unfold BitVec.sshiftRight'
  rw [e, BitVec.signExtend_eq_setWidth_of_le _ (by decide)]
  exact zfB_bv _ _ (by omega)
/-- bytes come to the tape -/
def qFed (β : Nat → Nat) (u : Nat) (x : Int64) (k : Nat) : Nat := if k < u then β k else qByte x (k - u)
theorem zTp_fed {β : Nat → Nat} {u q : Nat} {x : Int64} {M M' : zMem} (ht : zTp β u M) (hq : q ≤ 8) (hu : u + q ≤ 200) (h6 : M' 0 6 = nI (u + q)) (h5 : ∀ k, k < u + q → M' 5 k = if k < u then M 5 k else zfB x (k - u)) : zTp (qFed β u x) (u + q) M' := by
  refine ⟨h6, hu, fun k hk => ?_, fun k => ?_⟩
  · rw [h5 k hk]
    unfold qFed
    split
    · exact ht.2.2.1 k (by assumption)
    · exact zfB_eq x (by omega)
  · unfold qFed
    split
    · exact ht.2.2.2 k
    · exact qByte_lt _ _
set_option maxRecDepth 100000 in
set_option maxHeartbeats 4000000 in
theorem ok_X12_feed {M : zMem} {β : Nat → Nat} {u : Nat} {q : Nat} {x : Int64} (ht : zTp β u M) (h1q : 1 ≤ q) (hq : q ≤ 8) (huq : u + q ≤ 200) : zOkJ zw1 1 mX12_feed [.ref 0, .long x, .int (nI q)] M (fun r M' => r = nI (u + q) ∧ zTp (qFed β u x) (u + q) M' ∧ (∀ j, j ≠ 6 → M' 0 j = M 0 j) ∧ zFr [0, 5] M M') := by
  refine zOk_of (by decide +kernel) (fun _ => Nat.le_of_ble_eq_true rfl) (L := [(0, .ref 0), (1, .long x), (3, .int (nI q))]) rfl ?_
  refine zi_iload_n dX12_feed_0 (i := 3) rfl 2 rfl ?_
  refine zi_iconst (v := nI 1) dX12_feed_1 (by decide) ?_
  refine zi_bipush (v := nI 8) dX12_feed_2 (by decide) ?_
  refine zcI (zc_S (as := [.int (nI q), .int (nI 1), .int (nI 8)]) lk_X12_71 ce_X12_in1 dX12_feed_4 (by decide) rfl rfl (Nat.le_of_ble_eq_true rfl)) (zOkI_eq ok_X12_in1 (zinT (by omega) (by omega) (by omega))) ?_
  refine zi_ifN_ne (by decide) (tgt := 12) dX12_feed_7 (by decide) (fun _ => ?_) (fun c => absurd c (by decide))
  refine zi_aload_n dX12_feed_12 (i := 0) rfl 0 rfl ?_
  refine zi_getI fd_X12_113_X12 rfl cw1_0 rfl dX12_feed_13 ?_
  refine zi_top (y := nI u) ((ht.1)) ?_
  refine zi_iload_n dX12_feed_16 (i := 3) rfl 2 rfl ?_
  refine zi_iaddN dX12_feed_17 ?_
  refine zi_sipush (v := nI 200) dX12_feed_18 (by decide) ?_
  refine zi_icmpN_le (by  omega) (by decide) (tgt := 27) dX12_feed_21 (by decide) (fun c21 => ?_) (fun c21 => False.elim (by omega))
  refine zi_iconst (v := nI 0) dX12_feed_27 (by decide) ?_
  refine zi_istore (L' := [(4, .int (nI 0)), (0, .ref 0), (1, .long x), (3, .int (nI q))]) dX12_feed_28 (by decide) rfl ?_
  have lp : ∀ (n k : Nat) (M2 : zMem), q - k < n → k ≤ q → M2 0 6 = nI (u + k) → (∀ j, j ≠ 6 → M2 0 j = M 0 j) → zFr [0, 5] M M2 → (∀ j, M2 5 j = if u ≤ j ∧ j < u + k then zfB x (j - u) else M 5 j) → zRn zw1 1 mX12_feed (zQJ (fun r M' => r = nI (u + q) ∧ zTp (qFed β u x) (u + q) M' ∧ (∀ j, j ≠ 6 → M' 0 j = M 0 j) ∧ zFr [0, 5] M M')) 30 [(0, .ref 0), (1, .long x), (3, .int (nI q)), (4, .int (nI k))] [] M2 := by
    intro n
    induction n with
    | zero => intro k M2 h1; omega
    | succ n ih =>
      intro k M2 h1 h2 h3 h4 h5 h6
      refine zi_iload dX12_feed_30 3 rfl ?_
      refine zi_iload_n dX12_feed_32 (i := 3) rfl 2 rfl ?_
      refine zi_icmpN_ge (by  omega) (by  omega) (tgt := 73) dX12_feed_33 (by decide) (fun c33 => ?_) (fun c33 => ?_)
      · refine zi_aload_n dX12_feed_73 (i := 0) rfl 0 rfl ?_
        refine zi_getI fd_X12_113_X12 rfl cw1_0 rfl dX12_feed_74 ?_
        refine zi_top (y := nI (u + k)) ((h3)) ?_
        refine zi_retJ rfl rfl dX12_feed_77 ?_
        have ek : k = q := by omega
        rw [ek] at h3 h6
        refine ⟨by rw [ek], zTp_fed ht hq huq h3 (fun k hk => ?_), h4, h5⟩
        rw [h6 k]
        by_cases e : k < u
        · rw [if_pos e, if_neg (by omega)]
        · rw [if_neg e, if_pos (by omega)]
      · refine zi_aload_n dX12_feed_36 (i := 0) rfl 0 rfl ?_
        refine zi_getR fd_X12_22_X12 rfl cw1_0 rfl dX12_feed_37 ?_
        refine zi_aload_n dX12_feed_40 (i := 0) rfl 0 rfl ?_
        refine zi_getI fd_X12_113_X12 rfl cw1_0 rfl dX12_feed_41 ?_
        refine zi_top (y := nI (u + k)) ((h3)) ?_
        refine zi_lload_n dX12_feed_44 (i := 1) rfl 1 rfl ?_
        refine zi_bipush (v := nI 8) dX12_feed_45 (by decide) ?_
        refine zi_iload dX12_feed_47 3 rfl ?_
        refine zi_imulN dX12_feed_49 ?_
        refine zi_lshr dX12_feed_50 rfl ?_
        refine zi_ldc2 (v := (255)) dX12_feed_51 (zm6 43 rfl rfl) ?_
        refine zi_land dX12_feed_54 ?_
        refine zi_l2i dX12_feed_55 ?_
        refine zi_iastN cw1_5 (by omega) (by decide) dX12_feed_56 ?_
        refine zi_aload_n dX12_feed_57 (i := 0) rfl 0 rfl ?_
        refine zi_dupR dX12_feed_58 ?_
        refine zi_getI fd_X12_113_X12 rfl cw1_0 rfl dX12_feed_59 ?_
        refine zi_top (y := nI (u + k)) ((zr_c (by decide) (h3))) ?_
        refine zi_iconst (v := nI 1) dX12_feed_62 (by decide) ?_
        refine zi_iaddN dX12_feed_63 ?_
        refine zi_putI fd_X12_113_X12 fp_X12_6 rfl cw1_0 rfl rfl dX12_feed_64 ?_
        refine zi_iincN (L' := [(4, .int (nI (k + 1))), (0, .ref 0), (1, .long x), (3, .int (nI q))]) dX12_feed_67 3 rfl (k := 1) (by decide) (by decide) rfl ?_
        refine zi_goto (tgt := 30) dX12_feed_70 (by decide) ?_
        refine zi_sub [1, 2, 3, 0] rfl ?_
        refine ih (k + 1) _ (by omega) (by omega) zr_h (fun j hj => (zr_j hj (zr_c (by decide) rfl)).trans (h4 j hj)) (zFr_up (zFr_up h5 (by decide)) (by decide)) (fun j => ?_)
        rw [zr_c (by decide) rfl]
        by_cases e : j = u + k
        · rw [e, zr_h, if_pos (by omega), show u + k - u = k from by omega]; rfl
        · rw [zr_j e rfl, h6 j]
          by_cases e2 : u ≤ j ∧ j < u + k
          · rw [if_pos e2, if_pos (by omega)]
          · rw [if_neg e2, if_neg (by omega)]
  refine zi_sub [1, 2, 3, 0] rfl ?_
  exact lp (q + 1) 0 M (by omega) (by omega) ht.1 (fun _ _ => rfl) (zFr_rf _ _) (fun j => (if_neg (by omega)).symm)
set_option maxRecDepth 100000 in
set_option maxHeartbeats 4000000 in
theorem bad_X12_feed {M : zMem} {x : Int64} {y : Int32} (hB : zin y (nI 1) (nI 8) = false) : zOkI zw1 1 mX12_feed [.ref 0, .long x, .int y] M (-1) := by
  refine zOk_of (by decide +kernel) (fun _ => Nat.le_of_ble_eq_true rfl) (L := [(0, .ref 0), (1, .long x), (3, .int y)]) rfl ?_
  refine zi_iload_n dX12_feed_0 (i := 3) rfl 2 rfl ?_
  refine zi_iconst (v := nI 1) dX12_feed_1 (by decide) ?_
  refine zi_bipush (v := nI 8) dX12_feed_2 (by decide) ?_
  refine zcI (zc_S (as := [.int y, .int (nI 1), .int (nI 8)]) lk_X12_71 ce_X12_in1 dX12_feed_4 (by decide) rfl rfl (Nat.le_of_ble_eq_true rfl)) ok_X12_in1 ?_
  refine zi_ifB_ne (tgt := 12) dX12_feed_7 (by decide) (fun c7 => False.elim (by rw [hB] at c7; exact Bool.noConfusion c7)) (fun c7 => ?_)
  refine zi_iconst (v := (-1)) dX12_feed_10 (by decide) ?_
  refine zi_retI rfl rfl dX12_feed_11 ?_
  rfl
set_option maxRecDepth 100000 in
set_option maxHeartbeats 4000000 in
theorem full_X12_feed {M : zMem} {q u : Nat} {x : Int64} (h6 : M 0 6 = nI u) (hu : u ≤ 200) (h1q : 1 ≤ q) (hq : q ≤ 8) (huq : 200 < u + q) : zOkI zw1 1 mX12_feed [.ref 0, .long x, .int (nI q)] M (-2) := by
  refine zOk_of (by decide +kernel) (fun _ => Nat.le_of_ble_eq_true rfl) (L := [(0, .ref 0), (1, .long x), (3, .int (nI q))]) rfl ?_
  refine zi_iload_n dX12_feed_0 (i := 3) rfl 2 rfl ?_
  refine zi_iconst (v := nI 1) dX12_feed_1 (by decide) ?_
  refine zi_bipush (v := nI 8) dX12_feed_2 (by decide) ?_
  refine zcI (zc_S (as := [.int (nI q), .int (nI 1), .int (nI 8)]) lk_X12_71 ce_X12_in1 dX12_feed_4 (by decide) rfl rfl (Nat.le_of_ble_eq_true rfl)) (zOkI_eq ok_X12_in1 (zinT (by omega) (by omega) (by omega))) ?_
  refine zi_ifN_ne (by decide) (tgt := 12) dX12_feed_7 (by decide) (fun _ => ?_) (fun c => absurd c (by decide))
  refine zi_aload_n dX12_feed_12 (i := 0) rfl 0 rfl ?_
  refine zi_getI fd_X12_113_X12 rfl cw1_0 rfl dX12_feed_13 ?_
  refine zi_top (y := nI u) ((h6)) ?_
  refine zi_iload_n dX12_feed_16 (i := 3) rfl 2 rfl ?_
  refine zi_iaddN dX12_feed_17 ?_
  refine zi_sipush (v := nI 200) dX12_feed_18 (by decide) ?_
  refine zi_icmpN_le (by  omega) (by decide) (tgt := 27) dX12_feed_21 (by decide) (fun c21 => False.elim (by omega)) (fun c21 => ?_)
  refine zi_bipush (v := (-2)) dX12_feed_24 (by decide) ?_
  refine zi_retI rfl rfl dX12_feed_26 ?_
  rfl
