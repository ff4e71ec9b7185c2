/-- the class's sheets: so: 0 none, or 1 more than the sort; sz: how many places -/
def zSc (so sz : Nat → Nat) (M : zMem) : Prop := ∀ i, i < 4 → M 104 i = nI (so i) - nI 1 ∧ M 105 i = nI (sz i) ∧ so i ≤ 5 ∧ sz i ≤ 40
theorem zSc_of {so sz : Nat → Nat} {M M' : zMem} (h : zSc so sz M) (e4 : M' 104 = M 104) (e5 : M' 105 = M 105) : zSc so sz M' := fun i hi => by rw [e4, e5]; exact h i hi
theorem zlt5 {t : Int32} (h : t < nI 5) : ¬ nI 4 < t := fun q => by
  have h1 := Int32.lt_iff_toInt_lt.mp h
  have h2 := Int32.lt_iff_toInt_lt.mp q
  rw [nI_toInt (by decide)] at h1 h2
  omega
theorem zhas {y s : Nat} (hy : y < 2 ^ 30) (hs : s ≤ 40) : zin (nI y) (nI 0) (nI s - nI 1) = decide (y < s) := by
  by_cases h : y < s
  · rw [decide_eq_true h, qI_pred (by omega)]
    exact zin_t (nI_nlt (Nat.zero_le _) (by omega)) (nI_nlt (by omega) (by omega))
  · rw [decide_eq_false h]
    cases hh : zin (nI y) (nI 0) (nI s - nI 1) with
    | false => rfl
    | true =>
      exfalso
      unfold zin at hh
      simp at hh
      have h2 := hh.2
      rw [Int32.le_iff_toInt_le, pk_sub_toInt (by omega) (by omega), nI_toInt (by omega)] at h2
      omega
set_option maxRecDepth 100000 in
set_option maxHeartbeats 4000000 in
theorem ok_X11_hasItem {M : zMem} {a : Nat} {x : Int32} {so sz : Nat → Nat} (hsh : zSc so sz M) (h1 : a < 4) : zOkI zw0 1 mX11_hasItem [.ref 0, .int (nI a), .int x] M (zb (zin x (nI 0) (nI (sz a) - nI 1))) := by
  obtain ⟨-, -, hso, hsz⟩ := hsh a h1
  refine zOk_of (by decide +kernel) (fun _ => Nat.le_of_ble_eq_true rfl) (L := [(0, .ref 0), (1, .int (nI a)), (2, .int x)]) rfl ?_
  refine zi_iload_n dX11_hasItem_0 (i := 2) rfl 2 rfl ?_
  refine zi_aload_n dX11_hasItem_1 (i := 0) rfl 0 rfl ?_
  refine zi_getR fd_X11_70_X11 rfl cw0_0 rfl dX11_hasItem_2 ?_
  refine zi_iload_n dX11_hasItem_5 (i := 1) rfl 1 rfl ?_
  refine zi_ialdN cw0_105 (by omega) (by decide) dX11_hasItem_6 ?_
  refine zi_top (y := nI (sz a)) (((hsh _ (by omega)).2.1)) ?_
  refine zi_iconst (v := nI 1) dX11_hasItem_7 (by decide) ?_
  refine zi_isub dX11_hasItem_8 ?_
  refine zcI (zc_S (as := [.int x, .int ((nI (sz a)) - (nI 1))]) lk_X11_86 ce_X11_isFrom0To dX11_hasItem_9 (by decide) rfl rfl (Nat.le_of_ble_eq_true rfl)) ok_X11_isFrom0To ?_
  refine zi_retI rfl (zbn _) dX11_hasItem_12 ?_
  rfl
set_option maxRecDepth 100000 in
set_option maxHeartbeats 4000000 in
theorem ok_X11_takenFor {M : zMem} {a b : Nat} {so sz : Nat → Nat} (hsh : zSc so sz M) (h1 : a < 4) (hb4 : b ≤ 4) : zOkI zw0 1 mX11_takenFor [.ref 0, .int (nI a), .int (nI b)] M (if so a = 0 then -11 else if so a = b + 1 then 0 else -13) := by
  obtain ⟨-, -, hso, hsz⟩ := hsh a h1
  refine zOk_of (by decide +kernel) (fun _ => Nat.le_of_ble_eq_true rfl) (L := [(0, .ref 0), (1, .int (nI a)), (2, .int (nI b))]) rfl ?_
  refine zi_aload_n dX11_takenFor_0 (i := 0) rfl 0 rfl ?_
  refine zi_getR fd_X11_67_X11 rfl cw0_0 rfl dX11_takenFor_1 ?_
  refine zi_iload_n dX11_takenFor_4 (i := 1) rfl 1 rfl ?_
  refine zi_ialdN cw0_104 (by omega) (by decide) dX11_takenFor_5 ?_
  refine zi_top (y := (nI (so a) - nI 1)) (((hsh _ (by omega)).1)) ?_
  refine zi_iconst (v := (-1)) dX11_takenFor_6 (by decide) ?_
  refine zi_icmp_ne (tgt := 13) dX11_takenFor_7 (by decide) (fun c7 => ?_) (fun c7 => ?_)
  · have c7n : so a ≠ 0 := fun e => c7 (by rw [e]; decide)
    refine zi_aload_n dX11_takenFor_13 (i := 0) rfl 0 rfl ?_
    refine zi_getR fd_X11_67_X11 rfl cw0_0 rfl dX11_takenFor_14 ?_
    refine zi_iload_n dX11_takenFor_17 (i := 1) rfl 1 rfl ?_
    refine zi_ialdN cw0_104 (by omega) (by decide) dX11_takenFor_18 ?_
    refine zi_top (y := (nI (so a) - nI 1)) (((hsh _ (by omega)).1)) ?_
    refine zi_iload_n dX11_takenFor_19 (i := 2) rfl 2 rfl ?_
    refine zi_icmp_ne (tgt := 27) dX11_takenFor_20 (by decide) (fun c20 => ?_) (fun c20 => ?_)
    · have c20n : so a ≠ b + 1 := fun e => c20 (by rw [e, qI_pred (by omega)]; rfl)
      refine zi_bipush (v := (-13)) dX11_takenFor_27 (by decide) ?_
      refine zi_retI rfl rfl dX11_takenFor_29 ?_
      first | (rw [if_pos c7n]; done) | (rw [if_neg c7n, if_pos c20n]; rfl) | (rw [if_neg c7n, if_neg c20n]; done)
    · have c20n : so a = b + 1 := by have z := c20; rw [qI_pred (by omega)] at z; have z2 := congrArg Int32.toInt z; rw [nI_toInt (by omega), nI_toInt (by omega)] at z2; omega
      refine zi_iconst (v := nI 0) dX11_takenFor_23 (by decide) ?_
      refine zi_goto (tgt := 29) dX11_takenFor_24 (by decide) ?_
      refine zi_retI rfl rfl dX11_takenFor_29 ?_
      first | (rw [if_pos c7n]; done) | (rw [if_neg c7n, if_pos c20n]; rfl) | (rw [if_neg c7n, if_neg c20n]; done)
  · have c7n : so a = 0 := by rcases Nat.eq_zero_or_pos (so a) with e | e; exact e; exact absurd ((qI_pred e).symm.trans c7) (nI_ne_neg (by omega))
    refine zi_bipush (v := (-11)) dX11_takenFor_10 (by decide) ?_
    refine zi_retI rfl rfl dX11_takenFor_12 ?_
    first | (rw [if_pos c7n]; done) | (rw [if_neg c7n, if_pos c20n]; rfl) | (rw [if_neg c7n, if_neg c20n]; done)
set_option maxRecDepth 100000 in
set_option maxHeartbeats 4000000 in
theorem ok_X11_sheet0 {M : zMem}  {b z : Nat} (hb4 : b ≤ 4) (hz : z ≤ 40) : zOkJ zw0 2 mX11_sheet [.ref 0, .int (nI 0), .int (nI b), .int (nI z)] M (fun r M' => r = nI 1 ∧ M' = zup (zup (zsetF M 100 (fun j => if j < 40 then nI 0 else M 100 j)) 104 0 (nI b)) 105 0 (nI z)) := by
  refine zOk_of (by decide +kernel) (fun _ => Nat.le_of_ble_eq_true rfl) (L := [(0, .ref 0), (1, .int (nI 0)), (2, .int (nI b)), (3, .int (nI z))]) rfl ?_
  refine zi_iload_n dX11_sheet_0 (i := 1) rfl 1 rfl ?_
  refine zcI (zc_S (as := [.int (nI 0)]) lk_X11_296 ce_X11_isSheet dX11_sheet_1 (by decide) rfl rfl (Nat.le_of_ble_eq_true rfl)) (zOkI_eq ok_X11_isSheet (by decide : zb (zin (nI 0) (nI 0) (nI 3)) = nI 1)) ?_
  refine zi_ifN_eq (by decide) (tgt := 17) dX11_sheet_4 (by decide) (fun c => absurd c (by decide)) (fun _ => ?_)
  refine zi_iload_n dX11_sheet_7 (i := 2) rfl 2 rfl ?_
  refine zi_iconst (v := (-1)) dX11_sheet_8 (by decide) ?_
  refine zi_icmp_lt (tgt := 17) dX11_sheet_9 (by decide) (fun c9 => False.elim (by exact absurd (Int32.lt_of_lt_of_le c9 (by decide)) (Int32.not_lt.mpr (nI_pos' (by omega))))) (fun c9 => ?_)
  refine zi_iload_n dX11_sheet_12 (i := 2) rfl 2 rfl ?_
  refine zi_iconst (v := nI 5) dX11_sheet_13 (by decide) ?_
  refine zi_icmpN_lt (by  omega) (by decide) (tgt := 19) dX11_sheet_14 (by decide) (fun c14 => ?_) (fun c14 => False.elim (by omega))
  refine zi_iload_n dX11_sheet_19 (i := 2) rfl 2 rfl ?_
  refine zi_iconst (v := (-1)) dX11_sheet_20 (by decide) ?_
  refine zi_icmp_ne (tgt := 28) dX11_sheet_21 (by decide) (fun c21 => ?_) (fun c21 => False.elim (by exact nI_ne_neg (by omega) c21))
  refine zi_iload_n dX11_sheet_28 (i := 3) rfl 3 rfl ?_
  refine zi_istore (L' := [(4, .int (nI z)), (0, .ref 0), (1, .int (nI 0)), (2, .int (nI b)), (3, .int (nI z))]) dX11_sheet_29 (by decide) rfl ?_
  refine zi_iload dX11_sheet_31 0 rfl ?_
  refine zi_bipush (v := nI 40) dX11_sheet_33 (by decide) ?_
  refine zi_icmpN_le (by  omega) (by decide) (tgt := 40) dX11_sheet_35 (by decide) (fun c35 => ?_) (fun c35 => False.elim (by omega))
  refine zi_iload dX11_sheet_40 0 rfl ?_
  refine zi_ifN_ge (by  omega) (tgt := 48) dX11_sheet_42 (by decide) (fun c42 => ?_) (fun c42 => False.elim (by omega))
  refine zi_aload_n dX11_sheet_48 (i := 0) rfl 1 rfl ?_
  refine zi_getR fd_X11_64_X11 rfl cw0_0 rfl dX11_sheet_49 ?_
  refine zi_iload_n dX11_sheet_52 (i := 1) rfl 2 rfl ?_
  refine zi_aaldN cw0_99 (by decide) (t := 100) rfl (by decide) dX11_sheet_53 ?_
  refine zi_lconst (v := 0) dX11_sheet_54 rfl ?_
  refine zcV (zc_S (as := [.ref 100, .long 0]) lk_X11_299 ce_J7_fill_d0a16 dX11_sheet_55 (by decide) rfl rfl (Nat.le_of_ble_eq_true rfl)) (show zOkV zw0 0 mJ7_fill_d0a16 [.ref 100, .long 0] M (fun M' => M' = (zsetF M 100 (fun j => if j < 40 then nI 0 else M 100 j))) from ok_fill_100 (x := nI 0)) (fun M55 h55 => ?_)
  refine zi_aload_n dX11_sheet_58 (i := 0) rfl 1 rfl ?_
  refine zi_getR fd_X11_67_X11 rfl cw0_0 rfl dX11_sheet_59 ?_
  refine zi_iload_n dX11_sheet_62 (i := 1) rfl 2 rfl ?_
  refine zi_iload_n dX11_sheet_63 (i := 2) rfl 3 rfl ?_
  refine zi_iastN cw0_104 (by decide) (by decide) dX11_sheet_64 ?_
  refine zi_aload_n dX11_sheet_65 (i := 0) rfl 1 rfl ?_
  refine zi_getR fd_X11_70_X11 rfl cw0_0 rfl dX11_sheet_66 ?_
  refine zi_iload_n dX11_sheet_69 (i := 1) rfl 2 rfl ?_
  refine zi_iload dX11_sheet_70 0 rfl ?_
  refine zi_iastN cw0_105 (by decide) (by decide) dX11_sheet_72 ?_
  refine zi_iconst (v := nI 1) dX11_sheet_73 (by decide) ?_
  refine zi_retJ rfl rfl dX11_sheet_74 ?_
  refine ⟨rfl, ?_⟩
  rw [h55]
set_option maxRecDepth 100000 in
set_option maxHeartbeats 4000000 in
theorem ok_X11_sheetN0 {M : zMem}  {x : Int32}  : zOkJ zw0 2 mX11_sheet [.ref 0, .int (nI 0), .int (-1), .int x] M (fun r M' => r = nI 1 ∧ M' = zup (zup (zsetF M 100 (fun j => if j < 40 then nI 0 else M 100 j)) 104 0 (-1)) 105 0 (nI 0)) := by
  refine zOk_of (by decide +kernel) (fun _ => Nat.le_of_ble_eq_true rfl) (L := [(0, .ref 0), (1, .int (nI 0)), (2, .int (-1)), (3, .int x)]) rfl ?_
  refine zi_iload_n dX11_sheet_0 (i := 1) rfl 1 rfl ?_
  refine zcI (zc_S (as := [.int (nI 0)]) lk_X11_296 ce_X11_isSheet dX11_sheet_1 (by decide) rfl rfl (Nat.le_of_ble_eq_true rfl)) (zOkI_eq ok_X11_isSheet (by decide : zb (zin (nI 0) (nI 0) (nI 3)) = nI 1)) ?_
  refine zi_ifN_eq (by decide) (tgt := 17) dX11_sheet_4 (by decide) (fun c => absurd c (by decide)) (fun _ => ?_)
  refine zi_iload_n dX11_sheet_7 (i := 2) rfl 2 rfl ?_
  refine zi_iconst (v := (-1)) dX11_sheet_8 (by decide) ?_
  refine zi_icmp_lt (tgt := 17) dX11_sheet_9 (by decide) (fun c9 => False.elim (by exact absurd c9 (by decide))) (fun c9 => ?_)
  refine zi_iload_n dX11_sheet_12 (i := 2) rfl 2 rfl ?_
  refine zi_iconst (v := nI 5) dX11_sheet_13 (by decide) ?_
  refine zi_icmp_lt (tgt := 19) dX11_sheet_14 (by decide) (fun c14 => ?_) (fun c14 => False.elim (by exact absurd c14 (by decide)))
  refine zi_iload_n dX11_sheet_19 (i := 2) rfl 2 rfl ?_
  refine zi_iconst (v := (-1)) dX11_sheet_20 (by decide) ?_
  refine zi_icmp_ne (tgt := 28) dX11_sheet_21 (by decide) (fun c21 => False.elim (by exact c21 rfl)) (fun c21 => ?_)
  refine zi_iconst (v := nI 0) dX11_sheet_24 (by decide) ?_
  refine zi_goto (tgt := 29) dX11_sheet_25 (by decide) ?_
  refine zi_istore (L' := [(4, .int (nI 0)), (0, .ref 0), (1, .int (nI 0)), (2, .int (-1)), (3, .int x)]) dX11_sheet_29 (by decide) rfl ?_
  refine zi_iload dX11_sheet_31 0 rfl ?_
  refine zi_bipush (v := nI 40) dX11_sheet_33 (by decide) ?_
  refine zi_icmpN_le (by decide) (by decide) (tgt := 40) dX11_sheet_35 (by decide) (fun _ => ?_) (fun c => absurd c (by decide))
  refine zi_iload dX11_sheet_40 0 rfl ?_
  refine zi_ifN_ge (by decide) (tgt := 48) dX11_sheet_42 (by decide) (fun _ => ?_) (fun c => absurd c (by decide))
  refine zi_aload_n dX11_sheet_48 (i := 0) rfl 1 rfl ?_
  refine zi_getR fd_X11_64_X11 rfl cw0_0 rfl dX11_sheet_49 ?_
  refine zi_iload_n dX11_sheet_52 (i := 1) rfl 2 rfl ?_
  refine zi_aaldN cw0_99 (by decide) (t := 100) rfl (by decide) dX11_sheet_53 ?_
  refine zi_lconst (v := 0) dX11_sheet_54 rfl ?_
  refine zcV (zc_S (as := [.ref 100, .long 0]) lk_X11_299 ce_J7_fill_d0a16 dX11_sheet_55 (by decide) rfl rfl (Nat.le_of_ble_eq_true rfl)) (show zOkV zw0 0 mJ7_fill_d0a16 [.ref 100, .long 0] M (fun M' => M' = (zsetF M 100 (fun j => if j < 40 then nI 0 else M 100 j))) from ok_fill_100 (x := nI 0)) (fun M55 h55 => ?_)
  refine zi_aload_n dX11_sheet_58 (i := 0) rfl 1 rfl ?_
  refine zi_getR fd_X11_67_X11 rfl cw0_0 rfl dX11_sheet_59 ?_
  refine zi_iload_n dX11_sheet_62 (i := 1) rfl 2 rfl ?_
  refine zi_iload_n dX11_sheet_63 (i := 2) rfl 3 rfl ?_
  refine zi_iastN cw0_104 (by decide) (by decide) dX11_sheet_64 ?_
  refine zi_aload_n dX11_sheet_65 (i := 0) rfl 1 rfl ?_
  refine zi_getR fd_X11_70_X11 rfl cw0_0 rfl dX11_sheet_66 ?_
  refine zi_iload_n dX11_sheet_69 (i := 1) rfl 2 rfl ?_
  refine zi_iload dX11_sheet_70 0 rfl ?_
  refine zi_iastN cw0_105 (by decide) (by decide) dX11_sheet_72 ?_
  refine zi_iconst (v := nI 1) dX11_sheet_73 (by decide) ?_
  refine zi_retJ rfl rfl dX11_sheet_74 ?_
  refine ⟨rfl, ?_⟩
  rw [h55]
set_option maxRecDepth 100000 in
set_option maxHeartbeats 4000000 in
theorem ok_X11_write0 {M : zMem} {i : Nat} {x : Int32} {so sz : Nat → Nat} (hsh : zSc so sz M) (hso0 : 1 ≤ so 0) (hi : i < sz 0) : zOkJ zw0 2 mX11_write [.ref 0, .int (nI 0), .int (nI i), .int x] M (fun r M' => r = nI 1 ∧ M' = zup M 100 i (qNar x (so 0 - 1))) := by
  obtain ⟨-, -, hso, hsz⟩ := hsh 0 (by decide)
  refine zOk_of (by decide +kernel) (fun _ => Nat.le_of_ble_eq_true rfl) (L := [(0, .ref 0), (1, .int (nI 0)), (2, .int (nI i)), (3, .int x)]) rfl ?_
  refine zi_iload_n dX11_write_0 (i := 1) rfl 1 rfl ?_
  refine zcI (zc_S (as := [.int (nI 0)]) lk_X11_296 ce_X11_isSheet dX11_write_1 (by decide) rfl rfl (Nat.le_of_ble_eq_true rfl)) (zOkI_eq ok_X11_isSheet (by decide : zb (zin (nI 0) (nI 0) (nI 3)) = nI 1)) ?_
  refine zi_ifN_ne (by decide) (tgt := 9) dX11_write_4 (by decide) (fun _ => ?_) (fun c => absurd c (by decide))
  refine zi_aload_n dX11_write_9 (i := 0) rfl 0 rfl ?_
  refine zi_getR fd_X11_67_X11 rfl cw0_0 rfl dX11_write_10 ?_
  refine zi_iload_n dX11_write_13 (i := 1) rfl 1 rfl ?_
  refine zi_ialdN cw0_104 (by decide) (by decide) dX11_write_14 ?_
  refine zi_top (y := (nI (so 0) - nI 1)) (((hsh _ (by omega)).1)) ?_
  refine zi_iconst (v := (-1)) dX11_write_15 (by decide) ?_
  refine zi_icmp_ne (tgt := 22) dX11_write_16 (by decide) (fun c16 => ?_) (fun c16 => False.elim (by exact absurd ((qI_pred (by omega)).symm.trans c16) (nI_ne_neg (by omega))))
  refine zi_aload_n dX11_write_22 (i := 0) rfl 0 rfl ?_
  refine zi_iload_n dX11_write_23 (i := 1) rfl 1 rfl ?_
  refine zi_iload_n dX11_write_24 (i := 2) rfl 2 rfl ?_
  refine zcI (zc_V (as := [.int (nI 0), .int (nI i)]) lk_X11_305 ce_X11_hasItem cw0_0 rfl rfl dX11_write_25 (by decide) rfl rfl (Nat.le_of_ble_eq_true rfl)) (zOkI_eq (ok_X11_hasItem hsh (by decide)) (congrArg zb ((qIs_nat (by omega) (by omega)).trans (decide_eq_true hi)))) ?_
  refine zi_ifN_ne (by decide) (tgt := 34) dX11_write_28 (by decide) (fun _ => ?_) (fun c => absurd c (by decide))
  refine zi_aload_n dX11_write_34 (i := 0) rfl 0 rfl ?_
  refine zi_getR fd_X11_64_X11 rfl cw0_0 rfl dX11_write_35 ?_
  refine zi_iload_n dX11_write_38 (i := 1) rfl 1 rfl ?_
  refine zi_aaldN cw0_99 (by decide) (t := 100) rfl (by decide) dX11_write_39 ?_
  refine zi_iload_n dX11_write_40 (i := 2) rfl 2 rfl ?_
  refine zi_aload_n dX11_write_41 (i := 0) rfl 0 rfl ?_
  refine zi_getR fd_X11_67_X11 rfl cw0_0 rfl dX11_write_42 ?_
  refine zi_iload_n dX11_write_45 (i := 1) rfl 1 rfl ?_
  refine zi_ialdN cw0_104 (by decide) (by decide) dX11_write_46 ?_
  refine zi_top (y := (nI (so 0) - nI 1)) (((hsh _ (by omega)).1)) ?_
  refine zi_top (y := nI (so 0 - 1)) (qI_pred hso0) ?_
  refine zi_iload_n dX11_write_47 (i := 3) rfl 3 rfl ?_
  refine zcI (zc_S (as := [.int (nI (so 0 - 1)), .int x]) lk_X11_308 ce_X11_narrowed dX11_write_48 (by decide) rfl rfl (Nat.le_of_ble_eq_true rfl)) (ok_X11_narrowed (b := so 0 - 1) (by omega)) ?_
  refine zi_i2l dX11_write_51 ?_
  refine zi_lastN cw0_100 (by omega) (by decide) dX11_write_52 ?_
  refine zi_iconst (v := nI 1) dX11_write_53 (by decide) ?_
  refine zi_retJ rfl rfl dX11_write_54 ?_
  exact ⟨rfl, rfl⟩
set_option maxRecDepth 100000 in
set_option maxHeartbeats 4000000 in
theorem none_X11_write0 {M : zMem} {x y : Int32} {so sz : Nat → Nat} (hsh : zSc so sz M) (hso0 : so 0 = 0) : zOkI zw0 2 mX11_write [.ref 0, .int (nI 0), .int x, .int y] M (-11) := by
  obtain ⟨-, -, hso, hsz⟩ := hsh 0 (by decide)
  refine zOk_of (by decide +kernel) (fun _ => Nat.le_of_ble_eq_true rfl) (L := [(0, .ref 0), (1, .int (nI 0)), (2, .int x), (3, .int y)]) rfl ?_
  refine zi_iload_n dX11_write_0 (i := 1) rfl 1 rfl ?_
  refine zcI (zc_S (as := [.int (nI 0)]) lk_X11_296 ce_X11_isSheet dX11_write_1 (by decide) rfl rfl (Nat.le_of_ble_eq_true rfl)) (zOkI_eq ok_X11_isSheet (by decide : zb (zin (nI 0) (nI 0) (nI 3)) = nI 1)) ?_
  refine zi_ifN_ne (by decide) (tgt := 9) dX11_write_4 (by decide) (fun _ => ?_) (fun c => absurd c (by decide))
  refine zi_aload_n dX11_write_9 (i := 0) rfl 0 rfl ?_
  refine zi_getR fd_X11_67_X11 rfl cw0_0 rfl dX11_write_10 ?_
  refine zi_iload_n dX11_write_13 (i := 1) rfl 1 rfl ?_
  refine zi_ialdN cw0_104 (by decide) (by decide) dX11_write_14 ?_
  refine zi_top (y := (nI (so 0) - nI 1)) (((hsh _ (by omega)).1)) ?_
  refine zi_iconst (v := (-1)) dX11_write_15 (by decide) ?_
  refine zi_icmp_ne (tgt := 22) dX11_write_16 (by decide) (fun c16 => False.elim (by rw [hso0] at c16; exact c16 (by decide))) (fun c16 => ?_)
  refine zi_bipush (v := (-11)) dX11_write_19 (by decide) ?_
  refine zi_retI rfl rfl dX11_write_21 ?_
  rfl
set_option maxRecDepth 100000 in
set_option maxHeartbeats 4000000 in
theorem out_X11_write0 {M : zMem} {x y : Int32} {so sz : Nat → Nat} (hsh : zSc so sz M) (hso0 : 1 ≤ so 0) (hi : zin x (nI 0) (nI (sz 0) - nI 1) = false) : zOkI zw0 2 mX11_write [.ref 0, .int (nI 0), .int x, .int y] M (-12) := by
  obtain ⟨-, -, hso, hsz⟩ := hsh 0 (by decide)
  refine zOk_of (by decide +kernel) (fun _ => Nat.le_of_ble_eq_true rfl) (L := [(0, .ref 0), (1, .int (nI 0)), (2, .int x), (3, .int y)]) rfl ?_
  refine zi_iload_n dX11_write_0 (i := 1) rfl 1 rfl ?_
  refine zcI (zc_S (as := [.int (nI 0)]) lk_X11_296 ce_X11_isSheet dX11_write_1 (by decide) rfl rfl (Nat.le_of_ble_eq_true rfl)) (zOkI_eq ok_X11_isSheet (by decide : zb (zin (nI 0) (nI 0) (nI 3)) = nI 1)) ?_
  refine zi_ifN_ne (by decide) (tgt := 9) dX11_write_4 (by decide) (fun _ => ?_) (fun c => absurd c (by decide))
  refine zi_aload_n dX11_write_9 (i := 0) rfl 0 rfl ?_
  refine zi_getR fd_X11_67_X11 rfl cw0_0 rfl dX11_write_10 ?_
  refine zi_iload_n dX11_write_13 (i := 1) rfl 1 rfl ?_
  refine zi_ialdN cw0_104 (by decide) (by decide) dX11_write_14 ?_
  refine zi_top (y := (nI (so 0) - nI 1)) (((hsh _ (by omega)).1)) ?_
  refine zi_iconst (v := (-1)) dX11_write_15 (by decide) ?_
  refine zi_icmp_ne (tgt := 22) dX11_write_16 (by decide) (fun c16 => ?_) (fun c16 => False.elim (by exact absurd ((qI_pred (by omega)).symm.trans c16) (nI_ne_neg (by omega))))
  refine zi_aload_n dX11_write_22 (i := 0) rfl 0 rfl ?_
  refine zi_iload_n dX11_write_23 (i := 1) rfl 1 rfl ?_
  refine zi_iload_n dX11_write_24 (i := 2) rfl 2 rfl ?_
  refine zcI (zc_V (as := [.int (nI 0), .int x]) lk_X11_305 ce_X11_hasItem cw0_0 rfl rfl dX11_write_25 (by decide) rfl rfl (Nat.le_of_ble_eq_true rfl)) (zOkI_eq (ok_X11_hasItem hsh (by decide)) (congrArg zb hi)) ?_
  refine zi_ifN_ne (by decide) (tgt := 34) dX11_write_28 (by decide) (fun c => absurd c (by decide)) (fun _ => ?_)
  refine zi_bipush (v := (-12)) dX11_write_31 (by decide) ?_
  refine zi_retI rfl rfl dX11_write_33 ?_
  rfl
set_option maxRecDepth 100000 in
set_option maxHeartbeats 4000000 in
theorem ok_X11_item0 {M : zMem} {b i : Nat} {so sz : Nat → Nat} (hsh : zSc so sz M) (hb4 : b ≤ 4) (hsb : so 0 = b + 1) (hi : i < sz 0) : zOkI zw0 2 mX11_item [.ref 0, .int (nI 0), .int (nI b), .int (nI i)] M (M 100 i) := by
  obtain ⟨-, -, hso, hsz⟩ := hsh 0 (by decide)
  refine zOk_of (by decide +kernel) (fun _ => Nat.le_of_ble_eq_true rfl) (L := [(0, .ref 0), (1, .int (nI 0)), (2, .int (nI b)), (3, .int (nI i))]) rfl ?_
  refine zi_iload_n dX11_item_0 (i := 1) rfl 1 rfl ?_
  refine zcI (zc_S (as := [.int (nI 0)]) lk_X11_296 ce_X11_isSheet dX11_item_1 (by decide) rfl rfl (Nat.le_of_ble_eq_true rfl)) (zOkI_eq ok_X11_isSheet (by decide : zb (zin (nI 0) (nI 0) (nI 3)) = nI 1)) ?_
  refine zi_ifN_eq (by decide) (tgt := 15) dX11_item_4 (by decide) (fun c => absurd c (by decide)) (fun _ => ?_)
  refine zi_iload_n dX11_item_7 (i := 2) rfl 2 rfl ?_
  refine zi_iconst (v := nI 4) dX11_item_8 (by decide) ?_
  refine zcI (zc_S (as := [.int (nI b), .int (nI 4)]) lk_X11_86 ce_X11_isFrom0To dX11_item_9 (by decide) rfl rfl (Nat.le_of_ble_eq_true rfl)) (zOkI_eq ok_X11_isFrom0To (zinT (by omega) (by omega) (by omega))) ?_
  refine zi_ifN_ne (by decide) (tgt := 17) dX11_item_12 (by decide) (fun _ => ?_) (fun c => absurd c (by decide))
  refine zi_aload_n dX11_item_17 (i := 0) rfl 0 rfl ?_
  refine zi_iload_n dX11_item_18 (i := 1) rfl 1 rfl ?_
  refine zi_iload_n dX11_item_19 (i := 2) rfl 2 rfl ?_
  refine zcI (zc_V (as := [.int (nI 0), .int (nI b)]) lk_X11_311 ce_X11_takenFor cw0_0 rfl rfl dX11_item_20 (by decide) rfl rfl (Nat.le_of_ble_eq_true rfl)) (zOkI_eq (ok_X11_takenFor hsh (by decide) (by omega)) (by rw [if_neg (by omega), if_pos hsb])) ?_
  refine zi_istore (L' := [(4, .int (nI 0)), (0, .ref 0), (1, .int (nI 0)), (2, .int (nI b)), (3, .int (nI i))]) dX11_item_23 (by decide) rfl ?_
  refine zi_iload dX11_item_25 0 rfl ?_
  refine zi_ifN_eq (by decide) (tgt := 33) dX11_item_27 (by decide) (fun _ => ?_) (fun c => absurd c (by decide))
  refine zi_aload_n dX11_item_33 (i := 0) rfl 1 rfl ?_
  refine zi_iload_n dX11_item_34 (i := 1) rfl 2 rfl ?_
  refine zi_iload_n dX11_item_35 (i := 3) rfl 4 rfl ?_
  refine zcI (zc_V (as := [.int (nI 0), .int (nI i)]) lk_X11_305 ce_X11_hasItem cw0_0 rfl rfl dX11_item_36 (by decide) rfl rfl (Nat.le_of_ble_eq_true rfl)) (zOkI_eq (ok_X11_hasItem hsh (by decide)) (congrArg zb ((qIs_nat (by omega) (by omega)).trans (decide_eq_true hi)))) ?_
  refine zi_ifN_eq (by decide) (tgt := 54) dX11_item_39 (by decide) (fun c => absurd c (by decide)) (fun _ => ?_)
  refine zi_aload_n dX11_item_42 (i := 0) rfl 1 rfl ?_
  refine zi_getR fd_X11_64_X11 rfl cw0_0 rfl dX11_item_43 ?_
  refine zi_iload_n dX11_item_46 (i := 1) rfl 2 rfl ?_
  refine zi_aaldN cw0_99 (by decide) (t := 100) rfl (by decide) dX11_item_47 ?_
  refine zi_iload_n dX11_item_48 (i := 3) rfl 4 rfl ?_
  refine zi_laldN cw0_100 (by omega) (by decide) dX11_item_49 ?_
  refine zi_l2i dX11_item_50 ?_
  refine zi_goto (tgt := 56) dX11_item_51 (by decide) ?_
  refine zi_retI rfl rfl dX11_item_56 ?_
  exact Int32.toInt32_toInt64 _
set_option maxRecDepth 100000 in
set_option maxHeartbeats 4000000 in
theorem out_X11_item0 {M : zMem} {b : Nat} {x : Int32} {so sz : Nat → Nat} (hsh : zSc so sz M) (hb4 : b ≤ 4) (hsb : so 0 = b + 1) (hi : zin x (nI 0) (nI (sz 0) - nI 1) = false) : zOkI zw0 2 mX11_item [.ref 0, .int (nI 0), .int (nI b), .int x] M (-12) := by
  obtain ⟨-, -, hso, hsz⟩ := hsh 0 (by decide)
  refine zOk_of (by decide +kernel) (fun _ => Nat.le_of_ble_eq_true rfl) (L := [(0, .ref 0), (1, .int (nI 0)), (2, .int (nI b)), (3, .int x)]) rfl ?_
  refine zi_iload_n dX11_item_0 (i := 1) rfl 1 rfl ?_
  refine zcI (zc_S (as := [.int (nI 0)]) lk_X11_296 ce_X11_isSheet dX11_item_1 (by decide) rfl rfl (Nat.le_of_ble_eq_true rfl)) (zOkI_eq ok_X11_isSheet (by decide : zb (zin (nI 0) (nI 0) (nI 3)) = nI 1)) ?_
  refine zi_ifN_eq (by decide) (tgt := 15) dX11_item_4 (by decide) (fun c => absurd c (by decide)) (fun _ => ?_)
  refine zi_iload_n dX11_item_7 (i := 2) rfl 2 rfl ?_
  refine zi_iconst (v := nI 4) dX11_item_8 (by decide) ?_
  refine zcI (zc_S (as := [.int (nI b), .int (nI 4)]) lk_X11_86 ce_X11_isFrom0To dX11_item_9 (by decide) rfl rfl (Nat.le_of_ble_eq_true rfl)) (zOkI_eq ok_X11_isFrom0To (zinT (by omega) (by omega) (by omega))) ?_
  refine zi_ifN_ne (by decide) (tgt := 17) dX11_item_12 (by decide) (fun _ => ?_) (fun c => absurd c (by decide))
  refine zi_aload_n dX11_item_17 (i := 0) rfl 0 rfl ?_
  refine zi_iload_n dX11_item_18 (i := 1) rfl 1 rfl ?_
  refine zi_iload_n dX11_item_19 (i := 2) rfl 2 rfl ?_
  refine zcI (zc_V (as := [.int (nI 0), .int (nI b)]) lk_X11_311 ce_X11_takenFor cw0_0 rfl rfl dX11_item_20 (by decide) rfl rfl (Nat.le_of_ble_eq_true rfl)) (zOkI_eq (ok_X11_takenFor hsh (by decide) (by omega)) (by rw [if_neg (by omega), if_pos hsb])) ?_
  refine zi_istore (L' := [(4, .int (nI 0)), (0, .ref 0), (1, .int (nI 0)), (2, .int (nI b)), (3, .int x)]) dX11_item_23 (by decide) rfl ?_
  refine zi_iload dX11_item_25 0 rfl ?_
  refine zi_ifN_eq (by decide) (tgt := 33) dX11_item_27 (by decide) (fun _ => ?_) (fun c => absurd c (by decide))
  refine zi_aload_n dX11_item_33 (i := 0) rfl 1 rfl ?_
  refine zi_iload_n dX11_item_34 (i := 1) rfl 2 rfl ?_
  refine zi_iload_n dX11_item_35 (i := 3) rfl 4 rfl ?_
  refine zcI (zc_V (as := [.int (nI 0), .int x]) lk_X11_305 ce_X11_hasItem cw0_0 rfl rfl dX11_item_36 (by decide) rfl rfl (Nat.le_of_ble_eq_true rfl)) (zOkI_eq (ok_X11_hasItem hsh (by decide)) (congrArg zb hi)) ?_
  refine zi_ifN_eq (by decide) (tgt := 54) dX11_item_39 (by decide) (fun _ => ?_) (fun c => absurd c (by decide))
  refine zi_bipush (v := (-12)) dX11_item_54 (by decide) ?_
  refine zi_retI rfl rfl dX11_item_56 ?_
  rfl
set_option maxRecDepth 100000 in
set_option maxHeartbeats 4000000 in
theorem none_X11_item0 {M : zMem} {b : Nat} {x : Int32} {so sz : Nat → Nat} (hsh : zSc so sz M) (hb4 : b ≤ 4) (hsb : so 0 = 0) : zOkI zw0 2 mX11_item [.ref 0, .int (nI 0), .int (nI b), .int x] M (-11) := by
  obtain ⟨-, -, hso, hsz⟩ := hsh 0 (by decide)
  refine zOk_of (by decide +kernel) (fun _ => Nat.le_of_ble_eq_true rfl) (L := [(0, .ref 0), (1, .int (nI 0)), (2, .int (nI b)), (3, .int x)]) rfl ?_
  refine zi_iload_n dX11_item_0 (i := 1) rfl 1 rfl ?_
  refine zcI (zc_S (as := [.int (nI 0)]) lk_X11_296 ce_X11_isSheet dX11_item_1 (by decide) rfl rfl (Nat.le_of_ble_eq_true rfl)) (zOkI_eq ok_X11_isSheet (by decide : zb (zin (nI 0) (nI 0) (nI 3)) = nI 1)) ?_
  refine zi_ifN_eq (by decide) (tgt := 15) dX11_item_4 (by decide) (fun c => absurd c (by decide)) (fun _ => ?_)
  refine zi_iload_n dX11_item_7 (i := 2) rfl 2 rfl ?_
  refine zi_iconst (v := nI 4) dX11_item_8 (by decide) ?_
  refine zcI (zc_S (as := [.int (nI b), .int (nI 4)]) lk_X11_86 ce_X11_isFrom0To dX11_item_9 (by decide) rfl rfl (Nat.le_of_ble_eq_true rfl)) (zOkI_eq ok_X11_isFrom0To (zinT (by omega) (by omega) (by omega))) ?_
  refine zi_ifN_ne (by decide) (tgt := 17) dX11_item_12 (by decide) (fun _ => ?_) (fun c => absurd c (by decide))
  refine zi_aload_n dX11_item_17 (i := 0) rfl 0 rfl ?_
  refine zi_iload_n dX11_item_18 (i := 1) rfl 1 rfl ?_
  refine zi_iload_n dX11_item_19 (i := 2) rfl 2 rfl ?_
  refine zcI (zc_V (as := [.int (nI 0), .int (nI b)]) lk_X11_311 ce_X11_takenFor cw0_0 rfl rfl dX11_item_20 (by decide) rfl rfl (Nat.le_of_ble_eq_true rfl)) (zOkI_eq (ok_X11_takenFor hsh (by decide) (by omega)) (by rw [if_pos hsb])) ?_
  refine zi_istore (L' := [(4, .int (-11)), (0, .ref 0), (1, .int (nI 0)), (2, .int (nI b)), (3, .int x)]) dX11_item_23 (by decide) rfl ?_
  refine zi_iload dX11_item_25 0 rfl ?_
  refine zi_if_eq (tgt := 33) dX11_item_27 (by decide) (fun c27 => False.elim (by exact absurd c27 (by decide))) (fun c27 => ?_)
  refine zi_iload dX11_item_30 0 rfl ?_
  refine zi_retI rfl rfl dX11_item_32 ?_
  rfl
set_option maxRecDepth 100000 in
set_option maxHeartbeats 4000000 in
theorem other_X11_item0 {M : zMem} {b : Nat} {x : Int32} {so sz : Nat → Nat} (hsh : zSc so sz M) (hb4 : b ≤ 4) (hsb : so 0 ≠ 0) (hsc : so 0 ≠ b + 1) : zOkI zw0 2 mX11_item [.ref 0, .int (nI 0), .int (nI b), .int x] M (-13) := by
  obtain ⟨-, -, hso, hsz⟩ := hsh 0 (by decide)
  refine zOk_of (by decide +kernel) (fun _ => Nat.le_of_ble_eq_true rfl) (L := [(0, .ref 0), (1, .int (nI 0)), (2, .int (nI b)), (3, .int x)]) rfl ?_
  refine zi_iload_n dX11_item_0 (i := 1) rfl 1 rfl ?_
  refine zcI (zc_S (as := [.int (nI 0)]) lk_X11_296 ce_X11_isSheet dX11_item_1 (by decide) rfl rfl (Nat.le_of_ble_eq_true rfl)) (zOkI_eq ok_X11_isSheet (by decide : zb (zin (nI 0) (nI 0) (nI 3)) = nI 1)) ?_
  refine zi_ifN_eq (by decide) (tgt := 15) dX11_item_4 (by decide) (fun c => absurd c (by decide)) (fun _ => ?_)
  refine zi_iload_n dX11_item_7 (i := 2) rfl 2 rfl ?_
  refine zi_iconst (v := nI 4) dX11_item_8 (by decide) ?_
  refine zcI (zc_S (as := [.int (nI b), .int (nI 4)]) lk_X11_86 ce_X11_isFrom0To dX11_item_9 (by decide) rfl rfl (Nat.le_of_ble_eq_true rfl)) (zOkI_eq ok_X11_isFrom0To (zinT (by omega) (by omega) (by omega))) ?_
  refine zi_ifN_ne (by decide) (tgt := 17) dX11_item_12 (by decide) (fun _ => ?_) (fun c => absurd c (by decide))
  refine zi_aload_n dX11_item_17 (i := 0) rfl 0 rfl ?_
  refine zi_iload_n dX11_item_18 (i := 1) rfl 1 rfl ?_
  refine zi_iload_n dX11_item_19 (i := 2) rfl 2 rfl ?_
  refine zcI (zc_V (as := [.int (nI 0), .int (nI b)]) lk_X11_311 ce_X11_takenFor cw0_0 rfl rfl dX11_item_20 (by decide) rfl rfl (Nat.le_of_ble_eq_true rfl)) (zOkI_eq (ok_X11_takenFor hsh (by decide) (by omega)) (by rw [if_neg hsb, if_neg hsc])) ?_
  refine zi_istore (L' := [(4, .int (-13)), (0, .ref 0), (1, .int (nI 0)), (2, .int (nI b)), (3, .int x)]) dX11_item_23 (by decide) rfl ?_
  refine zi_iload dX11_item_25 0 rfl ?_
  refine zi_if_eq (tgt := 33) dX11_item_27 (by decide) (fun c27 => False.elim (by exact absurd c27 (by decide))) (fun c27 => ?_)
  refine zi_iload dX11_item_30 0 rfl ?_
  refine zi_retI rfl rfl dX11_item_32 ?_
  rfl
set_option maxRecDepth 100000 in
set_option maxHeartbeats 4000000 in
theorem low_X11_sheet0 {M : zMem} {b : Nat} {r : Int32} (hb4 : b ≤ 4) (hr : r < 0) : zOkI zw0 2 mX11_sheet [.ref 0, .int (nI 0), .int (nI b), .int r] M (-14) := by
  refine zOk_of (by decide +kernel) (fun _ => Nat.le_of_ble_eq_true rfl) (L := [(0, .ref 0), (1, .int (nI 0)), (2, .int (nI b)), (3, .int r)]) rfl ?_
  refine zi_iload_n dX11_sheet_0 (i := 1) rfl 1 rfl ?_
  refine zcI (zc_S (as := [.int (nI 0)]) lk_X11_296 ce_X11_isSheet dX11_sheet_1 (by decide) rfl rfl (Nat.le_of_ble_eq_true rfl)) (zOkI_eq ok_X11_isSheet (by decide : zb (zin (nI 0) (nI 0) (nI 3)) = nI 1)) ?_
  refine zi_ifN_eq (by decide) (tgt := 17) dX11_sheet_4 (by decide) (fun c => absurd c (by decide)) (fun _ => ?_)
  refine zi_iload_n dX11_sheet_7 (i := 2) rfl 2 rfl ?_
  refine zi_iconst (v := (-1)) dX11_sheet_8 (by decide) ?_
  refine zi_icmp_lt (tgt := 17) dX11_sheet_9 (by decide) (fun c9 => False.elim (by exact absurd (Int32.lt_of_lt_of_le c9 (by decide)) (Int32.not_lt.mpr (nI_pos' (by omega))))) (fun c9 => ?_)
  refine zi_iload_n dX11_sheet_12 (i := 2) rfl 2 rfl ?_
  refine zi_iconst (v := nI 5) dX11_sheet_13 (by decide) ?_
  refine zi_icmpN_lt (by  omega) (by decide) (tgt := 19) dX11_sheet_14 (by decide) (fun c14 => ?_) (fun c14 => False.elim (by omega))
  refine zi_iload_n dX11_sheet_19 (i := 2) rfl 2 rfl ?_
  refine zi_iconst (v := (-1)) dX11_sheet_20 (by decide) ?_
  refine zi_icmp_ne (tgt := 28) dX11_sheet_21 (by decide) (fun c21 => ?_) (fun c21 => False.elim (by exact nI_ne_neg (by omega) c21))
  refine zi_iload_n dX11_sheet_28 (i := 3) rfl 3 rfl ?_
  refine zi_istore (L' := [(4, .int r), (0, .ref 0), (1, .int (nI 0)), (2, .int (nI b)), (3, .int r)]) dX11_sheet_29 (by decide) rfl ?_
  refine zi_iload dX11_sheet_31 0 rfl ?_
  refine zi_bipush (v := nI 40) dX11_sheet_33 (by decide) ?_
  refine zi_icmp_le (tgt := 40) dX11_sheet_35 (by decide) (fun c35 => ?_) (fun c35 => False.elim (by exact absurd hr (Int32.not_lt.mpr (Int32.le_of_lt (Int32.lt_trans (by decide : (0 : Int32) < nI 40) (Int32.not_le.mp c35))))))
  refine zi_iload dX11_sheet_40 0 rfl ?_
  refine zi_if_ge (tgt := 48) dX11_sheet_42 (by decide) (fun c42 => False.elim (by exact absurd hr (Int32.not_lt.mpr c42))) (fun c42 => ?_)
  refine zi_bipush (v := (-14)) dX11_sheet_45 (by decide) ?_
  refine zi_retI rfl rfl dX11_sheet_47 ?_
  rfl
set_option maxRecDepth 100000 in
set_option maxHeartbeats 4000000 in
theorem ok_X11_sheet1 {M : zMem}  {b z : Nat} (hb4 : b ≤ 4) (hz : z ≤ 40) : zOkJ zw0 2 mX11_sheet [.ref 0, .int (nI 1), .int (nI b), .int (nI z)] M (fun r M' => r = nI 1 ∧ M' = zup (zup (zsetF M 101 (fun j => if j < 40 then nI 0 else M 101 j)) 104 1 (nI b)) 105 1 (nI z)) := by
  refine zOk_of (by decide +kernel) (fun _ => Nat.le_of_ble_eq_true rfl) (L := [(0, .ref 0), (1, .int (nI 1)), (2, .int (nI b)), (3, .int (nI z))]) rfl ?_
  refine zi_iload_n dX11_sheet_0 (i := 1) rfl 1 rfl ?_
  refine zcI (zc_S (as := [.int (nI 1)]) lk_X11_296 ce_X11_isSheet dX11_sheet_1 (by decide) rfl rfl (Nat.le_of_ble_eq_true rfl)) (zOkI_eq ok_X11_isSheet (by decide : zb (zin (nI 1) (nI 0) (nI 3)) = nI 1)) ?_
  refine zi_ifN_eq (by decide) (tgt := 17) dX11_sheet_4 (by decide) (fun c => absurd c (by decide)) (fun _ => ?_)
  refine zi_iload_n dX11_sheet_7 (i := 2) rfl 2 rfl ?_
  refine zi_iconst (v := (-1)) dX11_sheet_8 (by decide) ?_
  refine zi_icmp_lt (tgt := 17) dX11_sheet_9 (by decide) (fun c9 => False.elim (by exact absurd (Int32.lt_of_lt_of_le c9 (by decide)) (Int32.not_lt.mpr (nI_pos' (by omega))))) (fun c9 => ?_)
  refine zi_iload_n dX11_sheet_12 (i := 2) rfl 2 rfl ?_
  refine zi_iconst (v := nI 5) dX11_sheet_13 (by decide) ?_
  refine zi_icmpN_lt (by  omega) (by decide) (tgt := 19) dX11_sheet_14 (by decide) (fun c14 => ?_) (fun c14 => False.elim (by omega))
  refine zi_iload_n dX11_sheet_19 (i := 2) rfl 2 rfl ?_
  refine zi_iconst (v := (-1)) dX11_sheet_20 (by decide) ?_
  refine zi_icmp_ne (tgt := 28) dX11_sheet_21 (by decide) (fun c21 => ?_) (fun c21 => False.elim (by exact nI_ne_neg (by omega) c21))
  refine zi_iload_n dX11_sheet_28 (i := 3) rfl 3 rfl ?_
  refine zi_istore (L' := [(4, .int (nI z)), (0, .ref 0), (1, .int (nI 1)), (2, .int (nI b)), (3, .int (nI z))]) dX11_sheet_29 (by decide) rfl ?_
  refine zi_iload dX11_sheet_31 0 rfl ?_
  refine zi_bipush (v := nI 40) dX11_sheet_33 (by decide) ?_
  refine zi_icmpN_le (by  omega) (by decide) (tgt := 40) dX11_sheet_35 (by decide) (fun c35 => ?_) (fun c35 => False.elim (by omega))
  refine zi_iload dX11_sheet_40 0 rfl ?_
  refine zi_ifN_ge (by  omega) (tgt := 48) dX11_sheet_42 (by decide) (fun c42 => ?_) (fun c42 => False.elim (by omega))
  refine zi_aload_n dX11_sheet_48 (i := 0) rfl 1 rfl ?_
  refine zi_getR fd_X11_64_X11 rfl cw0_0 rfl dX11_sheet_49 ?_
  refine zi_iload_n dX11_sheet_52 (i := 1) rfl 2 rfl ?_
  refine zi_aaldN cw0_99 (by decide) (t := 101) rfl (by decide) dX11_sheet_53 ?_
  refine zi_lconst (v := 0) dX11_sheet_54 rfl ?_
  refine zcV (zc_S (as := [.ref 101, .long 0]) lk_X11_299 ce_J7_fill_d0a16 dX11_sheet_55 (by decide) rfl rfl (Nat.le_of_ble_eq_true rfl)) (show zOkV zw0 0 mJ7_fill_d0a16 [.ref 101, .long 0] M (fun M' => M' = (zsetF M 101 (fun j => if j < 40 then nI 0 else M 101 j))) from ok_fill_101 (x := nI 0)) (fun M55 h55 => ?_)
  refine zi_aload_n dX11_sheet_58 (i := 0) rfl 1 rfl ?_
  refine zi_getR fd_X11_67_X11 rfl cw0_0 rfl dX11_sheet_59 ?_
  refine zi_iload_n dX11_sheet_62 (i := 1) rfl 2 rfl ?_
  refine zi_iload_n dX11_sheet_63 (i := 2) rfl 3 rfl ?_
  refine zi_iastN cw0_104 (by decide) (by decide) dX11_sheet_64 ?_
  refine zi_aload_n dX11_sheet_65 (i := 0) rfl 1 rfl ?_
  refine zi_getR fd_X11_70_X11 rfl cw0_0 rfl dX11_sheet_66 ?_
  refine zi_iload_n dX11_sheet_69 (i := 1) rfl 2 rfl ?_
  refine zi_iload dX11_sheet_70 0 rfl ?_
  refine zi_iastN cw0_105 (by decide) (by decide) dX11_sheet_72 ?_
  refine zi_iconst (v := nI 1) dX11_sheet_73 (by decide) ?_
  refine zi_retJ rfl rfl dX11_sheet_74 ?_
  refine ⟨rfl, ?_⟩
  rw [h55]
set_option maxRecDepth 100000 in
set_option maxHeartbeats 4000000 in
theorem ok_X11_sheetN1 {M : zMem}  {x : Int32}  : zOkJ zw0 2 mX11_sheet [.ref 0, .int (nI 1), .int (-1), .int x] M (fun r M' => r = nI 1 ∧ M' = zup (zup (zsetF M 101 (fun j => if j < 40 then nI 0 else M 101 j)) 104 1 (-1)) 105 1 (nI 0)) := by
  refine zOk_of (by decide +kernel) (fun _ => Nat.le_of_ble_eq_true rfl) (L := [(0, .ref 0), (1, .int (nI 1)), (2, .int (-1)), (3, .int x)]) rfl ?_
  refine zi_iload_n dX11_sheet_0 (i := 1) rfl 1 rfl ?_
  refine zcI (zc_S (as := [.int (nI 1)]) lk_X11_296 ce_X11_isSheet dX11_sheet_1 (by decide) rfl rfl (Nat.le_of_ble_eq_true rfl)) (zOkI_eq ok_X11_isSheet (by decide : zb (zin (nI 1) (nI 0) (nI 3)) = nI 1)) ?_
  refine zi_ifN_eq (by decide) (tgt := 17) dX11_sheet_4 (by decide) (fun c => absurd c (by decide)) (fun _ => ?_)
  refine zi_iload_n dX11_sheet_7 (i := 2) rfl 2 rfl ?_
  refine zi_iconst (v := (-1)) dX11_sheet_8 (by decide) ?_
  refine zi_icmp_lt (tgt := 17) dX11_sheet_9 (by decide) (fun c9 => False.elim (by exact absurd c9 (by decide))) (fun c9 => ?_)
  refine zi_iload_n dX11_sheet_12 (i := 2) rfl 2 rfl ?_
  refine zi_iconst (v := nI 5) dX11_sheet_13 (by decide) ?_
  refine zi_icmp_lt (tgt := 19) dX11_sheet_14 (by decide) (fun c14 => ?_) (fun c14 => False.elim (by exact absurd c14 (by decide)))
  refine zi_iload_n dX11_sheet_19 (i := 2) rfl 2 rfl ?_
  refine zi_iconst (v := (-1)) dX11_sheet_20 (by decide) ?_
  refine zi_icmp_ne (tgt := 28) dX11_sheet_21 (by decide) (fun c21 => False.elim (by exact c21 rfl)) (fun c21 => ?_)
  refine zi_iconst (v := nI 0) dX11_sheet_24 (by decide) ?_
  refine zi_goto (tgt := 29) dX11_sheet_25 (by decide) ?_
  refine zi_istore (L' := [(4, .int (nI 0)), (0, .ref 0), (1, .int (nI 1)), (2, .int (-1)), (3, .int x)]) dX11_sheet_29 (by decide) rfl ?_
  refine zi_iload dX11_sheet_31 0 rfl ?_
  refine zi_bipush (v := nI 40) dX11_sheet_33 (by decide) ?_
  refine zi_icmpN_le (by decide) (by decide) (tgt := 40) dX11_sheet_35 (by decide) (fun _ => ?_) (fun c => absurd c (by decide))
  refine zi_iload dX11_sheet_40 0 rfl ?_
  refine zi_ifN_ge (by decide) (tgt := 48) dX11_sheet_42 (by decide) (fun _ => ?_) (fun c => absurd c (by decide))
  refine zi_aload_n dX11_sheet_48 (i := 0) rfl 1 rfl ?_
  refine zi_getR fd_X11_64_X11 rfl cw0_0 rfl dX11_sheet_49 ?_
  refine zi_iload_n dX11_sheet_52 (i := 1) rfl 2 rfl ?_
  refine zi_aaldN cw0_99 (by decide) (t := 101) rfl (by decide) dX11_sheet_53 ?_
  refine zi_lconst (v := 0) dX11_sheet_54 rfl ?_
  refine zcV (zc_S (as := [.ref 101, .long 0]) lk_X11_299 ce_J7_fill_d0a16 dX11_sheet_55 (by decide) rfl rfl (Nat.le_of_ble_eq_true rfl)) (show zOkV zw0 0 mJ7_fill_d0a16 [.ref 101, .long 0] M (fun M' => M' = (zsetF M 101 (fun j => if j < 40 then nI 0 else M 101 j))) from ok_fill_101 (x := nI 0)) (fun M55 h55 => ?_)
  refine zi_aload_n dX11_sheet_58 (i := 0) rfl 1 rfl ?_
  refine zi_getR fd_X11_67_X11 rfl cw0_0 rfl dX11_sheet_59 ?_
  refine zi_iload_n dX11_sheet_62 (i := 1) rfl 2 rfl ?_
  refine zi_iload_n dX11_sheet_63 (i := 2) rfl 3 rfl ?_
  refine zi_iastN cw0_104 (by decide) (by decide) dX11_sheet_64 ?_
  refine zi_aload_n dX11_sheet_65 (i := 0) rfl 1 rfl ?_
  refine zi_getR fd_X11_70_X11 rfl cw0_0 rfl dX11_sheet_66 ?_
  refine zi_iload_n dX11_sheet_69 (i := 1) rfl 2 rfl ?_
  refine zi_iload dX11_sheet_70 0 rfl ?_
  refine zi_iastN cw0_105 (by decide) (by decide) dX11_sheet_72 ?_
  refine zi_iconst (v := nI 1) dX11_sheet_73 (by decide) ?_
  refine zi_retJ rfl rfl dX11_sheet_74 ?_
  refine ⟨rfl, ?_⟩
  rw [h55]
set_option maxRecDepth 100000 in
set_option maxHeartbeats 4000000 in
theorem ok_X11_write1 {M : zMem} {i : Nat} {x : Int32} {so sz : Nat → Nat} (hsh : zSc so sz M) (hso0 : 1 ≤ so 1) (hi : i < sz 1) : zOkJ zw0 2 mX11_write [.ref 0, .int (nI 1), .int (nI i), .int x] M (fun r M' => r = nI 1 ∧ M' = zup M 101 i (qNar x (so 1 - 1))) := by
  obtain ⟨-, -, hso, hsz⟩ := hsh 1 (by decide)
  refine zOk_of (by decide +kernel) (fun _ => Nat.le_of_ble_eq_true rfl) (L := [(0, .ref 0), (1, .int (nI 1)), (2, .int (nI i)), (3, .int x)]) rfl ?_
  refine zi_iload_n dX11_write_0 (i := 1) rfl 1 rfl ?_
  refine zcI (zc_S (as := [.int (nI 1)]) lk_X11_296 ce_X11_isSheet dX11_write_1 (by decide) rfl rfl (Nat.le_of_ble_eq_true rfl)) (zOkI_eq ok_X11_isSheet (by decide : zb (zin (nI 1) (nI 0) (nI 3)) = nI 1)) ?_
  refine zi_ifN_ne (by decide) (tgt := 9) dX11_write_4 (by decide) (fun _ => ?_) (fun c => absurd c (by decide))
  refine zi_aload_n dX11_write_9 (i := 0) rfl 0 rfl ?_
  refine zi_getR fd_X11_67_X11 rfl cw0_0 rfl dX11_write_10 ?_
  refine zi_iload_n dX11_write_13 (i := 1) rfl 1 rfl ?_
  refine zi_ialdN cw0_104 (by decide) (by decide) dX11_write_14 ?_
  refine zi_top (y := (nI (so 1) - nI 1)) (((hsh _ (by omega)).1)) ?_
  refine zi_iconst (v := (-1)) dX11_write_15 (by decide) ?_
  refine zi_icmp_ne (tgt := 22) dX11_write_16 (by decide) (fun c16 => ?_) (fun c16 => False.elim (by exact absurd ((qI_pred (by omega)).symm.trans c16) (nI_ne_neg (by omega))))
  refine zi_aload_n dX11_write_22 (i := 0) rfl 0 rfl ?_
  refine zi_iload_n dX11_write_23 (i := 1) rfl 1 rfl ?_
  refine zi_iload_n dX11_write_24 (i := 2) rfl 2 rfl ?_
  refine zcI (zc_V (as := [.int (nI 1), .int (nI i)]) lk_X11_305 ce_X11_hasItem cw0_0 rfl rfl dX11_write_25 (by decide) rfl rfl (Nat.le_of_ble_eq_true rfl)) (zOkI_eq (ok_X11_hasItem hsh (by decide)) (congrArg zb ((qIs_nat (by omega) (by omega)).trans (decide_eq_true hi)))) ?_
  refine zi_ifN_ne (by decide) (tgt := 34) dX11_write_28 (by decide) (fun _ => ?_) (fun c => absurd c (by decide))
  refine zi_aload_n dX11_write_34 (i := 0) rfl 0 rfl ?_
  refine zi_getR fd_X11_64_X11 rfl cw0_0 rfl dX11_write_35 ?_
  refine zi_iload_n dX11_write_38 (i := 1) rfl 1 rfl ?_
  refine zi_aaldN cw0_99 (by decide) (t := 101) rfl (by decide) dX11_write_39 ?_
  refine zi_iload_n dX11_write_40 (i := 2) rfl 2 rfl ?_
  refine zi_aload_n dX11_write_41 (i := 0) rfl 0 rfl ?_
  refine zi_getR fd_X11_67_X11 rfl cw0_0 rfl dX11_write_42 ?_
  refine zi_iload_n dX11_write_45 (i := 1) rfl 1 rfl ?_
  refine zi_ialdN cw0_104 (by decide) (by decide) dX11_write_46 ?_
  refine zi_top (y := (nI (so 1) - nI 1)) (((hsh _ (by omega)).1)) ?_
  refine zi_top (y := nI (so 1 - 1)) (qI_pred hso0) ?_
  refine zi_iload_n dX11_write_47 (i := 3) rfl 3 rfl ?_
  refine zcI (zc_S (as := [.int (nI (so 1 - 1)), .int x]) lk_X11_308 ce_X11_narrowed dX11_write_48 (by decide) rfl rfl (Nat.le_of_ble_eq_true rfl)) (ok_X11_narrowed (b := so 1 - 1) (by omega)) ?_
  refine zi_i2l dX11_write_51 ?_
  refine zi_lastN cw0_101 (by omega) (by decide) dX11_write_52 ?_
  refine zi_iconst (v := nI 1) dX11_write_53 (by decide) ?_
  refine zi_retJ rfl rfl dX11_write_54 ?_
  exact ⟨rfl, rfl⟩
set_option maxRecDepth 100000 in
set_option maxHeartbeats 4000000 in
theorem none_X11_write1 {M : zMem} {x y : Int32} {so sz : Nat → Nat} (hsh : zSc so sz M) (hso0 : so 1 = 0) : zOkI zw0 2 mX11_write [.ref 0, .int (nI 1), .int x, .int y] M (-11) := by
  obtain ⟨-, -, hso, hsz⟩ := hsh 1 (by decide)
  refine zOk_of (by decide +kernel) (fun _ => Nat.le_of_ble_eq_true rfl) (L := [(0, .ref 0), (1, .int (nI 1)), (2, .int x), (3, .int y)]) rfl ?_
  refine zi_iload_n dX11_write_0 (i := 1) rfl 1 rfl ?_
  refine zcI (zc_S (as := [.int (nI 1)]) lk_X11_296 ce_X11_isSheet dX11_write_1 (by decide) rfl rfl (Nat.le_of_ble_eq_true rfl)) (zOkI_eq ok_X11_isSheet (by decide : zb (zin (nI 1) (nI 0) (nI 3)) = nI 1)) ?_
  refine zi_ifN_ne (by decide) (tgt := 9) dX11_write_4 (by decide) (fun _ => ?_) (fun c => absurd c (by decide))
  refine zi_aload_n dX11_write_9 (i := 0) rfl 0 rfl ?_
  refine zi_getR fd_X11_67_X11 rfl cw0_0 rfl dX11_write_10 ?_
  refine zi_iload_n dX11_write_13 (i := 1) rfl 1 rfl ?_
  refine zi_ialdN cw0_104 (by decide) (by decide) dX11_write_14 ?_
  refine zi_top (y := (nI (so 1) - nI 1)) (((hsh _ (by omega)).1)) ?_
  refine zi_iconst (v := (-1)) dX11_write_15 (by decide) ?_
  refine zi_icmp_ne (tgt := 22) dX11_write_16 (by decide) (fun c16 => False.elim (by rw [hso0] at c16; exact c16 (by decide))) (fun c16 => ?_)
  refine zi_bipush (v := (-11)) dX11_write_19 (by decide) ?_
  refine zi_retI rfl rfl dX11_write_21 ?_
  rfl
set_option maxRecDepth 100000 in
set_option maxHeartbeats 4000000 in
theorem out_X11_write1 {M : zMem} {x y : Int32} {so sz : Nat → Nat} (hsh : zSc so sz M) (hso0 : 1 ≤ so 1) (hi : zin x (nI 0) (nI (sz 1) - nI 1) = false) : zOkI zw0 2 mX11_write [.ref 0, .int (nI 1), .int x, .int y] M (-12) := by
  obtain ⟨-, -, hso, hsz⟩ := hsh 1 (by decide)
  refine zOk_of (by decide +kernel) (fun _ => Nat.le_of_ble_eq_true rfl) (L := [(0, .ref 0), (1, .int (nI 1)), (2, .int x), (3, .int y)]) rfl ?_
  refine zi_iload_n dX11_write_0 (i := 1) rfl 1 rfl ?_
  refine zcI (zc_S (as := [.int (nI 1)]) lk_X11_296 ce_X11_isSheet dX11_write_1 (by decide) rfl rfl (Nat.le_of_ble_eq_true rfl)) (zOkI_eq ok_X11_isSheet (by decide : zb (zin (nI 1) (nI 0) (nI 3)) = nI 1)) ?_
  refine zi_ifN_ne (by decide) (tgt := 9) dX11_write_4 (by decide) (fun _ => ?_) (fun c => absurd c (by decide))
  refine zi_aload_n dX11_write_9 (i := 0) rfl 0 rfl ?_
  refine zi_getR fd_X11_67_X11 rfl cw0_0 rfl dX11_write_10 ?_
  refine zi_iload_n dX11_write_13 (i := 1) rfl 1 rfl ?_
  refine zi_ialdN cw0_104 (by decide) (by decide) dX11_write_14 ?_
  refine zi_top (y := (nI (so 1) - nI 1)) (((hsh _ (by omega)).1)) ?_
  refine zi_iconst (v := (-1)) dX11_write_15 (by decide) ?_
  refine zi_icmp_ne (tgt := 22) dX11_write_16 (by decide) (fun c16 => ?_) (fun c16 => False.elim (by exact absurd ((qI_pred (by omega)).symm.trans c16) (nI_ne_neg (by omega))))
  refine zi_aload_n dX11_write_22 (i := 0) rfl 0 rfl ?_
  refine zi_iload_n dX11_write_23 (i := 1) rfl 1 rfl ?_
  refine zi_iload_n dX11_write_24 (i := 2) rfl 2 rfl ?_
  refine zcI (zc_V (as := [.int (nI 1), .int x]) lk_X11_305 ce_X11_hasItem cw0_0 rfl rfl dX11_write_25 (by decide) rfl rfl (Nat.le_of_ble_eq_true rfl)) (zOkI_eq (ok_X11_hasItem hsh (by decide)) (congrArg zb hi)) ?_
  refine zi_ifN_ne (by decide) (tgt := 34) dX11_write_28 (by decide) (fun c => absurd c (by decide)) (fun _ => ?_)
  refine zi_bipush (v := (-12)) dX11_write_31 (by decide) ?_
  refine zi_retI rfl rfl dX11_write_33 ?_
  rfl
set_option maxRecDepth 100000 in
set_option maxHeartbeats 4000000 in
theorem ok_X11_item1 {M : zMem} {b i : Nat} {so sz : Nat → Nat} (hsh : zSc so sz M) (hb4 : b ≤ 4) (hsb : so 1 = b + 1) (hi : i < sz 1) : zOkI zw0 2 mX11_item [.ref 0, .int (nI 1), .int (nI b), .int (nI i)] M (M 101 i) := by
  obtain ⟨-, -, hso, hsz⟩ := hsh 1 (by decide)
  refine zOk_of (by decide +kernel) (fun _ => Nat.le_of_ble_eq_true rfl) (L := [(0, .ref 0), (1, .int (nI 1)), (2, .int (nI b)), (3, .int (nI i))]) rfl ?_
  refine zi_iload_n dX11_item_0 (i := 1) rfl 1 rfl ?_
  refine zcI (zc_S (as := [.int (nI 1)]) lk_X11_296 ce_X11_isSheet dX11_item_1 (by decide) rfl rfl (Nat.le_of_ble_eq_true rfl)) (zOkI_eq ok_X11_isSheet (by decide : zb (zin (nI 1) (nI 0) (nI 3)) = nI 1)) ?_
  refine zi_ifN_eq (by decide) (tgt := 15) dX11_item_4 (by decide) (fun c => absurd c (by decide)) (fun _ => ?_)
  refine zi_iload_n dX11_item_7 (i := 2) rfl 2 rfl ?_
  refine zi_iconst (v := nI 4) dX11_item_8 (by decide) ?_
  refine zcI (zc_S (as := [.int (nI b), .int (nI 4)]) lk_X11_86 ce_X11_isFrom0To dX11_item_9 (by decide) rfl rfl (Nat.le_of_ble_eq_true rfl)) (zOkI_eq ok_X11_isFrom0To (zinT (by omega) (by omega) (by omega))) ?_
  refine zi_ifN_ne (by decide) (tgt := 17) dX11_item_12 (by decide) (fun _ => ?_) (fun c => absurd c (by decide))
  refine zi_aload_n dX11_item_17 (i := 0) rfl 0 rfl ?_
  refine zi_iload_n dX11_item_18 (i := 1) rfl 1 rfl ?_
  refine zi_iload_n dX11_item_19 (i := 2) rfl 2 rfl ?_
  refine zcI (zc_V (as := [.int (nI 1), .int (nI b)]) lk_X11_311 ce_X11_takenFor cw0_0 rfl rfl dX11_item_20 (by decide) rfl rfl (Nat.le_of_ble_eq_true rfl)) (zOkI_eq (ok_X11_takenFor hsh (by decide) (by omega)) (by rw [if_neg (by omega), if_pos hsb])) ?_
  refine zi_istore (L' := [(4, .int (nI 0)), (0, .ref 0), (1, .int (nI 1)), (2, .int (nI b)), (3, .int (nI i))]) dX11_item_23 (by decide) rfl ?_
  refine zi_iload dX11_item_25 0 rfl ?_
  refine zi_ifN_eq (by decide) (tgt := 33) dX11_item_27 (by decide) (fun _ => ?_) (fun c => absurd c (by decide))
  refine zi_aload_n dX11_item_33 (i := 0) rfl 1 rfl ?_
  refine zi_iload_n dX11_item_34 (i := 1) rfl 2 rfl ?_
  refine zi_iload_n dX11_item_35 (i := 3) rfl 4 rfl ?_
  refine zcI (zc_V (as := [.int (nI 1), .int (nI i)]) lk_X11_305 ce_X11_hasItem cw0_0 rfl rfl dX11_item_36 (by decide) rfl rfl (Nat.le_of_ble_eq_true rfl)) (zOkI_eq (ok_X11_hasItem hsh (by decide)) (congrArg zb ((qIs_nat (by omega) (by omega)).trans (decide_eq_true hi)))) ?_
  refine zi_ifN_eq (by decide) (tgt := 54) dX11_item_39 (by decide) (fun c => absurd c (by decide)) (fun _ => ?_)
  refine zi_aload_n dX11_item_42 (i := 0) rfl 1 rfl ?_
  refine zi_getR fd_X11_64_X11 rfl cw0_0 rfl dX11_item_43 ?_
  refine zi_iload_n dX11_item_46 (i := 1) rfl 2 rfl ?_
  refine zi_aaldN cw0_99 (by decide) (t := 101) rfl (by decide) dX11_item_47 ?_
  refine zi_iload_n dX11_item_48 (i := 3) rfl 4 rfl ?_
  refine zi_laldN cw0_101 (by omega) (by decide) dX11_item_49 ?_
  refine zi_l2i dX11_item_50 ?_
  refine zi_goto (tgt := 56) dX11_item_51 (by decide) ?_
  refine zi_retI rfl rfl dX11_item_56 ?_
  exact Int32.toInt32_toInt64 _
set_option maxRecDepth 100000 in
set_option maxHeartbeats 4000000 in
theorem out_X11_item1 {M : zMem} {b : Nat} {x : Int32} {so sz : Nat → Nat} (hsh : zSc so sz M) (hb4 : b ≤ 4) (hsb : so 1 = b + 1) (hi : zin x (nI 0) (nI (sz 1) - nI 1) = false) : zOkI zw0 2 mX11_item [.ref 0, .int (nI 1), .int (nI b), .int x] M (-12) := by
  obtain ⟨-, -, hso, hsz⟩ := hsh 1 (by decide)
  refine zOk_of (by decide +kernel) (fun _ => Nat.le_of_ble_eq_true rfl) (L := [(0, .ref 0), (1, .int (nI 1)), (2, .int (nI b)), (3, .int x)]) rfl ?_
  refine zi_iload_n dX11_item_0 (i := 1) rfl 1 rfl ?_
  refine zcI (zc_S (as := [.int (nI 1)]) lk_X11_296 ce_X11_isSheet dX11_item_1 (by decide) rfl rfl (Nat.le_of_ble_eq_true rfl)) (zOkI_eq ok_X11_isSheet (by decide : zb (zin (nI 1) (nI 0) (nI 3)) = nI 1)) ?_
  refine zi_ifN_eq (by decide) (tgt := 15) dX11_item_4 (by decide) (fun c => absurd c (by decide)) (fun _ => ?_)
  refine zi_iload_n dX11_item_7 (i := 2) rfl 2 rfl ?_
  refine zi_iconst (v := nI 4) dX11_item_8 (by decide) ?_
  refine zcI (zc_S (as := [.int (nI b), .int (nI 4)]) lk_X11_86 ce_X11_isFrom0To dX11_item_9 (by decide) rfl rfl (Nat.le_of_ble_eq_true rfl)) (zOkI_eq ok_X11_isFrom0To (zinT (by omega) (by omega) (by omega))) ?_
  refine zi_ifN_ne (by decide) (tgt := 17) dX11_item_12 (by decide) (fun _ => ?_) (fun c => absurd c (by decide))
  refine zi_aload_n dX11_item_17 (i := 0) rfl 0 rfl ?_
  refine zi_iload_n dX11_item_18 (i := 1) rfl 1 rfl ?_
  refine zi_iload_n dX11_item_19 (i := 2) rfl 2 rfl ?_
  refine zcI (zc_V (as := [.int (nI 1), .int (nI b)]) lk_X11_311 ce_X11_takenFor cw0_0 rfl rfl dX11_item_20 (by decide) rfl rfl (Nat.le_of_ble_eq_true rfl)) (zOkI_eq (ok_X11_takenFor hsh (by decide) (by omega)) (by rw [if_neg (by omega), if_pos hsb])) ?_
  refine zi_istore (L' := [(4, .int (nI 0)), (0, .ref 0), (1, .int (nI 1)), (2, .int (nI b)), (3, .int x)]) dX11_item_23 (by decide) rfl ?_
  refine zi_iload dX11_item_25 0 rfl ?_
  refine zi_ifN_eq (by decide) (tgt := 33) dX11_item_27 (by decide) (fun _ => ?_) (fun c => absurd c (by decide))
  refine zi_aload_n dX11_item_33 (i := 0) rfl 1 rfl ?_
  refine zi_iload_n dX11_item_34 (i := 1) rfl 2 rfl ?_
  refine zi_iload_n dX11_item_35 (i := 3) rfl 4 rfl ?_
  refine zcI (zc_V (as := [.int (nI 1), .int x]) lk_X11_305 ce_X11_hasItem cw0_0 rfl rfl dX11_item_36 (by decide) rfl rfl (Nat.le_of_ble_eq_true rfl)) (zOkI_eq (ok_X11_hasItem hsh (by decide)) (congrArg zb hi)) ?_
  refine zi_ifN_eq (by decide) (tgt := 54) dX11_item_39 (by decide) (fun _ => ?_) (fun c => absurd c (by decide))
  refine zi_bipush (v := (-12)) dX11_item_54 (by decide) ?_
  refine zi_retI rfl rfl dX11_item_56 ?_
  rfl
set_option maxRecDepth 100000 in
set_option maxHeartbeats 4000000 in
theorem none_X11_item1 {M : zMem} {b : Nat} {x : Int32} {so sz : Nat → Nat} (hsh : zSc so sz M) (hb4 : b ≤ 4) (hsb : so 1 = 0) : zOkI zw0 2 mX11_item [.ref 0, .int (nI 1), .int (nI b), .int x] M (-11) := by
  obtain ⟨-, -, hso, hsz⟩ := hsh 1 (by decide)
  refine zOk_of (by decide +kernel) (fun _ => Nat.le_of_ble_eq_true rfl) (L := [(0, .ref 0), (1, .int (nI 1)), (2, .int (nI b)), (3, .int x)]) rfl ?_
  refine zi_iload_n dX11_item_0 (i := 1) rfl 1 rfl ?_
  refine zcI (zc_S (as := [.int (nI 1)]) lk_X11_296 ce_X11_isSheet dX11_item_1 (by decide) rfl rfl (Nat.le_of_ble_eq_true rfl)) (zOkI_eq ok_X11_isSheet (by decide : zb (zin (nI 1) (nI 0) (nI 3)) = nI 1)) ?_
  refine zi_ifN_eq (by decide) (tgt := 15) dX11_item_4 (by decide) (fun c => absurd c (by decide)) (fun _ => ?_)
  refine zi_iload_n dX11_item_7 (i := 2) rfl 2 rfl ?_
  refine zi_iconst (v := nI 4) dX11_item_8 (by decide) ?_
  refine zcI (zc_S (as := [.int (nI b), .int (nI 4)]) lk_X11_86 ce_X11_isFrom0To dX11_item_9 (by decide) rfl rfl (Nat.le_of_ble_eq_true rfl)) (zOkI_eq ok_X11_isFrom0To (zinT (by omega) (by omega) (by omega))) ?_
  refine zi_ifN_ne (by decide) (tgt := 17) dX11_item_12 (by decide) (fun _ => ?_) (fun c => absurd c (by decide))
  refine zi_aload_n dX11_item_17 (i := 0) rfl 0 rfl ?_
  refine zi_iload_n dX11_item_18 (i := 1) rfl 1 rfl ?_
  refine zi_iload_n dX11_item_19 (i := 2) rfl 2 rfl ?_
  refine zcI (zc_V (as := [.int (nI 1), .int (nI b)]) lk_X11_311 ce_X11_takenFor cw0_0 rfl rfl dX11_item_20 (by decide) rfl rfl (Nat.le_of_ble_eq_true rfl)) (zOkI_eq (ok_X11_takenFor hsh (by decide) (by omega)) (by rw [if_pos hsb])) ?_
  refine zi_istore (L' := [(4, .int (-11)), (0, .ref 0), (1, .int (nI 1)), (2, .int (nI b)), (3, .int x)]) dX11_item_23 (by decide) rfl ?_
  refine zi_iload dX11_item_25 0 rfl ?_
  refine zi_if_eq (tgt := 33) dX11_item_27 (by decide) (fun c27 => False.elim (by exact absurd c27 (by decide))) (fun c27 => ?_)
  refine zi_iload dX11_item_30 0 rfl ?_
  refine zi_retI rfl rfl dX11_item_32 ?_
  rfl
set_option maxRecDepth 100000 in
set_option maxHeartbeats 4000000 in
theorem other_X11_item1 {M : zMem} {b : Nat} {x : Int32} {so sz : Nat → Nat} (hsh : zSc so sz M) (hb4 : b ≤ 4) (hsb : so 1 ≠ 0) (hsc : so 1 ≠ b + 1) : zOkI zw0 2 mX11_item [.ref 0, .int (nI 1), .int (nI b), .int x] M (-13) := by
  obtain ⟨-, -, hso, hsz⟩ := hsh 1 (by decide)
  refine zOk_of (by decide +kernel) (fun _ => Nat.le_of_ble_eq_true rfl) (L := [(0, .ref 0), (1, .int (nI 1)), (2, .int (nI b)), (3, .int x)]) rfl ?_
  refine zi_iload_n dX11_item_0 (i := 1) rfl 1 rfl ?_
  refine zcI (zc_S (as := [.int (nI 1)]) lk_X11_296 ce_X11_isSheet dX11_item_1 (by decide) rfl rfl (Nat.le_of_ble_eq_true rfl)) (zOkI_eq ok_X11_isSheet (by decide : zb (zin (nI 1) (nI 0) (nI 3)) = nI 1)) ?_
  refine zi_ifN_eq (by decide) (tgt := 15) dX11_item_4 (by decide) (fun c => absurd c (by decide)) (fun _ => ?_)
  refine zi_iload_n dX11_item_7 (i := 2) rfl 2 rfl ?_
  refine zi_iconst (v := nI 4) dX11_item_8 (by decide) ?_
  refine zcI (zc_S (as := [.int (nI b), .int (nI 4)]) lk_X11_86 ce_X11_isFrom0To dX11_item_9 (by decide) rfl rfl (Nat.le_of_ble_eq_true rfl)) (zOkI_eq ok_X11_isFrom0To (zinT (by omega) (by omega) (by omega))) ?_
  refine zi_ifN_ne (by decide) (tgt := 17) dX11_item_12 (by decide) (fun _ => ?_) (fun c => absurd c (by decide))
  refine zi_aload_n dX11_item_17 (i := 0) rfl 0 rfl ?_
  refine zi_iload_n dX11_item_18 (i := 1) rfl 1 rfl ?_
  refine zi_iload_n dX11_item_19 (i := 2) rfl 2 rfl ?_
  refine zcI (zc_V (as := [.int (nI 1), .int (nI b)]) lk_X11_311 ce_X11_takenFor cw0_0 rfl rfl dX11_item_20 (by decide) rfl rfl (Nat.le_of_ble_eq_true rfl)) (zOkI_eq (ok_X11_takenFor hsh (by decide) (by omega)) (by rw [if_neg hsb, if_neg hsc])) ?_
  refine zi_istore (L' := [(4, .int (-13)), (0, .ref 0), (1, .int (nI 1)), (2, .int (nI b)), (3, .int x)]) dX11_item_23 (by decide) rfl ?_
  refine zi_iload dX11_item_25 0 rfl ?_
  refine zi_if_eq (tgt := 33) dX11_item_27 (by decide) (fun c27 => False.elim (by exact absurd c27 (by decide))) (fun c27 => ?_)
  refine zi_iload dX11_item_30 0 rfl ?_
  refine zi_retI rfl rfl dX11_item_32 ?_
  rfl
set_option maxRecDepth 100000 in
set_option maxHeartbeats 4000000 in
theorem low_X11_sheet1 {M : zMem} {b : Nat} {r : Int32} (hb4 : b ≤ 4) (hr : r < 0) : zOkI zw0 2 mX11_sheet [.ref 0, .int (nI 1), .int (nI b), .int r] M (-14) := by
  refine zOk_of (by decide +kernel) (fun _ => Nat.le_of_ble_eq_true rfl) (L := [(0, .ref 0), (1, .int (nI 1)), (2, .int (nI b)), (3, .int r)]) rfl ?_
  refine zi_iload_n dX11_sheet_0 (i := 1) rfl 1 rfl ?_
  refine zcI (zc_S (as := [.int (nI 1)]) lk_X11_296 ce_X11_isSheet dX11_sheet_1 (by decide) rfl rfl (Nat.le_of_ble_eq_true rfl)) (zOkI_eq ok_X11_isSheet (by decide : zb (zin (nI 1) (nI 0) (nI 3)) = nI 1)) ?_
  refine zi_ifN_eq (by decide) (tgt := 17) dX11_sheet_4 (by decide) (fun c => absurd c (by decide)) (fun _ => ?_)
  refine zi_iload_n dX11_sheet_7 (i := 2) rfl 2 rfl ?_
  refine zi_iconst (v := (-1)) dX11_sheet_8 (by decide) ?_
  refine zi_icmp_lt (tgt := 17) dX11_sheet_9 (by decide) (fun c9 => False.elim (by exact absurd (Int32.lt_of_lt_of_le c9 (by decide)) (Int32.not_lt.mpr (nI_pos' (by omega))))) (fun c9 => ?_)
  refine zi_iload_n dX11_sheet_12 (i := 2) rfl 2 rfl ?_
  refine zi_iconst (v := nI 5) dX11_sheet_13 (by decide) ?_
  refine zi_icmpN_lt (by  omega) (by decide) (tgt := 19) dX11_sheet_14 (by decide) (fun c14 => ?_) (fun c14 => False.elim (by omega))
  refine zi_iload_n dX11_sheet_19 (i := 2) rfl 2 rfl ?_
  refine zi_iconst (v := (-1)) dX11_sheet_20 (by decide) ?_
  refine zi_icmp_ne (tgt := 28) dX11_sheet_21 (by decide) (fun c21 => ?_) (fun c21 => False.elim (by exact nI_ne_neg (by omega) c21))
  refine zi_iload_n dX11_sheet_28 (i := 3) rfl 3 rfl ?_
  refine zi_istore (L' := [(4, .int r), (0, .ref 0), (1, .int (nI 1)), (2, .int (nI b)), (3, .int r)]) dX11_sheet_29 (by decide) rfl ?_
  refine zi_iload dX11_sheet_31 0 rfl ?_
  refine zi_bipush (v := nI 40) dX11_sheet_33 (by decide) ?_
  refine zi_icmp_le (tgt := 40) dX11_sheet_35 (by decide) (fun c35 => ?_) (fun c35 => False.elim (by exact absurd hr (Int32.not_lt.mpr (Int32.le_of_lt (Int32.lt_trans (by decide : (0 : Int32) < nI 40) (Int32.not_le.mp c35))))))
  refine zi_iload dX11_sheet_40 0 rfl ?_
  refine zi_if_ge (tgt := 48) dX11_sheet_42 (by decide) (fun c42 => False.elim (by exact absurd hr (Int32.not_lt.mpr c42))) (fun c42 => ?_)
  refine zi_bipush (v := (-14)) dX11_sheet_45 (by decide) ?_
  refine zi_retI rfl rfl dX11_sheet_47 ?_
  rfl
set_option maxRecDepth 100000 in
set_option maxHeartbeats 4000000 in
theorem ok_X11_sheet2 {M : zMem}  {b z : Nat} (hb4 : b ≤ 4) (hz : z ≤ 40) : zOkJ zw0 2 mX11_sheet [.ref 0, .int (nI 2), .int (nI b), .int (nI z)] M (fun r M' => r = nI 1 ∧ M' = zup (zup (zsetF M 102 (fun j => if j < 40 then nI 0 else M 102 j)) 104 2 (nI b)) 105 2 (nI z)) := by
  refine zOk_of (by decide +kernel) (fun _ => Nat.le_of_ble_eq_true rfl) (L := [(0, .ref 0), (1, .int (nI 2)), (2, .int (nI b)), (3, .int (nI z))]) rfl ?_
  refine zi_iload_n dX11_sheet_0 (i := 1) rfl 1 rfl ?_
  refine zcI (zc_S (as := [.int (nI 2)]) lk_X11_296 ce_X11_isSheet dX11_sheet_1 (by decide) rfl rfl (Nat.le_of_ble_eq_true rfl)) (zOkI_eq ok_X11_isSheet (by decide : zb (zin (nI 2) (nI 0) (nI 3)) = nI 1)) ?_
  refine zi_ifN_eq (by decide) (tgt := 17) dX11_sheet_4 (by decide) (fun c => absurd c (by decide)) (fun _ => ?_)
  refine zi_iload_n dX11_sheet_7 (i := 2) rfl 2 rfl ?_
  refine zi_iconst (v := (-1)) dX11_sheet_8 (by decide) ?_
  refine zi_icmp_lt (tgt := 17) dX11_sheet_9 (by decide) (fun c9 => False.elim (by exact absurd (Int32.lt_of_lt_of_le c9 (by decide)) (Int32.not_lt.mpr (nI_pos' (by omega))))) (fun c9 => ?_)
  refine zi_iload_n dX11_sheet_12 (i := 2) rfl 2 rfl ?_
  refine zi_iconst (v := nI 5) dX11_sheet_13 (by decide) ?_
  refine zi_icmpN_lt (by  omega) (by decide) (tgt := 19) dX11_sheet_14 (by decide) (fun c14 => ?_) (fun c14 => False.elim (by omega))
  refine zi_iload_n dX11_sheet_19 (i := 2) rfl 2 rfl ?_
  refine zi_iconst (v := (-1)) dX11_sheet_20 (by decide) ?_
  refine zi_icmp_ne (tgt := 28) dX11_sheet_21 (by decide) (fun c21 => ?_) (fun c21 => False.elim (by exact nI_ne_neg (by omega) c21))
  refine zi_iload_n dX11_sheet_28 (i := 3) rfl 3 rfl ?_
  refine zi_istore (L' := [(4, .int (nI z)), (0, .ref 0), (1, .int (nI 2)), (2, .int (nI b)), (3, .int (nI z))]) dX11_sheet_29 (by decide) rfl ?_
  refine zi_iload dX11_sheet_31 0 rfl ?_
  refine zi_bipush (v := nI 40) dX11_sheet_33 (by decide) ?_
  refine zi_icmpN_le (by  omega) (by decide) (tgt := 40) dX11_sheet_35 (by decide) (fun c35 => ?_) (fun c35 => False.elim (by omega))
  refine zi_iload dX11_sheet_40 0 rfl ?_
  refine zi_ifN_ge (by  omega) (tgt := 48) dX11_sheet_42 (by decide) (fun c42 => ?_) (fun c42 => False.elim (by omega))
  refine zi_aload_n dX11_sheet_48 (i := 0) rfl 1 rfl ?_
  refine zi_getR fd_X11_64_X11 rfl cw0_0 rfl dX11_sheet_49 ?_
  refine zi_iload_n dX11_sheet_52 (i := 1) rfl 2 rfl ?_
  refine zi_aaldN cw0_99 (by decide) (t := 102) rfl (by decide) dX11_sheet_53 ?_
  refine zi_lconst (v := 0) dX11_sheet_54 rfl ?_
  refine zcV (zc_S (as := [.ref 102, .long 0]) lk_X11_299 ce_J7_fill_d0a16 dX11_sheet_55 (by decide) rfl rfl (Nat.le_of_ble_eq_true rfl)) (show zOkV zw0 0 mJ7_fill_d0a16 [.ref 102, .long 0] M (fun M' => M' = (zsetF M 102 (fun j => if j < 40 then nI 0 else M 102 j))) from ok_fill_102 (x := nI 0)) (fun M55 h55 => ?_)
  refine zi_aload_n dX11_sheet_58 (i := 0) rfl 1 rfl ?_
  refine zi_getR fd_X11_67_X11 rfl cw0_0 rfl dX11_sheet_59 ?_
  refine zi_iload_n dX11_sheet_62 (i := 1) rfl 2 rfl ?_
  refine zi_iload_n dX11_sheet_63 (i := 2) rfl 3 rfl ?_
  refine zi_iastN cw0_104 (by decide) (by decide) dX11_sheet_64 ?_
  refine zi_aload_n dX11_sheet_65 (i := 0) rfl 1 rfl ?_
  refine zi_getR fd_X11_70_X11 rfl cw0_0 rfl dX11_sheet_66 ?_
  refine zi_iload_n dX11_sheet_69 (i := 1) rfl 2 rfl ?_
  refine zi_iload dX11_sheet_70 0 rfl ?_
  refine zi_iastN cw0_105 (by decide) (by decide) dX11_sheet_72 ?_
  refine zi_iconst (v := nI 1) dX11_sheet_73 (by decide) ?_
  refine zi_retJ rfl rfl dX11_sheet_74 ?_
  refine ⟨rfl, ?_⟩
  rw [h55]
set_option maxRecDepth 100000 in
set_option maxHeartbeats 4000000 in
theorem ok_X11_sheetN2 {M : zMem}  {x : Int32}  : zOkJ zw0 2 mX11_sheet [.ref 0, .int (nI 2), .int (-1), .int x] M (fun r M' => r = nI 1 ∧ M' = zup (zup (zsetF M 102 (fun j => if j < 40 then nI 0 else M 102 j)) 104 2 (-1)) 105 2 (nI 0)) := by
  refine zOk_of (by decide +kernel) (fun _ => Nat.le_of_ble_eq_true rfl) (L := [(0, .ref 0), (1, .int (nI 2)), (2, .int (-1)), (3, .int x)]) rfl ?_
  refine zi_iload_n dX11_sheet_0 (i := 1) rfl 1 rfl ?_
  refine zcI (zc_S (as := [.int (nI 2)]) lk_X11_296 ce_X11_isSheet dX11_sheet_1 (by decide) rfl rfl (Nat.le_of_ble_eq_true rfl)) (zOkI_eq ok_X11_isSheet (by decide : zb (zin (nI 2) (nI 0) (nI 3)) = nI 1)) ?_
  refine zi_ifN_eq (by decide) (tgt := 17) dX11_sheet_4 (by decide) (fun c => absurd c (by decide)) (fun _ => ?_)
  refine zi_iload_n dX11_sheet_7 (i := 2) rfl 2 rfl ?_
  refine zi_iconst (v := (-1)) dX11_sheet_8 (by decide) ?_
  refine zi_icmp_lt (tgt := 17) dX11_sheet_9 (by decide) (fun c9 => False.elim (by exact absurd c9 (by decide))) (fun c9 => ?_)
  refine zi_iload_n dX11_sheet_12 (i := 2) rfl 2 rfl ?_
  refine zi_iconst (v := nI 5) dX11_sheet_13 (by decide) ?_
  refine zi_icmp_lt (tgt := 19) dX11_sheet_14 (by decide) (fun c14 => ?_) (fun c14 => False.elim (by exact absurd c14 (by decide)))
  refine zi_iload_n dX11_sheet_19 (i := 2) rfl 2 rfl ?_
  refine zi_iconst (v := (-1)) dX11_sheet_20 (by decide) ?_
  refine zi_icmp_ne (tgt := 28) dX11_sheet_21 (by decide) (fun c21 => False.elim (by exact c21 rfl)) (fun c21 => ?_)
  refine zi_iconst (v := nI 0) dX11_sheet_24 (by decide) ?_
  refine zi_goto (tgt := 29) dX11_sheet_25 (by decide) ?_
  refine zi_istore (L' := [(4, .int (nI 0)), (0, .ref 0), (1, .int (nI 2)), (2, .int (-1)), (3, .int x)]) dX11_sheet_29 (by decide) rfl ?_
  refine zi_iload dX11_sheet_31 0 rfl ?_
  refine zi_bipush (v := nI 40) dX11_sheet_33 (by decide) ?_
  refine zi_icmpN_le (by decide) (by decide) (tgt := 40) dX11_sheet_35 (by decide) (fun _ => ?_) (fun c => absurd c (by decide))
  refine zi_iload dX11_sheet_40 0 rfl ?_
  refine zi_ifN_ge (by decide) (tgt := 48) dX11_sheet_42 (by decide) (fun _ => ?_) (fun c => absurd c (by decide))
  refine zi_aload_n dX11_sheet_48 (i := 0) rfl 1 rfl ?_
  refine zi_getR fd_X11_64_X11 rfl cw0_0 rfl dX11_sheet_49 ?_
  refine zi_iload_n dX11_sheet_52 (i := 1) rfl 2 rfl ?_
  refine zi_aaldN cw0_99 (by decide) (t := 102) rfl (by decide) dX11_sheet_53 ?_
  refine zi_lconst (v := 0) dX11_sheet_54 rfl ?_
  refine zcV (zc_S (as := [.ref 102, .long 0]) lk_X11_299 ce_J7_fill_d0a16 dX11_sheet_55 (by decide) rfl rfl (Nat.le_of_ble_eq_true rfl)) (show zOkV zw0 0 mJ7_fill_d0a16 [.ref 102, .long 0] M (fun M' => M' = (zsetF M 102 (fun j => if j < 40 then nI 0 else M 102 j))) from ok_fill_102 (x := nI 0)) (fun M55 h55 => ?_)
  refine zi_aload_n dX11_sheet_58 (i := 0) rfl 1 rfl ?_
  refine zi_getR fd_X11_67_X11 rfl cw0_0 rfl dX11_sheet_59 ?_
  refine zi_iload_n dX11_sheet_62 (i := 1) rfl 2 rfl ?_
  refine zi_iload_n dX11_sheet_63 (i := 2) rfl 3 rfl ?_
  refine zi_iastN cw0_104 (by decide) (by decide) dX11_sheet_64 ?_
  refine zi_aload_n dX11_sheet_65 (i := 0) rfl 1 rfl ?_
  refine zi_getR fd_X11_70_X11 rfl cw0_0 rfl dX11_sheet_66 ?_
  refine zi_iload_n dX11_sheet_69 (i := 1) rfl 2 rfl ?_
  refine zi_iload dX11_sheet_70 0 rfl ?_
  refine zi_iastN cw0_105 (by decide) (by decide) dX11_sheet_72 ?_
  refine zi_iconst (v := nI 1) dX11_sheet_73 (by decide) ?_
  refine zi_retJ rfl rfl dX11_sheet_74 ?_
  refine ⟨rfl, ?_⟩
  rw [h55]
set_option maxRecDepth 100000 in
set_option maxHeartbeats 4000000 in
theorem ok_X11_write2 {M : zMem} {i : Nat} {x : Int32} {so sz : Nat → Nat} (hsh : zSc so sz M) (hso0 : 1 ≤ so 2) (hi : i < sz 2) : zOkJ zw0 2 mX11_write [.ref 0, .int (nI 2), .int (nI i), .int x] M (fun r M' => r = nI 1 ∧ M' = zup M 102 i (qNar x (so 2 - 1))) := by
  obtain ⟨-, -, hso, hsz⟩ := hsh 2 (by decide)
  refine zOk_of (by decide +kernel) (fun _ => Nat.le_of_ble_eq_true rfl) (L := [(0, .ref 0), (1, .int (nI 2)), (2, .int (nI i)), (3, .int x)]) rfl ?_
  refine zi_iload_n dX11_write_0 (i := 1) rfl 1 rfl ?_
  refine zcI (zc_S (as := [.int (nI 2)]) lk_X11_296 ce_X11_isSheet dX11_write_1 (by decide) rfl rfl (Nat.le_of_ble_eq_true rfl)) (zOkI_eq ok_X11_isSheet (by decide : zb (zin (nI 2) (nI 0) (nI 3)) = nI 1)) ?_
  refine zi_ifN_ne (by decide) (tgt := 9) dX11_write_4 (by decide) (fun _ => ?_) (fun c => absurd c (by decide))
  refine zi_aload_n dX11_write_9 (i := 0) rfl 0 rfl ?_
  refine zi_getR fd_X11_67_X11 rfl cw0_0 rfl dX11_write_10 ?_
  refine zi_iload_n dX11_write_13 (i := 1) rfl 1 rfl ?_
  refine zi_ialdN cw0_104 (by decide) (by decide) dX11_write_14 ?_
  refine zi_top (y := (nI (so 2) - nI 1)) (((hsh _ (by omega)).1)) ?_
  refine zi_iconst (v := (-1)) dX11_write_15 (by decide) ?_
  refine zi_icmp_ne (tgt := 22) dX11_write_16 (by decide) (fun c16 => ?_) (fun c16 => False.elim (by exact absurd ((qI_pred (by omega)).symm.trans c16) (nI_ne_neg (by omega))))
  refine zi_aload_n dX11_write_22 (i := 0) rfl 0 rfl ?_
  refine zi_iload_n dX11_write_23 (i := 1) rfl 1 rfl ?_
  refine zi_iload_n dX11_write_24 (i := 2) rfl 2 rfl ?_
  refine zcI (zc_V (as := [.int (nI 2), .int (nI i)]) lk_X11_305 ce_X11_hasItem cw0_0 rfl rfl dX11_write_25 (by decide) rfl rfl (Nat.le_of_ble_eq_true rfl)) (zOkI_eq (ok_X11_hasItem hsh (by decide)) (congrArg zb ((qIs_nat (by omega) (by omega)).trans (decide_eq_true hi)))) ?_
  refine zi_ifN_ne (by decide) (tgt := 34) dX11_write_28 (by decide) (fun _ => ?_) (fun c => absurd c (by decide))
  refine zi_aload_n dX11_write_34 (i := 0) rfl 0 rfl ?_
  refine zi_getR fd_X11_64_X11 rfl cw0_0 rfl dX11_write_35 ?_
  refine zi_iload_n dX11_write_38 (i := 1) rfl 1 rfl ?_
  refine zi_aaldN cw0_99 (by decide) (t := 102) rfl (by decide) dX11_write_39 ?_
  refine zi_iload_n dX11_write_40 (i := 2) rfl 2 rfl ?_
  refine zi_aload_n dX11_write_41 (i := 0) rfl 0 rfl ?_
  refine zi_getR fd_X11_67_X11 rfl cw0_0 rfl dX11_write_42 ?_
  refine zi_iload_n dX11_write_45 (i := 1) rfl 1 rfl ?_
  refine zi_ialdN cw0_104 (by decide) (by decide) dX11_write_46 ?_
  refine zi_top (y := (nI (so 2) - nI 1)) (((hsh _ (by omega)).1)) ?_
  refine zi_top (y := nI (so 2 - 1)) (qI_pred hso0) ?_
  refine zi_iload_n dX11_write_47 (i := 3) rfl 3 rfl ?_
  refine zcI (zc_S (as := [.int (nI (so 2 - 1)), .int x]) lk_X11_308 ce_X11_narrowed dX11_write_48 (by decide) rfl rfl (Nat.le_of_ble_eq_true rfl)) (ok_X11_narrowed (b := so 2 - 1) (by omega)) ?_
  refine zi_i2l dX11_write_51 ?_
  refine zi_lastN cw0_102 (by omega) (by decide) dX11_write_52 ?_
  refine zi_iconst (v := nI 1) dX11_write_53 (by decide) ?_
  refine zi_retJ rfl rfl dX11_write_54 ?_
  exact ⟨rfl, rfl⟩
set_option maxRecDepth 100000 in
set_option maxHeartbeats 4000000 in
theorem none_X11_write2 {M : zMem} {x y : Int32} {so sz : Nat → Nat} (hsh : zSc so sz M) (hso0 : so 2 = 0) : zOkI zw0 2 mX11_write [.ref 0, .int (nI 2), .int x, .int y] M (-11) := by
  obtain ⟨-, -, hso, hsz⟩ := hsh 2 (by decide)
  refine zOk_of (by decide +kernel) (fun _ => Nat.le_of_ble_eq_true rfl) (L := [(0, .ref 0), (1, .int (nI 2)), (2, .int x), (3, .int y)]) rfl ?_
  refine zi_iload_n dX11_write_0 (i := 1) rfl 1 rfl ?_
  refine zcI (zc_S (as := [.int (nI 2)]) lk_X11_296 ce_X11_isSheet dX11_write_1 (by decide) rfl rfl (Nat.le_of_ble_eq_true rfl)) (zOkI_eq ok_X11_isSheet (by decide : zb (zin (nI 2) (nI 0) (nI 3)) = nI 1)) ?_
  refine zi_ifN_ne (by decide) (tgt := 9) dX11_write_4 (by decide) (fun _ => ?_) (fun c => absurd c (by decide))
  refine zi_aload_n dX11_write_9 (i := 0) rfl 0 rfl ?_
  refine zi_getR fd_X11_67_X11 rfl cw0_0 rfl dX11_write_10 ?_
  refine zi_iload_n dX11_write_13 (i := 1) rfl 1 rfl ?_
  refine zi_ialdN cw0_104 (by decide) (by decide) dX11_write_14 ?_
  refine zi_top (y := (nI (so 2) - nI 1)) (((hsh _ (by omega)).1)) ?_
  refine zi_iconst (v := (-1)) dX11_write_15 (by decide) ?_
  refine zi_icmp_ne (tgt := 22) dX11_write_16 (by decide) (fun c16 => False.elim (by rw [hso0] at c16; exact c16 (by decide))) (fun c16 => ?_)
  refine zi_bipush (v := (-11)) dX11_write_19 (by decide) ?_
  refine zi_retI rfl rfl dX11_write_21 ?_
  rfl
set_option maxRecDepth 100000 in
set_option maxHeartbeats 4000000 in
theorem out_X11_write2 {M : zMem} {x y : Int32} {so sz : Nat → Nat} (hsh : zSc so sz M) (hso0 : 1 ≤ so 2) (hi : zin x (nI 0) (nI (sz 2) - nI 1) = false) : zOkI zw0 2 mX11_write [.ref 0, .int (nI 2), .int x, .int y] M (-12) := by
  obtain ⟨-, -, hso, hsz⟩ := hsh 2 (by decide)
  refine zOk_of (by decide +kernel) (fun _ => Nat.le_of_ble_eq_true rfl) (L := [(0, .ref 0), (1, .int (nI 2)), (2, .int x), (3, .int y)]) rfl ?_
  refine zi_iload_n dX11_write_0 (i := 1) rfl 1 rfl ?_
  refine zcI (zc_S (as := [.int (nI 2)]) lk_X11_296 ce_X11_isSheet dX11_write_1 (by decide) rfl rfl (Nat.le_of_ble_eq_true rfl)) (zOkI_eq ok_X11_isSheet (by decide : zb (zin (nI 2) (nI 0) (nI 3)) = nI 1)) ?_
  refine zi_ifN_ne (by decide) (tgt := 9) dX11_write_4 (by decide) (fun _ => ?_) (fun c => absurd c (by decide))
  refine zi_aload_n dX11_write_9 (i := 0) rfl 0 rfl ?_
  refine zi_getR fd_X11_67_X11 rfl cw0_0 rfl dX11_write_10 ?_
  refine zi_iload_n dX11_write_13 (i := 1) rfl 1 rfl ?_
  refine zi_ialdN cw0_104 (by decide) (by decide) dX11_write_14 ?_
  refine zi_top (y := (nI (so 2) - nI 1)) (((hsh _ (by omega)).1)) ?_
  refine zi_iconst (v := (-1)) dX11_write_15 (by decide) ?_
  refine zi_icmp_ne (tgt := 22) dX11_write_16 (by decide) (fun c16 => ?_) (fun c16 => False.elim (by exact absurd ((qI_pred (by omega)).symm.trans c16) (nI_ne_neg (by omega))))
  refine zi_aload_n dX11_write_22 (i := 0) rfl 0 rfl ?_
  refine zi_iload_n dX11_write_23 (i := 1) rfl 1 rfl ?_
  refine zi_iload_n dX11_write_24 (i := 2) rfl 2 rfl ?_
  refine zcI (zc_V (as := [.int (nI 2), .int x]) lk_X11_305 ce_X11_hasItem cw0_0 rfl rfl dX11_write_25 (by decide) rfl rfl (Nat.le_of_ble_eq_true rfl)) (zOkI_eq (ok_X11_hasItem hsh (by decide)) (congrArg zb hi)) ?_
  refine zi_ifN_ne (by decide) (tgt := 34) dX11_write_28 (by decide) (fun c => absurd c (by decide)) (fun _ => ?_)
  refine zi_bipush (v := (-12)) dX11_write_31 (by decide) ?_
  refine zi_retI rfl rfl dX11_write_33 ?_
  rfl
set_option maxRecDepth 100000 in
set_option maxHeartbeats 4000000 in
theorem ok_X11_item2 {M : zMem} {b i : Nat} {so sz : Nat → Nat} (hsh : zSc so sz M) (hb4 : b ≤ 4) (hsb : so 2 = b + 1) (hi : i < sz 2) : zOkI zw0 2 mX11_item [.ref 0, .int (nI 2), .int (nI b), .int (nI i)] M (M 102 i) := by
  obtain ⟨-, -, hso, hsz⟩ := hsh 2 (by decide)
  refine zOk_of (by decide +kernel) (fun _ => Nat.le_of_ble_eq_true rfl) (L := [(0, .ref 0), (1, .int (nI 2)), (2, .int (nI b)), (3, .int (nI i))]) rfl ?_
  refine zi_iload_n dX11_item_0 (i := 1) rfl 1 rfl ?_
  refine zcI (zc_S (as := [.int (nI 2)]) lk_X11_296 ce_X11_isSheet dX11_item_1 (by decide) rfl rfl (Nat.le_of_ble_eq_true rfl)) (zOkI_eq ok_X11_isSheet (by decide : zb (zin (nI 2) (nI 0) (nI 3)) = nI 1)) ?_
  refine zi_ifN_eq (by decide) (tgt := 15) dX11_item_4 (by decide) (fun c => absurd c (by decide)) (fun _ => ?_)
  refine zi_iload_n dX11_item_7 (i := 2) rfl 2 rfl ?_
  refine zi_iconst (v := nI 4) dX11_item_8 (by decide) ?_
  refine zcI (zc_S (as := [.int (nI b), .int (nI 4)]) lk_X11_86 ce_X11_isFrom0To dX11_item_9 (by decide) rfl rfl (Nat.le_of_ble_eq_true rfl)) (zOkI_eq ok_X11_isFrom0To (zinT (by omega) (by omega) (by omega))) ?_
  refine zi_ifN_ne (by decide) (tgt := 17) dX11_item_12 (by decide) (fun _ => ?_) (fun c => absurd c (by decide))
  refine zi_aload_n dX11_item_17 (i := 0) rfl 0 rfl ?_
  refine zi_iload_n dX11_item_18 (i := 1) rfl 1 rfl ?_
  refine zi_iload_n dX11_item_19 (i := 2) rfl 2 rfl ?_
  refine zcI (zc_V (as := [.int (nI 2), .int (nI b)]) lk_X11_311 ce_X11_takenFor cw0_0 rfl rfl dX11_item_20 (by decide) rfl rfl (Nat.le_of_ble_eq_true rfl)) (zOkI_eq (ok_X11_takenFor hsh (by decide) (by omega)) (by rw [if_neg (by omega), if_pos hsb])) ?_
  refine zi_istore (L' := [(4, .int (nI 0)), (0, .ref 0), (1, .int (nI 2)), (2, .int (nI b)), (3, .int (nI i))]) dX11_item_23 (by decide) rfl ?_
  refine zi_iload dX11_item_25 0 rfl ?_
  refine zi_ifN_eq (by decide) (tgt := 33) dX11_item_27 (by decide) (fun _ => ?_) (fun c => absurd c (by decide))
  refine zi_aload_n dX11_item_33 (i := 0) rfl 1 rfl ?_
  refine zi_iload_n dX11_item_34 (i := 1) rfl 2 rfl ?_
  refine zi_iload_n dX11_item_35 (i := 3) rfl 4 rfl ?_
  refine zcI (zc_V (as := [.int (nI 2), .int (nI i)]) lk_X11_305 ce_X11_hasItem cw0_0 rfl rfl dX11_item_36 (by decide) rfl rfl (Nat.le_of_ble_eq_true rfl)) (zOkI_eq (ok_X11_hasItem hsh (by decide)) (congrArg zb ((qIs_nat (by omega) (by omega)).trans (decide_eq_true hi)))) ?_
  refine zi_ifN_eq (by decide) (tgt := 54) dX11_item_39 (by decide) (fun c => absurd c (by decide)) (fun _ => ?_)
  refine zi_aload_n dX11_item_42 (i := 0) rfl 1 rfl ?_
  refine zi_getR fd_X11_64_X11 rfl cw0_0 rfl dX11_item_43 ?_
  refine zi_iload_n dX11_item_46 (i := 1) rfl 2 rfl ?_
  refine zi_aaldN cw0_99 (by decide) (t := 102) rfl (by decide) dX11_item_47 ?_
  refine zi_iload_n dX11_item_48 (i := 3) rfl 4 rfl ?_
  refine zi_laldN cw0_102 (by omega) (by decide) dX11_item_49 ?_
  refine zi_l2i dX11_item_50 ?_
  refine zi_goto (tgt := 56) dX11_item_51 (by decide) ?_
  refine zi_retI rfl rfl dX11_item_56 ?_
  exact Int32.toInt32_toInt64 _
set_option maxRecDepth 100000 in
set_option maxHeartbeats 4000000 in
theorem out_X11_item2 {M : zMem} {b : Nat} {x : Int32} {so sz : Nat → Nat} (hsh : zSc so sz M) (hb4 : b ≤ 4) (hsb : so 2 = b + 1) (hi : zin x (nI 0) (nI (sz 2) - nI 1) = false) : zOkI zw0 2 mX11_item [.ref 0, .int (nI 2), .int (nI b), .int x] M (-12) := by
  obtain ⟨-, -, hso, hsz⟩ := hsh 2 (by decide)
  refine zOk_of (by decide +kernel) (fun _ => Nat.le_of_ble_eq_true rfl) (L := [(0, .ref 0), (1, .int (nI 2)), (2, .int (nI b)), (3, .int x)]) rfl ?_
  refine zi_iload_n dX11_item_0 (i := 1) rfl 1 rfl ?_
  refine zcI (zc_S (as := [.int (nI 2)]) lk_X11_296 ce_X11_isSheet dX11_item_1 (by decide) rfl rfl (Nat.le_of_ble_eq_true rfl)) (zOkI_eq ok_X11_isSheet (by decide : zb (zin (nI 2) (nI 0) (nI 3)) = nI 1)) ?_
  refine zi_ifN_eq (by decide) (tgt := 15) dX11_item_4 (by decide) (fun c => absurd c (by decide)) (fun _ => ?_)
  refine zi_iload_n dX11_item_7 (i := 2) rfl 2 rfl ?_
  refine zi_iconst (v := nI 4) dX11_item_8 (by decide) ?_
  refine zcI (zc_S (as := [.int (nI b), .int (nI 4)]) lk_X11_86 ce_X11_isFrom0To dX11_item_9 (by decide) rfl rfl (Nat.le_of_ble_eq_true rfl)) (zOkI_eq ok_X11_isFrom0To (zinT (by omega) (by omega) (by omega))) ?_
  refine zi_ifN_ne (by decide) (tgt := 17) dX11_item_12 (by decide) (fun _ => ?_) (fun c => absurd c (by decide))
  refine zi_aload_n dX11_item_17 (i := 0) rfl 0 rfl ?_
  refine zi_iload_n dX11_item_18 (i := 1) rfl 1 rfl ?_
  refine zi_iload_n dX11_item_19 (i := 2) rfl 2 rfl ?_
  refine zcI (zc_V (as := [.int (nI 2), .int (nI b)]) lk_X11_311 ce_X11_takenFor cw0_0 rfl rfl dX11_item_20 (by decide) rfl rfl (Nat.le_of_ble_eq_true rfl)) (zOkI_eq (ok_X11_takenFor hsh (by decide) (by omega)) (by rw [if_neg (by omega), if_pos hsb])) ?_
  refine zi_istore (L' := [(4, .int (nI 0)), (0, .ref 0), (1, .int (nI 2)), (2, .int (nI b)), (3, .int x)]) dX11_item_23 (by decide) rfl ?_
  refine zi_iload dX11_item_25 0 rfl ?_
  refine zi_ifN_eq (by decide) (tgt := 33) dX11_item_27 (by decide) (fun _ => ?_) (fun c => absurd c (by decide))
  refine zi_aload_n dX11_item_33 (i := 0) rfl 1 rfl ?_
  refine zi_iload_n dX11_item_34 (i := 1) rfl 2 rfl ?_
  refine zi_iload_n dX11_item_35 (i := 3) rfl 4 rfl ?_
  refine zcI (zc_V (as := [.int (nI 2), .int x]) lk_X11_305 ce_X11_hasItem cw0_0 rfl rfl dX11_item_36 (by decide) rfl rfl (Nat.le_of_ble_eq_true rfl)) (zOkI_eq (ok_X11_hasItem hsh (by decide)) (congrArg zb hi)) ?_
  refine zi_ifN_eq (by decide) (tgt := 54) dX11_item_39 (by decide) (fun _ => ?_) (fun c => absurd c (by decide))
  refine zi_bipush (v := (-12)) dX11_item_54 (by decide) ?_
  refine zi_retI rfl rfl dX11_item_56 ?_
  rfl
set_option maxRecDepth 100000 in
set_option maxHeartbeats 4000000 in
theorem none_X11_item2 {M : zMem} {b : Nat} {x : Int32} {so sz : Nat → Nat} (hsh : zSc so sz M) (hb4 : b ≤ 4) (hsb : so 2 = 0) : zOkI zw0 2 mX11_item [.ref 0, .int (nI 2), .int (nI b), .int x] M (-11) := by
  obtain ⟨-, -, hso, hsz⟩ := hsh 2 (by decide)
  refine zOk_of (by decide +kernel) (fun _ => Nat.le_of_ble_eq_true rfl) (L := [(0, .ref 0), (1, .int (nI 2)), (2, .int (nI b)), (3, .int x)]) rfl ?_
  refine zi_iload_n dX11_item_0 (i := 1) rfl 1 rfl ?_
  refine zcI (zc_S (as := [.int (nI 2)]) lk_X11_296 ce_X11_isSheet dX11_item_1 (by decide) rfl rfl (Nat.le_of_ble_eq_true rfl)) (zOkI_eq ok_X11_isSheet (by decide : zb (zin (nI 2) (nI 0) (nI 3)) = nI 1)) ?_
  refine zi_ifN_eq (by decide) (tgt := 15) dX11_item_4 (by decide) (fun c => absurd c (by decide)) (fun _ => ?_)
  refine zi_iload_n dX11_item_7 (i := 2) rfl 2 rfl ?_
  refine zi_iconst (v := nI 4) dX11_item_8 (by decide) ?_
  refine zcI (zc_S (as := [.int (nI b), .int (nI 4)]) lk_X11_86 ce_X11_isFrom0To dX11_item_9 (by decide) rfl rfl (Nat.le_of_ble_eq_true rfl)) (zOkI_eq ok_X11_isFrom0To (zinT (by omega) (by omega) (by omega))) ?_
  refine zi_ifN_ne (by decide) (tgt := 17) dX11_item_12 (by decide) (fun _ => ?_) (fun c => absurd c (by decide))
  refine zi_aload_n dX11_item_17 (i := 0) rfl 0 rfl ?_
  refine zi_iload_n dX11_item_18 (i := 1) rfl 1 rfl ?_
  refine zi_iload_n dX11_item_19 (i := 2) rfl 2 rfl ?_
  refine zcI (zc_V (as := [.int (nI 2), .int (nI b)]) lk_X11_311 ce_X11_takenFor cw0_0 rfl rfl dX11_item_20 (by decide) rfl rfl (Nat.le_of_ble_eq_true rfl)) (zOkI_eq (ok_X11_takenFor hsh (by decide) (by omega)) (by rw [if_pos hsb])) ?_
  refine zi_istore (L' := [(4, .int (-11)), (0, .ref 0), (1, .int (nI 2)), (2, .int (nI b)), (3, .int x)]) dX11_item_23 (by decide) rfl ?_
  refine zi_iload dX11_item_25 0 rfl ?_
  refine zi_if_eq (tgt := 33) dX11_item_27 (by decide) (fun c27 => False.elim (by exact absurd c27 (by decide))) (fun c27 => ?_)
  refine zi_iload dX11_item_30 0 rfl ?_
  refine zi_retI rfl rfl dX11_item_32 ?_
  rfl
set_option maxRecDepth 100000 in
set_option maxHeartbeats 4000000 in
theorem other_X11_item2 {M : zMem} {b : Nat} {x : Int32} {so sz : Nat → Nat} (hsh : zSc so sz M) (hb4 : b ≤ 4) (hsb : so 2 ≠ 0) (hsc : so 2 ≠ b + 1) : zOkI zw0 2 mX11_item [.ref 0, .int (nI 2), .int (nI b), .int x] M (-13) := by
  obtain ⟨-, -, hso, hsz⟩ := hsh 2 (by decide)
  refine zOk_of (by decide +kernel) (fun _ => Nat.le_of_ble_eq_true rfl) (L := [(0, .ref 0), (1, .int (nI 2)), (2, .int (nI b)), (3, .int x)]) rfl ?_
  refine zi_iload_n dX11_item_0 (i := 1) rfl 1 rfl ?_
  refine zcI (zc_S (as := [.int (nI 2)]) lk_X11_296 ce_X11_isSheet dX11_item_1 (by decide) rfl rfl (Nat.le_of_ble_eq_true rfl)) (zOkI_eq ok_X11_isSheet (by decide : zb (zin (nI 2) (nI 0) (nI 3)) = nI 1)) ?_
  refine zi_ifN_eq (by decide) (tgt := 15) dX11_item_4 (by decide) (fun c => absurd c (by decide)) (fun _ => ?_)
  refine zi_iload_n dX11_item_7 (i := 2) rfl 2 rfl ?_
  refine zi_iconst (v := nI 4) dX11_item_8 (by decide) ?_
  refine zcI (zc_S (as := [.int (nI b), .int (nI 4)]) lk_X11_86 ce_X11_isFrom0To dX11_item_9 (by decide) rfl rfl (Nat.le_of_ble_eq_true rfl)) (zOkI_eq ok_X11_isFrom0To (zinT (by omega) (by omega) (by omega))) ?_
  refine zi_ifN_ne (by decide) (tgt := 17) dX11_item_12 (by decide) (fun _ => ?_) (fun c => absurd c (by decide))
  refine zi_aload_n dX11_item_17 (i := 0) rfl 0 rfl ?_
  refine zi_iload_n dX11_item_18 (i := 1) rfl 1 rfl ?_
  refine zi_iload_n dX11_item_19 (i := 2) rfl 2 rfl ?_
  refine zcI (zc_V (as := [.int (nI 2), .int (nI b)]) lk_X11_311 ce_X11_takenFor cw0_0 rfl rfl dX11_item_20 (by decide) rfl rfl (Nat.le_of_ble_eq_true rfl)) (zOkI_eq (ok_X11_takenFor hsh (by decide) (by omega)) (by rw [if_neg hsb, if_neg hsc])) ?_
  refine zi_istore (L' := [(4, .int (-13)), (0, .ref 0), (1, .int (nI 2)), (2, .int (nI b)), (3, .int x)]) dX11_item_23 (by decide) rfl ?_
  refine zi_iload dX11_item_25 0 rfl ?_
  refine zi_if_eq (tgt := 33) dX11_item_27 (by decide) (fun c27 => False.elim (by exact absurd c27 (by decide))) (fun c27 => ?_)
  refine zi_iload dX11_item_30 0 rfl ?_
  refine zi_retI rfl rfl dX11_item_32 ?_
  rfl
set_option maxRecDepth 100000 in
set_option maxHeartbeats 4000000 in
theorem low_X11_sheet2 {M : zMem} {b : Nat} {r : Int32} (hb4 : b ≤ 4) (hr : r < 0) : zOkI zw0 2 mX11_sheet [.ref 0, .int (nI 2), .int (nI b), .int r] M (-14) := by
  refine zOk_of (by decide +kernel) (fun _ => Nat.le_of_ble_eq_true rfl) (L := [(0, .ref 0), (1, .int (nI 2)), (2, .int (nI b)), (3, .int r)]) rfl ?_
  refine zi_iload_n dX11_sheet_0 (i := 1) rfl 1 rfl ?_
  refine zcI (zc_S (as := [.int (nI 2)]) lk_X11_296 ce_X11_isSheet dX11_sheet_1 (by decide) rfl rfl (Nat.le_of_ble_eq_true rfl)) (zOkI_eq ok_X11_isSheet (by decide : zb (zin (nI 2) (nI 0) (nI 3)) = nI 1)) ?_
  refine zi_ifN_eq (by decide) (tgt := 17) dX11_sheet_4 (by decide) (fun c => absurd c (by decide)) (fun _ => ?_)
  refine zi_iload_n dX11_sheet_7 (i := 2) rfl 2 rfl ?_
  refine zi_iconst (v := (-1)) dX11_sheet_8 (by decide) ?_
  refine zi_icmp_lt (tgt := 17) dX11_sheet_9 (by decide) (fun c9 => False.elim (by exact absurd (Int32.lt_of_lt_of_le c9 (by decide)) (Int32.not_lt.mpr (nI_pos' (by omega))))) (fun c9 => ?_)
  refine zi_iload_n dX11_sheet_12 (i := 2) rfl 2 rfl ?_
  refine zi_iconst (v := nI 5) dX11_sheet_13 (by decide) ?_
  refine zi_icmpN_lt (by  omega) (by decide) (tgt := 19) dX11_sheet_14 (by decide) (fun c14 => ?_) (fun c14 => False.elim (by omega))
  refine zi_iload_n dX11_sheet_19 (i := 2) rfl 2 rfl ?_
  refine zi_iconst (v := (-1)) dX11_sheet_20 (by decide) ?_
  refine zi_icmp_ne (tgt := 28) dX11_sheet_21 (by decide) (fun c21 => ?_) (fun c21 => False.elim (by exact nI_ne_neg (by omega) c21))
  refine zi_iload_n dX11_sheet_28 (i := 3) rfl 3 rfl ?_
  refine zi_istore (L' := [(4, .int r), (0, .ref 0), (1, .int (nI 2)), (2, .int (nI b)), (3, .int r)]) dX11_sheet_29 (by decide) rfl ?_
  refine zi_iload dX11_sheet_31 0 rfl ?_
  refine zi_bipush (v := nI 40) dX11_sheet_33 (by decide) ?_
  refine zi_icmp_le (tgt := 40) dX11_sheet_35 (by decide) (fun c35 => ?_) (fun c35 => False.elim (by exact absurd hr (Int32.not_lt.mpr (Int32.le_of_lt (Int32.lt_trans (by decide : (0 : Int32) < nI 40) (Int32.not_le.mp c35))))))
  refine zi_iload dX11_sheet_40 0 rfl ?_
  refine zi_if_ge (tgt := 48) dX11_sheet_42 (by decide) (fun c42 => False.elim (by exact absurd hr (Int32.not_lt.mpr c42))) (fun c42 => ?_)
  refine zi_bipush (v := (-14)) dX11_sheet_45 (by decide) ?_
  refine zi_retI rfl rfl dX11_sheet_47 ?_
  rfl
set_option maxRecDepth 100000 in
set_option maxHeartbeats 4000000 in
theorem ok_X11_sheet3 {M : zMem}  {b z : Nat} (hb4 : b ≤ 4) (hz : z ≤ 40) : zOkJ zw0 2 mX11_sheet [.ref 0, .int (nI 3), .int (nI b), .int (nI z)] M (fun r M' => r = nI 1 ∧ M' = zup (zup (zsetF M 103 (fun j => if j < 40 then nI 0 else M 103 j)) 104 3 (nI b)) 105 3 (nI z)) := by
  refine zOk_of (by decide +kernel) (fun _ => Nat.le_of_ble_eq_true rfl) (L := [(0, .ref 0), (1, .int (nI 3)), (2, .int (nI b)), (3, .int (nI z))]) rfl ?_
  refine zi_iload_n dX11_sheet_0 (i := 1) rfl 1 rfl ?_
  refine zcI (zc_S (as := [.int (nI 3)]) lk_X11_296 ce_X11_isSheet dX11_sheet_1 (by decide) rfl rfl (Nat.le_of_ble_eq_true rfl)) (zOkI_eq ok_X11_isSheet (by decide : zb (zin (nI 3) (nI 0) (nI 3)) = nI 1)) ?_
  refine zi_ifN_eq (by decide) (tgt := 17) dX11_sheet_4 (by decide) (fun c => absurd c (by decide)) (fun _ => ?_)
  refine zi_iload_n dX11_sheet_7 (i := 2) rfl 2 rfl ?_
  refine zi_iconst (v := (-1)) dX11_sheet_8 (by decide) ?_
  refine zi_icmp_lt (tgt := 17) dX11_sheet_9 (by decide) (fun c9 => False.elim (by exact absurd (Int32.lt_of_lt_of_le c9 (by decide)) (Int32.not_lt.mpr (nI_pos' (by omega))))) (fun c9 => ?_)
  refine zi_iload_n dX11_sheet_12 (i := 2) rfl 2 rfl ?_
  refine zi_iconst (v := nI 5) dX11_sheet_13 (by decide) ?_
  refine zi_icmpN_lt (by  omega) (by decide) (tgt := 19) dX11_sheet_14 (by decide) (fun c14 => ?_) (fun c14 => False.elim (by omega))
  refine zi_iload_n dX11_sheet_19 (i := 2) rfl 2 rfl ?_
  refine zi_iconst (v := (-1)) dX11_sheet_20 (by decide) ?_
  refine zi_icmp_ne (tgt := 28) dX11_sheet_21 (by decide) (fun c21 => ?_) (fun c21 => False.elim (by exact nI_ne_neg (by omega) c21))
  refine zi_iload_n dX11_sheet_28 (i := 3) rfl 3 rfl ?_
  refine zi_istore (L' := [(4, .int (nI z)), (0, .ref 0), (1, .int (nI 3)), (2, .int (nI b)), (3, .int (nI z))]) dX11_sheet_29 (by decide) rfl ?_
  refine zi_iload dX11_sheet_31 0 rfl ?_
  refine zi_bipush (v := nI 40) dX11_sheet_33 (by decide) ?_
  refine zi_icmpN_le (by  omega) (by decide) (tgt := 40) dX11_sheet_35 (by decide) (fun c35 => ?_) (fun c35 => False.elim (by omega))
  refine zi_iload dX11_sheet_40 0 rfl ?_
  refine zi_ifN_ge (by  omega) (tgt := 48) dX11_sheet_42 (by decide) (fun c42 => ?_) (fun c42 => False.elim (by omega))
  refine zi_aload_n dX11_sheet_48 (i := 0) rfl 1 rfl ?_
  refine zi_getR fd_X11_64_X11 rfl cw0_0 rfl dX11_sheet_49 ?_
  refine zi_iload_n dX11_sheet_52 (i := 1) rfl 2 rfl ?_
  refine zi_aaldN cw0_99 (by decide) (t := 103) rfl (by decide) dX11_sheet_53 ?_
  refine zi_lconst (v := 0) dX11_sheet_54 rfl ?_
  refine zcV (zc_S (as := [.ref 103, .long 0]) lk_X11_299 ce_J7_fill_d0a16 dX11_sheet_55 (by decide) rfl rfl (Nat.le_of_ble_eq_true rfl)) (show zOkV zw0 0 mJ7_fill_d0a16 [.ref 103, .long 0] M (fun M' => M' = (zsetF M 103 (fun j => if j < 40 then nI 0 else M 103 j))) from ok_fill_103 (x := nI 0)) (fun M55 h55 => ?_)
  refine zi_aload_n dX11_sheet_58 (i := 0) rfl 1 rfl ?_
  refine zi_getR fd_X11_67_X11 rfl cw0_0 rfl dX11_sheet_59 ?_
  refine zi_iload_n dX11_sheet_62 (i := 1) rfl 2 rfl ?_
  refine zi_iload_n dX11_sheet_63 (i := 2) rfl 3 rfl ?_
  refine zi_iastN cw0_104 (by decide) (by decide) dX11_sheet_64 ?_
  refine zi_aload_n dX11_sheet_65 (i := 0) rfl 1 rfl ?_
  refine zi_getR fd_X11_70_X11 rfl cw0_0 rfl dX11_sheet_66 ?_
  refine zi_iload_n dX11_sheet_69 (i := 1) rfl 2 rfl ?_
  refine zi_iload dX11_sheet_70 0 rfl ?_
  refine zi_iastN cw0_105 (by decide) (by decide) dX11_sheet_72 ?_
  refine zi_iconst (v := nI 1) dX11_sheet_73 (by decide) ?_
  refine zi_retJ rfl rfl dX11_sheet_74 ?_
  refine ⟨rfl, ?_⟩
  rw [h55]
set_option maxRecDepth 100000 in
set_option maxHeartbeats 4000000 in
theorem ok_X11_sheetN3 {M : zMem}  {x : Int32}  : zOkJ zw0 2 mX11_sheet [.ref 0, .int (nI 3), .int (-1), .int x] M (fun r M' => r = nI 1 ∧ M' = zup (zup (zsetF M 103 (fun j => if j < 40 then nI 0 else M 103 j)) 104 3 (-1)) 105 3 (nI 0)) := by
  refine zOk_of (by decide +kernel) (fun _ => Nat.le_of_ble_eq_true rfl) (L := [(0, .ref 0), (1, .int (nI 3)), (2, .int (-1)), (3, .int x)]) rfl ?_
  refine zi_iload_n dX11_sheet_0 (i := 1) rfl 1 rfl ?_
  refine zcI (zc_S (as := [.int (nI 3)]) lk_X11_296 ce_X11_isSheet dX11_sheet_1 (by decide) rfl rfl (Nat.le_of_ble_eq_true rfl)) (zOkI_eq ok_X11_isSheet (by decide : zb (zin (nI 3) (nI 0) (nI 3)) = nI 1)) ?_
  refine zi_ifN_eq (by decide) (tgt := 17) dX11_sheet_4 (by decide) (fun c => absurd c (by decide)) (fun _ => ?_)
  refine zi_iload_n dX11_sheet_7 (i := 2) rfl 2 rfl ?_
  refine zi_iconst (v := (-1)) dX11_sheet_8 (by decide) ?_
  refine zi_icmp_lt (tgt := 17) dX11_sheet_9 (by decide) (fun c9 => False.elim (by exact absurd c9 (by decide))) (fun c9 => ?_)
  refine zi_iload_n dX11_sheet_12 (i := 2) rfl 2 rfl ?_
  refine zi_iconst (v := nI 5) dX11_sheet_13 (by decide) ?_
  refine zi_icmp_lt (tgt := 19) dX11_sheet_14 (by decide) (fun c14 => ?_) (fun c14 => False.elim (by exact absurd c14 (by decide)))
  refine zi_iload_n dX11_sheet_19 (i := 2) rfl 2 rfl ?_
  refine zi_iconst (v := (-1)) dX11_sheet_20 (by decide) ?_
  refine zi_icmp_ne (tgt := 28) dX11_sheet_21 (by decide) (fun c21 => False.elim (by exact c21 rfl)) (fun c21 => ?_)
  refine zi_iconst (v := nI 0) dX11_sheet_24 (by decide) ?_
  refine zi_goto (tgt := 29) dX11_sheet_25 (by decide) ?_
  refine zi_istore (L' := [(4, .int (nI 0)), (0, .ref 0), (1, .int (nI 3)), (2, .int (-1)), (3, .int x)]) dX11_sheet_29 (by decide) rfl ?_
  refine zi_iload dX11_sheet_31 0 rfl ?_
  refine zi_bipush (v := nI 40) dX11_sheet_33 (by decide) ?_
  refine zi_icmpN_le (by decide) (by decide) (tgt := 40) dX11_sheet_35 (by decide) (fun _ => ?_) (fun c => absurd c (by decide))
  refine zi_iload dX11_sheet_40 0 rfl ?_
  refine zi_ifN_ge (by decide) (tgt := 48) dX11_sheet_42 (by decide) (fun _ => ?_) (fun c => absurd c (by decide))
  refine zi_aload_n dX11_sheet_48 (i := 0) rfl 1 rfl ?_
  refine zi_getR fd_X11_64_X11 rfl cw0_0 rfl dX11_sheet_49 ?_
  refine zi_iload_n dX11_sheet_52 (i := 1) rfl 2 rfl ?_
  refine zi_aaldN cw0_99 (by decide) (t := 103) rfl (by decide) dX11_sheet_53 ?_
  refine zi_lconst (v := 0) dX11_sheet_54 rfl ?_
  refine zcV (zc_S (as := [.ref 103, .long 0]) lk_X11_299 ce_J7_fill_d0a16 dX11_sheet_55 (by decide) rfl rfl (Nat.le_of_ble_eq_true rfl)) (show zOkV zw0 0 mJ7_fill_d0a16 [.ref 103, .long 0] M (fun M' => M' = (zsetF M 103 (fun j => if j < 40 then nI 0 else M 103 j))) from ok_fill_103 (x := nI 0)) (fun M55 h55 => ?_)
  refine zi_aload_n dX11_sheet_58 (i := 0) rfl 1 rfl ?_
  refine zi_getR fd_X11_67_X11 rfl cw0_0 rfl dX11_sheet_59 ?_
  refine zi_iload_n dX11_sheet_62 (i := 1) rfl 2 rfl ?_
  refine zi_iload_n dX11_sheet_63 (i := 2) rfl 3 rfl ?_
  refine zi_iastN cw0_104 (by decide) (by decide) dX11_sheet_64 ?_
  refine zi_aload_n dX11_sheet_65 (i := 0) rfl 1 rfl ?_
  refine zi_getR fd_X11_70_X11 rfl cw0_0 rfl dX11_sheet_66 ?_
  refine zi_iload_n dX11_sheet_69 (i := 1) rfl 2 rfl ?_
  refine zi_iload dX11_sheet_70 0 rfl ?_
  refine zi_iastN cw0_105 (by decide) (by decide) dX11_sheet_72 ?_
  refine zi_iconst (v := nI 1) dX11_sheet_73 (by decide) ?_
  refine zi_retJ rfl rfl dX11_sheet_74 ?_
  refine ⟨rfl, ?_⟩
  rw [h55]
set_option maxRecDepth 100000 in
set_option maxHeartbeats 4000000 in
theorem ok_X11_write3 {M : zMem} {i : Nat} {x : Int32} {so sz : Nat → Nat} (hsh : zSc so sz M) (hso0 : 1 ≤ so 3) (hi : i < sz 3) : zOkJ zw0 2 mX11_write [.ref 0, .int (nI 3), .int (nI i), .int x] M (fun r M' => r = nI 1 ∧ M' = zup M 103 i (qNar x (so 3 - 1))) := by
  obtain ⟨-, -, hso, hsz⟩ := hsh 3 (by decide)
  refine zOk_of (by decide +kernel) (fun _ => Nat.le_of_ble_eq_true rfl) (L := [(0, .ref 0), (1, .int (nI 3)), (2, .int (nI i)), (3, .int x)]) rfl ?_
  refine zi_iload_n dX11_write_0 (i := 1) rfl 1 rfl ?_
  refine zcI (zc_S (as := [.int (nI 3)]) lk_X11_296 ce_X11_isSheet dX11_write_1 (by decide) rfl rfl (Nat.le_of_ble_eq_true rfl)) (zOkI_eq ok_X11_isSheet (by decide : zb (zin (nI 3) (nI 0) (nI 3)) = nI 1)) ?_
  refine zi_ifN_ne (by decide) (tgt := 9) dX11_write_4 (by decide) (fun _ => ?_) (fun c => absurd c (by decide))
  refine zi_aload_n dX11_write_9 (i := 0) rfl 0 rfl ?_
  refine zi_getR fd_X11_67_X11 rfl cw0_0 rfl dX11_write_10 ?_
  refine zi_iload_n dX11_write_13 (i := 1) rfl 1 rfl ?_
  refine zi_ialdN cw0_104 (by decide) (by decide) dX11_write_14 ?_
  refine zi_top (y := (nI (so 3) - nI 1)) (((hsh _ (by omega)).1)) ?_
  refine zi_iconst (v := (-1)) dX11_write_15 (by decide) ?_
  refine zi_icmp_ne (tgt := 22) dX11_write_16 (by decide) (fun c16 => ?_) (fun c16 => False.elim (by exact absurd ((qI_pred (by omega)).symm.trans c16) (nI_ne_neg (by omega))))
  refine zi_aload_n dX11_write_22 (i := 0) rfl 0 rfl ?_
  refine zi_iload_n dX11_write_23 (i := 1) rfl 1 rfl ?_
  refine zi_iload_n dX11_write_24 (i := 2) rfl 2 rfl ?_
  refine zcI (zc_V (as := [.int (nI 3), .int (nI i)]) lk_X11_305 ce_X11_hasItem cw0_0 rfl rfl dX11_write_25 (by decide) rfl rfl (Nat.le_of_ble_eq_true rfl)) (zOkI_eq (ok_X11_hasItem hsh (by decide)) (congrArg zb ((qIs_nat (by omega) (by omega)).trans (decide_eq_true hi)))) ?_
  refine zi_ifN_ne (by decide) (tgt := 34) dX11_write_28 (by decide) (fun _ => ?_) (fun c => absurd c (by decide))
  refine zi_aload_n dX11_write_34 (i := 0) rfl 0 rfl ?_
  refine zi_getR fd_X11_64_X11 rfl cw0_0 rfl dX11_write_35 ?_
  refine zi_iload_n dX11_write_38 (i := 1) rfl 1 rfl ?_
  refine zi_aaldN cw0_99 (by decide) (t := 103) rfl (by decide) dX11_write_39 ?_
  refine zi_iload_n dX11_write_40 (i := 2) rfl 2 rfl ?_
  refine zi_aload_n dX11_write_41 (i := 0) rfl 0 rfl ?_
  refine zi_getR fd_X11_67_X11 rfl cw0_0 rfl dX11_write_42 ?_
  refine zi_iload_n dX11_write_45 (i := 1) rfl 1 rfl ?_
  refine zi_ialdN cw0_104 (by decide) (by decide) dX11_write_46 ?_
  refine zi_top (y := (nI (so 3) - nI 1)) (((hsh _ (by omega)).1)) ?_
  refine zi_top (y := nI (so 3 - 1)) (qI_pred hso0) ?_
  refine zi_iload_n dX11_write_47 (i := 3) rfl 3 rfl ?_
  refine zcI (zc_S (as := [.int (nI (so 3 - 1)), .int x]) lk_X11_308 ce_X11_narrowed dX11_write_48 (by decide) rfl rfl (Nat.le_of_ble_eq_true rfl)) (ok_X11_narrowed (b := so 3 - 1) (by omega)) ?_
  refine zi_i2l dX11_write_51 ?_
  refine zi_lastN cw0_103 (by omega) (by decide) dX11_write_52 ?_
  refine zi_iconst (v := nI 1) dX11_write_53 (by decide) ?_
  refine zi_retJ rfl rfl dX11_write_54 ?_
  exact ⟨rfl, rfl⟩
set_option maxRecDepth 100000 in
set_option maxHeartbeats 4000000 in
theorem none_X11_write3 {M : zMem} {x y : Int32} {so sz : Nat → Nat} (hsh : zSc so sz M) (hso0 : so 3 = 0) : zOkI zw0 2 mX11_write [.ref 0, .int (nI 3), .int x, .int y] M (-11) := by
  obtain ⟨-, -, hso, hsz⟩ := hsh 3 (by decide)
  refine zOk_of (by decide +kernel) (fun _ => Nat.le_of_ble_eq_true rfl) (L := [(0, .ref 0), (1, .int (nI 3)), (2, .int x), (3, .int y)]) rfl ?_
  refine zi_iload_n dX11_write_0 (i := 1) rfl 1 rfl ?_
  refine zcI (zc_S (as := [.int (nI 3)]) lk_X11_296 ce_X11_isSheet dX11_write_1 (by decide) rfl rfl (Nat.le_of_ble_eq_true rfl)) (zOkI_eq ok_X11_isSheet (by decide : zb (zin (nI 3) (nI 0) (nI 3)) = nI 1)) ?_
  refine zi_ifN_ne (by decide) (tgt := 9) dX11_write_4 (by decide) (fun _ => ?_) (fun c => absurd c (by decide))
  refine zi_aload_n dX11_write_9 (i := 0) rfl 0 rfl ?_
  refine zi_getR fd_X11_67_X11 rfl cw0_0 rfl dX11_write_10 ?_
  refine zi_iload_n dX11_write_13 (i := 1) rfl 1 rfl ?_
  refine zi_ialdN cw0_104 (by decide) (by decide) dX11_write_14 ?_
  refine zi_top (y := (nI (so 3) - nI 1)) (((hsh _ (by omega)).1)) ?_
  refine zi_iconst (v := (-1)) dX11_write_15 (by decide) ?_
  refine zi_icmp_ne (tgt := 22) dX11_write_16 (by decide) (fun c16 => False.elim (by rw [hso0] at c16; exact c16 (by decide))) (fun c16 => ?_)
  refine zi_bipush (v := (-11)) dX11_write_19 (by decide) ?_
  refine zi_retI rfl rfl dX11_write_21 ?_
  rfl
set_option maxRecDepth 100000 in
set_option maxHeartbeats 4000000 in
theorem out_X11_write3 {M : zMem} {x y : Int32} {so sz : Nat → Nat} (hsh : zSc so sz M) (hso0 : 1 ≤ so 3) (hi : zin x (nI 0) (nI (sz 3) - nI 1) = false) : zOkI zw0 2 mX11_write [.ref 0, .int (nI 3), .int x, .int y] M (-12) := by
  obtain ⟨-, -, hso, hsz⟩ := hsh 3 (by decide)
  refine zOk_of (by decide +kernel) (fun _ => Nat.le_of_ble_eq_true rfl) (L := [(0, .ref 0), (1, .int (nI 3)), (2, .int x), (3, .int y)]) rfl ?_
  refine zi_iload_n dX11_write_0 (i := 1) rfl 1 rfl ?_
  refine zcI (zc_S (as := [.int (nI 3)]) lk_X11_296 ce_X11_isSheet dX11_write_1 (by decide) rfl rfl (Nat.le_of_ble_eq_true rfl)) (zOkI_eq ok_X11_isSheet (by decide : zb (zin (nI 3) (nI 0) (nI 3)) = nI 1)) ?_
  refine zi_ifN_ne (by decide) (tgt := 9) dX11_write_4 (by decide) (fun _ => ?_) (fun c => absurd c (by decide))
  refine zi_aload_n dX11_write_9 (i := 0) rfl 0 rfl ?_
  refine zi_getR fd_X11_67_X11 rfl cw0_0 rfl dX11_write_10 ?_
  refine zi_iload_n dX11_write_13 (i := 1) rfl 1 rfl ?_
  refine zi_ialdN cw0_104 (by decide) (by decide) dX11_write_14 ?_
  refine zi_top (y := (nI (so 3) - nI 1)) (((hsh _ (by omega)).1)) ?_
  refine zi_iconst (v := (-1)) dX11_write_15 (by decide) ?_
  refine zi_icmp_ne (tgt := 22) dX11_write_16 (by decide) (fun c16 => ?_) (fun c16 => False.elim (by exact absurd ((qI_pred (by omega)).symm.trans c16) (nI_ne_neg (by omega))))
  refine zi_aload_n dX11_write_22 (i := 0) rfl 0 rfl ?_
  refine zi_iload_n dX11_write_23 (i := 1) rfl 1 rfl ?_
  refine zi_iload_n dX11_write_24 (i := 2) rfl 2 rfl ?_
  refine zcI (zc_V (as := [.int (nI 3), .int x]) lk_X11_305 ce_X11_hasItem cw0_0 rfl rfl dX11_write_25 (by decide) rfl rfl (Nat.le_of_ble_eq_true rfl)) (zOkI_eq (ok_X11_hasItem hsh (by decide)) (congrArg zb hi)) ?_
  refine zi_ifN_ne (by decide) (tgt := 34) dX11_write_28 (by decide) (fun c => absurd c (by decide)) (fun _ => ?_)
  refine zi_bipush (v := (-12)) dX11_write_31 (by decide) ?_
  refine zi_retI rfl rfl dX11_write_33 ?_
  rfl
set_option maxRecDepth 100000 in
set_option maxHeartbeats 4000000 in
theorem ok_X11_item3 {M : zMem} {b i : Nat} {so sz : Nat → Nat} (hsh : zSc so sz M) (hb4 : b ≤ 4) (hsb : so 3 = b + 1) (hi : i < sz 3) : zOkI zw0 2 mX11_item [.ref 0, .int (nI 3), .int (nI b), .int (nI i)] M (M 103 i) := by
  obtain ⟨-, -, hso, hsz⟩ := hsh 3 (by decide)
  refine zOk_of (by decide +kernel) (fun _ => Nat.le_of_ble_eq_true rfl) (L := [(0, .ref 0), (1, .int (nI 3)), (2, .int (nI b)), (3, .int (nI i))]) rfl ?_
  refine zi_iload_n dX11_item_0 (i := 1) rfl 1 rfl ?_
  refine zcI (zc_S (as := [.int (nI 3)]) lk_X11_296 ce_X11_isSheet dX11_item_1 (by decide) rfl rfl (Nat.le_of_ble_eq_true rfl)) (zOkI_eq ok_X11_isSheet (by decide : zb (zin (nI 3) (nI 0) (nI 3)) = nI 1)) ?_
  refine zi_ifN_eq (by decide) (tgt := 15) dX11_item_4 (by decide) (fun c => absurd c (by decide)) (fun _ => ?_)
  refine zi_iload_n dX11_item_7 (i := 2) rfl 2 rfl ?_
  refine zi_iconst (v := nI 4) dX11_item_8 (by decide) ?_
  refine zcI (zc_S (as := [.int (nI b), .int (nI 4)]) lk_X11_86 ce_X11_isFrom0To dX11_item_9 (by decide) rfl rfl (Nat.le_of_ble_eq_true rfl)) (zOkI_eq ok_X11_isFrom0To (zinT (by omega) (by omega) (by omega))) ?_
  refine zi_ifN_ne (by decide) (tgt := 17) dX11_item_12 (by decide) (fun _ => ?_) (fun c => absurd c (by decide))
  refine zi_aload_n dX11_item_17 (i := 0) rfl 0 rfl ?_
  refine zi_iload_n dX11_item_18 (i := 1) rfl 1 rfl ?_
  refine zi_iload_n dX11_item_19 (i := 2) rfl 2 rfl ?_
  refine zcI (zc_V (as := [.int (nI 3), .int (nI b)]) lk_X11_311 ce_X11_takenFor cw0_0 rfl rfl dX11_item_20 (by decide) rfl rfl (Nat.le_of_ble_eq_true rfl)) (zOkI_eq (ok_X11_takenFor hsh (by decide) (by omega)) (by rw [if_neg (by omega), if_pos hsb])) ?_
  refine zi_istore (L' := [(4, .int (nI 0)), (0, .ref 0), (1, .int (nI 3)), (2, .int (nI b)), (3, .int (nI i))]) dX11_item_23 (by decide) rfl ?_
  refine zi_iload dX11_item_25 0 rfl ?_
  refine zi_ifN_eq (by decide) (tgt := 33) dX11_item_27 (by decide) (fun _ => ?_) (fun c => absurd c (by decide))
  refine zi_aload_n dX11_item_33 (i := 0) rfl 1 rfl ?_
  refine zi_iload_n dX11_item_34 (i := 1) rfl 2 rfl ?_
  refine zi_iload_n dX11_item_35 (i := 3) rfl 4 rfl ?_
  refine zcI (zc_V (as := [.int (nI 3), .int (nI i)]) lk_X11_305 ce_X11_hasItem cw0_0 rfl rfl dX11_item_36 (by decide) rfl rfl (Nat.le_of_ble_eq_true rfl)) (zOkI_eq (ok_X11_hasItem hsh (by decide)) (congrArg zb ((qIs_nat (by omega) (by omega)).trans (decide_eq_true hi)))) ?_
  refine zi_ifN_eq (by decide) (tgt := 54) dX11_item_39 (by decide) (fun c => absurd c (by decide)) (fun _ => ?_)
  refine zi_aload_n dX11_item_42 (i := 0) rfl 1 rfl ?_
  refine zi_getR fd_X11_64_X11 rfl cw0_0 rfl dX11_item_43 ?_
  refine zi_iload_n dX11_item_46 (i := 1) rfl 2 rfl ?_
  refine zi_aaldN cw0_99 (by decide) (t := 103) rfl (by decide) dX11_item_47 ?_
  refine zi_iload_n dX11_item_48 (i := 3) rfl 4 rfl ?_
  refine zi_laldN cw0_103 (by omega) (by decide) dX11_item_49 ?_
  refine zi_l2i dX11_item_50 ?_
  refine zi_goto (tgt := 56) dX11_item_51 (by decide) ?_
  refine zi_retI rfl rfl dX11_item_56 ?_
  exact Int32.toInt32_toInt64 _
set_option maxRecDepth 100000 in
set_option maxHeartbeats 4000000 in
theorem out_X11_item3 {M : zMem} {b : Nat} {x : Int32} {so sz : Nat → Nat} (hsh : zSc so sz M) (hb4 : b ≤ 4) (hsb : so 3 = b + 1) (hi : zin x (nI 0) (nI (sz 3) - nI 1) = false) : zOkI zw0 2 mX11_item [.ref 0, .int (nI 3), .int (nI b), .int x] M (-12) := by
  obtain ⟨-, -, hso, hsz⟩ := hsh 3 (by decide)
  refine zOk_of (by decide +kernel) (fun _ => Nat.le_of_ble_eq_true rfl) (L := [(0, .ref 0), (1, .int (nI 3)), (2, .int (nI b)), (3, .int x)]) rfl ?_
  refine zi_iload_n dX11_item_0 (i := 1) rfl 1 rfl ?_
  refine zcI (zc_S (as := [.int (nI 3)]) lk_X11_296 ce_X11_isSheet dX11_item_1 (by decide) rfl rfl (Nat.le_of_ble_eq_true rfl)) (zOkI_eq ok_X11_isSheet (by decide : zb (zin (nI 3) (nI 0) (nI 3)) = nI 1)) ?_
  refine zi_ifN_eq (by decide) (tgt := 15) dX11_item_4 (by decide) (fun c => absurd c (by decide)) (fun _ => ?_)
  refine zi_iload_n dX11_item_7 (i := 2) rfl 2 rfl ?_
  refine zi_iconst (v := nI 4) dX11_item_8 (by decide) ?_
  refine zcI (zc_S (as := [.int (nI b), .int (nI 4)]) lk_X11_86 ce_X11_isFrom0To dX11_item_9 (by decide) rfl rfl (Nat.le_of_ble_eq_true rfl)) (zOkI_eq ok_X11_isFrom0To (zinT (by omega) (by omega) (by omega))) ?_
  refine zi_ifN_ne (by decide) (tgt := 17) dX11_item_12 (by decide) (fun _ => ?_) (fun c => absurd c (by decide))
  refine zi_aload_n dX11_item_17 (i := 0) rfl 0 rfl ?_
  refine zi_iload_n dX11_item_18 (i := 1) rfl 1 rfl ?_
  refine zi_iload_n dX11_item_19 (i := 2) rfl 2 rfl ?_
  refine zcI (zc_V (as := [.int (nI 3), .int (nI b)]) lk_X11_311 ce_X11_takenFor cw0_0 rfl rfl dX11_item_20 (by decide) rfl rfl (Nat.le_of_ble_eq_true rfl)) (zOkI_eq (ok_X11_takenFor hsh (by decide) (by omega)) (by rw [if_neg (by omega), if_pos hsb])) ?_
  refine zi_istore (L' := [(4, .int (nI 0)), (0, .ref 0), (1, .int (nI 3)), (2, .int (nI b)), (3, .int x)]) dX11_item_23 (by decide) rfl ?_
  refine zi_iload dX11_item_25 0 rfl ?_
  refine zi_ifN_eq (by decide) (tgt := 33) dX11_item_27 (by decide) (fun _ => ?_) (fun c => absurd c (by decide))
  refine zi_aload_n dX11_item_33 (i := 0) rfl 1 rfl ?_
  refine zi_iload_n dX11_item_34 (i := 1) rfl 2 rfl ?_
  refine zi_iload_n dX11_item_35 (i := 3) rfl 4 rfl ?_
  refine zcI (zc_V (as := [.int (nI 3), .int x]) lk_X11_305 ce_X11_hasItem cw0_0 rfl rfl dX11_item_36 (by decide) rfl rfl (Nat.le_of_ble_eq_true rfl)) (zOkI_eq (ok_X11_hasItem hsh (by decide)) (congrArg zb hi)) ?_
  refine zi_ifN_eq (by decide) (tgt := 54) dX11_item_39 (by decide) (fun _ => ?_) (fun c => absurd c (by decide))
  refine zi_bipush (v := (-12)) dX11_item_54 (by decide) ?_
  refine zi_retI rfl rfl dX11_item_56 ?_
  rfl
set_option maxRecDepth 100000 in
set_option maxHeartbeats 4000000 in
theorem none_X11_item3 {M : zMem} {b : Nat} {x : Int32} {so sz : Nat → Nat} (hsh : zSc so sz M) (hb4 : b ≤ 4) (hsb : so 3 = 0) : zOkI zw0 2 mX11_item [.ref 0, .int (nI 3), .int (nI b), .int x] M (-11) := by
  obtain ⟨-, -, hso, hsz⟩ := hsh 3 (by decide)
  refine zOk_of (by decide +kernel) (fun _ => Nat.le_of_ble_eq_true rfl) (L := [(0, .ref 0), (1, .int (nI 3)), (2, .int (nI b)), (3, .int x)]) rfl ?_
  refine zi_iload_n dX11_item_0 (i := 1) rfl 1 rfl ?_
  refine zcI (zc_S (as := [.int (nI 3)]) lk_X11_296 ce_X11_isSheet dX11_item_1 (by decide) rfl rfl (Nat.le_of_ble_eq_true rfl)) (zOkI_eq ok_X11_isSheet (by decide : zb (zin (nI 3) (nI 0) (nI 3)) = nI 1)) ?_
  refine zi_ifN_eq (by decide) (tgt := 15) dX11_item_4 (by decide) (fun c => absurd c (by decide)) (fun _ => ?_)
  refine zi_iload_n dX11_item_7 (i := 2) rfl 2 rfl ?_
  refine zi_iconst (v := nI 4) dX11_item_8 (by decide) ?_
  refine zcI (zc_S (as := [.int (nI b), .int (nI 4)]) lk_X11_86 ce_X11_isFrom0To dX11_item_9 (by decide) rfl rfl (Nat.le_of_ble_eq_true rfl)) (zOkI_eq ok_X11_isFrom0To (zinT (by omega) (by omega) (by omega))) ?_
  refine zi_ifN_ne (by decide) (tgt := 17) dX11_item_12 (by decide) (fun _ => ?_) (fun c => absurd c (by decide))
  refine zi_aload_n dX11_item_17 (i := 0) rfl 0 rfl ?_
  refine zi_iload_n dX11_item_18 (i := 1) rfl 1 rfl ?_
  refine zi_iload_n dX11_item_19 (i := 2) rfl 2 rfl ?_
  refine zcI (zc_V (as := [.int (nI 3), .int (nI b)]) lk_X11_311 ce_X11_takenFor cw0_0 rfl rfl dX11_item_20 (by decide) rfl rfl (Nat.le_of_ble_eq_true rfl)) (zOkI_eq (ok_X11_takenFor hsh (by decide) (by omega)) (by rw [if_pos hsb])) ?_
  refine zi_istore (L' := [(4, .int (-11)), (0, .ref 0), (1, .int (nI 3)), (2, .int (nI b)), (3, .int x)]) dX11_item_23 (by decide) rfl ?_
  refine zi_iload dX11_item_25 0 rfl ?_
  refine zi_if_eq (tgt := 33) dX11_item_27 (by decide) (fun c27 => False.elim (by exact absurd c27 (by decide))) (fun c27 => ?_)
  refine zi_iload dX11_item_30 0 rfl ?_
  refine zi_retI rfl rfl dX11_item_32 ?_
  rfl
set_option maxRecDepth 100000 in
set_option maxHeartbeats 4000000 in
theorem other_X11_item3 {M : zMem} {b : Nat} {x : Int32} {so sz : Nat → Nat} (hsh : zSc so sz M) (hb4 : b ≤ 4) (hsb : so 3 ≠ 0) (hsc : so 3 ≠ b + 1) : zOkI zw0 2 mX11_item [.ref 0, .int (nI 3), .int (nI b), .int x] M (-13) := by
  obtain ⟨-, -, hso, hsz⟩ := hsh 3 (by decide)
  refine zOk_of (by decide +kernel) (fun _ => Nat.le_of_ble_eq_true rfl) (L := [(0, .ref 0), (1, .int (nI 3)), (2, .int (nI b)), (3, .int x)]) rfl ?_
  refine zi_iload_n dX11_item_0 (i := 1) rfl 1 rfl ?_
  refine zcI (zc_S (as := [.int (nI 3)]) lk_X11_296 ce_X11_isSheet dX11_item_1 (by decide) rfl rfl (Nat.le_of_ble_eq_true rfl)) (zOkI_eq ok_X11_isSheet (by decide : zb (zin (nI 3) (nI 0) (nI 3)) = nI 1)) ?_
  refine zi_ifN_eq (by decide) (tgt := 15) dX11_item_4 (by decide) (fun c => absurd c (by decide)) (fun _ => ?_)
  refine zi_iload_n dX11_item_7 (i := 2) rfl 2 rfl ?_
  refine zi_iconst (v := nI 4) dX11_item_8 (by decide) ?_
  refine zcI (zc_S (as := [.int (nI b), .int (nI 4)]) lk_X11_86 ce_X11_isFrom0To dX11_item_9 (by decide) rfl rfl (Nat.le_of_ble_eq_true rfl)) (zOkI_eq ok_X11_isFrom0To (zinT (by omega) (by omega) (by omega))) ?_
  refine zi_ifN_ne (by decide) (tgt := 17) dX11_item_12 (by decide) (fun _ => ?_) (fun c => absurd c (by decide))
  refine zi_aload_n dX11_item_17 (i := 0) rfl 0 rfl ?_
  refine zi_iload_n dX11_item_18 (i := 1) rfl 1 rfl ?_
  refine zi_iload_n dX11_item_19 (i := 2) rfl 2 rfl ?_
  refine zcI (zc_V (as := [.int (nI 3), .int (nI b)]) lk_X11_311 ce_X11_takenFor cw0_0 rfl rfl dX11_item_20 (by decide) rfl rfl (Nat.le_of_ble_eq_true rfl)) (zOkI_eq (ok_X11_takenFor hsh (by decide) (by omega)) (by rw [if_neg hsb, if_neg hsc])) ?_
  refine zi_istore (L' := [(4, .int (-13)), (0, .ref 0), (1, .int (nI 3)), (2, .int (nI b)), (3, .int x)]) dX11_item_23 (by decide) rfl ?_
  refine zi_iload dX11_item_25 0 rfl ?_
  refine zi_if_eq (tgt := 33) dX11_item_27 (by decide) (fun c27 => False.elim (by exact absurd c27 (by decide))) (fun c27 => ?_)
  refine zi_iload dX11_item_30 0 rfl ?_
  refine zi_retI rfl rfl dX11_item_32 ?_
  rfl
set_option maxRecDepth 100000 in
set_option maxHeartbeats 4000000 in
theorem low_X11_sheet3 {M : zMem} {b : Nat} {r : Int32} (hb4 : b ≤ 4) (hr : r < 0) : zOkI zw0 2 mX11_sheet [.ref 0, .int (nI 3), .int (nI b), .int r] M (-14) := by
  refine zOk_of (by decide +kernel) (fun _ => Nat.le_of_ble_eq_true rfl) (L := [(0, .ref 0), (1, .int (nI 3)), (2, .int (nI b)), (3, .int r)]) rfl ?_
  refine zi_iload_n dX11_sheet_0 (i := 1) rfl 1 rfl ?_
  refine zcI (zc_S (as := [.int (nI 3)]) lk_X11_296 ce_X11_isSheet dX11_sheet_1 (by decide) rfl rfl (Nat.le_of_ble_eq_true rfl)) (zOkI_eq ok_X11_isSheet (by decide : zb (zin (nI 3) (nI 0) (nI 3)) = nI 1)) ?_
  refine zi_ifN_eq (by decide) (tgt := 17) dX11_sheet_4 (by decide) (fun c => absurd c (by decide)) (fun _ => ?_)
  refine zi_iload_n dX11_sheet_7 (i := 2) rfl 2 rfl ?_
  refine zi_iconst (v := (-1)) dX11_sheet_8 (by decide) ?_
  refine zi_icmp_lt (tgt := 17) dX11_sheet_9 (by decide) (fun c9 => False.elim (by exact absurd (Int32.lt_of_lt_of_le c9 (by decide)) (Int32.not_lt.mpr (nI_pos' (by omega))))) (fun c9 => ?_)
  refine zi_iload_n dX11_sheet_12 (i := 2) rfl 2 rfl ?_
  refine zi_iconst (v := nI 5) dX11_sheet_13 (by decide) ?_
  refine zi_icmpN_lt (by  omega) (by decide) (tgt := 19) dX11_sheet_14 (by decide) (fun c14 => ?_) (fun c14 => False.elim (by omega))
  refine zi_iload_n dX11_sheet_19 (i := 2) rfl 2 rfl ?_
  refine zi_iconst (v := (-1)) dX11_sheet_20 (by decide) ?_
  refine zi_icmp_ne (tgt := 28) dX11_sheet_21 (by decide) (fun c21 => ?_) (fun c21 => False.elim (by exact nI_ne_neg (by omega) c21))
  refine zi_iload_n dX11_sheet_28 (i := 3) rfl 3 rfl ?_
  refine zi_istore (L' := [(4, .int r), (0, .ref 0), (1, .int (nI 3)), (2, .int (nI b)), (3, .int r)]) dX11_sheet_29 (by decide) rfl ?_
  refine zi_iload dX11_sheet_31 0 rfl ?_
  refine zi_bipush (v := nI 40) dX11_sheet_33 (by decide) ?_
  refine zi_icmp_le (tgt := 40) dX11_sheet_35 (by decide) (fun c35 => ?_) (fun c35 => False.elim (by exact absurd hr (Int32.not_lt.mpr (Int32.le_of_lt (Int32.lt_trans (by decide : (0 : Int32) < nI 40) (Int32.not_le.mp c35))))))
  refine zi_iload dX11_sheet_40 0 rfl ?_
  refine zi_if_ge (tgt := 48) dX11_sheet_42 (by decide) (fun c42 => False.elim (by exact absurd hr (Int32.not_lt.mpr c42))) (fun c42 => ?_)
  refine zi_bipush (v := (-14)) dX11_sheet_45 (by decide) ?_
  refine zi_retI rfl rfl dX11_sheet_47 ?_
  rfl
set_option maxRecDepth 100000 in
set_option maxHeartbeats 4000000 in
theorem bad_X11_item {M : zMem} {k t r : Int32} (hB : (zin k (nI 0) (nI 3) && zin t (nI 0) (nI 4)) = false) : zOkI zw0 2 mX11_item [.ref 0, .int k, .int t, .int r] M (-1) := by
  refine zOk_of (by decide +kernel) (fun _ => Nat.le_of_ble_eq_true rfl) (L := [(0, .ref 0), (1, .int k), (2, .int t), (3, .int r)]) rfl ?_
  refine zi_iload_n dX11_item_0 (i := 1) rfl 1 rfl ?_
  refine zcI (zc_S (as := [.int k]) lk_X11_296 ce_X11_isSheet dX11_item_1 (by decide) rfl rfl (Nat.le_of_ble_eq_true rfl)) ok_X11_isSheet ?_
  refine zi_ifB_eq (tgt := 15) dX11_item_4 (by decide) (fun c4 => ?_) (fun c4 => ?_)
  · refine zi_iconst (v := (-1)) dX11_item_15 (by decide) ?_
    refine zi_retI rfl rfl dX11_item_16 ?_
    rfl
  · refine zi_iload_n dX11_item_7 (i := 2) rfl 2 rfl ?_
    refine zi_iconst (v := nI 4) dX11_item_8 (by decide) ?_
    refine zcI (zc_S (as := [.int t, .int (nI 4)]) lk_X11_86 ce_X11_isFrom0To dX11_item_9 (by decide) rfl rfl (Nat.le_of_ble_eq_true rfl)) ok_X11_isFrom0To ?_
    refine zi_ifB_ne (tgt := 17) dX11_item_12 (by decide) (fun c12 => False.elim (by rw [c4, c12] at hB; exact Bool.noConfusion hB)) (fun c12 => ?_)
    refine zi_iconst (v := (-1)) dX11_item_15 (by decide) ?_
    refine zi_retI rfl rfl dX11_item_16 ?_
    rfl
set_option maxRecDepth 100000 in
set_option maxHeartbeats 4000000 in
theorem bad_X11_write {M : zMem} {k t r : Int32} (hB : zin k (nI 0) (nI 3) = false) : zOkI zw0 2 mX11_write [.ref 0, .int k, .int t, .int r] M (-1) := by
  refine zOk_of (by decide +kernel) (fun _ => Nat.le_of_ble_eq_true rfl) (L := [(0, .ref 0), (1, .int k), (2, .int t), (3, .int r)]) rfl ?_
  refine zi_iload_n dX11_write_0 (i := 1) rfl 1 rfl ?_
  refine zcI (zc_S (as := [.int k]) lk_X11_296 ce_X11_isSheet dX11_write_1 (by decide) rfl rfl (Nat.le_of_ble_eq_true rfl)) ok_X11_isSheet ?_
  refine zi_ifB_ne (tgt := 9) dX11_write_4 (by decide) (fun c4 => False.elim (by rw [hB] at c4; exact Bool.noConfusion c4)) (fun c4 => ?_)
  refine zi_iconst (v := (-1)) dX11_write_7 (by decide) ?_
  refine zi_retI rfl rfl dX11_write_8 ?_
  rfl
set_option maxRecDepth 100000 in
set_option maxHeartbeats 4000000 in
theorem bad_X11_sheet {M : zMem} {k t r : Int32} (hB : (zin k (nI 0) (nI 3) && (zin t (-1) (nI 4) && (decide (t < 0) || decide (r ≤ nI 40)))) = false) : zOkI zw0 2 mX11_sheet [.ref 0, .int k, .int t, .int r] M (-1) := by
  refine zOk_of (by decide +kernel) (fun _ => Nat.le_of_ble_eq_true rfl) (L := [(0, .ref 0), (1, .int k), (2, .int t), (3, .int r)]) rfl ?_
  refine zi_iload_n dX11_sheet_0 (i := 1) rfl 1 rfl ?_
  refine zcI (zc_S (as := [.int k]) lk_X11_296 ce_X11_isSheet dX11_sheet_1 (by decide) rfl rfl (Nat.le_of_ble_eq_true rfl)) ok_X11_isSheet ?_
  refine zi_ifB_eq (tgt := 17) dX11_sheet_4 (by decide) (fun c4 => ?_) (fun c4 => ?_)
  · refine zi_iconst (v := (-1)) dX11_sheet_17 (by decide) ?_
    refine zi_retI rfl rfl dX11_sheet_18 ?_
    rfl
  · refine zi_iload_n dX11_sheet_7 (i := 2) rfl 2 rfl ?_
    refine zi_iconst (v := (-1)) dX11_sheet_8 (by decide) ?_
    refine zi_icmp_lt (tgt := 17) dX11_sheet_9 (by decide) (fun c9 => ?_) (fun c9 => ?_)
    · refine zi_iconst (v := (-1)) dX11_sheet_17 (by decide) ?_
      refine zi_retI rfl rfl dX11_sheet_18 ?_
      rfl
    · refine zi_iload_n dX11_sheet_12 (i := 2) rfl 2 rfl ?_
      refine zi_iconst (v := nI 5) dX11_sheet_13 (by decide) ?_
      refine zi_icmp_lt (tgt := 19) dX11_sheet_14 (by decide) (fun c14 => ?_) (fun c14 => ?_)
      · refine zi_iload_n dX11_sheet_19 (i := 2) rfl 2 rfl ?_
        refine zi_iconst (v := (-1)) dX11_sheet_20 (by decide) ?_
        refine zi_icmp_ne (tgt := 28) dX11_sheet_21 (by decide) (fun c21 => ?_) (fun c21 => False.elim (by rw [c4, c21, show zin (-1) (-1) (nI 4) = true from by decide, show decide ((-1 : Int32) < 0) = true from by decide] at hB; exact Bool.noConfusion hB))
        refine zi_iload_n dX11_sheet_28 (i := 3) rfl 3 rfl ?_
        refine zi_istore (L' := [(4, .int r), (0, .ref 0), (1, .int k), (2, .int t), (3, .int r)]) dX11_sheet_29 (by decide) rfl ?_
        refine zi_iload dX11_sheet_31 0 rfl ?_
        refine zi_bipush (v := nI 40) dX11_sheet_33 (by decide) ?_
        refine zi_icmp_le (tgt := 40) dX11_sheet_35 (by decide) (fun c35 => False.elim (by rw [c4, zin_t c9 (zlt5 c14), decide_eq_true c35, Bool.or_true] at hB; exact Bool.noConfusion hB)) (fun c35 => ?_)
        refine zi_iconst (v := (-1)) dX11_sheet_38 (by decide) ?_
        refine zi_retI rfl rfl dX11_sheet_39 ?_
        rfl
      · refine zi_iconst (v := (-1)) dX11_sheet_17 (by decide) ?_
        refine zi_retI rfl rfl dX11_sheet_18 ?_
        rfl
