set_option maxRecDepth 100000 in
set_option maxHeartbeats 4000000 in
theorem bad_X11_walk {M : zMem}  {x y : Int32} (hB : (zin x (nI 0) (nI 5) && zin y (nI 0) (nI 1)) = false) : zOkI zw0 14 mX11_walk [.ref 0, .int x, .int y] M (-1) := by
  refine zOk_of (by decide +kernel) (fun _ => Nat.le_of_ble_eq_true rfl) (L := [(0, .ref 0), (1, .int x), (2, .int y)]) rfl ?_
  refine zi_iload_n dX11_walk_0 (i := 1) rfl 1 rfl ?_
  refine zi_iconst (v := nI 5) dX11_walk_1 (by decide) ?_
  refine zcI (zc_S (as := [.int x, .int (nI 5)]) lk_X11_86 ce_X11_isFrom0To dX11_walk_2 (by decide) rfl rfl (Nat.le_of_ble_eq_true rfl)) ok_X11_isFrom0To ?_
  refine zi_ifB_eq (tgt := 16) dX11_walk_5 (by decide) (fun c5 => ?_) (fun c5 => ?_)
  · refine zi_iconst (v := (-1)) dX11_walk_16 (by decide) ?_
    refine zi_retI rfl rfl dX11_walk_17 ?_
    rfl
  · refine zi_iload_n dX11_walk_8 (i := 2) rfl 2 rfl ?_
    refine zi_iconst (v := nI 1) dX11_walk_9 (by decide) ?_
    refine zcI (zc_S (as := [.int y, .int (nI 1)]) lk_X11_86 ce_X11_isFrom0To dX11_walk_10 (by decide) rfl rfl (Nat.le_of_ble_eq_true rfl)) ok_X11_isFrom0To ?_
    refine zi_ifB_ne (tgt := 18) dX11_walk_13 (by decide) (fun c13 => False.elim (by rw [c5, c13] at hB; exact Bool.noConfusion hB)) (fun c13 => ?_)
    refine zi_iconst (v := (-1)) dX11_walk_16 (by decide) ?_
    refine zi_retI rfl rfl dX11_walk_17 ?_
    rfl
theorem z1514 {t : Int32} (h : ¬ nI 15 ≤ t) : ¬ nI 14 < t := fun q => by
  have h1 := Int32.not_le.mp h
  have h2 := Int32.lt_iff_toInt_lt.mp h1
  have h3 := Int32.lt_iff_toInt_lt.mp q
  rw [nI_toInt (by decide)] at h2 h3
  omega
theorem zitem_out {x : Int32} {s : Nat} (hs : s ≤ 40) (h : zin x (nI 0) (nI s - nI 1) = false) : (!decide (x < 0) && decide (x < nI s - nI 0)) = false := by
  by_cases h0 : x < 0
  · rw [decide_eq_true h0]; rfl
  · rw [decide_eq_false h0]
    have e : nI s - nI 0 = nI s := by rw [pk_sub (Nat.zero_le s)]; rfl
    rw [e]
    refine decide_eq_false fun q => ?_
    rcases Nat.eq_zero_or_pos s with rfl | hp
    · exact h0 q
    · rw [pk_sub hp] at h
      unfold zin at h
      rw [show decide (x < nI 0) = false from decide_eq_false h0] at h
      have h2 : nI (s - 1) < x := by
        have h3 : (!decide (nI (s - 1) < x)) = false := h
        exact of_decide_eq_true (by simpa using h3)
      have h4 := Int32.lt_iff_toInt_lt.mp h2
      have h5 := Int32.lt_iff_toInt_lt.mp q
      rw [nI_toInt (by omega)] at h4 h5
      omega
theorem zlb0 {M M1 M2 : zMem} (h1 : M1 = zsetF M 3 (fun j => if j < 74 then M 1 j else M 3 j)) (h2 : M2 = zsetF M1 1 (fun j => if j < 74 then M1 3 j else M1 1 j)) : zFr [3, 4] M M2 := by
  subst h1
  subst h2
  intro a ha
  simp only [List.mem_cons, List.not_mem_nil, or_false, not_or] at ha
  by_cases e : a = 1
  · subst e
    rw [zsetF_1]
    funext j
    rw [zsetF_1, zsetF_o _ _ (by decide)]
    by_cases h : j < 74
    · rw [if_pos h, if_pos h]
    · rw [if_neg h]
  · rw [zsetF_o _ _ e, zsetF_o _ _ ha.1]
set_option maxRecDepth 100000 in
set_option maxHeartbeats 4000000 in
theorem bad_X11_taken {M : zMem} {k t : Int32} (hB : (zin k (nI 0) (nI 3) && (zin t (nI 0) (nI 5) || zin t (nI 10) (nI 14))) = false) : zOkI zw0 2 mX11_taken [.ref 0, .int k, .int t] M (-1) := by
  refine zOk_of (by decide +kernel) (fun _ => Nat.le_of_ble_eq_true rfl) (L := [(0, .ref 0), (1, .int k), (2, .int t)]) rfl ?_
  refine zi_iload_n dX11_taken_0 (i := 2) rfl 2 rfl ?_
  refine zi_bipush (v := nI 10) dX11_taken_1 (by decide) ?_
  refine zi_icmp_lt (tgt := 16) dX11_taken_3 (by decide) (fun c3 => ?_) (fun c3 => ?_)
  · refine zi_iconst (v := nI 0) dX11_taken_16 (by decide) ?_
    refine zi_top (y := nI 0) rfl ?_
    refine zi_istore_n (L' := [(3, .int (nI 0)), (0, .ref 0), (1, .int k), (2, .int t)]) dX11_taken_17 (i := 3) rfl (by decide) rfl ?_
    refine zi_iload_n dX11_taken_18 (i := 1) rfl 2 rfl ?_
    refine zcI (zc_S (as := [.int k]) lk_X11_314 ce_X11_isShelf dX11_taken_19 (by decide) rfl rfl (Nat.le_of_ble_eq_true rfl)) ok_X11_isShelf ?_
    refine zi_ifB_eq (tgt := 37) dX11_taken_22 (by decide) (fun c22 => ?_) (fun c22 => ?_)
    · refine zi_iconst (v := (-1)) dX11_taken_37 (by decide) ?_
      refine zi_retI rfl rfl dX11_taken_38 ?_
      rfl
    · refine zi_iload_n dX11_taken_25 (i := 3) rfl 0 rfl ?_
      refine zi_if_ne (tgt := 39) dX11_taken_26 (by decide) (fun c26 => False.elim (by first | exact absurd nI_0 c26 | (rw [c22, show zin t (nI 10) (nI 14) = true from zin_t c3 (z1514 c9)] at hB; simp at hB))) (fun c26 => ?_)
      refine zi_iload_n dX11_taken_29 (i := 2) rfl 3 rfl ?_
      refine zi_iconst (v := nI 5) dX11_taken_30 (by decide) ?_
      refine zcI (zc_S (as := [.int t, .int (nI 5)]) lk_X11_86 ce_X11_isFrom0To dX11_taken_31 (by decide) rfl rfl (Nat.le_of_ble_eq_true rfl)) ok_X11_isFrom0To ?_
      refine zi_ifB_ne (tgt := 39) dX11_taken_34 (by decide) (fun c34 => False.elim (by first | exact absurd c26 (by decide) | (rw [c22, c34] at hB; simp at hB))) (fun c34 => ?_)
      refine zi_iconst (v := (-1)) dX11_taken_37 (by decide) ?_
      refine zi_retI rfl rfl dX11_taken_38 ?_
      rfl
  · refine zi_iload_n dX11_taken_6 (i := 2) rfl 2 rfl ?_
    refine zi_bipush (v := nI 15) dX11_taken_7 (by decide) ?_
    refine zi_icmp_ge (tgt := 16) dX11_taken_9 (by decide) (fun c9 => ?_) (fun c9 => ?_)
    · refine zi_iconst (v := nI 0) dX11_taken_16 (by decide) ?_
      refine zi_top (y := nI 0) rfl ?_
      refine zi_istore_n (L' := [(3, .int (nI 0)), (0, .ref 0), (1, .int k), (2, .int t)]) dX11_taken_17 (i := 3) rfl (by decide) rfl ?_
      refine zi_iload_n dX11_taken_18 (i := 1) rfl 2 rfl ?_
      refine zcI (zc_S (as := [.int k]) lk_X11_314 ce_X11_isShelf dX11_taken_19 (by decide) rfl rfl (Nat.le_of_ble_eq_true rfl)) ok_X11_isShelf ?_
      refine zi_ifB_eq (tgt := 37) dX11_taken_22 (by decide) (fun c22 => ?_) (fun c22 => ?_)
      · refine zi_iconst (v := (-1)) dX11_taken_37 (by decide) ?_
        refine zi_retI rfl rfl dX11_taken_38 ?_
        rfl
      · refine zi_iload_n dX11_taken_25 (i := 3) rfl 0 rfl ?_
        refine zi_if_ne (tgt := 39) dX11_taken_26 (by decide) (fun c26 => False.elim (by first | exact absurd nI_0 c26 | (rw [c22, show zin t (nI 10) (nI 14) = true from zin_t c3 (z1514 c9)] at hB; simp at hB))) (fun c26 => ?_)
        refine zi_iload_n dX11_taken_29 (i := 2) rfl 3 rfl ?_
        refine zi_iconst (v := nI 5) dX11_taken_30 (by decide) ?_
        refine zcI (zc_S (as := [.int t, .int (nI 5)]) lk_X11_86 ce_X11_isFrom0To dX11_taken_31 (by decide) rfl rfl (Nat.le_of_ble_eq_true rfl)) ok_X11_isFrom0To ?_
        refine zi_ifB_ne (tgt := 39) dX11_taken_34 (by decide) (fun c34 => False.elim (by first | exact absurd c26 (by decide) | (rw [c22, c34] at hB; simp at hB))) (fun c34 => ?_)
        refine zi_iconst (v := (-1)) dX11_taken_37 (by decide) ?_
        refine zi_retI rfl rfl dX11_taken_38 ?_
        rfl
    · refine zi_iconst (v := nI 1) dX11_taken_12 (by decide) ?_
      refine zi_top (y := nI 1) rfl ?_
      refine zi_goto (tgt := 17) dX11_taken_13 (by decide) ?_
      refine zi_istore_n (L' := [(3, .int (nI 1)), (0, .ref 0), (1, .int k), (2, .int t)]) dX11_taken_17 (i := 3) rfl (by decide) rfl ?_
      refine zi_iload_n dX11_taken_18 (i := 1) rfl 2 rfl ?_
      refine zcI (zc_S (as := [.int k]) lk_X11_314 ce_X11_isShelf dX11_taken_19 (by decide) rfl rfl (Nat.le_of_ble_eq_true rfl)) ok_X11_isShelf ?_
      refine zi_ifB_eq (tgt := 37) dX11_taken_22 (by decide) (fun c22 => ?_) (fun c22 => ?_)
      · refine zi_iconst (v := (-1)) dX11_taken_37 (by decide) ?_
        refine zi_retI rfl rfl dX11_taken_38 ?_
        rfl
      · refine zi_iload_n dX11_taken_25 (i := 3) rfl 0 rfl ?_
        refine zi_if_ne (tgt := 39) dX11_taken_26 (by decide) (fun c26 => False.elim (by first | exact absurd nI_0 c26 | (rw [c22, show zin t (nI 10) (nI 14) = true from zin_t c3 (z1514 c9)] at hB; simp at hB))) (fun c26 => ?_)
        refine zi_iload_n dX11_taken_29 (i := 2) rfl 3 rfl ?_
        refine zi_iconst (v := nI 5) dX11_taken_30 (by decide) ?_
        refine zcI (zc_S (as := [.int t, .int (nI 5)]) lk_X11_86 ce_X11_isFrom0To dX11_taken_31 (by decide) rfl rfl (Nat.le_of_ble_eq_true rfl)) ok_X11_isFrom0To ?_
        refine zi_ifB_ne (tgt := 39) dX11_taken_34 (by decide) (fun c34 => False.elim (by first | exact absurd c26 (by decide) | (rw [c22, c34] at hB; simp at hB))) (fun c34 => ?_)
        refine zi_iconst (v := (-1)) dX11_taken_37 (by decide) ?_
        refine zi_retI rfl rfl dX11_taken_38 ?_
        rfl
set_option maxRecDepth 100000 in
set_option maxHeartbeats 4000000 in
theorem none_X12_goAll {M : zMem} {a q : Nat} {x : Int32} {so sz : Nat → Nat} (hsh : zSh so sz M) (h1 : a < 4) (hqq : q ≤ 20) (hso1 : so a = 0) : zOkI zw1 7 mX12_goAll [.ref 0, .int (nI a), .int x, .int (nI q)] M (-11) := by
  obtain ⟨-, -, hso, hsz⟩ := hsh a h1
  refine zOk_of (by decide +kernel) (fun _ => Nat.le_of_ble_eq_true rfl) (L := [(0, .ref 0), (1, .int (nI a)), (2, .int x), (3, .int (nI q))]) rfl ?_
  refine zi_iload_n dX12_goAll_0 (i := 1) rfl 1 rfl ?_
  refine zcI (zc_S (as := [.int (nI a)]) lk_X12_329 ce_X12_isSheet dX12_goAll_1 (by decide) rfl rfl (Nat.le_of_ble_eq_true rfl)) (zOkI_eq ok_X12_isSheet (zinT (by omega) (by omega) (by decide))) ?_
  refine zi_ifN_eq (by decide) (tgt := 17) dX12_goAll_4 (by decide) (fun c => absurd c (by decide)) (fun _ => ?_)
  refine zi_iload_n dX12_goAll_7 (i := 3) rfl 3 rfl ?_
  refine zi_iconst (v := nI 0) dX12_goAll_8 (by decide) ?_
  refine zi_bipush (v := nI 20) dX12_goAll_9 (by decide) ?_
  refine zcI (zc_S (as := [.int (nI q), .int (nI 0), .int (nI 20)]) lk_X12_71 ce_X12_in1 dX12_goAll_11 (by decide) rfl rfl (Nat.le_of_ble_eq_true rfl)) (zOkI_eq ok_X12_in1 (zinT (by omega) (by omega) (by decide))) ?_
  refine zi_ifN_ne (by decide) (tgt := 19) dX12_goAll_14 (by decide) (fun _ => ?_) (fun c => absurd c (by decide))
  refine zi_aload_n dX12_goAll_19 (i := 0) rfl 0 rfl ?_
  refine zi_iload_n dX12_goAll_20 (i := 1) rfl 1 rfl ?_
  refine zi_iconst (v := nI 0) dX12_goAll_21 (by decide) ?_
  refine zcI (zc_V (as := [.int (nI a), .int (nI 0)]) lk_X12_335 ce_X12_lacks cw1_0 rfl rfl dX12_goAll_22 (by decide) rfl rfl (Nat.le_of_ble_eq_true rfl)) (zOkI_eq (ok_X12_lacks hsh h1 (Nat.zero_le 4)) (by rw [if_pos hso1])) ?_
  refine zi_istore (L' := [(4, .int (-11)), (0, .ref 0), (1, .int (nI a)), (2, .int x), (3, .int (nI q))]) dX12_goAll_25 (by decide) rfl ?_
  refine zi_iload dX12_goAll_27 0 rfl ?_
  refine zi_if_eq (tgt := 35) dX12_goAll_29 (by decide) (fun c29 => False.elim (by exact absurd c29 (by decide))) (fun c29 => ?_)
  refine zi_iload dX12_goAll_32 0 rfl ?_
  refine zi_retI rfl rfl dX12_goAll_34 ?_
  rfl
set_option maxRecDepth 100000 in
set_option maxHeartbeats 4000000 in
theorem none_X12_wouldBe {M : zMem} {a q : Nat} {x : Int32} {so sz : Nat → Nat} (hsh : zSh so sz M) (h1 : a < 4) (hqq : q ≤ 20) (hso1 : so a = 0) : zOkJ zw1 7 mX12_wouldBe [.ref 0, .int (nI a), .int x, .int (nI q)] M (fun r M' => r = (-11) ∧ zFr [3, 4] M M') := by
  obtain ⟨-, -, hso, hsz⟩ := hsh a h1
  refine zOk_of (by decide +kernel) (fun _ => Nat.le_of_ble_eq_true rfl) (L := [(0, .ref 0), (1, .int (nI a)), (2, .int x), (3, .int (nI q))]) rfl ?_
  refine zi_iload_n dX12_wouldBe_0 (i := 1) rfl 1 rfl ?_
  refine zcI (zc_S (as := [.int (nI a)]) lk_X12_329 ce_X12_isSheet dX12_wouldBe_1 (by decide) rfl rfl (Nat.le_of_ble_eq_true rfl)) (zOkI_eq ok_X12_isSheet (zinT (by omega) (by omega) (by decide))) ?_
  refine zi_ifN_eq (by decide) (tgt := 17) dX12_wouldBe_4 (by decide) (fun c => absurd c (by decide)) (fun _ => ?_)
  refine zi_iload_n dX12_wouldBe_7 (i := 3) rfl 3 rfl ?_
  refine zi_iconst (v := nI 0) dX12_wouldBe_8 (by decide) ?_
  refine zi_bipush (v := nI 20) dX12_wouldBe_9 (by decide) ?_
  refine zcI (zc_S (as := [.int (nI q), .int (nI 0), .int (nI 20)]) lk_X12_71 ce_X12_in1 dX12_wouldBe_11 (by decide) rfl rfl (Nat.le_of_ble_eq_true rfl)) (zOkI_eq ok_X12_in1 (zinT (by omega) (by omega) (by decide))) ?_
  refine zi_ifN_ne (by decide) (tgt := 19) dX12_wouldBe_14 (by decide) (fun _ => ?_) (fun c => absurd c (by decide))
  refine zi_aload_n dX12_wouldBe_19 (i := 0) rfl 0 rfl ?_
  refine zi_iload_n dX12_wouldBe_20 (i := 1) rfl 1 rfl ?_
  refine zi_iconst (v := nI 0) dX12_wouldBe_21 (by decide) ?_
  refine zcI (zc_V (as := [.int (nI a), .int (nI 0)]) lk_X12_335 ce_X12_lacks cw1_0 rfl rfl dX12_wouldBe_22 (by decide) rfl rfl (Nat.le_of_ble_eq_true rfl)) (zOkI_eq (ok_X12_lacks hsh h1 (Nat.zero_le 4)) (by rw [if_pos hso1])) ?_
  refine zi_istore (L' := [(4, .int (-11)), (0, .ref 0), (1, .int (nI a)), (2, .int x), (3, .int (nI q))]) dX12_wouldBe_25 (by decide) rfl ?_
  refine zi_iconst (v := nI 0) dX12_wouldBe_27 (by decide) ?_
  refine zi_istore (L' := [(5, .int (nI 0)), (4, .int (-11)), (0, .ref 0), (1, .int (nI a)), (2, .int x), (3, .int (nI q))]) dX12_wouldBe_28 (by decide) rfl ?_
  refine zi_aload_n dX12_wouldBe_30 (i := 0) rfl 2 rfl ?_
  refine zcV (zc_V (as := []) lk_X12_235 ce_X12_layDown cw1_0 rfl rfl dX12_wouldBe_31 (by decide) rfl rfl (Nat.le_of_ble_eq_true rfl)) ok_X12_layDown (fun M31 h31 => ?_)
  refine zi_iconst (v := nI 0) dX12_wouldBe_34 (by decide) ?_
  refine zi_istore (L' := [(6, .int (nI 0)), (5, .int (nI 0)), (4, .int (-11)), (0, .ref 0), (1, .int (nI a)), (2, .int x), (3, .int (nI q))]) dX12_wouldBe_35 (by decide) rfl ?_
  refine zi_iload dX12_wouldBe_37 0 rfl ?_
  refine zi_iload_n dX12_wouldBe_39 (i := 3) rfl 6 rfl ?_
  refine zi_icmpN_ge (by decide) (by  omega) (tgt := 145) dX12_wouldBe_40 (by decide) (fun c40 => ?_) (fun c40 => ?_)
  · refine zi_aload_n dX12_wouldBe_145 (i := 0) rfl 3 rfl ?_
    refine zcV (zc_V (as := []) lk_X12_241 ce_X12_layBack cw1_0 rfl rfl dX12_wouldBe_146 (by decide) rfl rfl (Nat.le_of_ble_eq_true rfl)) ok_X12_layBack (fun M146 h146 => ?_)
    refine zi_iload dX12_wouldBe_149 2 rfl ?_
    refine zi_if_eq (tgt := 159) dX12_wouldBe_151 (by decide) (fun c151 => False.elim (by exact absurd c151 (by decide))) (fun c151 => ?_)
    refine zi_iload dX12_wouldBe_154 2 rfl ?_
    refine zi_goto (tgt := 161) dX12_wouldBe_156 (by decide) ?_
    refine zi_retJ rfl rfl dX12_wouldBe_161 ?_
    exact ⟨rfl, zlb0 h31 h146⟩
  · refine zi_iload dX12_wouldBe_43 2 rfl ?_
    refine zi_if_ne (tgt := 145) dX12_wouldBe_45 (by decide) (fun c45 => ?_) (fun c45 => False.elim (by exact absurd c45 (by decide)))
    refine zi_aload_n dX12_wouldBe_145 (i := 0) rfl 3 rfl ?_
    refine zcV (zc_V (as := []) lk_X12_241 ce_X12_layBack cw1_0 rfl rfl dX12_wouldBe_146 (by decide) rfl rfl (Nat.le_of_ble_eq_true rfl)) ok_X12_layBack (fun M146 h146 => ?_)
    refine zi_iload dX12_wouldBe_149 2 rfl ?_
    refine zi_if_eq (tgt := 159) dX12_wouldBe_151 (by decide) (fun c151 => False.elim (by exact absurd c151 (by decide))) (fun c151 => ?_)
    refine zi_iload dX12_wouldBe_154 2 rfl ?_
    refine zi_goto (tgt := 161) dX12_wouldBe_156 (by decide) ?_
    refine zi_retJ rfl rfl dX12_wouldBe_161 ?_
    exact ⟨rfl, zlb0 h31 h146⟩
set_option maxRecDepth 100000 in
set_option maxHeartbeats 4000000 in
theorem other_X12_goAll {M : zMem} {a q : Nat} {x : Int32} {so sz : Nat → Nat} (hsh : zSh so sz M) (h1 : a < 4) (hqq : q ≤ 20) (hso1 : so a ≠ 0) (hso2 : so a ≠ 1) : zOkI zw1 7 mX12_goAll [.ref 0, .int (nI a), .int x, .int (nI q)] M (-13) := by
  obtain ⟨-, -, hso, hsz⟩ := hsh a h1
  refine zOk_of (by decide +kernel) (fun _ => Nat.le_of_ble_eq_true rfl) (L := [(0, .ref 0), (1, .int (nI a)), (2, .int x), (3, .int (nI q))]) rfl ?_
  refine zi_iload_n dX12_goAll_0 (i := 1) rfl 1 rfl ?_
  refine zcI (zc_S (as := [.int (nI a)]) lk_X12_329 ce_X12_isSheet dX12_goAll_1 (by decide) rfl rfl (Nat.le_of_ble_eq_true rfl)) (zOkI_eq ok_X12_isSheet (zinT (by omega) (by omega) (by decide))) ?_
  refine zi_ifN_eq (by decide) (tgt := 17) dX12_goAll_4 (by decide) (fun c => absurd c (by decide)) (fun _ => ?_)
  refine zi_iload_n dX12_goAll_7 (i := 3) rfl 3 rfl ?_
  refine zi_iconst (v := nI 0) dX12_goAll_8 (by decide) ?_
  refine zi_bipush (v := nI 20) dX12_goAll_9 (by decide) ?_
  refine zcI (zc_S (as := [.int (nI q), .int (nI 0), .int (nI 20)]) lk_X12_71 ce_X12_in1 dX12_goAll_11 (by decide) rfl rfl (Nat.le_of_ble_eq_true rfl)) (zOkI_eq ok_X12_in1 (zinT (by omega) (by omega) (by decide))) ?_
  refine zi_ifN_ne (by decide) (tgt := 19) dX12_goAll_14 (by decide) (fun _ => ?_) (fun c => absurd c (by decide))
  refine zi_aload_n dX12_goAll_19 (i := 0) rfl 0 rfl ?_
  refine zi_iload_n dX12_goAll_20 (i := 1) rfl 1 rfl ?_
  refine zi_iconst (v := nI 0) dX12_goAll_21 (by decide) ?_
  refine zcI (zc_V (as := [.int (nI a), .int (nI 0)]) lk_X12_335 ce_X12_lacks cw1_0 rfl rfl dX12_goAll_22 (by decide) rfl rfl (Nat.le_of_ble_eq_true rfl)) (zOkI_eq (ok_X12_lacks hsh h1 (Nat.zero_le 4)) (by rw [if_neg hso1, if_neg (by omega)])) ?_
  refine zi_istore (L' := [(4, .int (-13)), (0, .ref 0), (1, .int (nI a)), (2, .int x), (3, .int (nI q))]) dX12_goAll_25 (by decide) rfl ?_
  refine zi_iload dX12_goAll_27 0 rfl ?_
  refine zi_if_eq (tgt := 35) dX12_goAll_29 (by decide) (fun c29 => False.elim (by exact absurd c29 (by decide))) (fun c29 => ?_)
  refine zi_iload dX12_goAll_32 0 rfl ?_
  refine zi_retI rfl rfl dX12_goAll_34 ?_
  rfl
set_option maxRecDepth 100000 in
set_option maxHeartbeats 4000000 in
theorem other_X12_wouldBe {M : zMem} {a q : Nat} {x : Int32} {so sz : Nat → Nat} (hsh : zSh so sz M) (h1 : a < 4) (hqq : q ≤ 20) (hso1 : so a ≠ 0) (hso2 : so a ≠ 1) : zOkJ zw1 7 mX12_wouldBe [.ref 0, .int (nI a), .int x, .int (nI q)] M (fun r M' => r = (-13) ∧ zFr [3, 4] M M') := by
  obtain ⟨-, -, hso, hsz⟩ := hsh a h1
  refine zOk_of (by decide +kernel) (fun _ => Nat.le_of_ble_eq_true rfl) (L := [(0, .ref 0), (1, .int (nI a)), (2, .int x), (3, .int (nI q))]) rfl ?_
  refine zi_iload_n dX12_wouldBe_0 (i := 1) rfl 1 rfl ?_
  refine zcI (zc_S (as := [.int (nI a)]) lk_X12_329 ce_X12_isSheet dX12_wouldBe_1 (by decide) rfl rfl (Nat.le_of_ble_eq_true rfl)) (zOkI_eq ok_X12_isSheet (zinT (by omega) (by omega) (by decide))) ?_
  refine zi_ifN_eq (by decide) (tgt := 17) dX12_wouldBe_4 (by decide) (fun c => absurd c (by decide)) (fun _ => ?_)
  refine zi_iload_n dX12_wouldBe_7 (i := 3) rfl 3 rfl ?_
  refine zi_iconst (v := nI 0) dX12_wouldBe_8 (by decide) ?_
  refine zi_bipush (v := nI 20) dX12_wouldBe_9 (by decide) ?_
  refine zcI (zc_S (as := [.int (nI q), .int (nI 0), .int (nI 20)]) lk_X12_71 ce_X12_in1 dX12_wouldBe_11 (by decide) rfl rfl (Nat.le_of_ble_eq_true rfl)) (zOkI_eq ok_X12_in1 (zinT (by omega) (by omega) (by decide))) ?_
  refine zi_ifN_ne (by decide) (tgt := 19) dX12_wouldBe_14 (by decide) (fun _ => ?_) (fun c => absurd c (by decide))
  refine zi_aload_n dX12_wouldBe_19 (i := 0) rfl 0 rfl ?_
  refine zi_iload_n dX12_wouldBe_20 (i := 1) rfl 1 rfl ?_
  refine zi_iconst (v := nI 0) dX12_wouldBe_21 (by decide) ?_
  refine zcI (zc_V (as := [.int (nI a), .int (nI 0)]) lk_X12_335 ce_X12_lacks cw1_0 rfl rfl dX12_wouldBe_22 (by decide) rfl rfl (Nat.le_of_ble_eq_true rfl)) (zOkI_eq (ok_X12_lacks hsh h1 (Nat.zero_le 4)) (by rw [if_neg hso1, if_neg (by omega)])) ?_
  refine zi_istore (L' := [(4, .int (-13)), (0, .ref 0), (1, .int (nI a)), (2, .int x), (3, .int (nI q))]) dX12_wouldBe_25 (by decide) rfl ?_
  refine zi_iconst (v := nI 0) dX12_wouldBe_27 (by decide) ?_
  refine zi_istore (L' := [(5, .int (nI 0)), (4, .int (-13)), (0, .ref 0), (1, .int (nI a)), (2, .int x), (3, .int (nI q))]) dX12_wouldBe_28 (by decide) rfl ?_
  refine zi_aload_n dX12_wouldBe_30 (i := 0) rfl 2 rfl ?_
  refine zcV (zc_V (as := []) lk_X12_235 ce_X12_layDown cw1_0 rfl rfl dX12_wouldBe_31 (by decide) rfl rfl (Nat.le_of_ble_eq_true rfl)) ok_X12_layDown (fun M31 h31 => ?_)
  refine zi_iconst (v := nI 0) dX12_wouldBe_34 (by decide) ?_
  refine zi_istore (L' := [(6, .int (nI 0)), (5, .int (nI 0)), (4, .int (-13)), (0, .ref 0), (1, .int (nI a)), (2, .int x), (3, .int (nI q))]) dX12_wouldBe_35 (by decide) rfl ?_
  refine zi_iload dX12_wouldBe_37 0 rfl ?_
  refine zi_iload_n dX12_wouldBe_39 (i := 3) rfl 6 rfl ?_
  refine zi_icmpN_ge (by decide) (by  omega) (tgt := 145) dX12_wouldBe_40 (by decide) (fun c40 => ?_) (fun c40 => ?_)
  · refine zi_aload_n dX12_wouldBe_145 (i := 0) rfl 3 rfl ?_
    refine zcV (zc_V (as := []) lk_X12_241 ce_X12_layBack cw1_0 rfl rfl dX12_wouldBe_146 (by decide) rfl rfl (Nat.le_of_ble_eq_true rfl)) ok_X12_layBack (fun M146 h146 => ?_)
    refine zi_iload dX12_wouldBe_149 2 rfl ?_
    refine zi_if_eq (tgt := 159) dX12_wouldBe_151 (by decide) (fun c151 => False.elim (by exact absurd c151 (by decide))) (fun c151 => ?_)
    refine zi_iload dX12_wouldBe_154 2 rfl ?_
    refine zi_goto (tgt := 161) dX12_wouldBe_156 (by decide) ?_
    refine zi_retJ rfl rfl dX12_wouldBe_161 ?_
    exact ⟨rfl, zlb0 h31 h146⟩
  · refine zi_iload dX12_wouldBe_43 2 rfl ?_
    refine zi_if_ne (tgt := 145) dX12_wouldBe_45 (by decide) (fun c45 => ?_) (fun c45 => False.elim (by exact absurd c45 (by decide)))
    refine zi_aload_n dX12_wouldBe_145 (i := 0) rfl 3 rfl ?_
    refine zcV (zc_V (as := []) lk_X12_241 ce_X12_layBack cw1_0 rfl rfl dX12_wouldBe_146 (by decide) rfl rfl (Nat.le_of_ble_eq_true rfl)) ok_X12_layBack (fun M146 h146 => ?_)
    refine zi_iload dX12_wouldBe_149 2 rfl ?_
    refine zi_if_eq (tgt := 159) dX12_wouldBe_151 (by decide) (fun c151 => False.elim (by exact absurd c151 (by decide))) (fun c151 => ?_)
    refine zi_iload dX12_wouldBe_154 2 rfl ?_
    refine zi_goto (tgt := 161) dX12_wouldBe_156 (by decide) ?_
    refine zi_retJ rfl rfl dX12_wouldBe_161 ?_
    exact ⟨rfl, zlb0 h31 h146⟩
set_option maxRecDepth 100000 in
set_option maxHeartbeats 4000000 in
theorem zero_X12_goAll {M : zMem} {a : Nat} {x : Int32} {so sz : Nat → Nat} (hsh : zSh so sz M) (h1 : a < 4) (hso1 : so a = 1) : zOkI zw1 7 mX12_goAll [.ref 0, .int (nI a), .int x, .int (nI 0)] M (nI 0) := by
  obtain ⟨-, -, hso, hsz⟩ := hsh a h1
  refine zOk_of (by decide +kernel) (fun _ => Nat.le_of_ble_eq_true rfl) (L := [(0, .ref 0), (1, .int (nI a)), (2, .int x), (3, .int (nI 0))]) rfl ?_
  refine zi_iload_n dX12_goAll_0 (i := 1) rfl 1 rfl ?_
  refine zcI (zc_S (as := [.int (nI a)]) lk_X12_329 ce_X12_isSheet dX12_goAll_1 (by decide) rfl rfl (Nat.le_of_ble_eq_true rfl)) (zOkI_eq ok_X12_isSheet (zinT (by omega) (by omega) (by decide))) ?_
  refine zi_ifN_eq (by decide) (tgt := 17) dX12_goAll_4 (by decide) (fun c => absurd c (by decide)) (fun _ => ?_)
  refine zi_iload_n dX12_goAll_7 (i := 3) rfl 3 rfl ?_
  refine zi_iconst (v := nI 0) dX12_goAll_8 (by decide) ?_
  refine zi_bipush (v := nI 20) dX12_goAll_9 (by decide) ?_
  refine zcI (zc_S (as := [.int (nI 0), .int (nI 0), .int (nI 20)]) lk_X12_71 ce_X12_in1 dX12_goAll_11 (by decide) rfl rfl (Nat.le_of_ble_eq_true rfl)) (zOkI_eq ok_X12_in1 (zinT (by omega) (by omega) (by decide))) ?_
  refine zi_ifN_ne (by decide) (tgt := 19) dX12_goAll_14 (by decide) (fun _ => ?_) (fun c => absurd c (by decide))
  refine zi_aload_n dX12_goAll_19 (i := 0) rfl 0 rfl ?_
  refine zi_iload_n dX12_goAll_20 (i := 1) rfl 1 rfl ?_
  refine zi_iconst (v := nI 0) dX12_goAll_21 (by decide) ?_
  refine zcI (zc_V (as := [.int (nI a), .int (nI 0)]) lk_X12_335 ce_X12_lacks cw1_0 rfl rfl dX12_goAll_22 (by decide) rfl rfl (Nat.le_of_ble_eq_true rfl)) (zOkI_eq (ok_X12_lacks hsh h1 (Nat.zero_le 4)) (by rw [if_neg (by omega), if_pos (by omega)])) ?_
  refine zi_istore (L' := [(4, .int (nI 0)), (0, .ref 0), (1, .int (nI a)), (2, .int x), (3, .int (nI 0))]) dX12_goAll_25 (by decide) rfl ?_
  refine zi_iload dX12_goAll_27 0 rfl ?_
  refine zi_ifN_eq (by decide) (tgt := 35) dX12_goAll_29 (by decide) (fun _ => ?_) (fun c => absurd c (by decide))
  refine zi_iconst (v := nI 0) dX12_goAll_35 (by decide) ?_
  refine zi_istore (L' := [(5, .int (nI 0)), (4, .int (nI 0)), (0, .ref 0), (1, .int (nI a)), (2, .int x), (3, .int (nI 0))]) dX12_goAll_36 (by decide) rfl ?_
  refine zi_iconst (v := nI 0) dX12_goAll_38 (by decide) ?_
  refine zi_istore (L' := [(6, .int (nI 0)), (5, .int (nI 0)), (4, .int (nI 0)), (0, .ref 0), (1, .int (nI a)), (2, .int x), (3, .int (nI 0))]) dX12_goAll_39 (by decide) rfl ?_
  refine zi_iload dX12_goAll_41 0 rfl ?_
  refine zi_iload_n dX12_goAll_43 (i := 3) rfl 6 rfl ?_
  refine zi_icmpN_ge (by decide) (by decide) (tgt := 114) dX12_goAll_44 (by decide) (fun _ => ?_) (fun c => absurd c (by decide))
  refine zi_iload dX12_goAll_114 1 rfl ?_
  refine zi_retI rfl rfl dX12_goAll_116 ?_
  rfl
set_option maxRecDepth 100000 in
set_option maxHeartbeats 4000000 in
theorem out_X12_goAll {M : zMem} {a q : Nat} {x : Int32} {so sz : Nat → Nat} (hsh : zSh so sz M) (h1 : a < 4) (hqq : q + 1 ≤ 20) (hso1 : so a = 1) (hx : zin x (nI 0) (nI (sz a) - nI 1) = false) : zOkI zw1 7 mX12_goAll [.ref 0, .int (nI a), .int x, .int (nI (q + 1))] M (-12) := by
  obtain ⟨-, -, hso, hsz⟩ := hsh a h1
  refine zOk_of (by decide +kernel) (fun _ => Nat.le_of_ble_eq_true rfl) (L := [(0, .ref 0), (1, .int (nI a)), (2, .int x), (3, .int (nI (q + 1)))]) rfl ?_
  refine zi_iload_n dX12_goAll_0 (i := 1) rfl 1 rfl ?_
  refine zcI (zc_S (as := [.int (nI a)]) lk_X12_329 ce_X12_isSheet dX12_goAll_1 (by decide) rfl rfl (Nat.le_of_ble_eq_true rfl)) (zOkI_eq ok_X12_isSheet (zinT (by omega) (by omega) (by decide))) ?_
  refine zi_ifN_eq (by decide) (tgt := 17) dX12_goAll_4 (by decide) (fun c => absurd c (by decide)) (fun _ => ?_)
  refine zi_iload_n dX12_goAll_7 (i := 3) rfl 3 rfl ?_
  refine zi_iconst (v := nI 0) dX12_goAll_8 (by decide) ?_
  refine zi_bipush (v := nI 20) dX12_goAll_9 (by decide) ?_
  refine zcI (zc_S (as := [.int (nI (q + 1)), .int (nI 0), .int (nI 20)]) lk_X12_71 ce_X12_in1 dX12_goAll_11 (by decide) rfl rfl (Nat.le_of_ble_eq_true rfl)) (zOkI_eq ok_X12_in1 (zinT (by omega) (by omega) (by decide))) ?_
  refine zi_ifN_ne (by decide) (tgt := 19) dX12_goAll_14 (by decide) (fun _ => ?_) (fun c => absurd c (by decide))
  refine zi_aload_n dX12_goAll_19 (i := 0) rfl 0 rfl ?_
  refine zi_iload_n dX12_goAll_20 (i := 1) rfl 1 rfl ?_
  refine zi_iconst (v := nI 0) dX12_goAll_21 (by decide) ?_
  refine zcI (zc_V (as := [.int (nI a), .int (nI 0)]) lk_X12_335 ce_X12_lacks cw1_0 rfl rfl dX12_goAll_22 (by decide) rfl rfl (Nat.le_of_ble_eq_true rfl)) (zOkI_eq (ok_X12_lacks hsh h1 (Nat.zero_le 4)) (by rw [if_neg (by omega), if_pos (by omega)])) ?_
  refine zi_istore (L' := [(4, .int (nI 0)), (0, .ref 0), (1, .int (nI a)), (2, .int x), (3, .int (nI (q + 1)))]) dX12_goAll_25 (by decide) rfl ?_
  refine zi_iload dX12_goAll_27 0 rfl ?_
  refine zi_ifN_eq (by decide) (tgt := 35) dX12_goAll_29 (by decide) (fun _ => ?_) (fun c => absurd c (by decide))
  refine zi_iconst (v := nI 0) dX12_goAll_35 (by decide) ?_
  refine zi_istore (L' := [(5, .int (nI 0)), (4, .int (nI 0)), (0, .ref 0), (1, .int (nI a)), (2, .int x), (3, .int (nI (q + 1)))]) dX12_goAll_36 (by decide) rfl ?_
  refine zi_iconst (v := nI 0) dX12_goAll_38 (by decide) ?_
  refine zi_istore (L' := [(6, .int (nI 0)), (5, .int (nI 0)), (4, .int (nI 0)), (0, .ref 0), (1, .int (nI a)), (2, .int x), (3, .int (nI (q + 1)))]) dX12_goAll_39 (by decide) rfl ?_
  refine zi_iload dX12_goAll_41 0 rfl ?_
  refine zi_iload_n dX12_goAll_43 (i := 3) rfl 6 rfl ?_
  refine zi_icmpN_ge (by decide) (by  omega) (tgt := 114) dX12_goAll_44 (by decide) (fun c44 => False.elim (by omega)) (fun c44 => ?_)
  refine zi_aload_n dX12_goAll_47 (i := 0) rfl 3 rfl ?_
  refine zi_iload_n dX12_goAll_48 (i := 1) rfl 4 rfl ?_
  refine zi_iload_n dX12_goAll_49 (i := 2) rfl 5 rfl ?_
  refine zi_iload dX12_goAll_50 0 rfl ?_
  refine zcI (zc_V (as := [.int (nI a), .int x, .int (nI 0)]) lk_X12_338 ce_X12_isItem cw1_0 rfl rfl dX12_goAll_52 (by decide) rfl rfl (Nat.le_of_ble_eq_true rfl)) (zOkI_eq (ok_X12_isItem hsh h1 (by decide)) (congrArg zb (zitem_out (hsh a h1).2.2.2 hx))) ?_
  refine zi_ifN_ne (by decide) (tgt := 61) dX12_goAll_55 (by decide) (fun c => absurd c (by decide)) (fun _ => ?_)
  refine zi_bipush (v := (-12)) dX12_goAll_58 (by decide) ?_
  refine zi_retI rfl rfl dX12_goAll_60 ?_
  rfl
set_option maxRecDepth 100000 in
set_option maxHeartbeats 4000000 in
theorem zero_X12_wouldBe {M : zMem} {a : Nat} {x : Int32} {so sz : Nat → Nat} (hsh : zSh so sz M) (h1 : a < 4) (hso1 : so a = 1) : zOkJ zw1 7 mX12_wouldBe [.ref 0, .int (nI a), .int x, .int (nI 0)] M (fun r M' => r = nI 0 ∧ zFr [3, 4] M M') := by
  obtain ⟨-, -, hso, hsz⟩ := hsh a h1
  refine zOk_of (by decide +kernel) (fun _ => Nat.le_of_ble_eq_true rfl) (L := [(0, .ref 0), (1, .int (nI a)), (2, .int x), (3, .int (nI 0))]) rfl ?_
  refine zi_iload_n dX12_wouldBe_0 (i := 1) rfl 1 rfl ?_
  refine zcI (zc_S (as := [.int (nI a)]) lk_X12_329 ce_X12_isSheet dX12_wouldBe_1 (by decide) rfl rfl (Nat.le_of_ble_eq_true rfl)) (zOkI_eq ok_X12_isSheet (zinT (by omega) (by omega) (by decide))) ?_
  refine zi_ifN_eq (by decide) (tgt := 17) dX12_wouldBe_4 (by decide) (fun c => absurd c (by decide)) (fun _ => ?_)
  refine zi_iload_n dX12_wouldBe_7 (i := 3) rfl 3 rfl ?_
  refine zi_iconst (v := nI 0) dX12_wouldBe_8 (by decide) ?_
  refine zi_bipush (v := nI 20) dX12_wouldBe_9 (by decide) ?_
  refine zcI (zc_S (as := [.int (nI 0), .int (nI 0), .int (nI 20)]) lk_X12_71 ce_X12_in1 dX12_wouldBe_11 (by decide) rfl rfl (Nat.le_of_ble_eq_true rfl)) (zOkI_eq ok_X12_in1 (zinT (by omega) (by omega) (by decide))) ?_
  refine zi_ifN_ne (by decide) (tgt := 19) dX12_wouldBe_14 (by decide) (fun _ => ?_) (fun c => absurd c (by decide))
  refine zi_aload_n dX12_wouldBe_19 (i := 0) rfl 0 rfl ?_
  refine zi_iload_n dX12_wouldBe_20 (i := 1) rfl 1 rfl ?_
  refine zi_iconst (v := nI 0) dX12_wouldBe_21 (by decide) ?_
  refine zcI (zc_V (as := [.int (nI a), .int (nI 0)]) lk_X12_335 ce_X12_lacks cw1_0 rfl rfl dX12_wouldBe_22 (by decide) rfl rfl (Nat.le_of_ble_eq_true rfl)) (zOkI_eq (ok_X12_lacks hsh h1 (Nat.zero_le 4)) (by rw [if_neg (by omega), if_pos (by omega)])) ?_
  refine zi_istore (L' := [(4, .int (nI 0)), (0, .ref 0), (1, .int (nI a)), (2, .int x), (3, .int (nI 0))]) dX12_wouldBe_25 (by decide) rfl ?_
  refine zi_iconst (v := nI 0) dX12_wouldBe_27 (by decide) ?_
  refine zi_istore (L' := [(5, .int (nI 0)), (4, .int (nI 0)), (0, .ref 0), (1, .int (nI a)), (2, .int x), (3, .int (nI 0))]) dX12_wouldBe_28 (by decide) rfl ?_
  refine zi_aload_n dX12_wouldBe_30 (i := 0) rfl 2 rfl ?_
  refine zcV (zc_V (as := []) lk_X12_235 ce_X12_layDown cw1_0 rfl rfl dX12_wouldBe_31 (by decide) rfl rfl (Nat.le_of_ble_eq_true rfl)) ok_X12_layDown (fun M31 h31 => ?_)
  have hsh2 : zSh so sz M31 := fun k hk4 => by rw [h31, zsetF_o _ _ (by decide), zsetF_o _ _ (by decide)]; exact hsh k hk4
  refine zi_iconst (v := nI 0) dX12_wouldBe_34 (by decide) ?_
  refine zi_istore (L' := [(6, .int (nI 0)), (5, .int (nI 0)), (4, .int (nI 0)), (0, .ref 0), (1, .int (nI a)), (2, .int x), (3, .int (nI 0))]) dX12_wouldBe_35 (by decide) rfl ?_
  refine zi_iload dX12_wouldBe_37 0 rfl ?_
  refine zi_iload_n dX12_wouldBe_39 (i := 3) rfl 6 rfl ?_
  refine zi_icmpN_ge (by decide) (by decide) (tgt := 145) dX12_wouldBe_40 (by decide) (fun _ => ?_) (fun c => absurd c (by decide))
  refine zi_aload_n dX12_wouldBe_145 (i := 0) rfl 3 rfl ?_
  refine zcV (zc_V (as := []) lk_X12_241 ce_X12_layBack cw1_0 rfl rfl dX12_wouldBe_146 (by decide) rfl rfl (Nat.le_of_ble_eq_true rfl)) ok_X12_layBack (fun M146 h146 => ?_)
  refine zi_iload dX12_wouldBe_149 2 rfl ?_
  refine zi_ifN_eq (by decide) (tgt := 159) dX12_wouldBe_151 (by decide) (fun _ => ?_) (fun c => absurd c (by decide))
  refine zi_iload dX12_wouldBe_159 1 rfl ?_
  refine zi_retJ rfl rfl dX12_wouldBe_161 ?_
  exact ⟨rfl, zlb0 h31 h146⟩
set_option maxRecDepth 100000 in
set_option maxHeartbeats 4000000 in
theorem out_X12_wouldBe {M : zMem} {a q : Nat} {x : Int32} {so sz : Nat → Nat} (hsh : zSh so sz M) (h1 : a < 4) (hqq : q + 1 ≤ 20) (hso1 : so a = 1) (hx : zin x (nI 0) (nI (sz a) - nI 1) = false) : zOkJ zw1 7 mX12_wouldBe [.ref 0, .int (nI a), .int x, .int (nI (q + 1))] M (fun r M' => r = (-12) ∧ zFr [3, 4] M M') := by
  obtain ⟨-, -, hso, hsz⟩ := hsh a h1
  refine zOk_of (by decide +kernel) (fun _ => Nat.le_of_ble_eq_true rfl) (L := [(0, .ref 0), (1, .int (nI a)), (2, .int x), (3, .int (nI (q + 1)))]) rfl ?_
  refine zi_iload_n dX12_wouldBe_0 (i := 1) rfl 1 rfl ?_
  refine zcI (zc_S (as := [.int (nI a)]) lk_X12_329 ce_X12_isSheet dX12_wouldBe_1 (by decide) rfl rfl (Nat.le_of_ble_eq_true rfl)) (zOkI_eq ok_X12_isSheet (zinT (by omega) (by omega) (by decide))) ?_
  refine zi_ifN_eq (by decide) (tgt := 17) dX12_wouldBe_4 (by decide) (fun c => absurd c (by decide)) (fun _ => ?_)
  refine zi_iload_n dX12_wouldBe_7 (i := 3) rfl 3 rfl ?_
  refine zi_iconst (v := nI 0) dX12_wouldBe_8 (by decide) ?_
  refine zi_bipush (v := nI 20) dX12_wouldBe_9 (by decide) ?_
  refine zcI (zc_S (as := [.int (nI (q + 1)), .int (nI 0), .int (nI 20)]) lk_X12_71 ce_X12_in1 dX12_wouldBe_11 (by decide) rfl rfl (Nat.le_of_ble_eq_true rfl)) (zOkI_eq ok_X12_in1 (zinT (by omega) (by omega) (by decide))) ?_
  refine zi_ifN_ne (by decide) (tgt := 19) dX12_wouldBe_14 (by decide) (fun _ => ?_) (fun c => absurd c (by decide))
  refine zi_aload_n dX12_wouldBe_19 (i := 0) rfl 0 rfl ?_
  refine zi_iload_n dX12_wouldBe_20 (i := 1) rfl 1 rfl ?_
  refine zi_iconst (v := nI 0) dX12_wouldBe_21 (by decide) ?_
  refine zcI (zc_V (as := [.int (nI a), .int (nI 0)]) lk_X12_335 ce_X12_lacks cw1_0 rfl rfl dX12_wouldBe_22 (by decide) rfl rfl (Nat.le_of_ble_eq_true rfl)) (zOkI_eq (ok_X12_lacks hsh h1 (Nat.zero_le 4)) (by rw [if_neg (by omega), if_pos (by omega)])) ?_
  refine zi_istore (L' := [(4, .int (nI 0)), (0, .ref 0), (1, .int (nI a)), (2, .int x), (3, .int (nI (q + 1)))]) dX12_wouldBe_25 (by decide) rfl ?_
  refine zi_iconst (v := nI 0) dX12_wouldBe_27 (by decide) ?_
  refine zi_istore (L' := [(5, .int (nI 0)), (4, .int (nI 0)), (0, .ref 0), (1, .int (nI a)), (2, .int x), (3, .int (nI (q + 1)))]) dX12_wouldBe_28 (by decide) rfl ?_
  refine zi_aload_n dX12_wouldBe_30 (i := 0) rfl 2 rfl ?_
  refine zcV (zc_V (as := []) lk_X12_235 ce_X12_layDown cw1_0 rfl rfl dX12_wouldBe_31 (by decide) rfl rfl (Nat.le_of_ble_eq_true rfl)) ok_X12_layDown (fun M31 h31 => ?_)
  have hsh2 : zSh so sz M31 := fun k hk4 => by rw [h31, zsetF_o _ _ (by decide), zsetF_o _ _ (by decide)]; exact hsh k hk4
  refine zi_iconst (v := nI 0) dX12_wouldBe_34 (by decide) ?_
  refine zi_istore (L' := [(6, .int (nI 0)), (5, .int (nI 0)), (4, .int (nI 0)), (0, .ref 0), (1, .int (nI a)), (2, .int x), (3, .int (nI (q + 1)))]) dX12_wouldBe_35 (by decide) rfl ?_
  refine zi_iload dX12_wouldBe_37 0 rfl ?_
  refine zi_iload_n dX12_wouldBe_39 (i := 3) rfl 6 rfl ?_
  refine zi_icmpN_ge (by decide) (by  omega) (tgt := 145) dX12_wouldBe_40 (by decide) (fun c40 => False.elim (by omega)) (fun c40 => ?_)
  refine zi_iload dX12_wouldBe_43 2 rfl ?_
  refine zi_ifN_ne (by decide) (tgt := 145) dX12_wouldBe_45 (by decide) (fun c => absurd c (by decide)) (fun _ => ?_)
  refine zi_aload_n dX12_wouldBe_48 (i := 0) rfl 3 rfl ?_
  refine zi_iload_n dX12_wouldBe_49 (i := 1) rfl 4 rfl ?_
  refine zi_iload_n dX12_wouldBe_50 (i := 2) rfl 5 rfl ?_
  refine zi_iload dX12_wouldBe_51 0 rfl ?_
  refine zcI (zc_V (as := [.int (nI a), .int x, .int (nI 0)]) lk_X12_338 ce_X12_isItem cw1_0 rfl rfl dX12_wouldBe_53 (by decide) rfl rfl (Nat.le_of_ble_eq_true rfl)) (zOkI_eq (ok_X12_isItem hsh2 h1 (by decide)) (congrArg zb (zitem_out (hsh2 a h1).2.2.2 hx))) ?_
  refine zi_ifN_eq (by decide) (tgt := 76) dX12_wouldBe_56 (by decide) (fun _ => ?_) (fun c => absurd c (by decide))
  refine zi_iconst (v := (-1)) dX12_wouldBe_76 (by decide) ?_
  refine zi_istore (L' := [(7, .int (-1)), (6, .int (nI 0)), (5, .int (nI 0)), (4, .int (nI 0)), (0, .ref 0), (1, .int (nI a)), (2, .int x), (3, .int (nI (q + 1)))]) dX12_wouldBe_77 (by decide) rfl ?_
  refine zi_aload_n dX12_wouldBe_79 (i := 0) rfl 4 rfl ?_
  refine zi_iload_n dX12_wouldBe_80 (i := 1) rfl 5 rfl ?_
  refine zi_iload_n dX12_wouldBe_81 (i := 2) rfl 6 rfl ?_
  refine zi_iload dX12_wouldBe_82 1 rfl ?_
  refine zcI (zc_V (as := [.int (nI a), .int x, .int (nI 0)]) lk_X12_338 ce_X12_isItem cw1_0 rfl rfl dX12_wouldBe_84 (by decide) rfl rfl (Nat.le_of_ble_eq_true rfl)) (zOkI_eq (ok_X12_isItem hsh2 h1 (by decide)) (congrArg zb (zitem_out (hsh2 a h1).2.2.2 hx))) ?_
  refine zi_ifN_ne (by decide) (tgt := 95) dX12_wouldBe_87 (by decide) (fun c => absurd c (by decide)) (fun _ => ?_)
  refine zi_bipush (v := (-12)) dX12_wouldBe_90 (by decide) ?_
  refine zi_goto (tgt := 117) dX12_wouldBe_92 (by decide) ?_
  refine zi_istore (L' := [(4, .int (-12)), (7, .int (-1)), (6, .int (nI 0)), (5, .int (nI 0)), (0, .ref 0), (1, .int (nI a)), (2, .int x), (3, .int (nI (q + 1)))]) dX12_wouldBe_117 (by decide) rfl ?_
  refine zi_iload dX12_wouldBe_119 3 rfl ?_
  refine zi_iload dX12_wouldBe_121 0 rfl ?_
  refine zi_if_ne (tgt := 135) dX12_wouldBe_123 (by decide) (fun c123 => ?_) (fun c123 => False.elim (by exact absurd c123 (by decide)))
  refine zi_iconst (v := nI 0) dX12_wouldBe_135 (by decide) ?_
  refine zi_iaddN dX12_wouldBe_136 ?_
  refine zi_top (y := nI 0) (congrArg nI (by omega)) ?_
  refine zi_istore (L' := [(5, .int (nI 0)), (4, .int (-12)), (7, .int (-1)), (6, .int (nI 0)), (0, .ref 0), (1, .int (nI a)), (2, .int x), (3, .int (nI (q + 1)))]) dX12_wouldBe_137 (by decide) rfl ?_
  refine zi_iincN (L' := [(6, .int (nI 1)), (5, .int (nI 0)), (4, .int (-12)), (7, .int (-1)), (0, .ref 0), (1, .int (nI a)), (2, .int x), (3, .int (nI (q + 1)))]) dX12_wouldBe_139 3 rfl (k := 1) (by decide) (by decide) rfl ?_
  refine zi_goto (tgt := 37) dX12_wouldBe_142 (by decide) ?_
  refine zi_iload dX12_wouldBe_37 0 rfl ?_
  refine zi_iload_n dX12_wouldBe_39 (i := 3) rfl 7 rfl ?_
  refine zi_icmpN_ge (by decide) (by  omega) (tgt := 145) dX12_wouldBe_40 (by decide) (fun c40 => ?_) (fun c40 => ?_)
  · refine zi_aload_n dX12_wouldBe_145 (i := 0) rfl 4 rfl ?_
    refine zcV (zc_V (as := []) lk_X12_241 ce_X12_layBack cw1_0 rfl rfl dX12_wouldBe_146 (by decide) rfl rfl (Nat.le_of_ble_eq_true rfl)) ok_X12_layBack (fun M146 h146 => ?_)
    refine zi_iload dX12_wouldBe_149 2 rfl ?_
    refine zi_if_eq (tgt := 159) dX12_wouldBe_151 (by decide) (fun c151 => False.elim (by exact absurd c151 (by decide))) (fun c151 => ?_)
    refine zi_iload dX12_wouldBe_154 2 rfl ?_
    refine zi_goto (tgt := 161) dX12_wouldBe_156 (by decide) ?_
    refine zi_retJ rfl rfl dX12_wouldBe_161 ?_
    exact ⟨rfl, zlb0 h31 h146⟩
  · refine zi_iload dX12_wouldBe_43 2 rfl ?_
    refine zi_if_ne (tgt := 145) dX12_wouldBe_45 (by decide) (fun c45 => ?_) (fun c45 => False.elim (by exact absurd c45 (by decide)))
    refine zi_aload_n dX12_wouldBe_145 (i := 0) rfl 4 rfl ?_
    refine zcV (zc_V (as := []) lk_X12_241 ce_X12_layBack cw1_0 rfl rfl dX12_wouldBe_146 (by decide) rfl rfl (Nat.le_of_ble_eq_true rfl)) ok_X12_layBack (fun M146 h146 => ?_)
    refine zi_iload dX12_wouldBe_149 2 rfl ?_
    refine zi_if_eq (tgt := 159) dX12_wouldBe_151 (by decide) (fun c151 => False.elim (by exact absurd c151 (by decide))) (fun c151 => ?_)
    refine zi_iload dX12_wouldBe_154 2 rfl ?_
    refine zi_goto (tgt := 161) dX12_wouldBe_156 (by decide) ?_
    refine zi_retJ rfl rfl dX12_wouldBe_161 ?_
    exact ⟨rfl, zlb0 h31 h146⟩
