theorem zVa_o {v c j : Nat} {x : Int32} {M : zMem} {σ : Nat → Nat} {R : List gRl} (h : zVa v M σ R) (hc : c < v ∨ v + 21 < c) : zVa v (zup M c j x) σ R :=
  ⟨zV_of h.1 (fun j _ _ => zr_c (by omega) rfl) (fun a h1 h2 => zup_other _ _ _ (by omega)), zRC_of h.2.1 (fun a h1 h2 => zup_other _ _ _ (by omega)), zRp_of h.2.2 (fun a h1 h2 => zup_other _ _ _ (by omega))⟩
set_option maxRecDepth 100000 in
set_option maxHeartbeats 4000000 in
theorem ok_X11_act0 {M : zMem} {σ : Nat → Nat} {R : List gRl} {a h : Nat} {x : Int32} (ha : zVa 14 M σ R) (hk : qOk σ) (h1 : a < 4) (hn : M 106 a = nI 0) (hm : M 107 a = nI h) (hh5 : h ≤ 5) (hh1 : h < σ 6) : zOkJ zw0 9 mX11_act [.ref 0, .int (nI a), .int (nI 0), .int x] M (fun r M' => ∃ b, r = qActX σ 0 h x ∧ zTk b (qActT σ 0 h) M M') := by
  have hv := ha.1
  have hb := hk.1
  have h66 := hk.2.1
  have hkk := hk.2.2.2.2.2.2.2.2.2.2.2.2 h (by omega)
  have ha0 := zVa_o (c := 0) (j := 15) (x := 0) ha (by decide)
  have hn0 : zup M 0 15 0 106 a = nI 0 := zr_c (by decide) hn
  have hm0 : zup M 0 15 0 107 a = nI h := zr_c (by decide) hm
  refine zOk_of (by decide +kernel) (fun _ => Nat.le_of_ble_eq_true rfl) (L := [(0, .ref 0), (1, .int (nI a)), (2, .int (nI 0)), (3, .int x)]) rfl ?_
  refine zi_aload_n dX11_act_0 (i := 0) rfl 0 rfl ?_
  refine zi_null dX11_act_1 ?_
  refine zi_putN fd_X11_323_X11 fp_X11_15 rfl cw0_0 rfl rfl dX11_act_2 ?_
  refine zi_iload_n dX11_act_5 (i := 1) rfl 1 rfl ?_
  refine zcI (zc_S (as := [.int (nI a)]) lk_X11_314 ce_X11_isShelf dX11_act_6 (by decide) rfl rfl (Nat.le_of_ble_eq_true rfl)) (zOkI_eq ok_X11_isShelf (zinT (by omega) (by omega) (by omega))) ?_
  refine zi_ifN_eq (by decide) (tgt := 20) dX11_act_9 (by decide) (fun c => absurd c (by decide)) (fun _ => ?_)
  refine zi_aload_n dX11_act_12 (i := 0) rfl 0 rfl ?_
  refine zi_iload_n dX11_act_13 (i := 1) rfl 1 rfl ?_
  refine zcI (zc_V (as := [.int (nI a)]) lk_X11_317 ce_X11_houseOn cw0_0 rfl rfl dX11_act_14 (by decide) rfl rfl (Nat.le_of_ble_eq_true rfl)) (zOkI_eq (ok_X11_houseOn ha0 hk h1 hn0 hm0 hh5) (if_pos hh1)) ?_
  refine zi_goto (tgt := 22) dX11_act_17 (by decide) ?_
  refine zi_istore (L' := [(4, .int (nI h)), (0, .ref 0), (1, .int (nI a)), (2, .int (nI 0)), (3, .int x)]) dX11_act_22 (by decide) rfl ?_
  refine zi_iload dX11_act_24 0 rfl ?_
  refine zi_bipush (v := (-3)) dX11_act_26 (by decide) ?_
  refine zi_icmp_eq (tgt := 39) dX11_act_28 (by decide) (fun c28 => False.elim (by exact nI_ne_n3 (by omega) c28)) (fun c28 => ?_)
  refine zi_iload_n dX11_act_31 (i := 2) rfl 3 rfl ?_
  refine zi_iconst (v := nI 3) dX11_act_32 (by decide) ?_
  refine zcI (zc_S (as := [.int (nI 0), .int (nI 3)]) lk_X11_86 ce_X11_isFrom0To dX11_act_33 (by decide) rfl rfl (Nat.le_of_ble_eq_true rfl)) (zOkI_eq ok_X11_isFrom0To (zinT (by omega) (by omega) (by omega))) ?_
  refine zi_ifN_ne (by decide) (tgt := 41) dX11_act_36 (by decide) (fun _ => ?_) (fun c => absurd c (by decide))
  refine zi_aload_n dX11_act_41 (i := 0) rfl 1 rfl ?_
  refine zi_getR fd_X11_25_X11 rfl cw0_0 rfl dX11_act_42 ?_
  refine zi_aload_n dX11_act_45 (i := 0) rfl 1 rfl ?_
  refine zi_getR fd_X11_34_X11 rfl cw0_0 rfl dX11_act_46 ?_
  refine zi_getR fd_X11_125_X10 rfl cw0_14 rfl dX11_act_49 ?_
  refine zi_iload dX11_act_52 0 rfl ?_
  refine zi_ialdN cw0_15 (by omega) (by decide) dX11_act_54 ?_
  refine zi_top (y := nI (σ (38 + 6 * h))) ((zr_c (by decide) ((zV_h hv (k := h) (by omega)).1))) ?_
  rcases (show σ (38 + 6 * h) = 0 ∨ σ (38 + 6 * h) = 1 ∨ σ (38 + 6 * h) = 2 ∨ σ (38 + 6 * h) = 3 ∨ σ (38 + 6 * h) = 4 ∨ σ (38 + 6 * h) = 5 from (by omega)) with e55 | e55 | e55 | e55 | e55 | e55
  · refine zi_top (y := nI 0) (congrArg nI e55) ?_
    refine zi_aaldN cw0_1 (by decide) (t := 2) rfl (by decide) dX11_act_55 ?_
    refine zi_astore (L' := [(5, .ref 2), (4, .int (nI h)), (0, .ref 0), (1, .int (nI a)), (2, .int (nI 0)), (3, .int x)]) dX11_act_56 (by decide) rfl ?_
    refine zi_aload_n dX11_act_58 (i := 0) rfl 2 rfl ?_
    refine zi_aload dX11_act_59 0 rfl ?_
    refine zi_putR fd_X11_323_X11 fp_X11_15 rfl cw0_0 rfl (by decide) (by decide) rfl dX11_act_61 ?_
    refine zi_aload dX11_act_64 0 rfl ?_
    refine zi_iload dX11_act_66 1 rfl ?_
    refine zi_aload_n dX11_act_68 (i := 0) rfl 2 rfl ?_
    refine zi_getR fd_X11_34_X11 rfl cw0_0 rfl dX11_act_69 ?_
    refine zi_getR fd_X11_225_X10 rfl cw0_14 rfl dX11_act_72 ?_
    refine zi_iload dX11_act_75 1 rfl ?_
    refine zi_ialdN cw0_18 (by omega) (by decide) dX11_act_77 ?_
    refine zi_top (y := nI (σ (38 + 6 * h + 3))) ((zr_c (by decide) (zr_c (by decide) ((zV_h hv (k := h) (by omega)).2.2.2.1)))) ?_
    refine zcV (zc_V (as := [.int (nI h), .int (nI (σ (38 + 6 * h + 3)))]) lk_X11_327 ce_X2_become cw0_2 rfl rfl dX11_act_78 (by decide) rfl rfl (Nat.le_of_ble_eq_true rfl)) ok_X2_become_2 (fun M78 h78 => ?_)
    have hbB : zHj 2 h (σ (38 + 6 * h + 3)) 0 M78 := by rw [h78]; exact zbc_h
    refine zi_iload_n dX11_act_81 (i := 2) rfl 4 rfl ?_
    refine zi_tableIn (off := 26) (tgt := 108) dX11_act_82 (by decide) (by decide) (by decide) (by decide) ?_
    refine zi_aload dX11_act_108 0 rfl ?_
    refine zi_iload_n dX11_act_110 (i := 3) rfl 5 rfl ?_
    refine zcJ (zc_V (as := [.int x]) lk_X11_331 ce_X2_knocks cw0_2 rfl rfl dX11_act_111 (by decide) rfl rfl (Nat.le_of_ble_eq_true rfl)) (kn_X2_knocks_2 hbB (by decide) (by omega) (by omega)) (fun x111 M111 h111 => ?_)
    obtain ⟨hrr, h111⟩ := h111
    have hp4 : M111 2 4 = nI 0 := by rw [h111]; exact (zHj_cs _ _ _ hbB).2.2.2
    refine zi_istore (L' := [(6, .int x111), (5, .ref 2), (4, .int (nI h)), (0, .ref 0), (1, .int (nI a)), (2, .int (nI 0)), (3, .int x)]) dX11_act_114 (by decide) rfl ?_
    refine zi_goto (tgt := 149) dX11_act_116 (by decide) ?_
    refine zi_aload dX11_act_149 1 rfl ?_
    refine zi_getI fd_X11_343_X2 rfl cw0_2 rfl dX11_act_151 ?_
    refine zi_top (y := nI 0) ((hp4)) ?_
    refine zi_ifN_eq (by decide) (tgt := 162) dX11_act_154 (by decide) (fun _ => ?_) (fun c => absurd c (by decide))
    refine zi_iload dX11_act_162 0 rfl ?_
    refine zi_retJ rfl rfl dX11_act_164 ?_
    refine ⟨2, ?_, ?_⟩
    · rw [hrr]; exact (actX_0_2 e55).symm
    · rw [actT_0_2 e55, h111]
      exact zTk_of (by decide) _ h78
  · refine zi_top (y := nI 1) (congrArg nI e55) ?_
    refine zi_aaldN cw0_1 (by decide) (t := 4) rfl (by decide) dX11_act_55 ?_
    refine zi_astore (L' := [(5, .ref 4), (4, .int (nI h)), (0, .ref 0), (1, .int (nI a)), (2, .int (nI 0)), (3, .int x)]) dX11_act_56 (by decide) rfl ?_
    refine zi_aload_n dX11_act_58 (i := 0) rfl 2 rfl ?_
    refine zi_aload dX11_act_59 0 rfl ?_
    refine zi_putR fd_X11_323_X11 fp_X11_15 rfl cw0_0 rfl (by decide) (by decide) rfl dX11_act_61 ?_
    refine zi_aload dX11_act_64 0 rfl ?_
    refine zi_iload dX11_act_66 1 rfl ?_
    refine zi_aload_n dX11_act_68 (i := 0) rfl 2 rfl ?_
    refine zi_getR fd_X11_34_X11 rfl cw0_0 rfl dX11_act_69 ?_
    refine zi_getR fd_X11_225_X10 rfl cw0_14 rfl dX11_act_72 ?_
    refine zi_iload dX11_act_75 1 rfl ?_
    refine zi_ialdN cw0_18 (by omega) (by decide) dX11_act_77 ?_
    refine zi_top (y := nI (σ (38 + 6 * h + 3))) ((zr_c (by decide) (zr_c (by decide) ((zV_h hv (k := h) (by omega)).2.2.2.1)))) ?_
    refine zcV (zc_U (as := [.int (nI h), .int (nI (σ (38 + 6 * h + 3)))]) lk_X11_327_X0 ce_X2_become (qC := (RX0, TX0, 5)) cw0_4 rfl dX11_act_78 (by decide) rfl rfl (Nat.le_of_ble_eq_true rfl)) ok_X2_become_4 (fun M78 h78 => ?_)
    have hbB : zHj 4 h (σ (38 + 6 * h + 3)) 0 M78 := by rw [h78]; exact zbc_h
    refine zi_iload_n dX11_act_81 (i := 2) rfl 4 rfl ?_
    refine zi_tableIn (off := 26) (tgt := 108) dX11_act_82 (by decide) (by decide) (by decide) (by decide) ?_
    refine zi_aload dX11_act_108 0 rfl ?_
    refine zi_iload_n dX11_act_110 (i := 3) rfl 5 rfl ?_
    refine zcJ (zc_O (as := [.int x]) lk_X11_331_X0 ce_X0_knocks (qC := (RX0, TX0, 5)) cw0_4 rfl dX11_act_111 (by decide) rfl rfl (Nat.le_of_ble_eq_true rfl)) (ok_X0_knocks_4 hbB (by decide) (by omega) (by omega)) (fun x111 M111 h111 => ?_)
    obtain ⟨hrr, h111⟩ := h111
    have hp4 : M111 4 4 = nI 0 := by rw [h111]; exact (zHj_cs _ _ _ hbB).2.2.2
    refine zi_istore (L' := [(6, .int x111), (5, .ref 4), (4, .int (nI h)), (0, .ref 0), (1, .int (nI a)), (2, .int (nI 0)), (3, .int x)]) dX11_act_114 (by decide) rfl ?_
    refine zi_goto (tgt := 149) dX11_act_116 (by decide) ?_
    refine zi_aload dX11_act_149 1 rfl ?_
    refine zi_getI fd_X11_343_X0 rfl cw0_4 rfl dX11_act_151 ?_
    refine zi_top (y := nI 0) ((hp4)) ?_
    refine zi_ifN_eq (by decide) (tgt := 162) dX11_act_154 (by decide) (fun _ => ?_) (fun c => absurd c (by decide))
    refine zi_iload dX11_act_162 0 rfl ?_
    refine zi_retJ rfl rfl dX11_act_164 ?_
    refine ⟨4, ?_, ?_⟩
    · rw [hrr]; exact (actX_0_4 e55).symm
    · rw [actT_0_4 e55, h111]
      exact zTk_of (by decide) _ h78
  · refine zi_top (y := nI 2) (congrArg nI e55) ?_
    refine zi_aaldN cw0_1 (by decide) (t := 6) rfl (by decide) dX11_act_55 ?_
    refine zi_astore (L' := [(5, .ref 6), (4, .int (nI h)), (0, .ref 0), (1, .int (nI a)), (2, .int (nI 0)), (3, .int x)]) dX11_act_56 (by decide) rfl ?_
    refine zi_aload_n dX11_act_58 (i := 0) rfl 2 rfl ?_
    refine zi_aload dX11_act_59 0 rfl ?_
    refine zi_putR fd_X11_323_X11 fp_X11_15 rfl cw0_0 rfl (by decide) (by decide) rfl dX11_act_61 ?_
    refine zi_aload dX11_act_64 0 rfl ?_
    refine zi_iload dX11_act_66 1 rfl ?_
    refine zi_aload_n dX11_act_68 (i := 0) rfl 2 rfl ?_
    refine zi_getR fd_X11_34_X11 rfl cw0_0 rfl dX11_act_69 ?_
    refine zi_getR fd_X11_225_X10 rfl cw0_14 rfl dX11_act_72 ?_
    refine zi_iload dX11_act_75 1 rfl ?_
    refine zi_ialdN cw0_18 (by omega) (by decide) dX11_act_77 ?_
    refine zi_top (y := nI (σ (38 + 6 * h + 3))) ((zr_c (by decide) (zr_c (by decide) ((zV_h hv (k := h) (by omega)).2.2.2.1)))) ?_
    refine zcV (zc_U (as := [.int (nI h), .int (nI (σ (38 + 6 * h + 3)))]) lk_X11_327_X8 ce_X2_become (qC := (RX8, TX8, 5)) cw0_6 rfl dX11_act_78 (by decide) rfl rfl (Nat.le_of_ble_eq_true rfl)) ok_X2_become_6 (fun M78 h78 => ?_)
    have hbB : zHj 6 h (σ (38 + 6 * h + 3)) 0 M78 := by rw [h78]; exact zbc_h
    refine zi_iload_n dX11_act_81 (i := 2) rfl 4 rfl ?_
    refine zi_tableIn (off := 26) (tgt := 108) dX11_act_82 (by decide) (by decide) (by decide) (by decide) ?_
    refine zi_aload dX11_act_108 0 rfl ?_
    refine zi_iload_n dX11_act_110 (i := 3) rfl 5 rfl ?_
    refine zcJ (zc_U (as := [.int x]) lk_X11_331_X8 ce_X2_knocks (qC := (RX8, TX8, 5)) cw0_6 rfl dX11_act_111 (by decide) rfl rfl (Nat.le_of_ble_eq_true rfl)) (kn_X2_knocks_6 hbB (by decide) (by omega) (by omega)) (fun x111 M111 h111 => ?_)
    obtain ⟨hrr, h111⟩ := h111
    have hp4 : M111 6 4 = nI 0 := by rw [h111]; exact (zHj_cs _ _ _ hbB).2.2.2
    refine zi_istore (L' := [(6, .int x111), (5, .ref 6), (4, .int (nI h)), (0, .ref 0), (1, .int (nI a)), (2, .int (nI 0)), (3, .int x)]) dX11_act_114 (by decide) rfl ?_
    refine zi_goto (tgt := 149) dX11_act_116 (by decide) ?_
    refine zi_aload dX11_act_149 1 rfl ?_
    refine zi_getI fd_X11_343_X8 rfl cw0_6 rfl dX11_act_151 ?_
    refine zi_top (y := nI 0) ((hp4)) ?_
    refine zi_ifN_eq (by decide) (tgt := 162) dX11_act_154 (by decide) (fun _ => ?_) (fun c => absurd c (by decide))
    refine zi_iload dX11_act_162 0 rfl ?_
    refine zi_retJ rfl rfl dX11_act_164 ?_
    refine ⟨6, ?_, ?_⟩
    · rw [hrr]; exact (actX_0_6 e55).symm
    · rw [actT_0_6 e55, h111]
      exact zTk_of (by decide) _ h78
  · refine zi_top (y := nI 3) (congrArg nI e55) ?_
    refine zi_aaldN cw0_1 (by decide) (t := 8) rfl (by decide) dX11_act_55 ?_
    refine zi_astore (L' := [(5, .ref 8), (4, .int (nI h)), (0, .ref 0), (1, .int (nI a)), (2, .int (nI 0)), (3, .int x)]) dX11_act_56 (by decide) rfl ?_
    refine zi_aload_n dX11_act_58 (i := 0) rfl 2 rfl ?_
    refine zi_aload dX11_act_59 0 rfl ?_
    refine zi_putR fd_X11_323_X11 fp_X11_15 rfl cw0_0 rfl (by decide) (by decide) rfl dX11_act_61 ?_
    refine zi_aload dX11_act_64 0 rfl ?_
    refine zi_iload dX11_act_66 1 rfl ?_
    refine zi_aload_n dX11_act_68 (i := 0) rfl 2 rfl ?_
    refine zi_getR fd_X11_34_X11 rfl cw0_0 rfl dX11_act_69 ?_
    refine zi_getR fd_X11_225_X10 rfl cw0_14 rfl dX11_act_72 ?_
    refine zi_iload dX11_act_75 1 rfl ?_
    refine zi_ialdN cw0_18 (by omega) (by decide) dX11_act_77 ?_
    refine zi_top (y := nI (σ (38 + 6 * h + 3))) ((zr_c (by decide) (zr_c (by decide) ((zV_h hv (k := h) (by omega)).2.2.2.1)))) ?_
    refine zcV (zc_U (as := [.int (nI h), .int (nI (σ (38 + 6 * h + 3)))]) lk_X11_327_X9 ce_X2_become (qC := (RX9, TX9, 5)) cw0_8 rfl dX11_act_78 (by decide) rfl rfl (Nat.le_of_ble_eq_true rfl)) ok_X2_become_8 (fun M78 h78 => ?_)
    have hbB : zHj 8 h (σ (38 + 6 * h + 3)) 0 M78 := by rw [h78]; exact zbc_h
    refine zi_iload_n dX11_act_81 (i := 2) rfl 4 rfl ?_
    refine zi_tableIn (off := 26) (tgt := 108) dX11_act_82 (by decide) (by decide) (by decide) (by decide) ?_
    refine zi_aload dX11_act_108 0 rfl ?_
    refine zi_iload_n dX11_act_110 (i := 3) rfl 5 rfl ?_
    refine zcJ (zc_O (as := [.int x]) lk_X11_331_X9 ce_X9_knocks (qC := (RX9, TX9, 5)) cw0_8 rfl dX11_act_111 (by decide) rfl rfl (Nat.le_of_ble_eq_true rfl)) (ok_X9_knocks_8 hbB (by decide) (by omega) (by omega)) (fun x111 M111 h111 => ?_)
    obtain ⟨hrr, h111⟩ := h111
    have hp4 : M111 8 4 = nI 0 := by rw [h111]; exact (zHj_cs _ _ _ hbB).2.2.2
    refine zi_istore (L' := [(6, .int x111), (5, .ref 8), (4, .int (nI h)), (0, .ref 0), (1, .int (nI a)), (2, .int (nI 0)), (3, .int x)]) dX11_act_114 (by decide) rfl ?_
    refine zi_goto (tgt := 149) dX11_act_116 (by decide) ?_
    refine zi_aload dX11_act_149 1 rfl ?_
    refine zi_getI fd_X11_343_X9 rfl cw0_8 rfl dX11_act_151 ?_
    refine zi_top (y := nI 0) ((hp4)) ?_
    refine zi_ifN_eq (by decide) (tgt := 162) dX11_act_154 (by decide) (fun _ => ?_) (fun c => absurd c (by decide))
    refine zi_iload dX11_act_162 0 rfl ?_
    refine zi_retJ rfl rfl dX11_act_164 ?_
    refine ⟨8, ?_, ?_⟩
    · rw [hrr]; exact (actX_0_8 e55).symm
    · rw [actT_0_8 e55, h111]
      exact zTk_of (by decide) _ h78
  · refine zi_top (y := nI 4) (congrArg nI e55) ?_
    refine zi_aaldN cw0_1 (by decide) (t := 10) rfl (by decide) dX11_act_55 ?_
    refine zi_astore (L' := [(5, .ref 10), (4, .int (nI h)), (0, .ref 0), (1, .int (nI a)), (2, .int (nI 0)), (3, .int x)]) dX11_act_56 (by decide) rfl ?_
    refine zi_aload_n dX11_act_58 (i := 0) rfl 2 rfl ?_
    refine zi_aload dX11_act_59 0 rfl ?_
    refine zi_putR fd_X11_323_X11 fp_X11_15 rfl cw0_0 rfl (by decide) (by decide) rfl dX11_act_61 ?_
    refine zi_aload dX11_act_64 0 rfl ?_
    refine zi_iload dX11_act_66 1 rfl ?_
    refine zi_aload_n dX11_act_68 (i := 0) rfl 2 rfl ?_
    refine zi_getR fd_X11_34_X11 rfl cw0_0 rfl dX11_act_69 ?_
    refine zi_getR fd_X11_225_X10 rfl cw0_14 rfl dX11_act_72 ?_
    refine zi_iload dX11_act_75 1 rfl ?_
    refine zi_ialdN cw0_18 (by omega) (by decide) dX11_act_77 ?_
    refine zi_top (y := nI (σ (38 + 6 * h + 3))) ((zr_c (by decide) (zr_c (by decide) ((zV_h hv (k := h) (by omega)).2.2.2.1)))) ?_
    refine zcV (zc_U (as := [.int (nI h), .int (nI (σ (38 + 6 * h + 3)))]) lk_X11_327_X1 ce_X2_become (qC := (RX1, TX1, 5)) cw0_10 rfl dX11_act_78 (by decide) rfl rfl (Nat.le_of_ble_eq_true rfl)) ok_X2_become_10 (fun M78 h78 => ?_)
    have hbB : zHj 10 h (σ (38 + 6 * h + 3)) 0 M78 := by rw [h78]; exact zbc_h
    refine zi_iload_n dX11_act_81 (i := 2) rfl 4 rfl ?_
    refine zi_tableIn (off := 26) (tgt := 108) dX11_act_82 (by decide) (by decide) (by decide) (by decide) ?_
    refine zi_aload dX11_act_108 0 rfl ?_
    refine zi_iload_n dX11_act_110 (i := 3) rfl 5 rfl ?_
    refine zcJ (zc_U (as := [.int x]) lk_X11_331_X1 ce_X2_knocks (qC := (RX1, TX1, 5)) cw0_10 rfl dX11_act_111 (by decide) rfl rfl (Nat.le_of_ble_eq_true rfl)) (kn_X2_knocks_10 hbB (by decide) (by omega) (by omega)) (fun x111 M111 h111 => ?_)
    obtain ⟨hrr, h111⟩ := h111
    have hp4 : M111 10 4 = nI 0 := by rw [h111]; exact (zHj_cs _ _ _ hbB).2.2.2
    refine zi_istore (L' := [(6, .int x111), (5, .ref 10), (4, .int (nI h)), (0, .ref 0), (1, .int (nI a)), (2, .int (nI 0)), (3, .int x)]) dX11_act_114 (by decide) rfl ?_
    refine zi_goto (tgt := 149) dX11_act_116 (by decide) ?_
    refine zi_aload dX11_act_149 1 rfl ?_
    refine zi_getI fd_X11_343_X1 rfl cw0_10 rfl dX11_act_151 ?_
    refine zi_top (y := nI 0) ((hp4)) ?_
    refine zi_ifN_eq (by decide) (tgt := 162) dX11_act_154 (by decide) (fun _ => ?_) (fun c => absurd c (by decide))
    refine zi_iload dX11_act_162 0 rfl ?_
    refine zi_retJ rfl rfl dX11_act_164 ?_
    refine ⟨10, ?_, ?_⟩
    · rw [hrr]; exact (actX_0_10 e55).symm
    · rw [actT_0_10 e55, h111]
      exact zTk_of (by decide) _ h78
  · refine zi_top (y := nI 5) (congrArg nI e55) ?_
    refine zi_aaldN cw0_1 (by decide) (t := 12) rfl (by decide) dX11_act_55 ?_
    refine zi_astore (L' := [(5, .ref 12), (4, .int (nI h)), (0, .ref 0), (1, .int (nI a)), (2, .int (nI 0)), (3, .int x)]) dX11_act_56 (by decide) rfl ?_
    refine zi_aload_n dX11_act_58 (i := 0) rfl 2 rfl ?_
    refine zi_aload dX11_act_59 0 rfl ?_
    refine zi_putR fd_X11_323_X11 fp_X11_15 rfl cw0_0 rfl (by decide) (by decide) rfl dX11_act_61 ?_
    refine zi_aload dX11_act_64 0 rfl ?_
    refine zi_iload dX11_act_66 1 rfl ?_
    refine zi_aload_n dX11_act_68 (i := 0) rfl 2 rfl ?_
    refine zi_getR fd_X11_34_X11 rfl cw0_0 rfl dX11_act_69 ?_
    refine zi_getR fd_X11_225_X10 rfl cw0_14 rfl dX11_act_72 ?_
    refine zi_iload dX11_act_75 1 rfl ?_
    refine zi_ialdN cw0_18 (by omega) (by decide) dX11_act_77 ?_
    refine zi_top (y := nI (σ (38 + 6 * h + 3))) ((zr_c (by decide) (zr_c (by decide) ((zV_h hv (k := h) (by omega)).2.2.2.1)))) ?_
    refine zcV (zc_U (as := [.int (nI h), .int (nI (σ (38 + 6 * h + 3)))]) lk_X11_327_X3 ce_X2_become (qC := (RX3, TX3, 5)) cw0_12 rfl dX11_act_78 (by decide) rfl rfl (Nat.le_of_ble_eq_true rfl)) ok_X2_become_12 (fun M78 h78 => ?_)
    have hbB : zHj 12 h (σ (38 + 6 * h + 3)) 0 M78 := by rw [h78]; exact zbc_h
    refine zi_iload_n dX11_act_81 (i := 2) rfl 4 rfl ?_
    refine zi_tableIn (off := 26) (tgt := 108) dX11_act_82 (by decide) (by decide) (by decide) (by decide) ?_
    refine zi_aload dX11_act_108 0 rfl ?_
    refine zi_iload_n dX11_act_110 (i := 3) rfl 5 rfl ?_
    refine zcJ (zc_U (as := [.int x]) lk_X11_331_X3 ce_X2_knocks (qC := (RX3, TX3, 5)) cw0_12 rfl dX11_act_111 (by decide) rfl rfl (Nat.le_of_ble_eq_true rfl)) (kn_X2_knocks_12 hbB (by decide) (by omega) (by omega)) (fun x111 M111 h111 => ?_)
    obtain ⟨hrr, h111⟩ := h111
    have hp4 : M111 12 4 = nI 0 := by rw [h111]; exact (zHj_cs _ _ _ hbB).2.2.2
    refine zi_istore (L' := [(6, .int x111), (5, .ref 12), (4, .int (nI h)), (0, .ref 0), (1, .int (nI a)), (2, .int (nI 0)), (3, .int x)]) dX11_act_114 (by decide) rfl ?_
    refine zi_goto (tgt := 149) dX11_act_116 (by decide) ?_
    refine zi_aload dX11_act_149 1 rfl ?_
    refine zi_getI fd_X11_343_X3 rfl cw0_12 rfl dX11_act_151 ?_
    refine zi_top (y := nI 0) ((hp4)) ?_
    refine zi_ifN_eq (by decide) (tgt := 162) dX11_act_154 (by decide) (fun _ => ?_) (fun c => absurd c (by decide))
    refine zi_iload dX11_act_162 0 rfl ?_
    refine zi_retJ rfl rfl dX11_act_164 ?_
    refine ⟨12, ?_, ?_⟩
    · rw [hrr]; exact (actX_0_12 e55).symm
    · rw [actT_0_12 e55, h111]
      exact zTk_of (by decide) _ h78
set_option maxRecDepth 100000 in
set_option maxHeartbeats 4000000 in
theorem ok_X11_act1 {M : zMem} {σ : Nat → Nat} {R : List gRl} {a h : Nat} {x : Int32} (ha : zVa 14 M σ R) (hk : qOk σ) (h1 : a < 4) (hn : M 106 a = nI 0) (hm : M 107 a = nI h) (hh5 : h ≤ 5) (hh1 : h < σ 6) : zOkJ zw0 9 mX11_act [.ref 0, .int (nI a), .int (nI 1), .int x] M (fun r M' => ∃ b, r = qActX σ 1 h x ∧ zTk b (qActT σ 1 h) M M') := by
  have hv := ha.1
  have hb := hk.1
  have h66 := hk.2.1
  have hkk := hk.2.2.2.2.2.2.2.2.2.2.2.2 h (by omega)
  have ha0 := zVa_o (c := 0) (j := 15) (x := 0) ha (by decide)
  have hn0 : zup M 0 15 0 106 a = nI 0 := zr_c (by decide) hn
  have hm0 : zup M 0 15 0 107 a = nI h := zr_c (by decide) hm
  refine zOk_of (by decide +kernel) (fun _ => Nat.le_of_ble_eq_true rfl) (L := [(0, .ref 0), (1, .int (nI a)), (2, .int (nI 1)), (3, .int x)]) rfl ?_
  refine zi_aload_n dX11_act_0 (i := 0) rfl 0 rfl ?_
  refine zi_null dX11_act_1 ?_
  refine zi_putN fd_X11_323_X11 fp_X11_15 rfl cw0_0 rfl rfl dX11_act_2 ?_
  refine zi_iload_n dX11_act_5 (i := 1) rfl 1 rfl ?_
  refine zcI (zc_S (as := [.int (nI a)]) lk_X11_314 ce_X11_isShelf dX11_act_6 (by decide) rfl rfl (Nat.le_of_ble_eq_true rfl)) (zOkI_eq ok_X11_isShelf (zinT (by omega) (by omega) (by omega))) ?_
  refine zi_ifN_eq (by decide) (tgt := 20) dX11_act_9 (by decide) (fun c => absurd c (by decide)) (fun _ => ?_)
  refine zi_aload_n dX11_act_12 (i := 0) rfl 0 rfl ?_
  refine zi_iload_n dX11_act_13 (i := 1) rfl 1 rfl ?_
  refine zcI (zc_V (as := [.int (nI a)]) lk_X11_317 ce_X11_houseOn cw0_0 rfl rfl dX11_act_14 (by decide) rfl rfl (Nat.le_of_ble_eq_true rfl)) (zOkI_eq (ok_X11_houseOn ha0 hk h1 hn0 hm0 hh5) (if_pos hh1)) ?_
  refine zi_goto (tgt := 22) dX11_act_17 (by decide) ?_
  refine zi_istore (L' := [(4, .int (nI h)), (0, .ref 0), (1, .int (nI a)), (2, .int (nI 1)), (3, .int x)]) dX11_act_22 (by decide) rfl ?_
  refine zi_iload dX11_act_24 0 rfl ?_
  refine zi_bipush (v := (-3)) dX11_act_26 (by decide) ?_
  refine zi_icmp_eq (tgt := 39) dX11_act_28 (by decide) (fun c28 => False.elim (by exact nI_ne_n3 (by omega) c28)) (fun c28 => ?_)
  refine zi_iload_n dX11_act_31 (i := 2) rfl 3 rfl ?_
  refine zi_iconst (v := nI 3) dX11_act_32 (by decide) ?_
  refine zcI (zc_S (as := [.int (nI 1), .int (nI 3)]) lk_X11_86 ce_X11_isFrom0To dX11_act_33 (by decide) rfl rfl (Nat.le_of_ble_eq_true rfl)) (zOkI_eq ok_X11_isFrom0To (zinT (by omega) (by omega) (by omega))) ?_
  refine zi_ifN_ne (by decide) (tgt := 41) dX11_act_36 (by decide) (fun _ => ?_) (fun c => absurd c (by decide))
  refine zi_aload_n dX11_act_41 (i := 0) rfl 1 rfl ?_
  refine zi_getR fd_X11_25_X11 rfl cw0_0 rfl dX11_act_42 ?_
  refine zi_aload_n dX11_act_45 (i := 0) rfl 1 rfl ?_
  refine zi_getR fd_X11_34_X11 rfl cw0_0 rfl dX11_act_46 ?_
  refine zi_getR fd_X11_125_X10 rfl cw0_14 rfl dX11_act_49 ?_
  refine zi_iload dX11_act_52 0 rfl ?_
  refine zi_ialdN cw0_15 (by omega) (by decide) dX11_act_54 ?_
  refine zi_top (y := nI (σ (38 + 6 * h))) ((zr_c (by decide) ((zV_h hv (k := h) (by omega)).1))) ?_
  rcases (show σ (38 + 6 * h) = 0 ∨ σ (38 + 6 * h) = 1 ∨ σ (38 + 6 * h) = 2 ∨ σ (38 + 6 * h) = 3 ∨ σ (38 + 6 * h) = 4 ∨ σ (38 + 6 * h) = 5 from (by omega)) with e55 | e55 | e55 | e55 | e55 | e55
  · refine zi_top (y := nI 0) (congrArg nI e55) ?_
    refine zi_aaldN cw0_1 (by decide) (t := 2) rfl (by decide) dX11_act_55 ?_
    refine zi_astore (L' := [(5, .ref 2), (4, .int (nI h)), (0, .ref 0), (1, .int (nI a)), (2, .int (nI 1)), (3, .int x)]) dX11_act_56 (by decide) rfl ?_
    refine zi_aload_n dX11_act_58 (i := 0) rfl 2 rfl ?_
    refine zi_aload dX11_act_59 0 rfl ?_
    refine zi_putR fd_X11_323_X11 fp_X11_15 rfl cw0_0 rfl (by decide) (by decide) rfl dX11_act_61 ?_
    refine zi_aload dX11_act_64 0 rfl ?_
    refine zi_iload dX11_act_66 1 rfl ?_
    refine zi_aload_n dX11_act_68 (i := 0) rfl 2 rfl ?_
    refine zi_getR fd_X11_34_X11 rfl cw0_0 rfl dX11_act_69 ?_
    refine zi_getR fd_X11_225_X10 rfl cw0_14 rfl dX11_act_72 ?_
    refine zi_iload dX11_act_75 1 rfl ?_
    refine zi_ialdN cw0_18 (by omega) (by decide) dX11_act_77 ?_
    refine zi_top (y := nI (σ (38 + 6 * h + 3))) ((zr_c (by decide) (zr_c (by decide) ((zV_h hv (k := h) (by omega)).2.2.2.1)))) ?_
    refine zcV (zc_V (as := [.int (nI h), .int (nI (σ (38 + 6 * h + 3)))]) lk_X11_327 ce_X2_become cw0_2 rfl rfl dX11_act_78 (by decide) rfl rfl (Nat.le_of_ble_eq_true rfl)) ok_X2_become_2 (fun M78 h78 => ?_)
    have hbB : zHj 2 h (σ (38 + 6 * h + 3)) 0 M78 := by rw [h78]; exact zbc_h
    refine zi_iload_n dX11_act_81 (i := 2) rfl 4 rfl ?_
    refine zi_tableIn (off := 37) (tgt := 119) dX11_act_82 (by decide) (by decide) (by decide) (by decide) ?_
    refine zi_aload dX11_act_119 0 rfl ?_
    refine zi_iload_n dX11_act_121 (i := 3) rfl 5 rfl ?_
    refine zcJ (zc_V (as := [.int x]) lk_X11_334 ce_X2_waits cw0_2 rfl rfl dX11_act_122 (by decide) rfl rfl (Nat.le_of_ble_eq_true rfl)) (ok_X2_waits_2 hbB (by decide) (by omega) (by omega)) (fun x122 M122 h122 => ?_)
    obtain ⟨hrr, h122⟩ := h122
    have hp4 : M122 2 4 = nI 0 := by rw [h122]; exact (zHj_cs _ _ _ hbB).2.2.2
    refine zi_istore (L' := [(6, .int x122), (5, .ref 2), (4, .int (nI h)), (0, .ref 0), (1, .int (nI a)), (2, .int (nI 1)), (3, .int x)]) dX11_act_125 (by decide) rfl ?_
    refine zi_goto (tgt := 149) dX11_act_127 (by decide) ?_
    refine zi_aload dX11_act_149 1 rfl ?_
    refine zi_getI fd_X11_343_X2 rfl cw0_2 rfl dX11_act_151 ?_
    refine zi_top (y := nI 0) ((hp4)) ?_
    refine zi_ifN_eq (by decide) (tgt := 162) dX11_act_154 (by decide) (fun _ => ?_) (fun c => absurd c (by decide))
    refine zi_iload dX11_act_162 0 rfl ?_
    refine zi_retJ rfl rfl dX11_act_164 ?_
    refine ⟨2, ?_, ?_⟩
    · rw [hrr]; exact (actX_1_2 e55).symm
    · rw [actT_1_2 e55, h122]
      exact zTk_of (by decide) _ h78
  · refine zi_top (y := nI 1) (congrArg nI e55) ?_
    refine zi_aaldN cw0_1 (by decide) (t := 4) rfl (by decide) dX11_act_55 ?_
    refine zi_astore (L' := [(5, .ref 4), (4, .int (nI h)), (0, .ref 0), (1, .int (nI a)), (2, .int (nI 1)), (3, .int x)]) dX11_act_56 (by decide) rfl ?_
    refine zi_aload_n dX11_act_58 (i := 0) rfl 2 rfl ?_
    refine zi_aload dX11_act_59 0 rfl ?_
    refine zi_putR fd_X11_323_X11 fp_X11_15 rfl cw0_0 rfl (by decide) (by decide) rfl dX11_act_61 ?_
    refine zi_aload dX11_act_64 0 rfl ?_
    refine zi_iload dX11_act_66 1 rfl ?_
    refine zi_aload_n dX11_act_68 (i := 0) rfl 2 rfl ?_
    refine zi_getR fd_X11_34_X11 rfl cw0_0 rfl dX11_act_69 ?_
    refine zi_getR fd_X11_225_X10 rfl cw0_14 rfl dX11_act_72 ?_
    refine zi_iload dX11_act_75 1 rfl ?_
    refine zi_ialdN cw0_18 (by omega) (by decide) dX11_act_77 ?_
    refine zi_top (y := nI (σ (38 + 6 * h + 3))) ((zr_c (by decide) (zr_c (by decide) ((zV_h hv (k := h) (by omega)).2.2.2.1)))) ?_
    refine zcV (zc_U (as := [.int (nI h), .int (nI (σ (38 + 6 * h + 3)))]) lk_X11_327_X0 ce_X2_become (qC := (RX0, TX0, 5)) cw0_4 rfl dX11_act_78 (by decide) rfl rfl (Nat.le_of_ble_eq_true rfl)) ok_X2_become_4 (fun M78 h78 => ?_)
    have hbB : zHj 4 h (σ (38 + 6 * h + 3)) 0 M78 := by rw [h78]; exact zbc_h
    refine zi_iload_n dX11_act_81 (i := 2) rfl 4 rfl ?_
    refine zi_tableIn (off := 37) (tgt := 119) dX11_act_82 (by decide) (by decide) (by decide) (by decide) ?_
    refine zi_aload dX11_act_119 0 rfl ?_
    refine zi_iload_n dX11_act_121 (i := 3) rfl 5 rfl ?_
    refine zcJ (zc_U (as := [.int x]) lk_X11_334_X0 ce_X2_waits (qC := (RX0, TX0, 5)) cw0_4 rfl dX11_act_122 (by decide) rfl rfl (Nat.le_of_ble_eq_true rfl)) (ok_X2_waits_4 hbB (by decide) (by omega) (by omega)) (fun x122 M122 h122 => ?_)
    obtain ⟨hrr, h122⟩ := h122
    have hp4 : M122 4 4 = nI 0 := by rw [h122]; exact (zHj_cs _ _ _ hbB).2.2.2
    refine zi_istore (L' := [(6, .int x122), (5, .ref 4), (4, .int (nI h)), (0, .ref 0), (1, .int (nI a)), (2, .int (nI 1)), (3, .int x)]) dX11_act_125 (by decide) rfl ?_
    refine zi_goto (tgt := 149) dX11_act_127 (by decide) ?_
    refine zi_aload dX11_act_149 1 rfl ?_
    refine zi_getI fd_X11_343_X0 rfl cw0_4 rfl dX11_act_151 ?_
    refine zi_top (y := nI 0) ((hp4)) ?_
    refine zi_ifN_eq (by decide) (tgt := 162) dX11_act_154 (by decide) (fun _ => ?_) (fun c => absurd c (by decide))
    refine zi_iload dX11_act_162 0 rfl ?_
    refine zi_retJ rfl rfl dX11_act_164 ?_
    refine ⟨4, ?_, ?_⟩
    · rw [hrr]; exact (actX_1_4 e55).symm
    · rw [actT_1_4 e55, h122]
      exact zTk_of (by decide) _ h78
  · refine zi_top (y := nI 2) (congrArg nI e55) ?_
    refine zi_aaldN cw0_1 (by decide) (t := 6) rfl (by decide) dX11_act_55 ?_
    refine zi_astore (L' := [(5, .ref 6), (4, .int (nI h)), (0, .ref 0), (1, .int (nI a)), (2, .int (nI 1)), (3, .int x)]) dX11_act_56 (by decide) rfl ?_
    refine zi_aload_n dX11_act_58 (i := 0) rfl 2 rfl ?_
    refine zi_aload dX11_act_59 0 rfl ?_
    refine zi_putR fd_X11_323_X11 fp_X11_15 rfl cw0_0 rfl (by decide) (by decide) rfl dX11_act_61 ?_
    refine zi_aload dX11_act_64 0 rfl ?_
    refine zi_iload dX11_act_66 1 rfl ?_
    refine zi_aload_n dX11_act_68 (i := 0) rfl 2 rfl ?_
    refine zi_getR fd_X11_34_X11 rfl cw0_0 rfl dX11_act_69 ?_
    refine zi_getR fd_X11_225_X10 rfl cw0_14 rfl dX11_act_72 ?_
    refine zi_iload dX11_act_75 1 rfl ?_
    refine zi_ialdN cw0_18 (by omega) (by decide) dX11_act_77 ?_
    refine zi_top (y := nI (σ (38 + 6 * h + 3))) ((zr_c (by decide) (zr_c (by decide) ((zV_h hv (k := h) (by omega)).2.2.2.1)))) ?_
    refine zcV (zc_U (as := [.int (nI h), .int (nI (σ (38 + 6 * h + 3)))]) lk_X11_327_X8 ce_X2_become (qC := (RX8, TX8, 5)) cw0_6 rfl dX11_act_78 (by decide) rfl rfl (Nat.le_of_ble_eq_true rfl)) ok_X2_become_6 (fun M78 h78 => ?_)
    have hbB : zHj 6 h (σ (38 + 6 * h + 3)) 0 M78 := by rw [h78]; exact zbc_h
    refine zi_iload_n dX11_act_81 (i := 2) rfl 4 rfl ?_
    refine zi_tableIn (off := 37) (tgt := 119) dX11_act_82 (by decide) (by decide) (by decide) (by decide) ?_
    refine zi_aload dX11_act_119 0 rfl ?_
    refine zi_iload_n dX11_act_121 (i := 3) rfl 5 rfl ?_
    refine zcJ (zc_O (as := [.int x]) lk_X11_334_X8 ce_X8_waits (qC := (RX8, TX8, 5)) cw0_6 rfl dX11_act_122 (by decide) rfl rfl (Nat.le_of_ble_eq_true rfl)) (ok_X8_waits_6 hbB (by decide) (by omega) (by omega)) (fun x122 M122 h122 => ?_)
    obtain ⟨hrr, h122⟩ := h122
    have hp4 : M122 6 4 = nI 0 := by rw [h122]; exact (zHj_cs _ _ _ hbB).2.2.2
    refine zi_istore (L' := [(6, .int x122), (5, .ref 6), (4, .int (nI h)), (0, .ref 0), (1, .int (nI a)), (2, .int (nI 1)), (3, .int x)]) dX11_act_125 (by decide) rfl ?_
    refine zi_goto (tgt := 149) dX11_act_127 (by decide) ?_
    refine zi_aload dX11_act_149 1 rfl ?_
    refine zi_getI fd_X11_343_X8 rfl cw0_6 rfl dX11_act_151 ?_
    refine zi_top (y := nI 0) ((hp4)) ?_
    refine zi_ifN_eq (by decide) (tgt := 162) dX11_act_154 (by decide) (fun _ => ?_) (fun c => absurd c (by decide))
    refine zi_iload dX11_act_162 0 rfl ?_
    refine zi_retJ rfl rfl dX11_act_164 ?_
    refine ⟨6, ?_, ?_⟩
    · rw [hrr]; exact (actX_1_6 e55).symm
    · rw [actT_1_6 e55, h122]
      exact zTk_of (by decide) _ h78
  · refine zi_top (y := nI 3) (congrArg nI e55) ?_
    refine zi_aaldN cw0_1 (by decide) (t := 8) rfl (by decide) dX11_act_55 ?_
    refine zi_astore (L' := [(5, .ref 8), (4, .int (nI h)), (0, .ref 0), (1, .int (nI a)), (2, .int (nI 1)), (3, .int x)]) dX11_act_56 (by decide) rfl ?_
    refine zi_aload_n dX11_act_58 (i := 0) rfl 2 rfl ?_
    refine zi_aload dX11_act_59 0 rfl ?_
    refine zi_putR fd_X11_323_X11 fp_X11_15 rfl cw0_0 rfl (by decide) (by decide) rfl dX11_act_61 ?_
    refine zi_aload dX11_act_64 0 rfl ?_
    refine zi_iload dX11_act_66 1 rfl ?_
    refine zi_aload_n dX11_act_68 (i := 0) rfl 2 rfl ?_
    refine zi_getR fd_X11_34_X11 rfl cw0_0 rfl dX11_act_69 ?_
    refine zi_getR fd_X11_225_X10 rfl cw0_14 rfl dX11_act_72 ?_
    refine zi_iload dX11_act_75 1 rfl ?_
    refine zi_ialdN cw0_18 (by omega) (by decide) dX11_act_77 ?_
    refine zi_top (y := nI (σ (38 + 6 * h + 3))) ((zr_c (by decide) (zr_c (by decide) ((zV_h hv (k := h) (by omega)).2.2.2.1)))) ?_
    refine zcV (zc_U (as := [.int (nI h), .int (nI (σ (38 + 6 * h + 3)))]) lk_X11_327_X9 ce_X2_become (qC := (RX9, TX9, 5)) cw0_8 rfl dX11_act_78 (by decide) rfl rfl (Nat.le_of_ble_eq_true rfl)) ok_X2_become_8 (fun M78 h78 => ?_)
    have hbB : zHj 8 h (σ (38 + 6 * h + 3)) 0 M78 := by rw [h78]; exact zbc_h
    refine zi_iload_n dX11_act_81 (i := 2) rfl 4 rfl ?_
    refine zi_tableIn (off := 37) (tgt := 119) dX11_act_82 (by decide) (by decide) (by decide) (by decide) ?_
    refine zi_aload dX11_act_119 0 rfl ?_
    refine zi_iload_n dX11_act_121 (i := 3) rfl 5 rfl ?_
    refine zcJ (zc_O (as := [.int x]) lk_X11_334_X9 ce_X8_waits (qC := (RX9, TX9, 5)) cw0_8 rfl dX11_act_122 (by decide) rfl rfl (Nat.le_of_ble_eq_true rfl)) (ok_X8_waits_8 hbB (by decide) (by omega) (by omega)) (fun x122 M122 h122 => ?_)
    obtain ⟨hrr, h122⟩ := h122
    have hp4 : M122 8 4 = nI 0 := by rw [h122]; exact (zHj_cs _ _ _ hbB).2.2.2
    refine zi_istore (L' := [(6, .int x122), (5, .ref 8), (4, .int (nI h)), (0, .ref 0), (1, .int (nI a)), (2, .int (nI 1)), (3, .int x)]) dX11_act_125 (by decide) rfl ?_
    refine zi_goto (tgt := 149) dX11_act_127 (by decide) ?_
    refine zi_aload dX11_act_149 1 rfl ?_
    refine zi_getI fd_X11_343_X9 rfl cw0_8 rfl dX11_act_151 ?_
    refine zi_top (y := nI 0) ((hp4)) ?_
    refine zi_ifN_eq (by decide) (tgt := 162) dX11_act_154 (by decide) (fun _ => ?_) (fun c => absurd c (by decide))
    refine zi_iload dX11_act_162 0 rfl ?_
    refine zi_retJ rfl rfl dX11_act_164 ?_
    refine ⟨8, ?_, ?_⟩
    · rw [hrr]; exact (actX_1_8 e55).symm
    · rw [actT_1_8 e55, h122]
      exact zTk_of (by decide) _ h78
  · refine zi_top (y := nI 4) (congrArg nI e55) ?_
    refine zi_aaldN cw0_1 (by decide) (t := 10) rfl (by decide) dX11_act_55 ?_
    refine zi_astore (L' := [(5, .ref 10), (4, .int (nI h)), (0, .ref 0), (1, .int (nI a)), (2, .int (nI 1)), (3, .int x)]) dX11_act_56 (by decide) rfl ?_
    refine zi_aload_n dX11_act_58 (i := 0) rfl 2 rfl ?_
    refine zi_aload dX11_act_59 0 rfl ?_
    refine zi_putR fd_X11_323_X11 fp_X11_15 rfl cw0_0 rfl (by decide) (by decide) rfl dX11_act_61 ?_
    refine zi_aload dX11_act_64 0 rfl ?_
    refine zi_iload dX11_act_66 1 rfl ?_
    refine zi_aload_n dX11_act_68 (i := 0) rfl 2 rfl ?_
    refine zi_getR fd_X11_34_X11 rfl cw0_0 rfl dX11_act_69 ?_
    refine zi_getR fd_X11_225_X10 rfl cw0_14 rfl dX11_act_72 ?_
    refine zi_iload dX11_act_75 1 rfl ?_
    refine zi_ialdN cw0_18 (by omega) (by decide) dX11_act_77 ?_
    refine zi_top (y := nI (σ (38 + 6 * h + 3))) ((zr_c (by decide) (zr_c (by decide) ((zV_h hv (k := h) (by omega)).2.2.2.1)))) ?_
    refine zcV (zc_U (as := [.int (nI h), .int (nI (σ (38 + 6 * h + 3)))]) lk_X11_327_X1 ce_X2_become (qC := (RX1, TX1, 5)) cw0_10 rfl dX11_act_78 (by decide) rfl rfl (Nat.le_of_ble_eq_true rfl)) ok_X2_become_10 (fun M78 h78 => ?_)
    have hbB : zHj 10 h (σ (38 + 6 * h + 3)) 0 M78 := by rw [h78]; exact zbc_h
    refine zi_iload_n dX11_act_81 (i := 2) rfl 4 rfl ?_
    refine zi_tableIn (off := 37) (tgt := 119) dX11_act_82 (by decide) (by decide) (by decide) (by decide) ?_
    refine zi_aload dX11_act_119 0 rfl ?_
    refine zi_iload_n dX11_act_121 (i := 3) rfl 5 rfl ?_
    refine zcJ (zc_U (as := [.int x]) lk_X11_334_X1 ce_X2_waits (qC := (RX1, TX1, 5)) cw0_10 rfl dX11_act_122 (by decide) rfl rfl (Nat.le_of_ble_eq_true rfl)) (ok_X2_waits_10 hbB (by decide) (by omega) (by omega)) (fun x122 M122 h122 => ?_)
    obtain ⟨hrr, h122⟩ := h122
    have hp4 : M122 10 4 = nI 0 := by rw [h122]; exact (zHj_cs _ _ _ hbB).2.2.2
    refine zi_istore (L' := [(6, .int x122), (5, .ref 10), (4, .int (nI h)), (0, .ref 0), (1, .int (nI a)), (2, .int (nI 1)), (3, .int x)]) dX11_act_125 (by decide) rfl ?_
    refine zi_goto (tgt := 149) dX11_act_127 (by decide) ?_
    refine zi_aload dX11_act_149 1 rfl ?_
    refine zi_getI fd_X11_343_X1 rfl cw0_10 rfl dX11_act_151 ?_
    refine zi_top (y := nI 0) ((hp4)) ?_
    refine zi_ifN_eq (by decide) (tgt := 162) dX11_act_154 (by decide) (fun _ => ?_) (fun c => absurd c (by decide))
    refine zi_iload dX11_act_162 0 rfl ?_
    refine zi_retJ rfl rfl dX11_act_164 ?_
    refine ⟨10, ?_, ?_⟩
    · rw [hrr]; exact (actX_1_10 e55).symm
    · rw [actT_1_10 e55, h122]
      exact zTk_of (by decide) _ h78
  · refine zi_top (y := nI 5) (congrArg nI e55) ?_
    refine zi_aaldN cw0_1 (by decide) (t := 12) rfl (by decide) dX11_act_55 ?_
    refine zi_astore (L' := [(5, .ref 12), (4, .int (nI h)), (0, .ref 0), (1, .int (nI a)), (2, .int (nI 1)), (3, .int x)]) dX11_act_56 (by decide) rfl ?_
    refine zi_aload_n dX11_act_58 (i := 0) rfl 2 rfl ?_
    refine zi_aload dX11_act_59 0 rfl ?_
    refine zi_putR fd_X11_323_X11 fp_X11_15 rfl cw0_0 rfl (by decide) (by decide) rfl dX11_act_61 ?_
    refine zi_aload dX11_act_64 0 rfl ?_
    refine zi_iload dX11_act_66 1 rfl ?_
    refine zi_aload_n dX11_act_68 (i := 0) rfl 2 rfl ?_
    refine zi_getR fd_X11_34_X11 rfl cw0_0 rfl dX11_act_69 ?_
    refine zi_getR fd_X11_225_X10 rfl cw0_14 rfl dX11_act_72 ?_
    refine zi_iload dX11_act_75 1 rfl ?_
    refine zi_ialdN cw0_18 (by omega) (by decide) dX11_act_77 ?_
    refine zi_top (y := nI (σ (38 + 6 * h + 3))) ((zr_c (by decide) (zr_c (by decide) ((zV_h hv (k := h) (by omega)).2.2.2.1)))) ?_
    refine zcV (zc_U (as := [.int (nI h), .int (nI (σ (38 + 6 * h + 3)))]) lk_X11_327_X3 ce_X2_become (qC := (RX3, TX3, 5)) cw0_12 rfl dX11_act_78 (by decide) rfl rfl (Nat.le_of_ble_eq_true rfl)) ok_X2_become_12 (fun M78 h78 => ?_)
    have hbB : zHj 12 h (σ (38 + 6 * h + 3)) 0 M78 := by rw [h78]; exact zbc_h
    refine zi_iload_n dX11_act_81 (i := 2) rfl 4 rfl ?_
    refine zi_tableIn (off := 37) (tgt := 119) dX11_act_82 (by decide) (by decide) (by decide) (by decide) ?_
    refine zi_aload dX11_act_119 0 rfl ?_
    refine zi_iload_n dX11_act_121 (i := 3) rfl 5 rfl ?_
    refine zcJ (zc_O (as := [.int x]) lk_X11_334_X3 ce_X3_waits (qC := (RX3, TX3, 5)) cw0_12 rfl dX11_act_122 (by decide) rfl rfl (Nat.le_of_ble_eq_true rfl)) (ok_X3_waits_12 hbB (by decide) (by omega) (by omega)) (fun x122 M122 h122 => ?_)
    obtain ⟨hrr, h122⟩ := h122
    have hp4 : M122 12 4 = nI 0 := by rw [h122]; exact (zHj_cs _ _ _ hbB).2.2.2
    refine zi_istore (L' := [(6, .int x122), (5, .ref 12), (4, .int (nI h)), (0, .ref 0), (1, .int (nI a)), (2, .int (nI 1)), (3, .int x)]) dX11_act_125 (by decide) rfl ?_
    refine zi_goto (tgt := 149) dX11_act_127 (by decide) ?_
    refine zi_aload dX11_act_149 1 rfl ?_
    refine zi_getI fd_X11_343_X3 rfl cw0_12 rfl dX11_act_151 ?_
    refine zi_top (y := nI 0) ((hp4)) ?_
    refine zi_ifN_eq (by decide) (tgt := 162) dX11_act_154 (by decide) (fun _ => ?_) (fun c => absurd c (by decide))
    refine zi_iload dX11_act_162 0 rfl ?_
    refine zi_retJ rfl rfl dX11_act_164 ?_
    refine ⟨12, ?_, ?_⟩
    · rw [hrr]; exact (actX_1_12 e55).symm
    · rw [actT_1_12 e55, h122]
      exact zTk_of (by decide) _ h78
set_option maxRecDepth 100000 in
set_option maxHeartbeats 4000000 in
theorem n_X11_act2 {M : zMem} {σ : Nat → Nat} {R : List gRl} {a h : Nat} {x : Int32} (ha : zVa 14 M σ R) (hk : qOk σ) (h1 : a < 4) (hn : M 106 a = nI 0) (hm : M 107 a = nI h) (hh5 : h ≤ 5) (hh1 : h < σ 6) (hd : qCoD σ h ≠ 0) : zOkJ zw0 9 mX11_act [.ref 0, .int (nI a), .int (nI 2), .int x] M (fun r M' => ∃ b, r = qActX σ 2 h x ∧ zTk b (qActT σ 2 h) M M') := by
  have hv := ha.1
  have hb := hk.1
  have h66 := hk.2.1
  have hkk := hk.2.2.2.2.2.2.2.2.2.2.2.2 h (by omega)
  have ha0 := zVa_o (c := 0) (j := 15) (x := 0) ha (by decide)
  have hn0 : zup M 0 15 0 106 a = nI 0 := zr_c (by decide) hn
  have hm0 : zup M 0 15 0 107 a = nI h := zr_c (by decide) hm
  refine zOk_of (by decide +kernel) (fun _ => Nat.le_of_ble_eq_true rfl) (L := [(0, .ref 0), (1, .int (nI a)), (2, .int (nI 2)), (3, .int x)]) rfl ?_
  refine zi_aload_n dX11_act_0 (i := 0) rfl 0 rfl ?_
  refine zi_null dX11_act_1 ?_
  refine zi_putN fd_X11_323_X11 fp_X11_15 rfl cw0_0 rfl rfl dX11_act_2 ?_
  refine zi_iload_n dX11_act_5 (i := 1) rfl 1 rfl ?_
  refine zcI (zc_S (as := [.int (nI a)]) lk_X11_314 ce_X11_isShelf dX11_act_6 (by decide) rfl rfl (Nat.le_of_ble_eq_true rfl)) (zOkI_eq ok_X11_isShelf (zinT (by omega) (by omega) (by omega))) ?_
  refine zi_ifN_eq (by decide) (tgt := 20) dX11_act_9 (by decide) (fun c => absurd c (by decide)) (fun _ => ?_)
  refine zi_aload_n dX11_act_12 (i := 0) rfl 0 rfl ?_
  refine zi_iload_n dX11_act_13 (i := 1) rfl 1 rfl ?_
  refine zcI (zc_V (as := [.int (nI a)]) lk_X11_317 ce_X11_houseOn cw0_0 rfl rfl dX11_act_14 (by decide) rfl rfl (Nat.le_of_ble_eq_true rfl)) (zOkI_eq (ok_X11_houseOn ha0 hk h1 hn0 hm0 hh5) (if_pos hh1)) ?_
  refine zi_goto (tgt := 22) dX11_act_17 (by decide) ?_
  refine zi_istore (L' := [(4, .int (nI h)), (0, .ref 0), (1, .int (nI a)), (2, .int (nI 2)), (3, .int x)]) dX11_act_22 (by decide) rfl ?_
  refine zi_iload dX11_act_24 0 rfl ?_
  refine zi_bipush (v := (-3)) dX11_act_26 (by decide) ?_
  refine zi_icmp_eq (tgt := 39) dX11_act_28 (by decide) (fun c28 => False.elim (by exact nI_ne_n3 (by omega) c28)) (fun c28 => ?_)
  refine zi_iload_n dX11_act_31 (i := 2) rfl 3 rfl ?_
  refine zi_iconst (v := nI 3) dX11_act_32 (by decide) ?_
  refine zcI (zc_S (as := [.int (nI 2), .int (nI 3)]) lk_X11_86 ce_X11_isFrom0To dX11_act_33 (by decide) rfl rfl (Nat.le_of_ble_eq_true rfl)) (zOkI_eq ok_X11_isFrom0To (zinT (by omega) (by omega) (by omega))) ?_
  refine zi_ifN_ne (by decide) (tgt := 41) dX11_act_36 (by decide) (fun _ => ?_) (fun c => absurd c (by decide))
  refine zi_aload_n dX11_act_41 (i := 0) rfl 1 rfl ?_
  refine zi_getR fd_X11_25_X11 rfl cw0_0 rfl dX11_act_42 ?_
  refine zi_aload_n dX11_act_45 (i := 0) rfl 1 rfl ?_
  refine zi_getR fd_X11_34_X11 rfl cw0_0 rfl dX11_act_46 ?_
  refine zi_getR fd_X11_125_X10 rfl cw0_14 rfl dX11_act_49 ?_
  refine zi_iload dX11_act_52 0 rfl ?_
  refine zi_ialdN cw0_15 (by omega) (by decide) dX11_act_54 ?_
  refine zi_top (y := nI (σ (38 + 6 * h))) ((zr_c (by decide) ((zV_h hv (k := h) (by omega)).1))) ?_
  rcases (show σ (38 + 6 * h) = 0 ∨ σ (38 + 6 * h) = 1 ∨ σ (38 + 6 * h) = 2 ∨ σ (38 + 6 * h) = 3 ∨ σ (38 + 6 * h) = 4 ∨ σ (38 + 6 * h) = 5 from (by omega)) with e55 | e55 | e55 | e55 | e55 | e55
  · refine zi_top (y := nI 0) (congrArg nI e55) ?_
    refine zi_aaldN cw0_1 (by decide) (t := 2) rfl (by decide) dX11_act_55 ?_
    refine zi_astore (L' := [(5, .ref 2), (4, .int (nI h)), (0, .ref 0), (1, .int (nI a)), (2, .int (nI 2)), (3, .int x)]) dX11_act_56 (by decide) rfl ?_
    refine zi_aload_n dX11_act_58 (i := 0) rfl 2 rfl ?_
    refine zi_aload dX11_act_59 0 rfl ?_
    refine zi_putR fd_X11_323_X11 fp_X11_15 rfl cw0_0 rfl (by decide) (by decide) rfl dX11_act_61 ?_
    refine zi_aload dX11_act_64 0 rfl ?_
    refine zi_iload dX11_act_66 1 rfl ?_
    refine zi_aload_n dX11_act_68 (i := 0) rfl 2 rfl ?_
    refine zi_getR fd_X11_34_X11 rfl cw0_0 rfl dX11_act_69 ?_
    refine zi_getR fd_X11_225_X10 rfl cw0_14 rfl dX11_act_72 ?_
    refine zi_iload dX11_act_75 1 rfl ?_
    refine zi_ialdN cw0_18 (by omega) (by decide) dX11_act_77 ?_
    refine zi_top (y := nI (σ (38 + 6 * h + 3))) ((zr_c (by decide) (zr_c (by decide) ((zV_h hv (k := h) (by omega)).2.2.2.1)))) ?_
    refine zcV (zc_V (as := [.int (nI h), .int (nI (σ (38 + 6 * h + 3)))]) lk_X11_327 ce_X2_become cw0_2 rfl rfl dX11_act_78 (by decide) rfl rfl (Nat.le_of_ble_eq_true rfl)) ok_X2_become_2 (fun M78 h78 => ?_)
    have hbB : zHj 2 h (σ (38 + 6 * h + 3)) 0 M78 := by rw [h78]; exact zbc_h
    refine zi_iload_n dX11_act_81 (i := 2) rfl 4 rfl ?_
    refine zi_tableIn (off := 48) (tgt := 130) dX11_act_82 (by decide) (by decide) (by decide) (by decide) ?_
    refine zi_aload dX11_act_130 0 rfl ?_
    refine zi_iload_n dX11_act_132 (i := 3) rfl 5 rfl ?_
    refine zcJ (zc_V (as := [.int x]) lk_X11_337 ce_X2_counts cw0_2 rfl rfl dX11_act_133 (by decide) rfl rfl (Nat.le_of_ble_eq_true rfl)) (n_X2_counts_2 hbB (by decide) (by omega) (by omega) hd) (fun x133 M133 h133 => ?_)
    obtain ⟨hrr, h133⟩ := h133
    have hp4 : M133 2 4 = nI 0 := by rw [h133]; exact (zHj_c hbB).2.2.2
    refine zi_istore (L' := [(6, .int x133), (5, .ref 2), (4, .int (nI h)), (0, .ref 0), (1, .int (nI a)), (2, .int (nI 2)), (3, .int x)]) dX11_act_136 (by decide) rfl ?_
    refine zi_goto (tgt := 149) dX11_act_138 (by decide) ?_
    refine zi_aload dX11_act_149 1 rfl ?_
    refine zi_getI fd_X11_343_X2 rfl cw0_2 rfl dX11_act_151 ?_
    refine zi_top (y := nI 0) ((hp4)) ?_
    refine zi_ifN_eq (by decide) (tgt := 162) dX11_act_154 (by decide) (fun _ => ?_) (fun c => absurd c (by decide))
    refine zi_iload dX11_act_162 0 rfl ?_
    refine zi_retJ rfl rfl dX11_act_164 ?_
    refine ⟨2, ?_, ?_⟩
    · rw [hrr]; exact (actX_2_2 e55 hd).symm
    · rw [actT_2_2 e55 hd, h133]
      exact zTk_of (by decide) _ h78
  · refine zi_top (y := nI 1) (congrArg nI e55) ?_
    refine zi_aaldN cw0_1 (by decide) (t := 4) rfl (by decide) dX11_act_55 ?_
    refine zi_astore (L' := [(5, .ref 4), (4, .int (nI h)), (0, .ref 0), (1, .int (nI a)), (2, .int (nI 2)), (3, .int x)]) dX11_act_56 (by decide) rfl ?_
    refine zi_aload_n dX11_act_58 (i := 0) rfl 2 rfl ?_
    refine zi_aload dX11_act_59 0 rfl ?_
    refine zi_putR fd_X11_323_X11 fp_X11_15 rfl cw0_0 rfl (by decide) (by decide) rfl dX11_act_61 ?_
    refine zi_aload dX11_act_64 0 rfl ?_
    refine zi_iload dX11_act_66 1 rfl ?_
    refine zi_aload_n dX11_act_68 (i := 0) rfl 2 rfl ?_
    refine zi_getR fd_X11_34_X11 rfl cw0_0 rfl dX11_act_69 ?_
    refine zi_getR fd_X11_225_X10 rfl cw0_14 rfl dX11_act_72 ?_
    refine zi_iload dX11_act_75 1 rfl ?_
    refine zi_ialdN cw0_18 (by omega) (by decide) dX11_act_77 ?_
    refine zi_top (y := nI (σ (38 + 6 * h + 3))) ((zr_c (by decide) (zr_c (by decide) ((zV_h hv (k := h) (by omega)).2.2.2.1)))) ?_
    refine zcV (zc_U (as := [.int (nI h), .int (nI (σ (38 + 6 * h + 3)))]) lk_X11_327_X0 ce_X2_become (qC := (RX0, TX0, 5)) cw0_4 rfl dX11_act_78 (by decide) rfl rfl (Nat.le_of_ble_eq_true rfl)) ok_X2_become_4 (fun M78 h78 => ?_)
    have hbB : zHj 4 h (σ (38 + 6 * h + 3)) 0 M78 := by rw [h78]; exact zbc_h
    refine zi_iload_n dX11_act_81 (i := 2) rfl 4 rfl ?_
    refine zi_tableIn (off := 48) (tgt := 130) dX11_act_82 (by decide) (by decide) (by decide) (by decide) ?_
    refine zi_aload dX11_act_130 0 rfl ?_
    refine zi_iload_n dX11_act_132 (i := 3) rfl 5 rfl ?_
    refine zcJ (zc_U (as := [.int x]) lk_X11_337_X0 ce_X2_counts (qC := (RX0, TX0, 5)) cw0_4 rfl dX11_act_133 (by decide) rfl rfl (Nat.le_of_ble_eq_true rfl)) (n_X2_counts_4 hbB (by decide) (by omega) (by omega) hd) (fun x133 M133 h133 => ?_)
    obtain ⟨hrr, h133⟩ := h133
    have hp4 : M133 4 4 = nI 0 := by rw [h133]; exact (zHj_c hbB).2.2.2
    refine zi_istore (L' := [(6, .int x133), (5, .ref 4), (4, .int (nI h)), (0, .ref 0), (1, .int (nI a)), (2, .int (nI 2)), (3, .int x)]) dX11_act_136 (by decide) rfl ?_
    refine zi_goto (tgt := 149) dX11_act_138 (by decide) ?_
    refine zi_aload dX11_act_149 1 rfl ?_
    refine zi_getI fd_X11_343_X0 rfl cw0_4 rfl dX11_act_151 ?_
    refine zi_top (y := nI 0) ((hp4)) ?_
    refine zi_ifN_eq (by decide) (tgt := 162) dX11_act_154 (by decide) (fun _ => ?_) (fun c => absurd c (by decide))
    refine zi_iload dX11_act_162 0 rfl ?_
    refine zi_retJ rfl rfl dX11_act_164 ?_
    refine ⟨4, ?_, ?_⟩
    · rw [hrr]; exact (actX_2_4 e55 hd).symm
    · rw [actT_2_4 e55 hd, h133]
      exact zTk_of (by decide) _ h78
  · refine zi_top (y := nI 2) (congrArg nI e55) ?_
    refine zi_aaldN cw0_1 (by decide) (t := 6) rfl (by decide) dX11_act_55 ?_
    refine zi_astore (L' := [(5, .ref 6), (4, .int (nI h)), (0, .ref 0), (1, .int (nI a)), (2, .int (nI 2)), (3, .int x)]) dX11_act_56 (by decide) rfl ?_
    refine zi_aload_n dX11_act_58 (i := 0) rfl 2 rfl ?_
    refine zi_aload dX11_act_59 0 rfl ?_
    refine zi_putR fd_X11_323_X11 fp_X11_15 rfl cw0_0 rfl (by decide) (by decide) rfl dX11_act_61 ?_
    refine zi_aload dX11_act_64 0 rfl ?_
    refine zi_iload dX11_act_66 1 rfl ?_
    refine zi_aload_n dX11_act_68 (i := 0) rfl 2 rfl ?_
    refine zi_getR fd_X11_34_X11 rfl cw0_0 rfl dX11_act_69 ?_
    refine zi_getR fd_X11_225_X10 rfl cw0_14 rfl dX11_act_72 ?_
    refine zi_iload dX11_act_75 1 rfl ?_
    refine zi_ialdN cw0_18 (by omega) (by decide) dX11_act_77 ?_
    refine zi_top (y := nI (σ (38 + 6 * h + 3))) ((zr_c (by decide) (zr_c (by decide) ((zV_h hv (k := h) (by omega)).2.2.2.1)))) ?_
    refine zcV (zc_U (as := [.int (nI h), .int (nI (σ (38 + 6 * h + 3)))]) lk_X11_327_X8 ce_X2_become (qC := (RX8, TX8, 5)) cw0_6 rfl dX11_act_78 (by decide) rfl rfl (Nat.le_of_ble_eq_true rfl)) ok_X2_become_6 (fun M78 h78 => ?_)
    have hbB : zHj 6 h (σ (38 + 6 * h + 3)) 0 M78 := by rw [h78]; exact zbc_h
    refine zi_iload_n dX11_act_81 (i := 2) rfl 4 rfl ?_
    refine zi_tableIn (off := 48) (tgt := 130) dX11_act_82 (by decide) (by decide) (by decide) (by decide) ?_
    refine zi_aload dX11_act_130 0 rfl ?_
    refine zi_iload_n dX11_act_132 (i := 3) rfl 5 rfl ?_
    refine zcJ (zc_U (as := [.int x]) lk_X11_337_X8 ce_X2_counts (qC := (RX8, TX8, 5)) cw0_6 rfl dX11_act_133 (by decide) rfl rfl (Nat.le_of_ble_eq_true rfl)) (n_X2_counts_6 hbB (by decide) (by omega) (by omega) hd) (fun x133 M133 h133 => ?_)
    obtain ⟨hrr, h133⟩ := h133
    have hp4 : M133 6 4 = nI 0 := by rw [h133]; exact (zHj_c hbB).2.2.2
    refine zi_istore (L' := [(6, .int x133), (5, .ref 6), (4, .int (nI h)), (0, .ref 0), (1, .int (nI a)), (2, .int (nI 2)), (3, .int x)]) dX11_act_136 (by decide) rfl ?_
    refine zi_goto (tgt := 149) dX11_act_138 (by decide) ?_
    refine zi_aload dX11_act_149 1 rfl ?_
    refine zi_getI fd_X11_343_X8 rfl cw0_6 rfl dX11_act_151 ?_
    refine zi_top (y := nI 0) ((hp4)) ?_
    refine zi_ifN_eq (by decide) (tgt := 162) dX11_act_154 (by decide) (fun _ => ?_) (fun c => absurd c (by decide))
    refine zi_iload dX11_act_162 0 rfl ?_
    refine zi_retJ rfl rfl dX11_act_164 ?_
    refine ⟨6, ?_, ?_⟩
    · rw [hrr]; exact (actX_2_6 e55 hd).symm
    · rw [actT_2_6 e55 hd, h133]
      exact zTk_of (by decide) _ h78
  · refine zi_top (y := nI 3) (congrArg nI e55) ?_
    refine zi_aaldN cw0_1 (by decide) (t := 8) rfl (by decide) dX11_act_55 ?_
    refine zi_astore (L' := [(5, .ref 8), (4, .int (nI h)), (0, .ref 0), (1, .int (nI a)), (2, .int (nI 2)), (3, .int x)]) dX11_act_56 (by decide) rfl ?_
    refine zi_aload_n dX11_act_58 (i := 0) rfl 2 rfl ?_
    refine zi_aload dX11_act_59 0 rfl ?_
    refine zi_putR fd_X11_323_X11 fp_X11_15 rfl cw0_0 rfl (by decide) (by decide) rfl dX11_act_61 ?_
    refine zi_aload dX11_act_64 0 rfl ?_
    refine zi_iload dX11_act_66 1 rfl ?_
    refine zi_aload_n dX11_act_68 (i := 0) rfl 2 rfl ?_
    refine zi_getR fd_X11_34_X11 rfl cw0_0 rfl dX11_act_69 ?_
    refine zi_getR fd_X11_225_X10 rfl cw0_14 rfl dX11_act_72 ?_
    refine zi_iload dX11_act_75 1 rfl ?_
    refine zi_ialdN cw0_18 (by omega) (by decide) dX11_act_77 ?_
    refine zi_top (y := nI (σ (38 + 6 * h + 3))) ((zr_c (by decide) (zr_c (by decide) ((zV_h hv (k := h) (by omega)).2.2.2.1)))) ?_
    refine zcV (zc_U (as := [.int (nI h), .int (nI (σ (38 + 6 * h + 3)))]) lk_X11_327_X9 ce_X2_become (qC := (RX9, TX9, 5)) cw0_8 rfl dX11_act_78 (by decide) rfl rfl (Nat.le_of_ble_eq_true rfl)) ok_X2_become_8 (fun M78 h78 => ?_)
    have hbB : zHj 8 h (σ (38 + 6 * h + 3)) 0 M78 := by rw [h78]; exact zbc_h
    refine zi_iload_n dX11_act_81 (i := 2) rfl 4 rfl ?_
    refine zi_tableIn (off := 48) (tgt := 130) dX11_act_82 (by decide) (by decide) (by decide) (by decide) ?_
    refine zi_aload dX11_act_130 0 rfl ?_
    refine zi_iload_n dX11_act_132 (i := 3) rfl 5 rfl ?_
    refine zcJ (zc_U (as := [.int x]) lk_X11_337_X9 ce_X2_counts (qC := (RX9, TX9, 5)) cw0_8 rfl dX11_act_133 (by decide) rfl rfl (Nat.le_of_ble_eq_true rfl)) (n_X2_counts_8 hbB (by decide) (by omega) (by omega) hd) (fun x133 M133 h133 => ?_)
    obtain ⟨hrr, h133⟩ := h133
    have hp4 : M133 8 4 = nI 0 := by rw [h133]; exact (zHj_c hbB).2.2.2
    refine zi_istore (L' := [(6, .int x133), (5, .ref 8), (4, .int (nI h)), (0, .ref 0), (1, .int (nI a)), (2, .int (nI 2)), (3, .int x)]) dX11_act_136 (by decide) rfl ?_
    refine zi_goto (tgt := 149) dX11_act_138 (by decide) ?_
    refine zi_aload dX11_act_149 1 rfl ?_
    refine zi_getI fd_X11_343_X9 rfl cw0_8 rfl dX11_act_151 ?_
    refine zi_top (y := nI 0) ((hp4)) ?_
    refine zi_ifN_eq (by decide) (tgt := 162) dX11_act_154 (by decide) (fun _ => ?_) (fun c => absurd c (by decide))
    refine zi_iload dX11_act_162 0 rfl ?_
    refine zi_retJ rfl rfl dX11_act_164 ?_
    refine ⟨8, ?_, ?_⟩
    · rw [hrr]; exact (actX_2_8 e55 hd).symm
    · rw [actT_2_8 e55 hd, h133]
      exact zTk_of (by decide) _ h78
  · refine zi_top (y := nI 4) (congrArg nI e55) ?_
    refine zi_aaldN cw0_1 (by decide) (t := 10) rfl (by decide) dX11_act_55 ?_
    refine zi_astore (L' := [(5, .ref 10), (4, .int (nI h)), (0, .ref 0), (1, .int (nI a)), (2, .int (nI 2)), (3, .int x)]) dX11_act_56 (by decide) rfl ?_
    refine zi_aload_n dX11_act_58 (i := 0) rfl 2 rfl ?_
    refine zi_aload dX11_act_59 0 rfl ?_
    refine zi_putR fd_X11_323_X11 fp_X11_15 rfl cw0_0 rfl (by decide) (by decide) rfl dX11_act_61 ?_
    refine zi_aload dX11_act_64 0 rfl ?_
    refine zi_iload dX11_act_66 1 rfl ?_
    refine zi_aload_n dX11_act_68 (i := 0) rfl 2 rfl ?_
    refine zi_getR fd_X11_34_X11 rfl cw0_0 rfl dX11_act_69 ?_
    refine zi_getR fd_X11_225_X10 rfl cw0_14 rfl dX11_act_72 ?_
    refine zi_iload dX11_act_75 1 rfl ?_
    refine zi_ialdN cw0_18 (by omega) (by decide) dX11_act_77 ?_
    refine zi_top (y := nI (σ (38 + 6 * h + 3))) ((zr_c (by decide) (zr_c (by decide) ((zV_h hv (k := h) (by omega)).2.2.2.1)))) ?_
    refine zcV (zc_U (as := [.int (nI h), .int (nI (σ (38 + 6 * h + 3)))]) lk_X11_327_X1 ce_X2_become (qC := (RX1, TX1, 5)) cw0_10 rfl dX11_act_78 (by decide) rfl rfl (Nat.le_of_ble_eq_true rfl)) ok_X2_become_10 (fun M78 h78 => ?_)
    have hbB : zHj 10 h (σ (38 + 6 * h + 3)) 0 M78 := by rw [h78]; exact zbc_h
    refine zi_iload_n dX11_act_81 (i := 2) rfl 4 rfl ?_
    refine zi_tableIn (off := 48) (tgt := 130) dX11_act_82 (by decide) (by decide) (by decide) (by decide) ?_
    refine zi_aload dX11_act_130 0 rfl ?_
    refine zi_iload_n dX11_act_132 (i := 3) rfl 5 rfl ?_
    refine zcJ (zc_O (as := [.int x]) lk_X11_337_X1 ce_X1_counts (qC := (RX1, TX1, 5)) cw0_10 rfl dX11_act_133 (by decide) rfl rfl (Nat.le_of_ble_eq_true rfl)) (n_X1_counts_10 hbB (by decide) (by omega) (by omega) hd) (fun x133 M133 h133 => ?_)
    obtain ⟨hrr, h133⟩ := h133
    have hp4 : M133 10 4 = nI 0 := by rw [h133]; exact (zHj_cs _ _ _ hbB).2.2.2
    refine zi_istore (L' := [(6, .int x133), (5, .ref 10), (4, .int (nI h)), (0, .ref 0), (1, .int (nI a)), (2, .int (nI 2)), (3, .int x)]) dX11_act_136 (by decide) rfl ?_
    refine zi_goto (tgt := 149) dX11_act_138 (by decide) ?_
    refine zi_aload dX11_act_149 1 rfl ?_
    refine zi_getI fd_X11_343_X1 rfl cw0_10 rfl dX11_act_151 ?_
    refine zi_top (y := nI 0) ((hp4)) ?_
    refine zi_ifN_eq (by decide) (tgt := 162) dX11_act_154 (by decide) (fun _ => ?_) (fun c => absurd c (by decide))
    refine zi_iload dX11_act_162 0 rfl ?_
    refine zi_retJ rfl rfl dX11_act_164 ?_
    refine ⟨10, ?_, ?_⟩
    · rw [hrr]; exact (actX_2_10 e55 hd).symm
    · rw [actT_2_10 e55 hd, h133]
      exact zTk_of (by decide) _ h78
  · refine zi_top (y := nI 5) (congrArg nI e55) ?_
    refine zi_aaldN cw0_1 (by decide) (t := 12) rfl (by decide) dX11_act_55 ?_
    refine zi_astore (L' := [(5, .ref 12), (4, .int (nI h)), (0, .ref 0), (1, .int (nI a)), (2, .int (nI 2)), (3, .int x)]) dX11_act_56 (by decide) rfl ?_
    refine zi_aload_n dX11_act_58 (i := 0) rfl 2 rfl ?_
    refine zi_aload dX11_act_59 0 rfl ?_
    refine zi_putR fd_X11_323_X11 fp_X11_15 rfl cw0_0 rfl (by decide) (by decide) rfl dX11_act_61 ?_
    refine zi_aload dX11_act_64 0 rfl ?_
    refine zi_iload dX11_act_66 1 rfl ?_
    refine zi_aload_n dX11_act_68 (i := 0) rfl 2 rfl ?_
    refine zi_getR fd_X11_34_X11 rfl cw0_0 rfl dX11_act_69 ?_
    refine zi_getR fd_X11_225_X10 rfl cw0_14 rfl dX11_act_72 ?_
    refine zi_iload dX11_act_75 1 rfl ?_
    refine zi_ialdN cw0_18 (by omega) (by decide) dX11_act_77 ?_
    refine zi_top (y := nI (σ (38 + 6 * h + 3))) ((zr_c (by decide) (zr_c (by decide) ((zV_h hv (k := h) (by omega)).2.2.2.1)))) ?_
    refine zcV (zc_U (as := [.int (nI h), .int (nI (σ (38 + 6 * h + 3)))]) lk_X11_327_X3 ce_X2_become (qC := (RX3, TX3, 5)) cw0_12 rfl dX11_act_78 (by decide) rfl rfl (Nat.le_of_ble_eq_true rfl)) ok_X2_become_12 (fun M78 h78 => ?_)
    have hbB : zHj 12 h (σ (38 + 6 * h + 3)) 0 M78 := by rw [h78]; exact zbc_h
    refine zi_iload_n dX11_act_81 (i := 2) rfl 4 rfl ?_
    refine zi_tableIn (off := 48) (tgt := 130) dX11_act_82 (by decide) (by decide) (by decide) (by decide) ?_
    refine zi_aload dX11_act_130 0 rfl ?_
    refine zi_iload_n dX11_act_132 (i := 3) rfl 5 rfl ?_
    refine zcJ (zc_O (as := [.int x]) lk_X11_337_X3 ce_X3_counts (qC := (RX3, TX3, 5)) cw0_12 rfl dX11_act_133 (by decide) rfl rfl (Nat.le_of_ble_eq_true rfl)) (n_X3_counts_12 hbB (by decide) (by omega) (by omega) hd) (fun x133 M133 h133 => ?_)
    obtain ⟨hrr, h133⟩ := h133
    have hp4 : M133 12 4 = nI 0 := by rw [h133]; exact (zHj_cs _ _ _ hbB).2.2.2
    refine zi_istore (L' := [(6, .int x133), (5, .ref 12), (4, .int (nI h)), (0, .ref 0), (1, .int (nI a)), (2, .int (nI 2)), (3, .int x)]) dX11_act_136 (by decide) rfl ?_
    refine zi_goto (tgt := 149) dX11_act_138 (by decide) ?_
    refine zi_aload dX11_act_149 1 rfl ?_
    refine zi_getI fd_X11_343_X3 rfl cw0_12 rfl dX11_act_151 ?_
    refine zi_top (y := nI 0) ((hp4)) ?_
    refine zi_ifN_eq (by decide) (tgt := 162) dX11_act_154 (by decide) (fun _ => ?_) (fun c => absurd c (by decide))
    refine zi_iload dX11_act_162 0 rfl ?_
    refine zi_retJ rfl rfl dX11_act_164 ?_
    refine ⟨12, ?_, ?_⟩
    · rw [hrr]; exact (actX_2_12 e55 hd).symm
    · rw [actT_2_12 e55 hd, h133]
      exact zTk_of (by decide) _ h78
set_option maxRecDepth 100000 in
set_option maxHeartbeats 4000000 in
theorem z_X11_act2 {M : zMem} {σ : Nat → Nat} {R : List gRl} {a h : Nat} {x : Int32} (ha : zVa 14 M σ R) (hk : qOk σ) (h1 : a < 4) (hn : M 106 a = nI 0) (hm : M 107 a = nI h) (hh5 : h ≤ 5) (hh1 : h < σ 6) (hd : qCoD σ h = 0) : zOkJ zw0 9 mX11_act [.ref 0, .int (nI a), .int (nI 2), .int x] M (fun r M' => ∃ b, r = qActX σ 2 h x ∧ zTk b (qActT σ 2 h) M M') := by
  have hv := ha.1
  have hb := hk.1
  have h66 := hk.2.1
  have hkk := hk.2.2.2.2.2.2.2.2.2.2.2.2 h (by omega)
  have ha0 := zVa_o (c := 0) (j := 15) (x := 0) ha (by decide)
  have hn0 : zup M 0 15 0 106 a = nI 0 := zr_c (by decide) hn
  have hm0 : zup M 0 15 0 107 a = nI h := zr_c (by decide) hm
  refine zOk_of (by decide +kernel) (fun _ => Nat.le_of_ble_eq_true rfl) (L := [(0, .ref 0), (1, .int (nI a)), (2, .int (nI 2)), (3, .int x)]) rfl ?_
  refine zi_aload_n dX11_act_0 (i := 0) rfl 0 rfl ?_
  refine zi_null dX11_act_1 ?_
  refine zi_putN fd_X11_323_X11 fp_X11_15 rfl cw0_0 rfl rfl dX11_act_2 ?_
  refine zi_iload_n dX11_act_5 (i := 1) rfl 1 rfl ?_
  refine zcI (zc_S (as := [.int (nI a)]) lk_X11_314 ce_X11_isShelf dX11_act_6 (by decide) rfl rfl (Nat.le_of_ble_eq_true rfl)) (zOkI_eq ok_X11_isShelf (zinT (by omega) (by omega) (by omega))) ?_
  refine zi_ifN_eq (by decide) (tgt := 20) dX11_act_9 (by decide) (fun c => absurd c (by decide)) (fun _ => ?_)
  refine zi_aload_n dX11_act_12 (i := 0) rfl 0 rfl ?_
  refine zi_iload_n dX11_act_13 (i := 1) rfl 1 rfl ?_
  refine zcI (zc_V (as := [.int (nI a)]) lk_X11_317 ce_X11_houseOn cw0_0 rfl rfl dX11_act_14 (by decide) rfl rfl (Nat.le_of_ble_eq_true rfl)) (zOkI_eq (ok_X11_houseOn ha0 hk h1 hn0 hm0 hh5) (if_pos hh1)) ?_
  refine zi_goto (tgt := 22) dX11_act_17 (by decide) ?_
  refine zi_istore (L' := [(4, .int (nI h)), (0, .ref 0), (1, .int (nI a)), (2, .int (nI 2)), (3, .int x)]) dX11_act_22 (by decide) rfl ?_
  refine zi_iload dX11_act_24 0 rfl ?_
  refine zi_bipush (v := (-3)) dX11_act_26 (by decide) ?_
  refine zi_icmp_eq (tgt := 39) dX11_act_28 (by decide) (fun c28 => False.elim (by exact nI_ne_n3 (by omega) c28)) (fun c28 => ?_)
  refine zi_iload_n dX11_act_31 (i := 2) rfl 3 rfl ?_
  refine zi_iconst (v := nI 3) dX11_act_32 (by decide) ?_
  refine zcI (zc_S (as := [.int (nI 2), .int (nI 3)]) lk_X11_86 ce_X11_isFrom0To dX11_act_33 (by decide) rfl rfl (Nat.le_of_ble_eq_true rfl)) (zOkI_eq ok_X11_isFrom0To (zinT (by omega) (by omega) (by omega))) ?_
  refine zi_ifN_ne (by decide) (tgt := 41) dX11_act_36 (by decide) (fun _ => ?_) (fun c => absurd c (by decide))
  refine zi_aload_n dX11_act_41 (i := 0) rfl 1 rfl ?_
  refine zi_getR fd_X11_25_X11 rfl cw0_0 rfl dX11_act_42 ?_
  refine zi_aload_n dX11_act_45 (i := 0) rfl 1 rfl ?_
  refine zi_getR fd_X11_34_X11 rfl cw0_0 rfl dX11_act_46 ?_
  refine zi_getR fd_X11_125_X10 rfl cw0_14 rfl dX11_act_49 ?_
  refine zi_iload dX11_act_52 0 rfl ?_
  refine zi_ialdN cw0_15 (by omega) (by decide) dX11_act_54 ?_
  refine zi_top (y := nI (σ (38 + 6 * h))) ((zr_c (by decide) ((zV_h hv (k := h) (by omega)).1))) ?_
  rcases (show σ (38 + 6 * h) = 0 ∨ σ (38 + 6 * h) = 1 ∨ σ (38 + 6 * h) = 2 ∨ σ (38 + 6 * h) = 3 ∨ σ (38 + 6 * h) = 4 ∨ σ (38 + 6 * h) = 5 from (by omega)) with e55 | e55 | e55 | e55 | e55 | e55
  · refine zi_top (y := nI 0) (congrArg nI e55) ?_
    refine zi_aaldN cw0_1 (by decide) (t := 2) rfl (by decide) dX11_act_55 ?_
    refine zi_astore (L' := [(5, .ref 2), (4, .int (nI h)), (0, .ref 0), (1, .int (nI a)), (2, .int (nI 2)), (3, .int x)]) dX11_act_56 (by decide) rfl ?_
    refine zi_aload_n dX11_act_58 (i := 0) rfl 2 rfl ?_
    refine zi_aload dX11_act_59 0 rfl ?_
    refine zi_putR fd_X11_323_X11 fp_X11_15 rfl cw0_0 rfl (by decide) (by decide) rfl dX11_act_61 ?_
    refine zi_aload dX11_act_64 0 rfl ?_
    refine zi_iload dX11_act_66 1 rfl ?_
    refine zi_aload_n dX11_act_68 (i := 0) rfl 2 rfl ?_
    refine zi_getR fd_X11_34_X11 rfl cw0_0 rfl dX11_act_69 ?_
    refine zi_getR fd_X11_225_X10 rfl cw0_14 rfl dX11_act_72 ?_
    refine zi_iload dX11_act_75 1 rfl ?_
    refine zi_ialdN cw0_18 (by omega) (by decide) dX11_act_77 ?_
    refine zi_top (y := nI (σ (38 + 6 * h + 3))) ((zr_c (by decide) (zr_c (by decide) ((zV_h hv (k := h) (by omega)).2.2.2.1)))) ?_
    refine zcV (zc_V (as := [.int (nI h), .int (nI (σ (38 + 6 * h + 3)))]) lk_X11_327 ce_X2_become cw0_2 rfl rfl dX11_act_78 (by decide) rfl rfl (Nat.le_of_ble_eq_true rfl)) ok_X2_become_2 (fun M78 h78 => ?_)
    have hbB : zHj 2 h (σ (38 + 6 * h + 3)) 0 M78 := by rw [h78]; exact zbc_h
    refine zi_iload_n dX11_act_81 (i := 2) rfl 4 rfl ?_
    refine zi_tableIn (off := 48) (tgt := 130) dX11_act_82 (by decide) (by decide) (by decide) (by decide) ?_
    refine zi_aload dX11_act_130 0 rfl ?_
    refine zi_iload_n dX11_act_132 (i := 3) rfl 5 rfl ?_
    refine zcJ (zc_V (as := [.int x]) lk_X11_337 ce_X2_counts cw0_2 rfl rfl dX11_act_133 (by decide) rfl rfl (Nat.le_of_ble_eq_true rfl)) (z_X2_counts_2 hbB (by decide) (by omega) (by omega) hd) (fun x133 M133 h133 => ?_)
    obtain ⟨-, h133⟩ := h133
    have hp4 : M133 2 4 = nI 1 := by rw [h133]; exact zpd_4
    refine zi_istore (L' := [(6, .int x133), (5, .ref 2), (4, .int (nI h)), (0, .ref 0), (1, .int (nI a)), (2, .int (nI 2)), (3, .int x)]) dX11_act_136 (by decide) rfl ?_
    refine zi_goto (tgt := 149) dX11_act_138 (by decide) ?_
    refine zi_aload dX11_act_149 1 rfl ?_
    refine zi_getI fd_X11_343_X2 rfl cw0_2 rfl dX11_act_151 ?_
    refine zi_top (y := nI 1) ((hp4)) ?_
    refine zi_ifN_eq (by decide) (tgt := 162) dX11_act_154 (by decide) (fun c => absurd c (by decide)) (fun _ => ?_)
    refine zi_bipush (v := (-15)) dX11_act_157 (by decide) ?_
    refine zi_goto (tgt := 164) dX11_act_159 (by decide) ?_
    refine zi_retJ rfl rfl dX11_act_164 ?_
    refine ⟨2, ?_, ?_⟩
    · exact (actX_z (by decide) hd).symm
    · rw [actZ_2_2 e55 hd, h133]
      exact zTk_pd (zTk_of (by decide) _ h78)
  · refine zi_top (y := nI 1) (congrArg nI e55) ?_
    refine zi_aaldN cw0_1 (by decide) (t := 4) rfl (by decide) dX11_act_55 ?_
    refine zi_astore (L' := [(5, .ref 4), (4, .int (nI h)), (0, .ref 0), (1, .int (nI a)), (2, .int (nI 2)), (3, .int x)]) dX11_act_56 (by decide) rfl ?_
    refine zi_aload_n dX11_act_58 (i := 0) rfl 2 rfl ?_
    refine zi_aload dX11_act_59 0 rfl ?_
    refine zi_putR fd_X11_323_X11 fp_X11_15 rfl cw0_0 rfl (by decide) (by decide) rfl dX11_act_61 ?_
    refine zi_aload dX11_act_64 0 rfl ?_
    refine zi_iload dX11_act_66 1 rfl ?_
    refine zi_aload_n dX11_act_68 (i := 0) rfl 2 rfl ?_
    refine zi_getR fd_X11_34_X11 rfl cw0_0 rfl dX11_act_69 ?_
    refine zi_getR fd_X11_225_X10 rfl cw0_14 rfl dX11_act_72 ?_
    refine zi_iload dX11_act_75 1 rfl ?_
    refine zi_ialdN cw0_18 (by omega) (by decide) dX11_act_77 ?_
    refine zi_top (y := nI (σ (38 + 6 * h + 3))) ((zr_c (by decide) (zr_c (by decide) ((zV_h hv (k := h) (by omega)).2.2.2.1)))) ?_
    refine zcV (zc_U (as := [.int (nI h), .int (nI (σ (38 + 6 * h + 3)))]) lk_X11_327_X0 ce_X2_become (qC := (RX0, TX0, 5)) cw0_4 rfl dX11_act_78 (by decide) rfl rfl (Nat.le_of_ble_eq_true rfl)) ok_X2_become_4 (fun M78 h78 => ?_)
    have hbB : zHj 4 h (σ (38 + 6 * h + 3)) 0 M78 := by rw [h78]; exact zbc_h
    refine zi_iload_n dX11_act_81 (i := 2) rfl 4 rfl ?_
    refine zi_tableIn (off := 48) (tgt := 130) dX11_act_82 (by decide) (by decide) (by decide) (by decide) ?_
    refine zi_aload dX11_act_130 0 rfl ?_
    refine zi_iload_n dX11_act_132 (i := 3) rfl 5 rfl ?_
    refine zcJ (zc_U (as := [.int x]) lk_X11_337_X0 ce_X2_counts (qC := (RX0, TX0, 5)) cw0_4 rfl dX11_act_133 (by decide) rfl rfl (Nat.le_of_ble_eq_true rfl)) (z_X2_counts_4 hbB (by decide) (by omega) (by omega) hd) (fun x133 M133 h133 => ?_)
    obtain ⟨-, h133⟩ := h133
    have hp4 : M133 4 4 = nI 1 := by rw [h133]; exact zpd_4
    refine zi_istore (L' := [(6, .int x133), (5, .ref 4), (4, .int (nI h)), (0, .ref 0), (1, .int (nI a)), (2, .int (nI 2)), (3, .int x)]) dX11_act_136 (by decide) rfl ?_
    refine zi_goto (tgt := 149) dX11_act_138 (by decide) ?_
    refine zi_aload dX11_act_149 1 rfl ?_
    refine zi_getI fd_X11_343_X0 rfl cw0_4 rfl dX11_act_151 ?_
    refine zi_top (y := nI 1) ((hp4)) ?_
    refine zi_ifN_eq (by decide) (tgt := 162) dX11_act_154 (by decide) (fun c => absurd c (by decide)) (fun _ => ?_)
    refine zi_bipush (v := (-15)) dX11_act_157 (by decide) ?_
    refine zi_goto (tgt := 164) dX11_act_159 (by decide) ?_
    refine zi_retJ rfl rfl dX11_act_164 ?_
    refine ⟨4, ?_, ?_⟩
    · exact (actX_z (by decide) hd).symm
    · rw [actZ_2_4 e55 hd, h133]
      exact zTk_pd (zTk_of (by decide) _ h78)
  · refine zi_top (y := nI 2) (congrArg nI e55) ?_
    refine zi_aaldN cw0_1 (by decide) (t := 6) rfl (by decide) dX11_act_55 ?_
    refine zi_astore (L' := [(5, .ref 6), (4, .int (nI h)), (0, .ref 0), (1, .int (nI a)), (2, .int (nI 2)), (3, .int x)]) dX11_act_56 (by decide) rfl ?_
    refine zi_aload_n dX11_act_58 (i := 0) rfl 2 rfl ?_
    refine zi_aload dX11_act_59 0 rfl ?_
    refine zi_putR fd_X11_323_X11 fp_X11_15 rfl cw0_0 rfl (by decide) (by decide) rfl dX11_act_61 ?_
    refine zi_aload dX11_act_64 0 rfl ?_
    refine zi_iload dX11_act_66 1 rfl ?_
    refine zi_aload_n dX11_act_68 (i := 0) rfl 2 rfl ?_
    refine zi_getR fd_X11_34_X11 rfl cw0_0 rfl dX11_act_69 ?_
    refine zi_getR fd_X11_225_X10 rfl cw0_14 rfl dX11_act_72 ?_
    refine zi_iload dX11_act_75 1 rfl ?_
    refine zi_ialdN cw0_18 (by omega) (by decide) dX11_act_77 ?_
    refine zi_top (y := nI (σ (38 + 6 * h + 3))) ((zr_c (by decide) (zr_c (by decide) ((zV_h hv (k := h) (by omega)).2.2.2.1)))) ?_
    refine zcV (zc_U (as := [.int (nI h), .int (nI (σ (38 + 6 * h + 3)))]) lk_X11_327_X8 ce_X2_become (qC := (RX8, TX8, 5)) cw0_6 rfl dX11_act_78 (by decide) rfl rfl (Nat.le_of_ble_eq_true rfl)) ok_X2_become_6 (fun M78 h78 => ?_)
    have hbB : zHj 6 h (σ (38 + 6 * h + 3)) 0 M78 := by rw [h78]; exact zbc_h
    refine zi_iload_n dX11_act_81 (i := 2) rfl 4 rfl ?_
    refine zi_tableIn (off := 48) (tgt := 130) dX11_act_82 (by decide) (by decide) (by decide) (by decide) ?_
    refine zi_aload dX11_act_130 0 rfl ?_
    refine zi_iload_n dX11_act_132 (i := 3) rfl 5 rfl ?_
    refine zcJ (zc_U (as := [.int x]) lk_X11_337_X8 ce_X2_counts (qC := (RX8, TX8, 5)) cw0_6 rfl dX11_act_133 (by decide) rfl rfl (Nat.le_of_ble_eq_true rfl)) (z_X2_counts_6 hbB (by decide) (by omega) (by omega) hd) (fun x133 M133 h133 => ?_)
    obtain ⟨-, h133⟩ := h133
    have hp4 : M133 6 4 = nI 1 := by rw [h133]; exact zpd_4
    refine zi_istore (L' := [(6, .int x133), (5, .ref 6), (4, .int (nI h)), (0, .ref 0), (1, .int (nI a)), (2, .int (nI 2)), (3, .int x)]) dX11_act_136 (by decide) rfl ?_
    refine zi_goto (tgt := 149) dX11_act_138 (by decide) ?_
    refine zi_aload dX11_act_149 1 rfl ?_
    refine zi_getI fd_X11_343_X8 rfl cw0_6 rfl dX11_act_151 ?_
    refine zi_top (y := nI 1) ((hp4)) ?_
    refine zi_ifN_eq (by decide) (tgt := 162) dX11_act_154 (by decide) (fun c => absurd c (by decide)) (fun _ => ?_)
    refine zi_bipush (v := (-15)) dX11_act_157 (by decide) ?_
    refine zi_goto (tgt := 164) dX11_act_159 (by decide) ?_
    refine zi_retJ rfl rfl dX11_act_164 ?_
    refine ⟨6, ?_, ?_⟩
    · exact (actX_z (by decide) hd).symm
    · rw [actZ_2_6 e55 hd, h133]
      exact zTk_pd (zTk_of (by decide) _ h78)
  · refine zi_top (y := nI 3) (congrArg nI e55) ?_
    refine zi_aaldN cw0_1 (by decide) (t := 8) rfl (by decide) dX11_act_55 ?_
    refine zi_astore (L' := [(5, .ref 8), (4, .int (nI h)), (0, .ref 0), (1, .int (nI a)), (2, .int (nI 2)), (3, .int x)]) dX11_act_56 (by decide) rfl ?_
    refine zi_aload_n dX11_act_58 (i := 0) rfl 2 rfl ?_
    refine zi_aload dX11_act_59 0 rfl ?_
    refine zi_putR fd_X11_323_X11 fp_X11_15 rfl cw0_0 rfl (by decide) (by decide) rfl dX11_act_61 ?_
    refine zi_aload dX11_act_64 0 rfl ?_
    refine zi_iload dX11_act_66 1 rfl ?_
    refine zi_aload_n dX11_act_68 (i := 0) rfl 2 rfl ?_
    refine zi_getR fd_X11_34_X11 rfl cw0_0 rfl dX11_act_69 ?_
    refine zi_getR fd_X11_225_X10 rfl cw0_14 rfl dX11_act_72 ?_
    refine zi_iload dX11_act_75 1 rfl ?_
    refine zi_ialdN cw0_18 (by omega) (by decide) dX11_act_77 ?_
    refine zi_top (y := nI (σ (38 + 6 * h + 3))) ((zr_c (by decide) (zr_c (by decide) ((zV_h hv (k := h) (by omega)).2.2.2.1)))) ?_
    refine zcV (zc_U (as := [.int (nI h), .int (nI (σ (38 + 6 * h + 3)))]) lk_X11_327_X9 ce_X2_become (qC := (RX9, TX9, 5)) cw0_8 rfl dX11_act_78 (by decide) rfl rfl (Nat.le_of_ble_eq_true rfl)) ok_X2_become_8 (fun M78 h78 => ?_)
    have hbB : zHj 8 h (σ (38 + 6 * h + 3)) 0 M78 := by rw [h78]; exact zbc_h
    refine zi_iload_n dX11_act_81 (i := 2) rfl 4 rfl ?_
    refine zi_tableIn (off := 48) (tgt := 130) dX11_act_82 (by decide) (by decide) (by decide) (by decide) ?_
    refine zi_aload dX11_act_130 0 rfl ?_
    refine zi_iload_n dX11_act_132 (i := 3) rfl 5 rfl ?_
    refine zcJ (zc_U (as := [.int x]) lk_X11_337_X9 ce_X2_counts (qC := (RX9, TX9, 5)) cw0_8 rfl dX11_act_133 (by decide) rfl rfl (Nat.le_of_ble_eq_true rfl)) (z_X2_counts_8 hbB (by decide) (by omega) (by omega) hd) (fun x133 M133 h133 => ?_)
    obtain ⟨-, h133⟩ := h133
    have hp4 : M133 8 4 = nI 1 := by rw [h133]; exact zpd_4
    refine zi_istore (L' := [(6, .int x133), (5, .ref 8), (4, .int (nI h)), (0, .ref 0), (1, .int (nI a)), (2, .int (nI 2)), (3, .int x)]) dX11_act_136 (by decide) rfl ?_
    refine zi_goto (tgt := 149) dX11_act_138 (by decide) ?_
    refine zi_aload dX11_act_149 1 rfl ?_
    refine zi_getI fd_X11_343_X9 rfl cw0_8 rfl dX11_act_151 ?_
    refine zi_top (y := nI 1) ((hp4)) ?_
    refine zi_ifN_eq (by decide) (tgt := 162) dX11_act_154 (by decide) (fun c => absurd c (by decide)) (fun _ => ?_)
    refine zi_bipush (v := (-15)) dX11_act_157 (by decide) ?_
    refine zi_goto (tgt := 164) dX11_act_159 (by decide) ?_
    refine zi_retJ rfl rfl dX11_act_164 ?_
    refine ⟨8, ?_, ?_⟩
    · exact (actX_z (by decide) hd).symm
    · rw [actZ_2_8 e55 hd, h133]
      exact zTk_pd (zTk_of (by decide) _ h78)
  · refine zi_top (y := nI 4) (congrArg nI e55) ?_
    refine zi_aaldN cw0_1 (by decide) (t := 10) rfl (by decide) dX11_act_55 ?_
    refine zi_astore (L' := [(5, .ref 10), (4, .int (nI h)), (0, .ref 0), (1, .int (nI a)), (2, .int (nI 2)), (3, .int x)]) dX11_act_56 (by decide) rfl ?_
    refine zi_aload_n dX11_act_58 (i := 0) rfl 2 rfl ?_
    refine zi_aload dX11_act_59 0 rfl ?_
    refine zi_putR fd_X11_323_X11 fp_X11_15 rfl cw0_0 rfl (by decide) (by decide) rfl dX11_act_61 ?_
    refine zi_aload dX11_act_64 0 rfl ?_
    refine zi_iload dX11_act_66 1 rfl ?_
    refine zi_aload_n dX11_act_68 (i := 0) rfl 2 rfl ?_
    refine zi_getR fd_X11_34_X11 rfl cw0_0 rfl dX11_act_69 ?_
    refine zi_getR fd_X11_225_X10 rfl cw0_14 rfl dX11_act_72 ?_
    refine zi_iload dX11_act_75 1 rfl ?_
    refine zi_ialdN cw0_18 (by omega) (by decide) dX11_act_77 ?_
    refine zi_top (y := nI (σ (38 + 6 * h + 3))) ((zr_c (by decide) (zr_c (by decide) ((zV_h hv (k := h) (by omega)).2.2.2.1)))) ?_
    refine zcV (zc_U (as := [.int (nI h), .int (nI (σ (38 + 6 * h + 3)))]) lk_X11_327_X1 ce_X2_become (qC := (RX1, TX1, 5)) cw0_10 rfl dX11_act_78 (by decide) rfl rfl (Nat.le_of_ble_eq_true rfl)) ok_X2_become_10 (fun M78 h78 => ?_)
    have hbB : zHj 10 h (σ (38 + 6 * h + 3)) 0 M78 := by rw [h78]; exact zbc_h
    refine zi_iload_n dX11_act_81 (i := 2) rfl 4 rfl ?_
    refine zi_tableIn (off := 48) (tgt := 130) dX11_act_82 (by decide) (by decide) (by decide) (by decide) ?_
    refine zi_aload dX11_act_130 0 rfl ?_
    refine zi_iload_n dX11_act_132 (i := 3) rfl 5 rfl ?_
    refine zcJ (zc_O (as := [.int x]) lk_X11_337_X1 ce_X1_counts (qC := (RX1, TX1, 5)) cw0_10 rfl dX11_act_133 (by decide) rfl rfl (Nat.le_of_ble_eq_true rfl)) (z_X1_counts_10 hbB (by decide) (by omega) (by omega) hd) (fun x133 M133 h133 => ?_)
    obtain ⟨-, h133⟩ := h133
    have hp4 : M133 10 4 = nI 1 := by rw [h133]; exact zpd_4
    refine zi_istore (L' := [(6, .int x133), (5, .ref 10), (4, .int (nI h)), (0, .ref 0), (1, .int (nI a)), (2, .int (nI 2)), (3, .int x)]) dX11_act_136 (by decide) rfl ?_
    refine zi_goto (tgt := 149) dX11_act_138 (by decide) ?_
    refine zi_aload dX11_act_149 1 rfl ?_
    refine zi_getI fd_X11_343_X1 rfl cw0_10 rfl dX11_act_151 ?_
    refine zi_top (y := nI 1) ((hp4)) ?_
    refine zi_ifN_eq (by decide) (tgt := 162) dX11_act_154 (by decide) (fun c => absurd c (by decide)) (fun _ => ?_)
    refine zi_bipush (v := (-15)) dX11_act_157 (by decide) ?_
    refine zi_goto (tgt := 164) dX11_act_159 (by decide) ?_
    refine zi_retJ rfl rfl dX11_act_164 ?_
    refine ⟨10, ?_, ?_⟩
    · exact (actX_z (by decide) hd).symm
    · rw [actZ_2_10 e55 hd, h133]
      exact zTk_pd (zTk_of (by decide) _ h78)
  · refine zi_top (y := nI 5) (congrArg nI e55) ?_
    refine zi_aaldN cw0_1 (by decide) (t := 12) rfl (by decide) dX11_act_55 ?_
    refine zi_astore (L' := [(5, .ref 12), (4, .int (nI h)), (0, .ref 0), (1, .int (nI a)), (2, .int (nI 2)), (3, .int x)]) dX11_act_56 (by decide) rfl ?_
    refine zi_aload_n dX11_act_58 (i := 0) rfl 2 rfl ?_
    refine zi_aload dX11_act_59 0 rfl ?_
    refine zi_putR fd_X11_323_X11 fp_X11_15 rfl cw0_0 rfl (by decide) (by decide) rfl dX11_act_61 ?_
    refine zi_aload dX11_act_64 0 rfl ?_
    refine zi_iload dX11_act_66 1 rfl ?_
    refine zi_aload_n dX11_act_68 (i := 0) rfl 2 rfl ?_
    refine zi_getR fd_X11_34_X11 rfl cw0_0 rfl dX11_act_69 ?_
    refine zi_getR fd_X11_225_X10 rfl cw0_14 rfl dX11_act_72 ?_
    refine zi_iload dX11_act_75 1 rfl ?_
    refine zi_ialdN cw0_18 (by omega) (by decide) dX11_act_77 ?_
    refine zi_top (y := nI (σ (38 + 6 * h + 3))) ((zr_c (by decide) (zr_c (by decide) ((zV_h hv (k := h) (by omega)).2.2.2.1)))) ?_
    refine zcV (zc_U (as := [.int (nI h), .int (nI (σ (38 + 6 * h + 3)))]) lk_X11_327_X3 ce_X2_become (qC := (RX3, TX3, 5)) cw0_12 rfl dX11_act_78 (by decide) rfl rfl (Nat.le_of_ble_eq_true rfl)) ok_X2_become_12 (fun M78 h78 => ?_)
    have hbB : zHj 12 h (σ (38 + 6 * h + 3)) 0 M78 := by rw [h78]; exact zbc_h
    refine zi_iload_n dX11_act_81 (i := 2) rfl 4 rfl ?_
    refine zi_tableIn (off := 48) (tgt := 130) dX11_act_82 (by decide) (by decide) (by decide) (by decide) ?_
    refine zi_aload dX11_act_130 0 rfl ?_
    refine zi_iload_n dX11_act_132 (i := 3) rfl 5 rfl ?_
    refine zcJ (zc_O (as := [.int x]) lk_X11_337_X3 ce_X3_counts (qC := (RX3, TX3, 5)) cw0_12 rfl dX11_act_133 (by decide) rfl rfl (Nat.le_of_ble_eq_true rfl)) (z_X3_counts_12 hbB (by decide) (by omega) (by omega) hd) (fun x133 M133 h133 => ?_)
    have hp4 : M133 12 4 = nI 1 := by rw [h133]; exact zpd_4
    refine zi_istore (L' := [(6, .int x133), (5, .ref 12), (4, .int (nI h)), (0, .ref 0), (1, .int (nI a)), (2, .int (nI 2)), (3, .int x)]) dX11_act_136 (by decide) rfl ?_
    refine zi_goto (tgt := 149) dX11_act_138 (by decide) ?_
    refine zi_aload dX11_act_149 1 rfl ?_
    refine zi_getI fd_X11_343_X3 rfl cw0_12 rfl dX11_act_151 ?_
    refine zi_top (y := nI 1) ((hp4)) ?_
    refine zi_ifN_eq (by decide) (tgt := 162) dX11_act_154 (by decide) (fun c => absurd c (by decide)) (fun _ => ?_)
    refine zi_bipush (v := (-15)) dX11_act_157 (by decide) ?_
    refine zi_goto (tgt := 164) dX11_act_159 (by decide) ?_
    refine zi_retJ rfl rfl dX11_act_164 ?_
    refine ⟨12, ?_, ?_⟩
    · exact (actX_z (by decide) hd).symm
    · rw [actZ_2_12 e55 hd, h133]
      exact zTk_pd (zTk_of (by decide) _ h78)
set_option maxRecDepth 100000 in
set_option maxHeartbeats 4000000 in
theorem n_X11_act3 {M : zMem} {σ : Nat → Nat} {R : List gRl} {a h : Nat} {x : Int32} (ha : zVa 14 M σ R) (hk : qOk σ) (h1 : a < 4) (hn : M 106 a = nI 0) (hm : M 107 a = nI h) (hh5 : h ≤ 5) (hh1 : h < σ 6) (hd : qCoD σ h ≠ 0) : zOkJ zw0 9 mX11_act [.ref 0, .int (nI a), .int (nI 3), .int x] M (fun r M' => ∃ b, r = qActX σ 3 h x ∧ zTk b (qActT σ 3 h) M M') := by
  have hv := ha.1
  have hb := hk.1
  have h66 := hk.2.1
  have hkk := hk.2.2.2.2.2.2.2.2.2.2.2.2 h (by omega)
  have ha0 := zVa_o (c := 0) (j := 15) (x := 0) ha (by decide)
  have hn0 : zup M 0 15 0 106 a = nI 0 := zr_c (by decide) hn
  have hm0 : zup M 0 15 0 107 a = nI h := zr_c (by decide) hm
  refine zOk_of (by decide +kernel) (fun _ => Nat.le_of_ble_eq_true rfl) (L := [(0, .ref 0), (1, .int (nI a)), (2, .int (nI 3)), (3, .int x)]) rfl ?_
  refine zi_aload_n dX11_act_0 (i := 0) rfl 0 rfl ?_
  refine zi_null dX11_act_1 ?_
  refine zi_putN fd_X11_323_X11 fp_X11_15 rfl cw0_0 rfl rfl dX11_act_2 ?_
  refine zi_iload_n dX11_act_5 (i := 1) rfl 1 rfl ?_
  refine zcI (zc_S (as := [.int (nI a)]) lk_X11_314 ce_X11_isShelf dX11_act_6 (by decide) rfl rfl (Nat.le_of_ble_eq_true rfl)) (zOkI_eq ok_X11_isShelf (zinT (by omega) (by omega) (by omega))) ?_
  refine zi_ifN_eq (by decide) (tgt := 20) dX11_act_9 (by decide) (fun c => absurd c (by decide)) (fun _ => ?_)
  refine zi_aload_n dX11_act_12 (i := 0) rfl 0 rfl ?_
  refine zi_iload_n dX11_act_13 (i := 1) rfl 1 rfl ?_
  refine zcI (zc_V (as := [.int (nI a)]) lk_X11_317 ce_X11_houseOn cw0_0 rfl rfl dX11_act_14 (by decide) rfl rfl (Nat.le_of_ble_eq_true rfl)) (zOkI_eq (ok_X11_houseOn ha0 hk h1 hn0 hm0 hh5) (if_pos hh1)) ?_
  refine zi_goto (tgt := 22) dX11_act_17 (by decide) ?_
  refine zi_istore (L' := [(4, .int (nI h)), (0, .ref 0), (1, .int (nI a)), (2, .int (nI 3)), (3, .int x)]) dX11_act_22 (by decide) rfl ?_
  refine zi_iload dX11_act_24 0 rfl ?_
  refine zi_bipush (v := (-3)) dX11_act_26 (by decide) ?_
  refine zi_icmp_eq (tgt := 39) dX11_act_28 (by decide) (fun c28 => False.elim (by exact nI_ne_n3 (by omega) c28)) (fun c28 => ?_)
  refine zi_iload_n dX11_act_31 (i := 2) rfl 3 rfl ?_
  refine zi_iconst (v := nI 3) dX11_act_32 (by decide) ?_
  refine zcI (zc_S (as := [.int (nI 3), .int (nI 3)]) lk_X11_86 ce_X11_isFrom0To dX11_act_33 (by decide) rfl rfl (Nat.le_of_ble_eq_true rfl)) (zOkI_eq ok_X11_isFrom0To (zinT (by omega) (by omega) (by omega))) ?_
  refine zi_ifN_ne (by decide) (tgt := 41) dX11_act_36 (by decide) (fun _ => ?_) (fun c => absurd c (by decide))
  refine zi_aload_n dX11_act_41 (i := 0) rfl 1 rfl ?_
  refine zi_getR fd_X11_25_X11 rfl cw0_0 rfl dX11_act_42 ?_
  refine zi_aload_n dX11_act_45 (i := 0) rfl 1 rfl ?_
  refine zi_getR fd_X11_34_X11 rfl cw0_0 rfl dX11_act_46 ?_
  refine zi_getR fd_X11_125_X10 rfl cw0_14 rfl dX11_act_49 ?_
  refine zi_iload dX11_act_52 0 rfl ?_
  refine zi_ialdN cw0_15 (by omega) (by decide) dX11_act_54 ?_
  refine zi_top (y := nI (σ (38 + 6 * h))) ((zr_c (by decide) ((zV_h hv (k := h) (by omega)).1))) ?_
  rcases (show σ (38 + 6 * h) = 0 ∨ σ (38 + 6 * h) = 1 ∨ σ (38 + 6 * h) = 2 ∨ σ (38 + 6 * h) = 3 ∨ σ (38 + 6 * h) = 4 ∨ σ (38 + 6 * h) = 5 from (by omega)) with e55 | e55 | e55 | e55 | e55 | e55
  · refine zi_top (y := nI 0) (congrArg nI e55) ?_
    refine zi_aaldN cw0_1 (by decide) (t := 2) rfl (by decide) dX11_act_55 ?_
    refine zi_astore (L' := [(5, .ref 2), (4, .int (nI h)), (0, .ref 0), (1, .int (nI a)), (2, .int (nI 3)), (3, .int x)]) dX11_act_56 (by decide) rfl ?_
    refine zi_aload_n dX11_act_58 (i := 0) rfl 2 rfl ?_
    refine zi_aload dX11_act_59 0 rfl ?_
    refine zi_putR fd_X11_323_X11 fp_X11_15 rfl cw0_0 rfl (by decide) (by decide) rfl dX11_act_61 ?_
    refine zi_aload dX11_act_64 0 rfl ?_
    refine zi_iload dX11_act_66 1 rfl ?_
    refine zi_aload_n dX11_act_68 (i := 0) rfl 2 rfl ?_
    refine zi_getR fd_X11_34_X11 rfl cw0_0 rfl dX11_act_69 ?_
    refine zi_getR fd_X11_225_X10 rfl cw0_14 rfl dX11_act_72 ?_
    refine zi_iload dX11_act_75 1 rfl ?_
    refine zi_ialdN cw0_18 (by omega) (by decide) dX11_act_77 ?_
    refine zi_top (y := nI (σ (38 + 6 * h + 3))) ((zr_c (by decide) (zr_c (by decide) ((zV_h hv (k := h) (by omega)).2.2.2.1)))) ?_
    refine zcV (zc_V (as := [.int (nI h), .int (nI (σ (38 + 6 * h + 3)))]) lk_X11_327 ce_X2_become cw0_2 rfl rfl dX11_act_78 (by decide) rfl rfl (Nat.le_of_ble_eq_true rfl)) ok_X2_become_2 (fun M78 h78 => ?_)
    have hbB : zHj 2 h (σ (38 + 6 * h + 3)) 0 M78 := by rw [h78]; exact zbc_h
    refine zi_iload_n dX11_act_81 (i := 2) rfl 4 rfl ?_
    refine zi_tableOut (tgt := 141) dX11_act_82 (by decide) (by decide) ?_
    refine zi_aload dX11_act_141 0 rfl ?_
    refine zi_iload_n dX11_act_143 (i := 3) rfl 5 rfl ?_
    refine zcJ (zc_V (as := [.int x]) lk_X11_340 ce_X2_sits cw0_2 rfl rfl dX11_act_144 (by decide) rfl rfl (Nat.le_of_ble_eq_true rfl)) (n_X2_sits_2 hbB (by decide) (by omega) (by omega) hd) (fun x144 M144 h144 => ?_)
    obtain ⟨hrr, h144⟩ := h144
    have hp4 : M144 2 4 = nI 0 := by rw [h144]; exact (zHj_cs _ _ _ hbB).2.2.2
    refine zi_istore (L' := [(6, .int x144), (5, .ref 2), (4, .int (nI h)), (0, .ref 0), (1, .int (nI a)), (2, .int (nI 3)), (3, .int x)]) dX11_act_147 (by decide) rfl ?_
    refine zi_aload dX11_act_149 1 rfl ?_
    refine zi_getI fd_X11_343_X2 rfl cw0_2 rfl dX11_act_151 ?_
    refine zi_top (y := nI 0) ((hp4)) ?_
    refine zi_ifN_eq (by decide) (tgt := 162) dX11_act_154 (by decide) (fun _ => ?_) (fun c => absurd c (by decide))
    refine zi_iload dX11_act_162 0 rfl ?_
    refine zi_retJ rfl rfl dX11_act_164 ?_
    refine ⟨2, ?_, ?_⟩
    · rw [hrr]; exact (actX_3_2 e55 hd).symm
    · rw [actT_3_2 e55 hd, h144]
      exact zTk_of (by decide) _ h78
  · refine zi_top (y := nI 1) (congrArg nI e55) ?_
    refine zi_aaldN cw0_1 (by decide) (t := 4) rfl (by decide) dX11_act_55 ?_
    refine zi_astore (L' := [(5, .ref 4), (4, .int (nI h)), (0, .ref 0), (1, .int (nI a)), (2, .int (nI 3)), (3, .int x)]) dX11_act_56 (by decide) rfl ?_
    refine zi_aload_n dX11_act_58 (i := 0) rfl 2 rfl ?_
    refine zi_aload dX11_act_59 0 rfl ?_
    refine zi_putR fd_X11_323_X11 fp_X11_15 rfl cw0_0 rfl (by decide) (by decide) rfl dX11_act_61 ?_
    refine zi_aload dX11_act_64 0 rfl ?_
    refine zi_iload dX11_act_66 1 rfl ?_
    refine zi_aload_n dX11_act_68 (i := 0) rfl 2 rfl ?_
    refine zi_getR fd_X11_34_X11 rfl cw0_0 rfl dX11_act_69 ?_
    refine zi_getR fd_X11_225_X10 rfl cw0_14 rfl dX11_act_72 ?_
    refine zi_iload dX11_act_75 1 rfl ?_
    refine zi_ialdN cw0_18 (by omega) (by decide) dX11_act_77 ?_
    refine zi_top (y := nI (σ (38 + 6 * h + 3))) ((zr_c (by decide) (zr_c (by decide) ((zV_h hv (k := h) (by omega)).2.2.2.1)))) ?_
    refine zcV (zc_U (as := [.int (nI h), .int (nI (σ (38 + 6 * h + 3)))]) lk_X11_327_X0 ce_X2_become (qC := (RX0, TX0, 5)) cw0_4 rfl dX11_act_78 (by decide) rfl rfl (Nat.le_of_ble_eq_true rfl)) ok_X2_become_4 (fun M78 h78 => ?_)
    have hbB : zHj 4 h (σ (38 + 6 * h + 3)) 0 M78 := by rw [h78]; exact zbc_h
    refine zi_iload_n dX11_act_81 (i := 2) rfl 4 rfl ?_
    refine zi_tableOut (tgt := 141) dX11_act_82 (by decide) (by decide) ?_
    refine zi_aload dX11_act_141 0 rfl ?_
    refine zi_iload_n dX11_act_143 (i := 3) rfl 5 rfl ?_
    refine zcJ (zc_U (as := [.int x]) lk_X11_340_X0 ce_X2_sits (qC := (RX0, TX0, 5)) cw0_4 rfl dX11_act_144 (by decide) rfl rfl (Nat.le_of_ble_eq_true rfl)) (n_X2_sits_4 hbB (by decide) (by omega) (by omega) hd) (fun x144 M144 h144 => ?_)
    obtain ⟨hrr, h144⟩ := h144
    have hp4 : M144 4 4 = nI 0 := by rw [h144]; exact (zHj_cs _ _ _ hbB).2.2.2
    refine zi_istore (L' := [(6, .int x144), (5, .ref 4), (4, .int (nI h)), (0, .ref 0), (1, .int (nI a)), (2, .int (nI 3)), (3, .int x)]) dX11_act_147 (by decide) rfl ?_
    refine zi_aload dX11_act_149 1 rfl ?_
    refine zi_getI fd_X11_343_X0 rfl cw0_4 rfl dX11_act_151 ?_
    refine zi_top (y := nI 0) ((hp4)) ?_
    refine zi_ifN_eq (by decide) (tgt := 162) dX11_act_154 (by decide) (fun _ => ?_) (fun c => absurd c (by decide))
    refine zi_iload dX11_act_162 0 rfl ?_
    refine zi_retJ rfl rfl dX11_act_164 ?_
    refine ⟨4, ?_, ?_⟩
    · rw [hrr]; exact (actX_3_4 e55 hd).symm
    · rw [actT_3_4 e55 hd, h144]
      exact zTk_of (by decide) _ h78
  · refine zi_top (y := nI 2) (congrArg nI e55) ?_
    refine zi_aaldN cw0_1 (by decide) (t := 6) rfl (by decide) dX11_act_55 ?_
    refine zi_astore (L' := [(5, .ref 6), (4, .int (nI h)), (0, .ref 0), (1, .int (nI a)), (2, .int (nI 3)), (3, .int x)]) dX11_act_56 (by decide) rfl ?_
    refine zi_aload_n dX11_act_58 (i := 0) rfl 2 rfl ?_
    refine zi_aload dX11_act_59 0 rfl ?_
    refine zi_putR fd_X11_323_X11 fp_X11_15 rfl cw0_0 rfl (by decide) (by decide) rfl dX11_act_61 ?_
    refine zi_aload dX11_act_64 0 rfl ?_
    refine zi_iload dX11_act_66 1 rfl ?_
    refine zi_aload_n dX11_act_68 (i := 0) rfl 2 rfl ?_
    refine zi_getR fd_X11_34_X11 rfl cw0_0 rfl dX11_act_69 ?_
    refine zi_getR fd_X11_225_X10 rfl cw0_14 rfl dX11_act_72 ?_
    refine zi_iload dX11_act_75 1 rfl ?_
    refine zi_ialdN cw0_18 (by omega) (by decide) dX11_act_77 ?_
    refine zi_top (y := nI (σ (38 + 6 * h + 3))) ((zr_c (by decide) (zr_c (by decide) ((zV_h hv (k := h) (by omega)).2.2.2.1)))) ?_
    refine zcV (zc_U (as := [.int (nI h), .int (nI (σ (38 + 6 * h + 3)))]) lk_X11_327_X8 ce_X2_become (qC := (RX8, TX8, 5)) cw0_6 rfl dX11_act_78 (by decide) rfl rfl (Nat.le_of_ble_eq_true rfl)) ok_X2_become_6 (fun M78 h78 => ?_)
    have hbB : zHj 6 h (σ (38 + 6 * h + 3)) 0 M78 := by rw [h78]; exact zbc_h
    refine zi_iload_n dX11_act_81 (i := 2) rfl 4 rfl ?_
    refine zi_tableOut (tgt := 141) dX11_act_82 (by decide) (by decide) ?_
    refine zi_aload dX11_act_141 0 rfl ?_
    refine zi_iload_n dX11_act_143 (i := 3) rfl 5 rfl ?_
    refine zcJ (zc_U (as := [.int x]) lk_X11_340_X8 ce_X2_sits (qC := (RX8, TX8, 5)) cw0_6 rfl dX11_act_144 (by decide) rfl rfl (Nat.le_of_ble_eq_true rfl)) (n_X2_sits_6 hbB (by decide) (by omega) (by omega) hd) (fun x144 M144 h144 => ?_)
    obtain ⟨hrr, h144⟩ := h144
    have hp4 : M144 6 4 = nI 0 := by rw [h144]; exact (zHj_cs _ _ _ hbB).2.2.2
    refine zi_istore (L' := [(6, .int x144), (5, .ref 6), (4, .int (nI h)), (0, .ref 0), (1, .int (nI a)), (2, .int (nI 3)), (3, .int x)]) dX11_act_147 (by decide) rfl ?_
    refine zi_aload dX11_act_149 1 rfl ?_
    refine zi_getI fd_X11_343_X8 rfl cw0_6 rfl dX11_act_151 ?_
    refine zi_top (y := nI 0) ((hp4)) ?_
    refine zi_ifN_eq (by decide) (tgt := 162) dX11_act_154 (by decide) (fun _ => ?_) (fun c => absurd c (by decide))
    refine zi_iload dX11_act_162 0 rfl ?_
    refine zi_retJ rfl rfl dX11_act_164 ?_
    refine ⟨6, ?_, ?_⟩
    · rw [hrr]; exact (actX_3_6 e55 hd).symm
    · rw [actT_3_6 e55 hd, h144]
      exact zTk_of (by decide) _ h78
  · refine zi_top (y := nI 3) (congrArg nI e55) ?_
    refine zi_aaldN cw0_1 (by decide) (t := 8) rfl (by decide) dX11_act_55 ?_
    refine zi_astore (L' := [(5, .ref 8), (4, .int (nI h)), (0, .ref 0), (1, .int (nI a)), (2, .int (nI 3)), (3, .int x)]) dX11_act_56 (by decide) rfl ?_
    refine zi_aload_n dX11_act_58 (i := 0) rfl 2 rfl ?_
    refine zi_aload dX11_act_59 0 rfl ?_
    refine zi_putR fd_X11_323_X11 fp_X11_15 rfl cw0_0 rfl (by decide) (by decide) rfl dX11_act_61 ?_
    refine zi_aload dX11_act_64 0 rfl ?_
    refine zi_iload dX11_act_66 1 rfl ?_
    refine zi_aload_n dX11_act_68 (i := 0) rfl 2 rfl ?_
    refine zi_getR fd_X11_34_X11 rfl cw0_0 rfl dX11_act_69 ?_
    refine zi_getR fd_X11_225_X10 rfl cw0_14 rfl dX11_act_72 ?_
    refine zi_iload dX11_act_75 1 rfl ?_
    refine zi_ialdN cw0_18 (by omega) (by decide) dX11_act_77 ?_
    refine zi_top (y := nI (σ (38 + 6 * h + 3))) ((zr_c (by decide) (zr_c (by decide) ((zV_h hv (k := h) (by omega)).2.2.2.1)))) ?_
    refine zcV (zc_U (as := [.int (nI h), .int (nI (σ (38 + 6 * h + 3)))]) lk_X11_327_X9 ce_X2_become (qC := (RX9, TX9, 5)) cw0_8 rfl dX11_act_78 (by decide) rfl rfl (Nat.le_of_ble_eq_true rfl)) ok_X2_become_8 (fun M78 h78 => ?_)
    have hbB : zHj 8 h (σ (38 + 6 * h + 3)) 0 M78 := by rw [h78]; exact zbc_h
    refine zi_iload_n dX11_act_81 (i := 2) rfl 4 rfl ?_
    refine zi_tableOut (tgt := 141) dX11_act_82 (by decide) (by decide) ?_
    refine zi_aload dX11_act_141 0 rfl ?_
    refine zi_iload_n dX11_act_143 (i := 3) rfl 5 rfl ?_
    refine zcJ (zc_O (as := [.int x]) lk_X11_340_X9 ce_X9_sits (qC := (RX9, TX9, 5)) cw0_8 rfl dX11_act_144 (by decide) rfl rfl (Nat.le_of_ble_eq_true rfl)) (n_X9_sits_8 hbB (by decide) (by omega) (by omega) hd) (fun x144 M144 h144 => ?_)
    obtain ⟨hrr, h144⟩ := h144
    have hp4 : M144 8 4 = nI 0 := by rw [h144]; exact (zHj_cs _ _ _ hbB).2.2.2
    refine zi_istore (L' := [(6, .int x144), (5, .ref 8), (4, .int (nI h)), (0, .ref 0), (1, .int (nI a)), (2, .int (nI 3)), (3, .int x)]) dX11_act_147 (by decide) rfl ?_
    refine zi_aload dX11_act_149 1 rfl ?_
    refine zi_getI fd_X11_343_X9 rfl cw0_8 rfl dX11_act_151 ?_
    refine zi_top (y := nI 0) ((hp4)) ?_
    refine zi_ifN_eq (by decide) (tgt := 162) dX11_act_154 (by decide) (fun _ => ?_) (fun c => absurd c (by decide))
    refine zi_iload dX11_act_162 0 rfl ?_
    refine zi_retJ rfl rfl dX11_act_164 ?_
    refine ⟨8, ?_, ?_⟩
    · rw [hrr]; exact (actX_3_8 e55 hd).symm
    · rw [actT_3_8 e55 hd, h144]
      exact zTk_of (by decide) _ h78
  · refine zi_top (y := nI 4) (congrArg nI e55) ?_
    refine zi_aaldN cw0_1 (by decide) (t := 10) rfl (by decide) dX11_act_55 ?_
    refine zi_astore (L' := [(5, .ref 10), (4, .int (nI h)), (0, .ref 0), (1, .int (nI a)), (2, .int (nI 3)), (3, .int x)]) dX11_act_56 (by decide) rfl ?_
    refine zi_aload_n dX11_act_58 (i := 0) rfl 2 rfl ?_
    refine zi_aload dX11_act_59 0 rfl ?_
    refine zi_putR fd_X11_323_X11 fp_X11_15 rfl cw0_0 rfl (by decide) (by decide) rfl dX11_act_61 ?_
    refine zi_aload dX11_act_64 0 rfl ?_
    refine zi_iload dX11_act_66 1 rfl ?_
    refine zi_aload_n dX11_act_68 (i := 0) rfl 2 rfl ?_
    refine zi_getR fd_X11_34_X11 rfl cw0_0 rfl dX11_act_69 ?_
    refine zi_getR fd_X11_225_X10 rfl cw0_14 rfl dX11_act_72 ?_
    refine zi_iload dX11_act_75 1 rfl ?_
    refine zi_ialdN cw0_18 (by omega) (by decide) dX11_act_77 ?_
    refine zi_top (y := nI (σ (38 + 6 * h + 3))) ((zr_c (by decide) (zr_c (by decide) ((zV_h hv (k := h) (by omega)).2.2.2.1)))) ?_
    refine zcV (zc_U (as := [.int (nI h), .int (nI (σ (38 + 6 * h + 3)))]) lk_X11_327_X1 ce_X2_become (qC := (RX1, TX1, 5)) cw0_10 rfl dX11_act_78 (by decide) rfl rfl (Nat.le_of_ble_eq_true rfl)) ok_X2_become_10 (fun M78 h78 => ?_)
    have hbB : zHj 10 h (σ (38 + 6 * h + 3)) 0 M78 := by rw [h78]; exact zbc_h
    refine zi_iload_n dX11_act_81 (i := 2) rfl 4 rfl ?_
    refine zi_tableOut (tgt := 141) dX11_act_82 (by decide) (by decide) ?_
    refine zi_aload dX11_act_141 0 rfl ?_
    refine zi_iload_n dX11_act_143 (i := 3) rfl 5 rfl ?_
    refine zcJ (zc_U (as := [.int x]) lk_X11_340_X1 ce_X2_sits (qC := (RX1, TX1, 5)) cw0_10 rfl dX11_act_144 (by decide) rfl rfl (Nat.le_of_ble_eq_true rfl)) (n_X2_sits_10 hbB (by decide) (by omega) (by omega) hd) (fun x144 M144 h144 => ?_)
    obtain ⟨hrr, h144⟩ := h144
    have hp4 : M144 10 4 = nI 0 := by rw [h144]; exact (zHj_cs _ _ _ hbB).2.2.2
    refine zi_istore (L' := [(6, .int x144), (5, .ref 10), (4, .int (nI h)), (0, .ref 0), (1, .int (nI a)), (2, .int (nI 3)), (3, .int x)]) dX11_act_147 (by decide) rfl ?_
    refine zi_aload dX11_act_149 1 rfl ?_
    refine zi_getI fd_X11_343_X1 rfl cw0_10 rfl dX11_act_151 ?_
    refine zi_top (y := nI 0) ((hp4)) ?_
    refine zi_ifN_eq (by decide) (tgt := 162) dX11_act_154 (by decide) (fun _ => ?_) (fun c => absurd c (by decide))
    refine zi_iload dX11_act_162 0 rfl ?_
    refine zi_retJ rfl rfl dX11_act_164 ?_
    refine ⟨10, ?_, ?_⟩
    · rw [hrr]; exact (actX_3_10 e55 hd).symm
    · rw [actT_3_10 e55 hd, h144]
      exact zTk_of (by decide) _ h78
  · refine zi_top (y := nI 5) (congrArg nI e55) ?_
    refine zi_aaldN cw0_1 (by decide) (t := 12) rfl (by decide) dX11_act_55 ?_
    refine zi_astore (L' := [(5, .ref 12), (4, .int (nI h)), (0, .ref 0), (1, .int (nI a)), (2, .int (nI 3)), (3, .int x)]) dX11_act_56 (by decide) rfl ?_
    refine zi_aload_n dX11_act_58 (i := 0) rfl 2 rfl ?_
    refine zi_aload dX11_act_59 0 rfl ?_
    refine zi_putR fd_X11_323_X11 fp_X11_15 rfl cw0_0 rfl (by decide) (by decide) rfl dX11_act_61 ?_
    refine zi_aload dX11_act_64 0 rfl ?_
    refine zi_iload dX11_act_66 1 rfl ?_
    refine zi_aload_n dX11_act_68 (i := 0) rfl 2 rfl ?_
    refine zi_getR fd_X11_34_X11 rfl cw0_0 rfl dX11_act_69 ?_
    refine zi_getR fd_X11_225_X10 rfl cw0_14 rfl dX11_act_72 ?_
    refine zi_iload dX11_act_75 1 rfl ?_
    refine zi_ialdN cw0_18 (by omega) (by decide) dX11_act_77 ?_
    refine zi_top (y := nI (σ (38 + 6 * h + 3))) ((zr_c (by decide) (zr_c (by decide) ((zV_h hv (k := h) (by omega)).2.2.2.1)))) ?_
    refine zcV (zc_U (as := [.int (nI h), .int (nI (σ (38 + 6 * h + 3)))]) lk_X11_327_X3 ce_X2_become (qC := (RX3, TX3, 5)) cw0_12 rfl dX11_act_78 (by decide) rfl rfl (Nat.le_of_ble_eq_true rfl)) ok_X2_become_12 (fun M78 h78 => ?_)
    have hbB : zHj 12 h (σ (38 + 6 * h + 3)) 0 M78 := by rw [h78]; exact zbc_h
    refine zi_iload_n dX11_act_81 (i := 2) rfl 4 rfl ?_
    refine zi_tableOut (tgt := 141) dX11_act_82 (by decide) (by decide) ?_
    refine zi_aload dX11_act_141 0 rfl ?_
    refine zi_iload_n dX11_act_143 (i := 3) rfl 5 rfl ?_
    refine zcJ (zc_U (as := [.int x]) lk_X11_340_X3 ce_X2_sits (qC := (RX3, TX3, 5)) cw0_12 rfl dX11_act_144 (by decide) rfl rfl (Nat.le_of_ble_eq_true rfl)) (n_X2_sits_12 hbB (by decide) (by omega) (by omega) hd) (fun x144 M144 h144 => ?_)
    obtain ⟨hrr, h144⟩ := h144
    have hp4 : M144 12 4 = nI 0 := by rw [h144]; exact (zHj_cs _ _ _ hbB).2.2.2
    refine zi_istore (L' := [(6, .int x144), (5, .ref 12), (4, .int (nI h)), (0, .ref 0), (1, .int (nI a)), (2, .int (nI 3)), (3, .int x)]) dX11_act_147 (by decide) rfl ?_
    refine zi_aload dX11_act_149 1 rfl ?_
    refine zi_getI fd_X11_343_X3 rfl cw0_12 rfl dX11_act_151 ?_
    refine zi_top (y := nI 0) ((hp4)) ?_
    refine zi_ifN_eq (by decide) (tgt := 162) dX11_act_154 (by decide) (fun _ => ?_) (fun c => absurd c (by decide))
    refine zi_iload dX11_act_162 0 rfl ?_
    refine zi_retJ rfl rfl dX11_act_164 ?_
    refine ⟨12, ?_, ?_⟩
    · rw [hrr]; exact (actX_3_12 e55 hd).symm
    · rw [actT_3_12 e55 hd, h144]
      exact zTk_of (by decide) _ h78
set_option maxRecDepth 100000 in
set_option maxHeartbeats 4000000 in
theorem z_X11_act3 {M : zMem} {σ : Nat → Nat} {R : List gRl} {a h : Nat} {x : Int32} (ha : zVa 14 M σ R) (hk : qOk σ) (h1 : a < 4) (hn : M 106 a = nI 0) (hm : M 107 a = nI h) (hh5 : h ≤ 5) (hh1 : h < σ 6) (hd : qCoD σ h = 0) : zOkJ zw0 9 mX11_act [.ref 0, .int (nI a), .int (nI 3), .int x] M (fun r M' => ∃ b, r = qActX σ 3 h x ∧ zTk b (qActT σ 3 h) M M') := by
  have hv := ha.1
  have hb := hk.1
  have h66 := hk.2.1
  have hkk := hk.2.2.2.2.2.2.2.2.2.2.2.2 h (by omega)
  have ha0 := zVa_o (c := 0) (j := 15) (x := 0) ha (by decide)
  have hn0 : zup M 0 15 0 106 a = nI 0 := zr_c (by decide) hn
  have hm0 : zup M 0 15 0 107 a = nI h := zr_c (by decide) hm
  refine zOk_of (by decide +kernel) (fun _ => Nat.le_of_ble_eq_true rfl) (L := [(0, .ref 0), (1, .int (nI a)), (2, .int (nI 3)), (3, .int x)]) rfl ?_
  refine zi_aload_n dX11_act_0 (i := 0) rfl 0 rfl ?_
  refine zi_null dX11_act_1 ?_
  refine zi_putN fd_X11_323_X11 fp_X11_15 rfl cw0_0 rfl rfl dX11_act_2 ?_
  refine zi_iload_n dX11_act_5 (i := 1) rfl 1 rfl ?_
  refine zcI (zc_S (as := [.int (nI a)]) lk_X11_314 ce_X11_isShelf dX11_act_6 (by decide) rfl rfl (Nat.le_of_ble_eq_true rfl)) (zOkI_eq ok_X11_isShelf (zinT (by omega) (by omega) (by omega))) ?_
  refine zi_ifN_eq (by decide) (tgt := 20) dX11_act_9 (by decide) (fun c => absurd c (by decide)) (fun _ => ?_)
  refine zi_aload_n dX11_act_12 (i := 0) rfl 0 rfl ?_
  refine zi_iload_n dX11_act_13 (i := 1) rfl 1 rfl ?_
  refine zcI (zc_V (as := [.int (nI a)]) lk_X11_317 ce_X11_houseOn cw0_0 rfl rfl dX11_act_14 (by decide) rfl rfl (Nat.le_of_ble_eq_true rfl)) (zOkI_eq (ok_X11_houseOn ha0 hk h1 hn0 hm0 hh5) (if_pos hh1)) ?_
  refine zi_goto (tgt := 22) dX11_act_17 (by decide) ?_
  refine zi_istore (L' := [(4, .int (nI h)), (0, .ref 0), (1, .int (nI a)), (2, .int (nI 3)), (3, .int x)]) dX11_act_22 (by decide) rfl ?_
  refine zi_iload dX11_act_24 0 rfl ?_
  refine zi_bipush (v := (-3)) dX11_act_26 (by decide) ?_
  refine zi_icmp_eq (tgt := 39) dX11_act_28 (by decide) (fun c28 => False.elim (by exact nI_ne_n3 (by omega) c28)) (fun c28 => ?_)
  refine zi_iload_n dX11_act_31 (i := 2) rfl 3 rfl ?_
  refine zi_iconst (v := nI 3) dX11_act_32 (by decide) ?_
  refine zcI (zc_S (as := [.int (nI 3), .int (nI 3)]) lk_X11_86 ce_X11_isFrom0To dX11_act_33 (by decide) rfl rfl (Nat.le_of_ble_eq_true rfl)) (zOkI_eq ok_X11_isFrom0To (zinT (by omega) (by omega) (by omega))) ?_
  refine zi_ifN_ne (by decide) (tgt := 41) dX11_act_36 (by decide) (fun _ => ?_) (fun c => absurd c (by decide))
  refine zi_aload_n dX11_act_41 (i := 0) rfl 1 rfl ?_
  refine zi_getR fd_X11_25_X11 rfl cw0_0 rfl dX11_act_42 ?_
  refine zi_aload_n dX11_act_45 (i := 0) rfl 1 rfl ?_
  refine zi_getR fd_X11_34_X11 rfl cw0_0 rfl dX11_act_46 ?_
  refine zi_getR fd_X11_125_X10 rfl cw0_14 rfl dX11_act_49 ?_
  refine zi_iload dX11_act_52 0 rfl ?_
  refine zi_ialdN cw0_15 (by omega) (by decide) dX11_act_54 ?_
  refine zi_top (y := nI (σ (38 + 6 * h))) ((zr_c (by decide) ((zV_h hv (k := h) (by omega)).1))) ?_
  rcases (show σ (38 + 6 * h) = 0 ∨ σ (38 + 6 * h) = 1 ∨ σ (38 + 6 * h) = 2 ∨ σ (38 + 6 * h) = 3 ∨ σ (38 + 6 * h) = 4 ∨ σ (38 + 6 * h) = 5 from (by omega)) with e55 | e55 | e55 | e55 | e55 | e55
  · refine zi_top (y := nI 0) (congrArg nI e55) ?_
    refine zi_aaldN cw0_1 (by decide) (t := 2) rfl (by decide) dX11_act_55 ?_
    refine zi_astore (L' := [(5, .ref 2), (4, .int (nI h)), (0, .ref 0), (1, .int (nI a)), (2, .int (nI 3)), (3, .int x)]) dX11_act_56 (by decide) rfl ?_
    refine zi_aload_n dX11_act_58 (i := 0) rfl 2 rfl ?_
    refine zi_aload dX11_act_59 0 rfl ?_
    refine zi_putR fd_X11_323_X11 fp_X11_15 rfl cw0_0 rfl (by decide) (by decide) rfl dX11_act_61 ?_
    refine zi_aload dX11_act_64 0 rfl ?_
    refine zi_iload dX11_act_66 1 rfl ?_
    refine zi_aload_n dX11_act_68 (i := 0) rfl 2 rfl ?_
    refine zi_getR fd_X11_34_X11 rfl cw0_0 rfl dX11_act_69 ?_
    refine zi_getR fd_X11_225_X10 rfl cw0_14 rfl dX11_act_72 ?_
    refine zi_iload dX11_act_75 1 rfl ?_
    refine zi_ialdN cw0_18 (by omega) (by decide) dX11_act_77 ?_
    refine zi_top (y := nI (σ (38 + 6 * h + 3))) ((zr_c (by decide) (zr_c (by decide) ((zV_h hv (k := h) (by omega)).2.2.2.1)))) ?_
    refine zcV (zc_V (as := [.int (nI h), .int (nI (σ (38 + 6 * h + 3)))]) lk_X11_327 ce_X2_become cw0_2 rfl rfl dX11_act_78 (by decide) rfl rfl (Nat.le_of_ble_eq_true rfl)) ok_X2_become_2 (fun M78 h78 => ?_)
    have hbB : zHj 2 h (σ (38 + 6 * h + 3)) 0 M78 := by rw [h78]; exact zbc_h
    refine zi_iload_n dX11_act_81 (i := 2) rfl 4 rfl ?_
    refine zi_tableOut (tgt := 141) dX11_act_82 (by decide) (by decide) ?_
    refine zi_aload dX11_act_141 0 rfl ?_
    refine zi_iload_n dX11_act_143 (i := 3) rfl 5 rfl ?_
    refine zcJ (zc_V (as := [.int x]) lk_X11_340 ce_X2_sits cw0_2 rfl rfl dX11_act_144 (by decide) rfl rfl (Nat.le_of_ble_eq_true rfl)) (z_X2_sits_2 hbB (by decide) (by omega) (by omega) hd) (fun x144 M144 h144 => ?_)
    have hp4 : M144 2 4 = nI 1 := by rw [h144]; exact zpd_4
    refine zi_istore (L' := [(6, .int x144), (5, .ref 2), (4, .int (nI h)), (0, .ref 0), (1, .int (nI a)), (2, .int (nI 3)), (3, .int x)]) dX11_act_147 (by decide) rfl ?_
    refine zi_aload dX11_act_149 1 rfl ?_
    refine zi_getI fd_X11_343_X2 rfl cw0_2 rfl dX11_act_151 ?_
    refine zi_top (y := nI 1) ((hp4)) ?_
    refine zi_ifN_eq (by decide) (tgt := 162) dX11_act_154 (by decide) (fun c => absurd c (by decide)) (fun _ => ?_)
    refine zi_bipush (v := (-15)) dX11_act_157 (by decide) ?_
    refine zi_goto (tgt := 164) dX11_act_159 (by decide) ?_
    refine zi_retJ rfl rfl dX11_act_164 ?_
    refine ⟨2, ?_, ?_⟩
    · exact (actX_z (by decide) hd).symm
    · rw [actZ_3_2 e55 hd, h144]
      exact zTk_pd (zTk_of (by decide) _ h78)
  · refine zi_top (y := nI 1) (congrArg nI e55) ?_
    refine zi_aaldN cw0_1 (by decide) (t := 4) rfl (by decide) dX11_act_55 ?_
    refine zi_astore (L' := [(5, .ref 4), (4, .int (nI h)), (0, .ref 0), (1, .int (nI a)), (2, .int (nI 3)), (3, .int x)]) dX11_act_56 (by decide) rfl ?_
    refine zi_aload_n dX11_act_58 (i := 0) rfl 2 rfl ?_
    refine zi_aload dX11_act_59 0 rfl ?_
    refine zi_putR fd_X11_323_X11 fp_X11_15 rfl cw0_0 rfl (by decide) (by decide) rfl dX11_act_61 ?_
    refine zi_aload dX11_act_64 0 rfl ?_
    refine zi_iload dX11_act_66 1 rfl ?_
    refine zi_aload_n dX11_act_68 (i := 0) rfl 2 rfl ?_
    refine zi_getR fd_X11_34_X11 rfl cw0_0 rfl dX11_act_69 ?_
    refine zi_getR fd_X11_225_X10 rfl cw0_14 rfl dX11_act_72 ?_
    refine zi_iload dX11_act_75 1 rfl ?_
    refine zi_ialdN cw0_18 (by omega) (by decide) dX11_act_77 ?_
    refine zi_top (y := nI (σ (38 + 6 * h + 3))) ((zr_c (by decide) (zr_c (by decide) ((zV_h hv (k := h) (by omega)).2.2.2.1)))) ?_
    refine zcV (zc_U (as := [.int (nI h), .int (nI (σ (38 + 6 * h + 3)))]) lk_X11_327_X0 ce_X2_become (qC := (RX0, TX0, 5)) cw0_4 rfl dX11_act_78 (by decide) rfl rfl (Nat.le_of_ble_eq_true rfl)) ok_X2_become_4 (fun M78 h78 => ?_)
    have hbB : zHj 4 h (σ (38 + 6 * h + 3)) 0 M78 := by rw [h78]; exact zbc_h
    refine zi_iload_n dX11_act_81 (i := 2) rfl 4 rfl ?_
    refine zi_tableOut (tgt := 141) dX11_act_82 (by decide) (by decide) ?_
    refine zi_aload dX11_act_141 0 rfl ?_
    refine zi_iload_n dX11_act_143 (i := 3) rfl 5 rfl ?_
    refine zcJ (zc_U (as := [.int x]) lk_X11_340_X0 ce_X2_sits (qC := (RX0, TX0, 5)) cw0_4 rfl dX11_act_144 (by decide) rfl rfl (Nat.le_of_ble_eq_true rfl)) (z_X2_sits_4 hbB (by decide) (by omega) (by omega) hd) (fun x144 M144 h144 => ?_)
    have hp4 : M144 4 4 = nI 1 := by rw [h144]; exact zpd_4
    refine zi_istore (L' := [(6, .int x144), (5, .ref 4), (4, .int (nI h)), (0, .ref 0), (1, .int (nI a)), (2, .int (nI 3)), (3, .int x)]) dX11_act_147 (by decide) rfl ?_
    refine zi_aload dX11_act_149 1 rfl ?_
    refine zi_getI fd_X11_343_X0 rfl cw0_4 rfl dX11_act_151 ?_
    refine zi_top (y := nI 1) ((hp4)) ?_
    refine zi_ifN_eq (by decide) (tgt := 162) dX11_act_154 (by decide) (fun c => absurd c (by decide)) (fun _ => ?_)
    refine zi_bipush (v := (-15)) dX11_act_157 (by decide) ?_
    refine zi_goto (tgt := 164) dX11_act_159 (by decide) ?_
    refine zi_retJ rfl rfl dX11_act_164 ?_
    refine ⟨4, ?_, ?_⟩
    · exact (actX_z (by decide) hd).symm
    · rw [actZ_3_4 e55 hd, h144]
      exact zTk_pd (zTk_of (by decide) _ h78)
  · refine zi_top (y := nI 2) (congrArg nI e55) ?_
    refine zi_aaldN cw0_1 (by decide) (t := 6) rfl (by decide) dX11_act_55 ?_
    refine zi_astore (L' := [(5, .ref 6), (4, .int (nI h)), (0, .ref 0), (1, .int (nI a)), (2, .int (nI 3)), (3, .int x)]) dX11_act_56 (by decide) rfl ?_
    refine zi_aload_n dX11_act_58 (i := 0) rfl 2 rfl ?_
    refine zi_aload dX11_act_59 0 rfl ?_
    refine zi_putR fd_X11_323_X11 fp_X11_15 rfl cw0_0 rfl (by decide) (by decide) rfl dX11_act_61 ?_
    refine zi_aload dX11_act_64 0 rfl ?_
    refine zi_iload dX11_act_66 1 rfl ?_
    refine zi_aload_n dX11_act_68 (i := 0) rfl 2 rfl ?_
    refine zi_getR fd_X11_34_X11 rfl cw0_0 rfl dX11_act_69 ?_
    refine zi_getR fd_X11_225_X10 rfl cw0_14 rfl dX11_act_72 ?_
    refine zi_iload dX11_act_75 1 rfl ?_
    refine zi_ialdN cw0_18 (by omega) (by decide) dX11_act_77 ?_
    refine zi_top (y := nI (σ (38 + 6 * h + 3))) ((zr_c (by decide) (zr_c (by decide) ((zV_h hv (k := h) (by omega)).2.2.2.1)))) ?_
    refine zcV (zc_U (as := [.int (nI h), .int (nI (σ (38 + 6 * h + 3)))]) lk_X11_327_X8 ce_X2_become (qC := (RX8, TX8, 5)) cw0_6 rfl dX11_act_78 (by decide) rfl rfl (Nat.le_of_ble_eq_true rfl)) ok_X2_become_6 (fun M78 h78 => ?_)
    have hbB : zHj 6 h (σ (38 + 6 * h + 3)) 0 M78 := by rw [h78]; exact zbc_h
    refine zi_iload_n dX11_act_81 (i := 2) rfl 4 rfl ?_
    refine zi_tableOut (tgt := 141) dX11_act_82 (by decide) (by decide) ?_
    refine zi_aload dX11_act_141 0 rfl ?_
    refine zi_iload_n dX11_act_143 (i := 3) rfl 5 rfl ?_
    refine zcJ (zc_U (as := [.int x]) lk_X11_340_X8 ce_X2_sits (qC := (RX8, TX8, 5)) cw0_6 rfl dX11_act_144 (by decide) rfl rfl (Nat.le_of_ble_eq_true rfl)) (z_X2_sits_6 hbB (by decide) (by omega) (by omega) hd) (fun x144 M144 h144 => ?_)
    have hp4 : M144 6 4 = nI 1 := by rw [h144]; exact zpd_4
    refine zi_istore (L' := [(6, .int x144), (5, .ref 6), (4, .int (nI h)), (0, .ref 0), (1, .int (nI a)), (2, .int (nI 3)), (3, .int x)]) dX11_act_147 (by decide) rfl ?_
    refine zi_aload dX11_act_149 1 rfl ?_
    refine zi_getI fd_X11_343_X8 rfl cw0_6 rfl dX11_act_151 ?_
    refine zi_top (y := nI 1) ((hp4)) ?_
    refine zi_ifN_eq (by decide) (tgt := 162) dX11_act_154 (by decide) (fun c => absurd c (by decide)) (fun _ => ?_)
    refine zi_bipush (v := (-15)) dX11_act_157 (by decide) ?_
    refine zi_goto (tgt := 164) dX11_act_159 (by decide) ?_
    refine zi_retJ rfl rfl dX11_act_164 ?_
    refine ⟨6, ?_, ?_⟩
    · exact (actX_z (by decide) hd).symm
    · rw [actZ_3_6 e55 hd, h144]
      exact zTk_pd (zTk_of (by decide) _ h78)
  · refine zi_top (y := nI 3) (congrArg nI e55) ?_
    refine zi_aaldN cw0_1 (by decide) (t := 8) rfl (by decide) dX11_act_55 ?_
    refine zi_astore (L' := [(5, .ref 8), (4, .int (nI h)), (0, .ref 0), (1, .int (nI a)), (2, .int (nI 3)), (3, .int x)]) dX11_act_56 (by decide) rfl ?_
    refine zi_aload_n dX11_act_58 (i := 0) rfl 2 rfl ?_
    refine zi_aload dX11_act_59 0 rfl ?_
    refine zi_putR fd_X11_323_X11 fp_X11_15 rfl cw0_0 rfl (by decide) (by decide) rfl dX11_act_61 ?_
    refine zi_aload dX11_act_64 0 rfl ?_
    refine zi_iload dX11_act_66 1 rfl ?_
    refine zi_aload_n dX11_act_68 (i := 0) rfl 2 rfl ?_
    refine zi_getR fd_X11_34_X11 rfl cw0_0 rfl dX11_act_69 ?_
    refine zi_getR fd_X11_225_X10 rfl cw0_14 rfl dX11_act_72 ?_
    refine zi_iload dX11_act_75 1 rfl ?_
    refine zi_ialdN cw0_18 (by omega) (by decide) dX11_act_77 ?_
    refine zi_top (y := nI (σ (38 + 6 * h + 3))) ((zr_c (by decide) (zr_c (by decide) ((zV_h hv (k := h) (by omega)).2.2.2.1)))) ?_
    refine zcV (zc_U (as := [.int (nI h), .int (nI (σ (38 + 6 * h + 3)))]) lk_X11_327_X9 ce_X2_become (qC := (RX9, TX9, 5)) cw0_8 rfl dX11_act_78 (by decide) rfl rfl (Nat.le_of_ble_eq_true rfl)) ok_X2_become_8 (fun M78 h78 => ?_)
    have hbB : zHj 8 h (σ (38 + 6 * h + 3)) 0 M78 := by rw [h78]; exact zbc_h
    refine zi_iload_n dX11_act_81 (i := 2) rfl 4 rfl ?_
    refine zi_tableOut (tgt := 141) dX11_act_82 (by decide) (by decide) ?_
    refine zi_aload dX11_act_141 0 rfl ?_
    refine zi_iload_n dX11_act_143 (i := 3) rfl 5 rfl ?_
    refine zcJ (zc_O (as := [.int x]) lk_X11_340_X9 ce_X9_sits (qC := (RX9, TX9, 5)) cw0_8 rfl dX11_act_144 (by decide) rfl rfl (Nat.le_of_ble_eq_true rfl)) (z_X9_sits_8 hbB (by decide) (by omega) (by omega) hd) (fun x144 M144 h144 => ?_)
    have hp4 : M144 8 4 = nI 1 := by rw [h144]; exact zpd_4
    refine zi_istore (L' := [(6, .int x144), (5, .ref 8), (4, .int (nI h)), (0, .ref 0), (1, .int (nI a)), (2, .int (nI 3)), (3, .int x)]) dX11_act_147 (by decide) rfl ?_
    refine zi_aload dX11_act_149 1 rfl ?_
    refine zi_getI fd_X11_343_X9 rfl cw0_8 rfl dX11_act_151 ?_
    refine zi_top (y := nI 1) ((hp4)) ?_
    refine zi_ifN_eq (by decide) (tgt := 162) dX11_act_154 (by decide) (fun c => absurd c (by decide)) (fun _ => ?_)
    refine zi_bipush (v := (-15)) dX11_act_157 (by decide) ?_
    refine zi_goto (tgt := 164) dX11_act_159 (by decide) ?_
    refine zi_retJ rfl rfl dX11_act_164 ?_
    refine ⟨8, ?_, ?_⟩
    · exact (actX_z (by decide) hd).symm
    · rw [actZ_3_8 e55 hd, h144]
      exact zTk_pd (zTk_of (by decide) _ h78)
  · refine zi_top (y := nI 4) (congrArg nI e55) ?_
    refine zi_aaldN cw0_1 (by decide) (t := 10) rfl (by decide) dX11_act_55 ?_
    refine zi_astore (L' := [(5, .ref 10), (4, .int (nI h)), (0, .ref 0), (1, .int (nI a)), (2, .int (nI 3)), (3, .int x)]) dX11_act_56 (by decide) rfl ?_
    refine zi_aload_n dX11_act_58 (i := 0) rfl 2 rfl ?_
    refine zi_aload dX11_act_59 0 rfl ?_
    refine zi_putR fd_X11_323_X11 fp_X11_15 rfl cw0_0 rfl (by decide) (by decide) rfl dX11_act_61 ?_
    refine zi_aload dX11_act_64 0 rfl ?_
    refine zi_iload dX11_act_66 1 rfl ?_
    refine zi_aload_n dX11_act_68 (i := 0) rfl 2 rfl ?_
    refine zi_getR fd_X11_34_X11 rfl cw0_0 rfl dX11_act_69 ?_
    refine zi_getR fd_X11_225_X10 rfl cw0_14 rfl dX11_act_72 ?_
    refine zi_iload dX11_act_75 1 rfl ?_
    refine zi_ialdN cw0_18 (by omega) (by decide) dX11_act_77 ?_
    refine zi_top (y := nI (σ (38 + 6 * h + 3))) ((zr_c (by decide) (zr_c (by decide) ((zV_h hv (k := h) (by omega)).2.2.2.1)))) ?_
    refine zcV (zc_U (as := [.int (nI h), .int (nI (σ (38 + 6 * h + 3)))]) lk_X11_327_X1 ce_X2_become (qC := (RX1, TX1, 5)) cw0_10 rfl dX11_act_78 (by decide) rfl rfl (Nat.le_of_ble_eq_true rfl)) ok_X2_become_10 (fun M78 h78 => ?_)
    have hbB : zHj 10 h (σ (38 + 6 * h + 3)) 0 M78 := by rw [h78]; exact zbc_h
    refine zi_iload_n dX11_act_81 (i := 2) rfl 4 rfl ?_
    refine zi_tableOut (tgt := 141) dX11_act_82 (by decide) (by decide) ?_
    refine zi_aload dX11_act_141 0 rfl ?_
    refine zi_iload_n dX11_act_143 (i := 3) rfl 5 rfl ?_
    refine zcJ (zc_U (as := [.int x]) lk_X11_340_X1 ce_X2_sits (qC := (RX1, TX1, 5)) cw0_10 rfl dX11_act_144 (by decide) rfl rfl (Nat.le_of_ble_eq_true rfl)) (z_X2_sits_10 hbB (by decide) (by omega) (by omega) hd) (fun x144 M144 h144 => ?_)
    have hp4 : M144 10 4 = nI 1 := by rw [h144]; exact zpd_4
    refine zi_istore (L' := [(6, .int x144), (5, .ref 10), (4, .int (nI h)), (0, .ref 0), (1, .int (nI a)), (2, .int (nI 3)), (3, .int x)]) dX11_act_147 (by decide) rfl ?_
    refine zi_aload dX11_act_149 1 rfl ?_
    refine zi_getI fd_X11_343_X1 rfl cw0_10 rfl dX11_act_151 ?_
    refine zi_top (y := nI 1) ((hp4)) ?_
    refine zi_ifN_eq (by decide) (tgt := 162) dX11_act_154 (by decide) (fun c => absurd c (by decide)) (fun _ => ?_)
    refine zi_bipush (v := (-15)) dX11_act_157 (by decide) ?_
    refine zi_goto (tgt := 164) dX11_act_159 (by decide) ?_
    refine zi_retJ rfl rfl dX11_act_164 ?_
    refine ⟨10, ?_, ?_⟩
    · exact (actX_z (by decide) hd).symm
    · rw [actZ_3_10 e55 hd, h144]
      exact zTk_pd (zTk_of (by decide) _ h78)
  · refine zi_top (y := nI 5) (congrArg nI e55) ?_
    refine zi_aaldN cw0_1 (by decide) (t := 12) rfl (by decide) dX11_act_55 ?_
    refine zi_astore (L' := [(5, .ref 12), (4, .int (nI h)), (0, .ref 0), (1, .int (nI a)), (2, .int (nI 3)), (3, .int x)]) dX11_act_56 (by decide) rfl ?_
    refine zi_aload_n dX11_act_58 (i := 0) rfl 2 rfl ?_
    refine zi_aload dX11_act_59 0 rfl ?_
    refine zi_putR fd_X11_323_X11 fp_X11_15 rfl cw0_0 rfl (by decide) (by decide) rfl dX11_act_61 ?_
    refine zi_aload dX11_act_64 0 rfl ?_
    refine zi_iload dX11_act_66 1 rfl ?_
    refine zi_aload_n dX11_act_68 (i := 0) rfl 2 rfl ?_
    refine zi_getR fd_X11_34_X11 rfl cw0_0 rfl dX11_act_69 ?_
    refine zi_getR fd_X11_225_X10 rfl cw0_14 rfl dX11_act_72 ?_
    refine zi_iload dX11_act_75 1 rfl ?_
    refine zi_ialdN cw0_18 (by omega) (by decide) dX11_act_77 ?_
    refine zi_top (y := nI (σ (38 + 6 * h + 3))) ((zr_c (by decide) (zr_c (by decide) ((zV_h hv (k := h) (by omega)).2.2.2.1)))) ?_
    refine zcV (zc_U (as := [.int (nI h), .int (nI (σ (38 + 6 * h + 3)))]) lk_X11_327_X3 ce_X2_become (qC := (RX3, TX3, 5)) cw0_12 rfl dX11_act_78 (by decide) rfl rfl (Nat.le_of_ble_eq_true rfl)) ok_X2_become_12 (fun M78 h78 => ?_)
    have hbB : zHj 12 h (σ (38 + 6 * h + 3)) 0 M78 := by rw [h78]; exact zbc_h
    refine zi_iload_n dX11_act_81 (i := 2) rfl 4 rfl ?_
    refine zi_tableOut (tgt := 141) dX11_act_82 (by decide) (by decide) ?_
    refine zi_aload dX11_act_141 0 rfl ?_
    refine zi_iload_n dX11_act_143 (i := 3) rfl 5 rfl ?_
    refine zcJ (zc_U (as := [.int x]) lk_X11_340_X3 ce_X2_sits (qC := (RX3, TX3, 5)) cw0_12 rfl dX11_act_144 (by decide) rfl rfl (Nat.le_of_ble_eq_true rfl)) (z_X2_sits_12 hbB (by decide) (by omega) (by omega) hd) (fun x144 M144 h144 => ?_)
    have hp4 : M144 12 4 = nI 1 := by rw [h144]; exact zpd_4
    refine zi_istore (L' := [(6, .int x144), (5, .ref 12), (4, .int (nI h)), (0, .ref 0), (1, .int (nI a)), (2, .int (nI 3)), (3, .int x)]) dX11_act_147 (by decide) rfl ?_
    refine zi_aload dX11_act_149 1 rfl ?_
    refine zi_getI fd_X11_343_X3 rfl cw0_12 rfl dX11_act_151 ?_
    refine zi_top (y := nI 1) ((hp4)) ?_
    refine zi_ifN_eq (by decide) (tgt := 162) dX11_act_154 (by decide) (fun c => absurd c (by decide)) (fun _ => ?_)
    refine zi_bipush (v := (-15)) dX11_act_157 (by decide) ?_
    refine zi_goto (tgt := 164) dX11_act_159 (by decide) ?_
    refine zi_retJ rfl rfl dX11_act_164 ?_
    refine ⟨12, ?_, ?_⟩
    · exact (actX_z (by decide) hd).symm
    · rw [actZ_3_12 e55 hd, h144]
      exact zTk_pd (zTk_of (by decide) _ h78)
theorem zup15 {M : zMem} : ∀ a, a ≠ 0 → zup M 0 15 0 a = M a := fun a h => zup_other _ _ _ h
set_option maxRecDepth 100000 in
set_option maxHeartbeats 4000000 in
theorem bad_X11_act {M : zMem} {k t x : Int32} (hB : zin k (nI 0) (nI 3) = false) : zOkJ zw0 9 mX11_act [.ref 0, .int k, .int t, .int x] M (fun r M' => r = 0 ∧ M' = zup M 0 15 0) := by
  refine zOk_of (by decide +kernel) (fun _ => Nat.le_of_ble_eq_true rfl) (L := [(0, .ref 0), (1, .int k), (2, .int t), (3, .int x)]) rfl ?_
  refine zi_aload_n dX11_act_0 (i := 0) rfl 0 rfl ?_
  refine zi_null dX11_act_1 ?_
  refine zi_putN fd_X11_323_X11 fp_X11_15 rfl cw0_0 rfl rfl dX11_act_2 ?_
  refine zi_iload_n dX11_act_5 (i := 1) rfl 1 rfl ?_
  refine zcI (zc_S (as := [.int k]) lk_X11_314 ce_X11_isShelf dX11_act_6 (by decide) rfl rfl (Nat.le_of_ble_eq_true rfl)) (zOkI_eq ok_X11_isShelf (congrArg zb hB)) ?_
  refine zi_ifN_eq (by decide) (tgt := 20) dX11_act_9 (by decide) (fun _ => ?_) (fun c => absurd c (by decide))
  refine zi_bipush (v := (-3)) dX11_act_20 (by decide) ?_
  refine zi_istore (L' := [(4, .int (-3)), (0, .ref 0), (1, .int k), (2, .int t), (3, .int x)]) dX11_act_22 (by decide) rfl ?_
  refine zi_iload dX11_act_24 0 rfl ?_
  refine zi_bipush (v := (-3)) dX11_act_26 (by decide) ?_
  refine zi_icmp_eq (tgt := 39) dX11_act_28 (by decide) (fun c28 => ?_) (fun c28 => False.elim (by exact c28 rfl))
  refine zi_iconst (v := nI 0) dX11_act_39 (by decide) ?_
  refine zi_retJ rfl rfl dX11_act_40 ?_
  exact ⟨rfl, rfl⟩
set_option maxRecDepth 100000 in
set_option maxHeartbeats 4000000 in
theorem what_X11_act {M : zMem} {σ : Nat → Nat} {R : List gRl} {a h : Nat} {t x : Int32} (ha : zVa 14 M σ R) (hk : qOk σ) (h1 : a < 4) (hn : M 106 a = nI 0) (hm : M 107 a = nI h) (hh5 : h ≤ 5) (hh1 : h < σ 6) (hB : zin t (nI 0) (nI 3) = false) : zOkJ zw0 9 mX11_act [.ref 0, .int (nI a), .int t, .int x] M (fun r M' => r = 0 ∧ M' = zup M 0 15 0) := by
  have hv := ha.1
  have hb := hk.1
  have h66 := hk.2.1
  have ha0 := zVa_o (c := 0) (j := 15) (x := 0) ha (by decide)
  have hn0 : zup M 0 15 0 106 a = nI 0 := zr_c (by decide) hn
  have hm0 : zup M 0 15 0 107 a = nI h := zr_c (by decide) hm
  refine zOk_of (by decide +kernel) (fun _ => Nat.le_of_ble_eq_true rfl) (L := [(0, .ref 0), (1, .int (nI a)), (2, .int t), (3, .int x)]) rfl ?_
  refine zi_aload_n dX11_act_0 (i := 0) rfl 0 rfl ?_
  refine zi_null dX11_act_1 ?_
  refine zi_putN fd_X11_323_X11 fp_X11_15 rfl cw0_0 rfl rfl dX11_act_2 ?_
  refine zi_iload_n dX11_act_5 (i := 1) rfl 1 rfl ?_
  refine zcI (zc_S (as := [.int (nI a)]) lk_X11_314 ce_X11_isShelf dX11_act_6 (by decide) rfl rfl (Nat.le_of_ble_eq_true rfl)) (zOkI_eq ok_X11_isShelf (zinT (by omega) (by omega) (by omega))) ?_
  refine zi_ifN_eq (by decide) (tgt := 20) dX11_act_9 (by decide) (fun c => absurd c (by decide)) (fun _ => ?_)
  refine zi_aload_n dX11_act_12 (i := 0) rfl 0 rfl ?_
  refine zi_iload_n dX11_act_13 (i := 1) rfl 1 rfl ?_
  refine zcI (zc_V (as := [.int (nI a)]) lk_X11_317 ce_X11_houseOn cw0_0 rfl rfl dX11_act_14 (by decide) rfl rfl (Nat.le_of_ble_eq_true rfl)) (zOkI_eq (ok_X11_houseOn ha0 hk h1 hn0 hm0 hh5) (if_pos hh1)) ?_
  refine zi_goto (tgt := 22) dX11_act_17 (by decide) ?_
  refine zi_istore (L' := [(4, .int (nI h)), (0, .ref 0), (1, .int (nI a)), (2, .int t), (3, .int x)]) dX11_act_22 (by decide) rfl ?_
  refine zi_iload dX11_act_24 0 rfl ?_
  refine zi_bipush (v := (-3)) dX11_act_26 (by decide) ?_
  refine zi_icmp_eq (tgt := 39) dX11_act_28 (by decide) (fun c28 => False.elim (by exact nI_ne_n3 (by omega) c28)) (fun c28 => ?_)
  refine zi_iload_n dX11_act_31 (i := 2) rfl 3 rfl ?_
  refine zi_iconst (v := nI 3) dX11_act_32 (by decide) ?_
  refine zcI (zc_S (as := [.int t, .int (nI 3)]) lk_X11_86 ce_X11_isFrom0To dX11_act_33 (by decide) rfl rfl (Nat.le_of_ble_eq_true rfl)) (zOkI_eq ok_X11_isFrom0To (congrArg zb hB)) ?_
  refine zi_ifN_ne (by decide) (tgt := 41) dX11_act_36 (by decide) (fun c => absurd c (by decide)) (fun _ => ?_)
  refine zi_iconst (v := nI 0) dX11_act_39 (by decide) ?_
  refine zi_retJ rfl rfl dX11_act_40 ?_
  exact ⟨rfl, rfl⟩
set_option maxRecDepth 100000 in
set_option maxHeartbeats 4000000 in
theorem gone_X11_act {M : zMem} {σ : Nat → Nat} {R : List gRl} {a h : Nat} {t x : Int32} (ha : zVa 14 M σ R) (hk : qOk σ) (h1 : a < 4) (hn : M 106 a = nI 0) (hm : M 107 a = nI h) (hh5 : h ≤ 5) (hh1 : σ 6 ≤ h) : zOkJ zw0 9 mX11_act [.ref 0, .int (nI a), .int t, .int x] M (fun r M' => r = 0 ∧ M' = zup M 0 15 0) := by
  have hv := ha.1
  have hb := hk.1
  have h66 := hk.2.1
  have ha0 := zVa_o (c := 0) (j := 15) (x := 0) ha (by decide)
  have hn0 : zup M 0 15 0 106 a = nI 0 := zr_c (by decide) hn
  have hm0 : zup M 0 15 0 107 a = nI h := zr_c (by decide) hm
  refine zOk_of (by decide +kernel) (fun _ => Nat.le_of_ble_eq_true rfl) (L := [(0, .ref 0), (1, .int (nI a)), (2, .int t), (3, .int x)]) rfl ?_
  refine zi_aload_n dX11_act_0 (i := 0) rfl 0 rfl ?_
  refine zi_null dX11_act_1 ?_
  refine zi_putN fd_X11_323_X11 fp_X11_15 rfl cw0_0 rfl rfl dX11_act_2 ?_
  refine zi_iload_n dX11_act_5 (i := 1) rfl 1 rfl ?_
  refine zcI (zc_S (as := [.int (nI a)]) lk_X11_314 ce_X11_isShelf dX11_act_6 (by decide) rfl rfl (Nat.le_of_ble_eq_true rfl)) (zOkI_eq ok_X11_isShelf (zinT (by omega) (by omega) (by omega))) ?_
  refine zi_ifN_eq (by decide) (tgt := 20) dX11_act_9 (by decide) (fun c => absurd c (by decide)) (fun _ => ?_)
  refine zi_aload_n dX11_act_12 (i := 0) rfl 0 rfl ?_
  refine zi_iload_n dX11_act_13 (i := 1) rfl 1 rfl ?_
  refine zcI (zc_V (as := [.int (nI a)]) lk_X11_317 ce_X11_houseOn cw0_0 rfl rfl dX11_act_14 (by decide) rfl rfl (Nat.le_of_ble_eq_true rfl)) (zOkI_eq (ok_X11_houseOn ha0 hk h1 hn0 hm0 hh5) (if_neg (by omega))) ?_
  refine zi_goto (tgt := 22) dX11_act_17 (by decide) ?_
  refine zi_istore (L' := [(4, .int (-3)), (0, .ref 0), (1, .int (nI a)), (2, .int t), (3, .int x)]) dX11_act_22 (by decide) rfl ?_
  refine zi_iload dX11_act_24 0 rfl ?_
  refine zi_bipush (v := (-3)) dX11_act_26 (by decide) ?_
  refine zi_icmp_eq (tgt := 39) dX11_act_28 (by decide) (fun c28 => ?_) (fun c28 => False.elim (by exact c28 rfl))
  refine zi_iconst (v := nI 0) dX11_act_39 (by decide) ?_
  refine zi_retJ rfl rfl dX11_act_40 ?_
  exact ⟨rfl, rfl⟩
set_option maxRecDepth 100000 in
set_option maxHeartbeats 4000000 in
theorem none_X11_act {M : zMem}  {a h : Nat} {t x : Int32} (h1 : a < 4) (hn : M 106 a = nI h) (hq1 : 1 ≤ h) (hq2 : h ≤ 2) : zOkJ zw0 9 mX11_act [.ref 0, .int (nI a), .int t, .int x] M (fun r M' => r = 0 ∧ M' = zup M 0 15 0) := by
  refine zOk_of (by decide +kernel) (fun _ => Nat.le_of_ble_eq_true rfl) (L := [(0, .ref 0), (1, .int (nI a)), (2, .int t), (3, .int x)]) rfl ?_
  refine zi_aload_n dX11_act_0 (i := 0) rfl 0 rfl ?_
  refine zi_null dX11_act_1 ?_
  refine zi_putN fd_X11_323_X11 fp_X11_15 rfl cw0_0 rfl rfl dX11_act_2 ?_
  refine zi_iload_n dX11_act_5 (i := 1) rfl 1 rfl ?_
  refine zcI (zc_S (as := [.int (nI a)]) lk_X11_314 ce_X11_isShelf dX11_act_6 (by decide) rfl rfl (Nat.le_of_ble_eq_true rfl)) (zOkI_eq ok_X11_isShelf (zinT (by omega) (by omega) (by omega))) ?_
  refine zi_ifN_eq (by decide) (tgt := 20) dX11_act_9 (by decide) (fun c => absurd c (by decide)) (fun _ => ?_)
  refine zi_aload_n dX11_act_12 (i := 0) rfl 0 rfl ?_
  refine zi_iload_n dX11_act_13 (i := 1) rfl 1 rfl ?_
  refine zcI (zc_V (as := [.int (nI a)]) lk_X11_317 ce_X11_houseOn cw0_0 rfl rfl dX11_act_14 (by decide) rfl rfl (Nat.le_of_ble_eq_true rfl)) (none_X11_houseOn (h := h) h1 (zr_c (by decide) hn) hq1 hq2) ?_
  refine zi_goto (tgt := 22) dX11_act_17 (by decide) ?_
  refine zi_istore (L' := [(4, .int (-3)), (0, .ref 0), (1, .int (nI a)), (2, .int t), (3, .int x)]) dX11_act_22 (by decide) rfl ?_
  refine zi_iload dX11_act_24 0 rfl ?_
  refine zi_bipush (v := (-3)) dX11_act_26 (by decide) ?_
  refine zi_icmp_eq (tgt := 39) dX11_act_28 (by decide) (fun c28 => ?_) (fun c28 => False.elim (by exact c28 rfl))
  refine zi_iconst (v := nI 0) dX11_act_39 (by decide) ?_
  refine zi_retJ rfl rfl dX11_act_40 ?_
  exact ⟨rfl, rfl⟩
