set_option maxRecDepth 100000 in
set_option maxHeartbeats 4000000 in
theorem ok_X11_shelf0 {M : zMem} {σ : Nat → Nat} {R : List gRl} {a h : Nat} (ha : zVa 14 M σ R) (hk : qOk σ) (h1 : a < 4) (hh : h < σ 6) : zOkJ zw0 2 mX11_shelf [.ref 0, .int (nI a), .int (nI 0), .int (nI h)] M (fun r M' => r = nI 1 ∧ M' = zup (zup (zup M 106 a (nI 0)) 107 a (nI h)) 108 a (-1)) := by
  have hv := ha.1
  have hb := hk.1
  have h66 := hk.2.1
  refine zOk_of (by decide +kernel) (fun _ => Nat.le_of_ble_eq_true rfl) (L := [(0, .ref 0), (1, .int (nI a)), (2, .int (nI 0)), (3, .int (nI h))]) rfl ?_
  refine zi_iload_n dX11_shelf_0 (i := 1) rfl 1 rfl ?_
  refine zcI (zc_S (as := [.int (nI a)]) lk_X11_314 ce_X11_isShelf dX11_shelf_1 (by decide) rfl rfl (Nat.le_of_ble_eq_true rfl)) (zOkI_eq ok_X11_isShelf (zinT (by omega) (by omega) (by omega))) ?_
  refine zi_ifN_eq (by decide) (tgt := 15) dX11_shelf_4 (by decide) (fun c => absurd c (by decide)) (fun _ => ?_)
  refine zi_iload_n dX11_shelf_7 (i := 2) rfl 2 rfl ?_
  refine zi_iconst (v := nI 2) dX11_shelf_8 (by decide) ?_
  refine zcI (zc_S (as := [.int (nI 0), .int (nI 2)]) lk_X11_86 ce_X11_isFrom0To dX11_shelf_9 (by decide) rfl rfl (Nat.le_of_ble_eq_true rfl)) (zOkI_eq ok_X11_isFrom0To (zinT (by omega) (by omega) (by omega))) ?_
  refine zi_ifN_ne (by decide) (tgt := 17) dX11_shelf_12 (by decide) (fun _ => ?_) (fun c => absurd c (by decide))
  refine zi_iload_n dX11_shelf_17 (i := 2) rfl 2 rfl ?_
  refine zi_ifN_ne (by decide) (tgt := 32) dX11_shelf_18 (by decide) (fun c => absurd c (by decide)) (fun _ => ?_)
  refine zi_aload_n dX11_shelf_21 (i := 0) rfl 0 rfl ?_
  refine zi_getR fd_X11_34_X11 rfl cw0_0 rfl dX11_shelf_22 ?_
  refine zi_iload_n dX11_shelf_25 (i := 3) rfl 3 rfl ?_
  refine zcI (zc_V (as := [.int (nI h)]) lk_X11_98 ce_X10_has cw0_14 rfl rfl dX11_shelf_26 (by decide) rfl rfl (Nat.le_of_ble_eq_true rfl)) (zOkI_eq (ok_X10_has_14 hv hk) (qIsT hh (by omega))) ?_
  refine zi_ifN_eq (by decide) (tgt := 44) dX11_shelf_29 (by decide) (fun c => absurd c (by decide)) (fun _ => ?_)
  refine zi_iload_n dX11_shelf_32 (i := 2) rfl 2 rfl ?_
  refine zi_iconst (v := nI 1) dX11_shelf_33 (by decide) ?_
  refine zi_icmpN_ne (by decide) (by decide) (tgt := 46) dX11_shelf_34 (by decide) (fun _ => ?_) (fun c => absurd c (by decide))
  refine zi_iload_n dX11_shelf_46 (i := 2) rfl 2 rfl ?_
  refine zi_iconst (v := nI 1) dX11_shelf_47 (by decide) ?_
  refine zi_icmpN_ne (by decide) (by decide) (tgt := 65) dX11_shelf_48 (by decide) (fun _ => ?_) (fun c => absurd c (by decide))
  refine zi_iconst (v := nI 0) dX11_shelf_65 (by decide) ?_
  refine zi_istore (L' := [(4, .int (nI 0)), (0, .ref 0), (1, .int (nI a)), (2, .int (nI 0)), (3, .int (nI h))]) dX11_shelf_66 (by decide) rfl ?_
  refine zi_aload_n dX11_shelf_68 (i := 0) rfl 1 rfl ?_
  refine zi_getR fd_X11_73_X11 rfl cw0_0 rfl dX11_shelf_69 ?_
  refine zi_iload_n dX11_shelf_72 (i := 1) rfl 2 rfl ?_
  refine zi_iload dX11_shelf_73 0 rfl ?_
  refine zi_ifN_eq (by decide) (tgt := 82) dX11_shelf_75 (by decide) (fun _ => ?_) (fun c => absurd c (by decide))
  refine zi_iload_n dX11_shelf_82 (i := 2) rfl 3 rfl ?_
  refine zi_iastN cw0_106 (by omega) (by decide) dX11_shelf_83 ?_
  refine zi_aload_n dX11_shelf_84 (i := 0) rfl 1 rfl ?_
  refine zi_getR fd_X11_76_X11 rfl cw0_0 rfl dX11_shelf_85 ?_
  refine zi_iload_n dX11_shelf_88 (i := 1) rfl 2 rfl ?_
  refine zi_iload_n dX11_shelf_89 (i := 2) rfl 3 rfl ?_
  refine zi_iconst (v := nI 1) dX11_shelf_90 (by decide) ?_
  refine zi_icmpN_ne (by decide) (by decide) (tgt := 103) dX11_shelf_91 (by decide) (fun _ => ?_) (fun c => absurd c (by decide))
  refine zi_iload_n dX11_shelf_103 (i := 3) rfl 4 rfl ?_
  refine zi_iastN cw0_107 (by omega) (by decide) dX11_shelf_104 ?_
  refine zi_aload_n dX11_shelf_105 (i := 0) rfl 1 rfl ?_
  refine zi_getR fd_X11_79_X11 rfl cw0_0 rfl dX11_shelf_106 ?_
  refine zi_iload_n dX11_shelf_109 (i := 1) rfl 2 rfl ?_
  refine zi_iload_n dX11_shelf_110 (i := 2) rfl 3 rfl ?_
  refine zi_iconst (v := nI 1) dX11_shelf_111 (by decide) ?_
  refine zi_icmpN_ne (by decide) (by decide) (tgt := 124) dX11_shelf_112 (by decide) (fun _ => ?_) (fun c => absurd c (by decide))
  refine zi_iconst (v := (-1)) dX11_shelf_124 (by decide) ?_
  refine zi_iastN cw0_108 (by omega) (by decide) dX11_shelf_125 ?_
  refine zi_iconst (v := nI 1) dX11_shelf_126 (by decide) ?_
  refine zi_retJ rfl rfl dX11_shelf_127 ?_
  exact ⟨rfl, rfl⟩
set_option maxRecDepth 100000 in
set_option maxHeartbeats 4000000 in
theorem ok_X11_shelf2 {M : zMem} {a : Nat} {x : Int32} (h1 : a < 4) : zOkJ zw0 2 mX11_shelf [.ref 0, .int (nI a), .int (nI 2), .int x] M (fun r M' => r = nI 1 ∧ M' = zup (zup (zup M 106 a (nI 2)) 107 a x) 108 a (-1)) := by
  refine zOk_of (by decide +kernel) (fun _ => Nat.le_of_ble_eq_true rfl) (L := [(0, .ref 0), (1, .int (nI a)), (2, .int (nI 2)), (3, .int x)]) rfl ?_
  refine zi_iload_n dX11_shelf_0 (i := 1) rfl 1 rfl ?_
  refine zcI (zc_S (as := [.int (nI a)]) lk_X11_314 ce_X11_isShelf dX11_shelf_1 (by decide) rfl rfl (Nat.le_of_ble_eq_true rfl)) (zOkI_eq ok_X11_isShelf (zinT (by omega) (by omega) (by omega))) ?_
  refine zi_ifN_eq (by decide) (tgt := 15) dX11_shelf_4 (by decide) (fun c => absurd c (by decide)) (fun _ => ?_)
  refine zi_iload_n dX11_shelf_7 (i := 2) rfl 2 rfl ?_
  refine zi_iconst (v := nI 2) dX11_shelf_8 (by decide) ?_
  refine zcI (zc_S (as := [.int (nI 2), .int (nI 2)]) lk_X11_86 ce_X11_isFrom0To dX11_shelf_9 (by decide) rfl rfl (Nat.le_of_ble_eq_true rfl)) (zOkI_eq ok_X11_isFrom0To (zinT (by omega) (by omega) (by omega))) ?_
  refine zi_ifN_ne (by decide) (tgt := 17) dX11_shelf_12 (by decide) (fun _ => ?_) (fun c => absurd c (by decide))
  refine zi_iload_n dX11_shelf_17 (i := 2) rfl 2 rfl ?_
  refine zi_ifN_ne (by decide) (tgt := 32) dX11_shelf_18 (by decide) (fun _ => ?_) (fun c => absurd c (by decide))
  refine zi_iload_n dX11_shelf_32 (i := 2) rfl 2 rfl ?_
  refine zi_iconst (v := nI 1) dX11_shelf_33 (by decide) ?_
  refine zi_icmpN_ne (by decide) (by decide) (tgt := 46) dX11_shelf_34 (by decide) (fun _ => ?_) (fun c => absurd c (by decide))
  refine zi_iload_n dX11_shelf_46 (i := 2) rfl 2 rfl ?_
  refine zi_iconst (v := nI 1) dX11_shelf_47 (by decide) ?_
  refine zi_icmpN_ne (by decide) (by decide) (tgt := 65) dX11_shelf_48 (by decide) (fun _ => ?_) (fun c => absurd c (by decide))
  refine zi_iconst (v := nI 0) dX11_shelf_65 (by decide) ?_
  refine zi_istore (L' := [(4, .int (nI 0)), (0, .ref 0), (1, .int (nI a)), (2, .int (nI 2)), (3, .int x)]) dX11_shelf_66 (by decide) rfl ?_
  refine zi_aload_n dX11_shelf_68 (i := 0) rfl 1 rfl ?_
  refine zi_getR fd_X11_73_X11 rfl cw0_0 rfl dX11_shelf_69 ?_
  refine zi_iload_n dX11_shelf_72 (i := 1) rfl 2 rfl ?_
  refine zi_iload dX11_shelf_73 0 rfl ?_
  refine zi_ifN_eq (by decide) (tgt := 82) dX11_shelf_75 (by decide) (fun _ => ?_) (fun c => absurd c (by decide))
  refine zi_iload_n dX11_shelf_82 (i := 2) rfl 3 rfl ?_
  refine zi_iastN cw0_106 (by omega) (by decide) dX11_shelf_83 ?_
  refine zi_aload_n dX11_shelf_84 (i := 0) rfl 1 rfl ?_
  refine zi_getR fd_X11_76_X11 rfl cw0_0 rfl dX11_shelf_85 ?_
  refine zi_iload_n dX11_shelf_88 (i := 1) rfl 2 rfl ?_
  refine zi_iload_n dX11_shelf_89 (i := 2) rfl 3 rfl ?_
  refine zi_iconst (v := nI 1) dX11_shelf_90 (by decide) ?_
  refine zi_icmpN_ne (by decide) (by decide) (tgt := 103) dX11_shelf_91 (by decide) (fun _ => ?_) (fun c => absurd c (by decide))
  refine zi_iload_n dX11_shelf_103 (i := 3) rfl 4 rfl ?_
  refine zi_iastN cw0_107 (by omega) (by decide) dX11_shelf_104 ?_
  refine zi_aload_n dX11_shelf_105 (i := 0) rfl 1 rfl ?_
  refine zi_getR fd_X11_79_X11 rfl cw0_0 rfl dX11_shelf_106 ?_
  refine zi_iload_n dX11_shelf_109 (i := 1) rfl 2 rfl ?_
  refine zi_iload_n dX11_shelf_110 (i := 2) rfl 3 rfl ?_
  refine zi_iconst (v := nI 1) dX11_shelf_111 (by decide) ?_
  refine zi_icmpN_ne (by decide) (by decide) (tgt := 124) dX11_shelf_112 (by decide) (fun _ => ?_) (fun c => absurd c (by decide))
  refine zi_iconst (v := (-1)) dX11_shelf_124 (by decide) ?_
  refine zi_iastN cw0_108 (by omega) (by decide) dX11_shelf_125 ?_
  refine zi_iconst (v := nI 1) dX11_shelf_126 (by decide) ?_
  refine zi_retJ rfl rfl dX11_shelf_127 ?_
  exact ⟨rfl, rfl⟩
set_option maxRecDepth 100000 in
set_option maxHeartbeats 4000000 in
theorem ok_X11_shelf1 {M : zMem} {a b : Nat} {so sz : Nat → Nat} (hsh : zSc so sz M) (h1 : a < 4) (hb4 : b < 4) : zOkJ zw0 2 mX11_shelf [.ref 0, .int (nI a), .int (nI 1), .int (nI b)] M (fun r M' => r = nI 1 ∧ M' = zup (zup (zup M 106 a (if so b = 0 then nI 2 else nI 1)) 107 a (nI (sz b))) 108 a (nI (so b) - nI 1)) := by
  obtain ⟨-, -, hso, hsz⟩ := hsh b hb4
  refine zOk_of (by decide +kernel) (fun _ => Nat.le_of_ble_eq_true rfl) (L := [(0, .ref 0), (1, .int (nI a)), (2, .int (nI 1)), (3, .int (nI b))]) rfl ?_
  refine zi_iload_n dX11_shelf_0 (i := 1) rfl 1 rfl ?_
  refine zcI (zc_S (as := [.int (nI a)]) lk_X11_314 ce_X11_isShelf dX11_shelf_1 (by decide) rfl rfl (Nat.le_of_ble_eq_true rfl)) (zOkI_eq ok_X11_isShelf (zinT (by omega) (by omega) (by omega))) ?_
  refine zi_ifN_eq (by decide) (tgt := 15) dX11_shelf_4 (by decide) (fun c => absurd c (by decide)) (fun _ => ?_)
  refine zi_iload_n dX11_shelf_7 (i := 2) rfl 2 rfl ?_
  refine zi_iconst (v := nI 2) dX11_shelf_8 (by decide) ?_
  refine zcI (zc_S (as := [.int (nI 1), .int (nI 2)]) lk_X11_86 ce_X11_isFrom0To dX11_shelf_9 (by decide) rfl rfl (Nat.le_of_ble_eq_true rfl)) (zOkI_eq ok_X11_isFrom0To (zinT (by omega) (by omega) (by omega))) ?_
  refine zi_ifN_ne (by decide) (tgt := 17) dX11_shelf_12 (by decide) (fun _ => ?_) (fun c => absurd c (by decide))
  refine zi_iload_n dX11_shelf_17 (i := 2) rfl 2 rfl ?_
  refine zi_ifN_ne (by decide) (tgt := 32) dX11_shelf_18 (by decide) (fun _ => ?_) (fun c => absurd c (by decide))
  refine zi_iload_n dX11_shelf_32 (i := 2) rfl 2 rfl ?_
  refine zi_iconst (v := nI 1) dX11_shelf_33 (by decide) ?_
  refine zi_icmpN_ne (by decide) (by decide) (tgt := 46) dX11_shelf_34 (by decide) (fun c => absurd c (by decide)) (fun _ => ?_)
  refine zi_iload_n dX11_shelf_37 (i := 3) rfl 3 rfl ?_
  refine zcI (zc_S (as := [.int (nI b)]) lk_X11_296 ce_X11_isSheet dX11_shelf_38 (by decide) rfl rfl (Nat.le_of_ble_eq_true rfl)) (zOkI_eq ok_X11_isSheet (zinT (by omega) (by omega) (by omega))) ?_
  refine zi_ifN_ne (by decide) (tgt := 46) dX11_shelf_41 (by decide) (fun _ => ?_) (fun c => absurd c (by decide))
  refine zi_iload_n dX11_shelf_46 (i := 2) rfl 2 rfl ?_
  refine zi_iconst (v := nI 1) dX11_shelf_47 (by decide) ?_
  refine zi_icmpN_ne (by decide) (by decide) (tgt := 65) dX11_shelf_48 (by decide) (fun c => absurd c (by decide)) (fun _ => ?_)
  refine zi_aload_n dX11_shelf_51 (i := 0) rfl 0 rfl ?_
  refine zi_getR fd_X11_67_X11 rfl cw0_0 rfl dX11_shelf_52 ?_
  refine zi_iload_n dX11_shelf_55 (i := 3) rfl 3 rfl ?_
  refine zi_ialdN cw0_104 (by omega) (by decide) dX11_shelf_56 ?_
  refine zi_top (y := (nI (so b) - nI 1)) (((hsh _ (by omega)).1)) ?_
  refine zi_iconst (v := (-1)) dX11_shelf_57 (by decide) ?_
  refine zi_icmp_ne (tgt := 65) dX11_shelf_58 (by decide) (fun c58 => ?_) (fun c58 => ?_)
  · have c58n : so b ≠ 0 := fun e => c58 (by rw [e]; decide)
    refine zi_iconst (v := nI 0) dX11_shelf_65 (by decide) ?_
    refine zi_istore (L' := [(4, .int (nI 0)), (0, .ref 0), (1, .int (nI a)), (2, .int (nI 1)), (3, .int (nI b))]) dX11_shelf_66 (by decide) rfl ?_
    refine zi_aload_n dX11_shelf_68 (i := 0) rfl 1 rfl ?_
    refine zi_getR fd_X11_73_X11 rfl cw0_0 rfl dX11_shelf_69 ?_
    refine zi_iload_n dX11_shelf_72 (i := 1) rfl 2 rfl ?_
    refine zi_iload dX11_shelf_73 0 rfl ?_
    refine zi_ifN_eq (by decide) (tgt := 82) dX11_shelf_75 (by decide) (fun _ => ?_) (fun c => absurd c (by decide))
    refine zi_iload_n dX11_shelf_82 (i := 2) rfl 3 rfl ?_
    refine zi_iastN cw0_106 (by omega) (by decide) dX11_shelf_83 ?_
    refine zi_aload_n dX11_shelf_84 (i := 0) rfl 1 rfl ?_
    refine zi_getR fd_X11_76_X11 rfl cw0_0 rfl dX11_shelf_85 ?_
    refine zi_iload_n dX11_shelf_88 (i := 1) rfl 2 rfl ?_
    refine zi_iload_n dX11_shelf_89 (i := 2) rfl 3 rfl ?_
    refine zi_iconst (v := nI 1) dX11_shelf_90 (by decide) ?_
    refine zi_icmpN_ne (by decide) (by decide) (tgt := 103) dX11_shelf_91 (by decide) (fun c => absurd c (by decide)) (fun _ => ?_)
    refine zi_aload_n dX11_shelf_94 (i := 0) rfl 1 rfl ?_
    refine zi_getR fd_X11_70_X11 rfl cw0_0 rfl dX11_shelf_95 ?_
    refine zi_iload_n dX11_shelf_98 (i := 3) rfl 4 rfl ?_
    refine zi_ialdN cw0_105 (by omega) (by decide) dX11_shelf_99 ?_
    refine zi_top (y := nI (sz b)) ((zr_c (by decide) ((hsh _ (by omega)).2.1))) ?_
    refine zi_goto (tgt := 104) dX11_shelf_100 (by decide) ?_
    refine zi_iastN cw0_107 (by omega) (by decide) dX11_shelf_104 ?_
    refine zi_aload_n dX11_shelf_105 (i := 0) rfl 1 rfl ?_
    refine zi_getR fd_X11_79_X11 rfl cw0_0 rfl dX11_shelf_106 ?_
    refine zi_iload_n dX11_shelf_109 (i := 1) rfl 2 rfl ?_
    refine zi_iload_n dX11_shelf_110 (i := 2) rfl 3 rfl ?_
    refine zi_iconst (v := nI 1) dX11_shelf_111 (by decide) ?_
    refine zi_icmpN_ne (by decide) (by decide) (tgt := 124) dX11_shelf_112 (by decide) (fun c => absurd c (by decide)) (fun _ => ?_)
    refine zi_aload_n dX11_shelf_115 (i := 0) rfl 1 rfl ?_
    refine zi_getR fd_X11_67_X11 rfl cw0_0 rfl dX11_shelf_116 ?_
    refine zi_iload_n dX11_shelf_119 (i := 3) rfl 4 rfl ?_
    refine zi_ialdN cw0_104 (by omega) (by decide) dX11_shelf_120 ?_
    refine zi_top (y := (nI (so b) - nI 1)) ((zr_c (by decide) (zr_c (by decide) ((hsh _ (by omega)).1)))) ?_
    refine zi_goto (tgt := 125) dX11_shelf_121 (by decide) ?_
    refine zi_iastN cw0_108 (by omega) (by decide) dX11_shelf_125 ?_
    refine zi_iconst (v := nI 1) dX11_shelf_126 (by decide) ?_
    refine zi_retJ rfl rfl dX11_shelf_127 ?_
    first | (rw [if_pos c58n]; exact ⟨rfl, rfl⟩) | (rw [if_neg c58n]; exact ⟨rfl, rfl⟩)
  · have c58n : so b = 0 := by rcases Nat.eq_zero_or_pos (so b) with e | e; exact e; exact absurd ((qI_pred e).symm.trans c58) (nI_ne_neg (by omega))
    refine zi_iconst (v := nI 1) dX11_shelf_61 (by decide) ?_
    refine zi_goto (tgt := 66) dX11_shelf_62 (by decide) ?_
    refine zi_istore (L' := [(4, .int (nI 1)), (0, .ref 0), (1, .int (nI a)), (2, .int (nI 1)), (3, .int (nI b))]) dX11_shelf_66 (by decide) rfl ?_
    refine zi_aload_n dX11_shelf_68 (i := 0) rfl 1 rfl ?_
    refine zi_getR fd_X11_73_X11 rfl cw0_0 rfl dX11_shelf_69 ?_
    refine zi_iload_n dX11_shelf_72 (i := 1) rfl 2 rfl ?_
    refine zi_iload dX11_shelf_73 0 rfl ?_
    refine zi_ifN_eq (by decide) (tgt := 82) dX11_shelf_75 (by decide) (fun c => absurd c (by decide)) (fun _ => ?_)
    refine zi_iconst (v := nI 2) dX11_shelf_78 (by decide) ?_
    refine zi_goto (tgt := 83) dX11_shelf_79 (by decide) ?_
    refine zi_iastN cw0_106 (by omega) (by decide) dX11_shelf_83 ?_
    refine zi_aload_n dX11_shelf_84 (i := 0) rfl 1 rfl ?_
    refine zi_getR fd_X11_76_X11 rfl cw0_0 rfl dX11_shelf_85 ?_
    refine zi_iload_n dX11_shelf_88 (i := 1) rfl 2 rfl ?_
    refine zi_iload_n dX11_shelf_89 (i := 2) rfl 3 rfl ?_
    refine zi_iconst (v := nI 1) dX11_shelf_90 (by decide) ?_
    refine zi_icmpN_ne (by decide) (by decide) (tgt := 103) dX11_shelf_91 (by decide) (fun c => absurd c (by decide)) (fun _ => ?_)
    refine zi_aload_n dX11_shelf_94 (i := 0) rfl 1 rfl ?_
    refine zi_getR fd_X11_70_X11 rfl cw0_0 rfl dX11_shelf_95 ?_
    refine zi_iload_n dX11_shelf_98 (i := 3) rfl 4 rfl ?_
    refine zi_ialdN cw0_105 (by omega) (by decide) dX11_shelf_99 ?_
    refine zi_top (y := nI (sz b)) ((zr_c (by decide) ((hsh _ (by omega)).2.1))) ?_
    refine zi_goto (tgt := 104) dX11_shelf_100 (by decide) ?_
    refine zi_iastN cw0_107 (by omega) (by decide) dX11_shelf_104 ?_
    refine zi_aload_n dX11_shelf_105 (i := 0) rfl 1 rfl ?_
    refine zi_getR fd_X11_79_X11 rfl cw0_0 rfl dX11_shelf_106 ?_
    refine zi_iload_n dX11_shelf_109 (i := 1) rfl 2 rfl ?_
    refine zi_iload_n dX11_shelf_110 (i := 2) rfl 3 rfl ?_
    refine zi_iconst (v := nI 1) dX11_shelf_111 (by decide) ?_
    refine zi_icmpN_ne (by decide) (by decide) (tgt := 124) dX11_shelf_112 (by decide) (fun c => absurd c (by decide)) (fun _ => ?_)
    refine zi_aload_n dX11_shelf_115 (i := 0) rfl 1 rfl ?_
    refine zi_getR fd_X11_67_X11 rfl cw0_0 rfl dX11_shelf_116 ?_
    refine zi_iload_n dX11_shelf_119 (i := 3) rfl 4 rfl ?_
    refine zi_ialdN cw0_104 (by omega) (by decide) dX11_shelf_120 ?_
    refine zi_top (y := (nI (so b) - nI 1)) ((zr_c (by decide) (zr_c (by decide) ((hsh _ (by omega)).1)))) ?_
    refine zi_goto (tgt := 125) dX11_shelf_121 (by decide) ?_
    refine zi_iastN cw0_108 (by omega) (by decide) dX11_shelf_125 ?_
    refine zi_iconst (v := nI 1) dX11_shelf_126 (by decide) ?_
    refine zi_retJ rfl rfl dX11_shelf_127 ?_
    first | (rw [if_pos c58n]; exact ⟨rfl, rfl⟩) | (rw [if_neg c58n]; exact ⟨rfl, rfl⟩)
set_option maxRecDepth 100000 in
set_option maxHeartbeats 4000000 in
theorem bad_X11_shelf {M : zMem} {σ : Nat → Nat} {R : List gRl} {k t r : Int32} (ha : zVa 14 M σ R) (hk : qOk σ) (hB : (zin k (nI 0) (nI 3) && (zin t (nI 0) (nI 2) && ((!decide (t = 0) || qIs (σ 6) r) && (!decide (t = nI 1) || zin r (nI 0) (nI 3))))) = false) : zOkI zw0 2 mX11_shelf [.ref 0, .int k, .int t, .int r] M (-1) := by
  have hv := ha.1
  have hb := hk.1
  have h66 := hk.2.1
  refine zOk_of (by decide +kernel) (fun _ => Nat.le_of_ble_eq_true rfl) (L := [(0, .ref 0), (1, .int k), (2, .int t), (3, .int r)]) rfl ?_
  refine zi_iload_n dX11_shelf_0 (i := 1) rfl 1 rfl ?_
  refine zcI (zc_S (as := [.int k]) lk_X11_314 ce_X11_isShelf dX11_shelf_1 (by decide) rfl rfl (Nat.le_of_ble_eq_true rfl)) ok_X11_isShelf ?_
  refine zi_ifB_eq (tgt := 15) dX11_shelf_4 (by decide) (fun c4 => ?_) (fun c4 => ?_)
  · refine zi_iconst (v := (-1)) dX11_shelf_15 (by decide) ?_
    refine zi_retI rfl rfl dX11_shelf_16 ?_
    rfl
  · refine zi_iload_n dX11_shelf_7 (i := 2) rfl 2 rfl ?_
    refine zi_iconst (v := nI 2) dX11_shelf_8 (by decide) ?_
    refine zcI (zc_S (as := [.int t, .int (nI 2)]) lk_X11_86 ce_X11_isFrom0To dX11_shelf_9 (by decide) rfl rfl (Nat.le_of_ble_eq_true rfl)) ok_X11_isFrom0To ?_
    refine zi_ifB_ne (tgt := 17) dX11_shelf_12 (by decide) (fun c12 => ?_) (fun c12 => ?_)
    · refine zi_iload_n dX11_shelf_17 (i := 2) rfl 2 rfl ?_
      refine zi_if_ne (tgt := 32) dX11_shelf_18 (by decide) (fun c18 => ?_) (fun c18 => ?_)
      · refine zi_iload_n dX11_shelf_32 (i := 2) rfl 2 rfl ?_
        refine zi_iconst (v := nI 1) dX11_shelf_33 (by decide) ?_
        refine zi_icmp_ne (tgt := 46) dX11_shelf_34 (by decide) (fun c34 => False.elim (by first | (rw [c4, c12, c29, decide_eq_false c34] at hB; simp at hB; done) | (rw [c4, c12, decide_eq_false c18, decide_eq_false c34] at hB; simp at hB; done))) (fun c34 => ?_)
        refine zi_iload_n dX11_shelf_37 (i := 3) rfl 3 rfl ?_
        refine zcI (zc_S (as := [.int r]) lk_X11_296 ce_X11_isSheet dX11_shelf_38 (by decide) rfl rfl (Nat.le_of_ble_eq_true rfl)) ok_X11_isSheet ?_
        refine zi_ifB_ne (tgt := 46) dX11_shelf_41 (by decide) (fun c41 => False.elim (by rw [c4, c12, c41, c34, show decide (nI 1 = (0 : Int32)) = false from by decide, show decide (nI 1 = nI 1) = true from by decide] at hB; exact Bool.noConfusion hB)) (fun c41 => ?_)
        refine zi_iconst (v := (-1)) dX11_shelf_44 (by decide) ?_
        refine zi_retI rfl rfl dX11_shelf_45 ?_
        rfl
      · refine zi_aload_n dX11_shelf_21 (i := 0) rfl 0 rfl ?_
        refine zi_getR fd_X11_34_X11 rfl cw0_0 rfl dX11_shelf_22 ?_
        refine zi_iload_n dX11_shelf_25 (i := 3) rfl 3 rfl ?_
        refine zcI (zc_V (as := [.int r]) lk_X11_98 ce_X10_has cw0_14 rfl rfl dX11_shelf_26 (by decide) rfl rfl (Nat.le_of_ble_eq_true rfl)) (ok_X10_has_14 hv hk) ?_
        refine zi_ifB_eq (tgt := 44) dX11_shelf_29 (by decide) (fun c29 => ?_) (fun c29 => ?_)
        · refine zi_iconst (v := (-1)) dX11_shelf_44 (by decide) ?_
          refine zi_retI rfl rfl dX11_shelf_45 ?_
          rfl
        · refine zi_iload_n dX11_shelf_32 (i := 2) rfl 2 rfl ?_
          refine zi_iconst (v := nI 1) dX11_shelf_33 (by decide) ?_
          refine zi_icmp_ne (tgt := 46) dX11_shelf_34 (by decide) (fun c34 => False.elim (by first | (rw [c4, c12, c29, decide_eq_false c34] at hB; simp at hB; done) | (rw [c4, c12, decide_eq_false c18, decide_eq_false c34] at hB; simp at hB; done))) (fun c34 => ?_)
          refine zi_iload_n dX11_shelf_37 (i := 3) rfl 3 rfl ?_
          refine zcI (zc_S (as := [.int r]) lk_X11_296 ce_X11_isSheet dX11_shelf_38 (by decide) rfl rfl (Nat.le_of_ble_eq_true rfl)) ok_X11_isSheet ?_
          refine zi_ifB_ne (tgt := 46) dX11_shelf_41 (by decide) (fun c41 => False.elim (by rw [c4, c12, c41, c34, show decide (nI 1 = (0 : Int32)) = false from by decide, show decide (nI 1 = nI 1) = true from by decide] at hB; exact Bool.noConfusion hB)) (fun c41 => ?_)
          refine zi_iconst (v := (-1)) dX11_shelf_44 (by decide) ?_
          refine zi_retI rfl rfl dX11_shelf_45 ?_
          rfl
    · refine zi_iconst (v := (-1)) dX11_shelf_15 (by decide) ?_
      refine zi_retI rfl rfl dX11_shelf_16 ?_
      rfl
