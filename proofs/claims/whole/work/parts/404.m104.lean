theorem zi_getN0 {w : List zDesc} {d : Nat} {mi : zMI} {Q : Option Value → zMem → Prop} {pc : Nat} {L : zLv} {S : List Value} {M : zMem} {own C ref : String} {index ci k N : Nat} {T : u_T} (hf : zFd own index ci k N C ref T) (ho : mi.1.cls = own) {i : Nat} {ks : List Nat} (hw : w[i]? = some (.inr (.inr (ci, ks)))) (hk : ks[k]? = some 1) (h : M i k = 0) (dg : decode mi.2.1 pc = .ok (.getfield index, 3))
    (kk : zRn w d mi Q (pc + 3) L (.null :: S) M) : zRn w d mi Q pc L (.ref i :: S) M := zi_getN hf ho hw hk dg (fun _ => kk) (fun _ _ _ h2 => absurd h h2) ⟨0, by rw [h]; rfl, by decide⟩
theorem zi_getNb {w : List zDesc} {d : Nat} {mi : zMI} {Q : Option Value → zMem → Prop} {pc : Nat} {L : zLv} {S : List Value} {M : zMem} {own C ref : String} {index ci k N : Nat} {T : u_T} (hf : zFd own index ci k N C ref T) (ho : mi.1.cls = own) {i b : Nat} {ks : List Nat} (hw : w[i]? = some (.inr (.inr (ci, ks)))) (hk : ks[k]? = some 1) (h : M i k = nI b) (h0 : 0 < b) (hb : b < 2 ^ 31) (dg : decode mi.2.1 pc = .ok (.getfield index, 3))
    (kk : zRn w d mi Q (pc + 3) L (.ref b :: S) M) : zRn w d mi Q pc L (.ref i :: S) M := zi_getN hf ho hw hk dg (fun h2 => absurd (h.symm.trans h2) (nI_ne0 h0 hb)) (fun t h1 ht _ => by
  obtain rfl : t = b := (nI_eq ht hb).mp (h1.symm.trans h)
  exact kk) ⟨b, h, hb⟩
set_option maxRecDepth 100000 in
set_option maxHeartbeats 4000000 in
theorem none_X11_trace {M : zMem} {x : Int32} (h15 : M 0 15 = 0) : zOkI zw0 1 mX11_trace [.ref 0, .int x] M (-3) := by
  refine zOk_of (by decide +kernel) (fun _ => Nat.le_of_ble_eq_true rfl) (L := [(0, .ref 0), (1, .int x)]) rfl ?_
  refine zi_aload_n dX11_trace_0 (i := 0) rfl 0 rfl ?_
  refine zi_getN0 fd_X11_323_X11 rfl cw0_0 rfl h15 dX11_trace_1 ?_
  refine zi_ifnullN (tgt := 35) dX11_trace_4 (by decide) ?_
  refine zi_bipush (v := (-3)) dX11_trace_35 (by decide) ?_
  refine zi_retI rfl rfl dX11_trace_37 ?_
  rfl
set_option maxRecDepth 100000 in
set_option maxHeartbeats 4000000 in
theorem none_X11_many6 {M : zMem}  (h15 : M 0 15 = 0) : zOkI zw0 2 mX11_many [.ref 0, .int (nI 6)] M (nI 0) := by
  refine zOk_of (by decide +kernel) (fun _ => Nat.le_of_ble_eq_true rfl) (L := [(0, .ref 0), (1, .int (nI 6))]) rfl ?_
  refine zi_iload_n dX11_many_0 (i := 1) rfl 1 rfl ?_
  refine zi_tableIn (off := 97) (tgt := 98) dX11_many_1 (by decide) (by decide) (by decide) (by decide) ?_
  refine zi_aload_n dX11_many_98 (i := 0) rfl 0 rfl ?_
  refine zi_getN0 fd_X11_323_X11 rfl cw0_0 rfl h15 dX11_many_99 ?_
  refine zi_ifnonnullN dX11_many_102 ?_
  refine zi_iconst (v := nI 0) dX11_many_105 (by decide) ?_
  refine zi_goto (tgt := 116) dX11_many_106 (by decide) ?_
  refine zi_retI rfl rfl dX11_many_116 ?_
  rfl
set_option maxRecDepth 100000 in
set_option maxHeartbeats 4000000 in
theorem ok_X11_trace_2 {M : zMem} {q i : Nat} (h15 : M 0 15 = nI 2) (h3 : M 2 3 = nI q) (hq : q ≤ 30) (hi : i < q) : zOkI zw0 1 mX11_trace [.ref 0, .int (nI i)] M (M 3 i) := by
  refine zOk_of (by decide +kernel) (fun _ => Nat.le_of_ble_eq_true rfl) (L := [(0, .ref 0), (1, .int (nI i))]) rfl ?_
  refine zi_aload_n dX11_trace_0 (i := 0) rfl 0 rfl ?_
  refine zi_getNb fd_X11_323_X11 rfl cw0_0 rfl h15 (by decide) (by decide) dX11_trace_1 ?_
  refine zi_ifnull dX11_trace_4 ?_
  refine zi_iload_n dX11_trace_7 (i := 1) rfl 1 rfl ?_
  refine zi_aload_n dX11_trace_8 (i := 0) rfl 0 rfl ?_
  refine zi_getNb fd_X11_323_X11 rfl cw0_0 rfl h15 (by decide) (by decide) dX11_trace_9 ?_
  refine zi_getI fd_X11_347_X2 rfl cw0_2 rfl dX11_trace_12 ?_
  refine zi_top (y := nI q) ((h3)) ?_
  refine zi_iconst (v := nI 1) dX11_trace_15 (by decide) ?_
  refine zi_isubN (by omega) dX11_trace_16 ?_
  refine zcI (zc_S (as := [.int (nI i), .int (nI (q - 1))]) lk_X11_86 ce_X11_isFrom0To dX11_trace_17 (by decide) rfl rfl (Nat.le_of_ble_eq_true rfl)) (zOkI_eq ok_X11_isFrom0To (zinT (by omega) (by omega) (by omega))) ?_
  refine zi_ifN_eq (by decide) (tgt := 35) dX11_trace_20 (by decide) (fun c => absurd c (by decide)) (fun _ => ?_)
  refine zi_aload_n dX11_trace_23 (i := 0) rfl 0 rfl ?_
  refine zi_getNb fd_X11_323_X11 rfl cw0_0 rfl h15 (by decide) (by decide) dX11_trace_24 ?_
  refine zi_getR fd_X11_350_X2 rfl cw0_2 rfl dX11_trace_27 ?_
  refine zi_iload_n dX11_trace_30 (i := 1) rfl 1 rfl ?_
  refine zi_ialdN cw0_3 (by omega) (by decide) dX11_trace_31 ?_
  refine zi_goto (tgt := 37) dX11_trace_32 (by decide) ?_
  refine zi_retI rfl rfl dX11_trace_37 ?_
  rfl
set_option maxRecDepth 100000 in
set_option maxHeartbeats 4000000 in
theorem bad_X11_trace_2 {M : zMem} {q : Nat} {x : Int32} (h15 : M 0 15 = nI 2) (h3 : M 2 3 = nI q) (hq : q ≤ 30) (hB : zin x (nI 0) (nI q - nI 1) = false) : zOkI zw0 1 mX11_trace [.ref 0, .int x] M (-3) := by
  refine zOk_of (by decide +kernel) (fun _ => Nat.le_of_ble_eq_true rfl) (L := [(0, .ref 0), (1, .int x)]) rfl ?_
  refine zi_aload_n dX11_trace_0 (i := 0) rfl 0 rfl ?_
  refine zi_getNb fd_X11_323_X11 rfl cw0_0 rfl h15 (by decide) (by decide) dX11_trace_1 ?_
  refine zi_ifnull dX11_trace_4 ?_
  refine zi_iload_n dX11_trace_7 (i := 1) rfl 1 rfl ?_
  refine zi_aload_n dX11_trace_8 (i := 0) rfl 0 rfl ?_
  refine zi_getNb fd_X11_323_X11 rfl cw0_0 rfl h15 (by decide) (by decide) dX11_trace_9 ?_
  refine zi_getI fd_X11_347_X2 rfl cw0_2 rfl dX11_trace_12 ?_
  refine zi_top (y := nI q) ((h3)) ?_
  refine zi_iconst (v := nI 1) dX11_trace_15 (by decide) ?_
  refine zi_isub dX11_trace_16 ?_
  refine zcI (zc_S (as := [.int x, .int ((nI q) - (nI 1))]) lk_X11_86 ce_X11_isFrom0To dX11_trace_17 (by decide) rfl rfl (Nat.le_of_ble_eq_true rfl)) (zOkI_eq ok_X11_isFrom0To (congrArg zb hB)) ?_
  refine zi_ifN_eq (by decide) (tgt := 35) dX11_trace_20 (by decide) (fun _ => ?_) (fun c => absurd c (by decide))
  refine zi_bipush (v := (-3)) dX11_trace_35 (by decide) ?_
  refine zi_retI rfl rfl dX11_trace_37 ?_
  rfl
set_option maxRecDepth 100000 in
set_option maxHeartbeats 4000000 in
theorem ok_X11_many6_2 {M : zMem} {q : Nat} (h15 : M 0 15 = nI 2) (h3 : M 2 3 = nI q) (hq : q ≤ 30) : zOkI zw0 2 mX11_many [.ref 0, .int (nI 6)] M (nI q) := by
  refine zOk_of (by decide +kernel) (fun _ => Nat.le_of_ble_eq_true rfl) (L := [(0, .ref 0), (1, .int (nI 6))]) rfl ?_
  refine zi_iload_n dX11_many_0 (i := 1) rfl 1 rfl ?_
  refine zi_tableIn (off := 97) (tgt := 98) dX11_many_1 (by decide) (by decide) (by decide) (by decide) ?_
  refine zi_aload_n dX11_many_98 (i := 0) rfl 0 rfl ?_
  refine zi_getNb fd_X11_323_X11 rfl cw0_0 rfl h15 (by decide) (by decide) dX11_many_99 ?_
  refine zi_ifnonnull (tgt := 109) dX11_many_102 (by decide) ?_
  refine zi_aload_n dX11_many_109 (i := 0) rfl 0 rfl ?_
  refine zi_getNb fd_X11_323_X11 rfl cw0_0 rfl h15 (by decide) (by decide) dX11_many_110 ?_
  refine zi_getI fd_X11_347_X2 rfl cw0_2 rfl dX11_many_113 ?_
  refine zi_top (y := nI q) ((h3)) ?_
  refine zi_retI rfl rfl dX11_many_116 ?_
  rfl
set_option maxRecDepth 100000 in
set_option maxHeartbeats 4000000 in
theorem ok_X11_trace_4 {M : zMem} {q i : Nat} (h15 : M 0 15 = nI 4) (h3 : M 4 3 = nI q) (hq : q ≤ 30) (hi : i < q) : zOkI zw0 1 mX11_trace [.ref 0, .int (nI i)] M (M 5 i) := by
  refine zOk_of (by decide +kernel) (fun _ => Nat.le_of_ble_eq_true rfl) (L := [(0, .ref 0), (1, .int (nI i))]) rfl ?_
  refine zi_aload_n dX11_trace_0 (i := 0) rfl 0 rfl ?_
  refine zi_getNb fd_X11_323_X11 rfl cw0_0 rfl h15 (by decide) (by decide) dX11_trace_1 ?_
  refine zi_ifnull dX11_trace_4 ?_
  refine zi_iload_n dX11_trace_7 (i := 1) rfl 1 rfl ?_
  refine zi_aload_n dX11_trace_8 (i := 0) rfl 0 rfl ?_
  refine zi_getNb fd_X11_323_X11 rfl cw0_0 rfl h15 (by decide) (by decide) dX11_trace_9 ?_
  refine zi_getI fd_X11_347_X0 rfl cw0_4 rfl dX11_trace_12 ?_
  refine zi_top (y := nI q) ((h3)) ?_
  refine zi_iconst (v := nI 1) dX11_trace_15 (by decide) ?_
  refine zi_isubN (by omega) dX11_trace_16 ?_
  refine zcI (zc_S (as := [.int (nI i), .int (nI (q - 1))]) lk_X11_86 ce_X11_isFrom0To dX11_trace_17 (by decide) rfl rfl (Nat.le_of_ble_eq_true rfl)) (zOkI_eq ok_X11_isFrom0To (zinT (by omega) (by omega) (by omega))) ?_
  refine zi_ifN_eq (by decide) (tgt := 35) dX11_trace_20 (by decide) (fun c => absurd c (by decide)) (fun _ => ?_)
  refine zi_aload_n dX11_trace_23 (i := 0) rfl 0 rfl ?_
  refine zi_getNb fd_X11_323_X11 rfl cw0_0 rfl h15 (by decide) (by decide) dX11_trace_24 ?_
  refine zi_getR fd_X11_350_X0 rfl cw0_4 rfl dX11_trace_27 ?_
  refine zi_iload_n dX11_trace_30 (i := 1) rfl 1 rfl ?_
  refine zi_ialdN cw0_5 (by omega) (by decide) dX11_trace_31 ?_
  refine zi_goto (tgt := 37) dX11_trace_32 (by decide) ?_
  refine zi_retI rfl rfl dX11_trace_37 ?_
  rfl
set_option maxRecDepth 100000 in
set_option maxHeartbeats 4000000 in
theorem bad_X11_trace_4 {M : zMem} {q : Nat} {x : Int32} (h15 : M 0 15 = nI 4) (h3 : M 4 3 = nI q) (hq : q ≤ 30) (hB : zin x (nI 0) (nI q - nI 1) = false) : zOkI zw0 1 mX11_trace [.ref 0, .int x] M (-3) := by
  refine zOk_of (by decide +kernel) (fun _ => Nat.le_of_ble_eq_true rfl) (L := [(0, .ref 0), (1, .int x)]) rfl ?_
  refine zi_aload_n dX11_trace_0 (i := 0) rfl 0 rfl ?_
  refine zi_getNb fd_X11_323_X11 rfl cw0_0 rfl h15 (by decide) (by decide) dX11_trace_1 ?_
  refine zi_ifnull dX11_trace_4 ?_
  refine zi_iload_n dX11_trace_7 (i := 1) rfl 1 rfl ?_
  refine zi_aload_n dX11_trace_8 (i := 0) rfl 0 rfl ?_
  refine zi_getNb fd_X11_323_X11 rfl cw0_0 rfl h15 (by decide) (by decide) dX11_trace_9 ?_
  refine zi_getI fd_X11_347_X0 rfl cw0_4 rfl dX11_trace_12 ?_
  refine zi_top (y := nI q) ((h3)) ?_
  refine zi_iconst (v := nI 1) dX11_trace_15 (by decide) ?_
  refine zi_isub dX11_trace_16 ?_
  refine zcI (zc_S (as := [.int x, .int ((nI q) - (nI 1))]) lk_X11_86 ce_X11_isFrom0To dX11_trace_17 (by decide) rfl rfl (Nat.le_of_ble_eq_true rfl)) (zOkI_eq ok_X11_isFrom0To (congrArg zb hB)) ?_
  refine zi_ifN_eq (by decide) (tgt := 35) dX11_trace_20 (by decide) (fun _ => ?_) (fun c => absurd c (by decide))
  refine zi_bipush (v := (-3)) dX11_trace_35 (by decide) ?_
  refine zi_retI rfl rfl dX11_trace_37 ?_
  rfl
set_option maxRecDepth 100000 in
set_option maxHeartbeats 4000000 in
theorem ok_X11_many6_4 {M : zMem} {q : Nat} (h15 : M 0 15 = nI 4) (h3 : M 4 3 = nI q) (hq : q ≤ 30) : zOkI zw0 2 mX11_many [.ref 0, .int (nI 6)] M (nI q) := by
  refine zOk_of (by decide +kernel) (fun _ => Nat.le_of_ble_eq_true rfl) (L := [(0, .ref 0), (1, .int (nI 6))]) rfl ?_
  refine zi_iload_n dX11_many_0 (i := 1) rfl 1 rfl ?_
  refine zi_tableIn (off := 97) (tgt := 98) dX11_many_1 (by decide) (by decide) (by decide) (by decide) ?_
  refine zi_aload_n dX11_many_98 (i := 0) rfl 0 rfl ?_
  refine zi_getNb fd_X11_323_X11 rfl cw0_0 rfl h15 (by decide) (by decide) dX11_many_99 ?_
  refine zi_ifnonnull (tgt := 109) dX11_many_102 (by decide) ?_
  refine zi_aload_n dX11_many_109 (i := 0) rfl 0 rfl ?_
  refine zi_getNb fd_X11_323_X11 rfl cw0_0 rfl h15 (by decide) (by decide) dX11_many_110 ?_
  refine zi_getI fd_X11_347_X0 rfl cw0_4 rfl dX11_many_113 ?_
  refine zi_top (y := nI q) ((h3)) ?_
  refine zi_retI rfl rfl dX11_many_116 ?_
  rfl
set_option maxRecDepth 100000 in
set_option maxHeartbeats 4000000 in
theorem ok_X11_trace_6 {M : zMem} {q i : Nat} (h15 : M 0 15 = nI 6) (h3 : M 6 3 = nI q) (hq : q ≤ 30) (hi : i < q) : zOkI zw0 1 mX11_trace [.ref 0, .int (nI i)] M (M 7 i) := by
  refine zOk_of (by decide +kernel) (fun _ => Nat.le_of_ble_eq_true rfl) (L := [(0, .ref 0), (1, .int (nI i))]) rfl ?_
  refine zi_aload_n dX11_trace_0 (i := 0) rfl 0 rfl ?_
  refine zi_getNb fd_X11_323_X11 rfl cw0_0 rfl h15 (by decide) (by decide) dX11_trace_1 ?_
  refine zi_ifnull dX11_trace_4 ?_
  refine zi_iload_n dX11_trace_7 (i := 1) rfl 1 rfl ?_
  refine zi_aload_n dX11_trace_8 (i := 0) rfl 0 rfl ?_
  refine zi_getNb fd_X11_323_X11 rfl cw0_0 rfl h15 (by decide) (by decide) dX11_trace_9 ?_
  refine zi_getI fd_X11_347_X8 rfl cw0_6 rfl dX11_trace_12 ?_
  refine zi_top (y := nI q) ((h3)) ?_
  refine zi_iconst (v := nI 1) dX11_trace_15 (by decide) ?_
  refine zi_isubN (by omega) dX11_trace_16 ?_
  refine zcI (zc_S (as := [.int (nI i), .int (nI (q - 1))]) lk_X11_86 ce_X11_isFrom0To dX11_trace_17 (by decide) rfl rfl (Nat.le_of_ble_eq_true rfl)) (zOkI_eq ok_X11_isFrom0To (zinT (by omega) (by omega) (by omega))) ?_
  refine zi_ifN_eq (by decide) (tgt := 35) dX11_trace_20 (by decide) (fun c => absurd c (by decide)) (fun _ => ?_)
  refine zi_aload_n dX11_trace_23 (i := 0) rfl 0 rfl ?_
  refine zi_getNb fd_X11_323_X11 rfl cw0_0 rfl h15 (by decide) (by decide) dX11_trace_24 ?_
  refine zi_getR fd_X11_350_X8 rfl cw0_6 rfl dX11_trace_27 ?_
  refine zi_iload_n dX11_trace_30 (i := 1) rfl 1 rfl ?_
  refine zi_ialdN cw0_7 (by omega) (by decide) dX11_trace_31 ?_
  refine zi_goto (tgt := 37) dX11_trace_32 (by decide) ?_
  refine zi_retI rfl rfl dX11_trace_37 ?_
  rfl
set_option maxRecDepth 100000 in
set_option maxHeartbeats 4000000 in
theorem bad_X11_trace_6 {M : zMem} {q : Nat} {x : Int32} (h15 : M 0 15 = nI 6) (h3 : M 6 3 = nI q) (hq : q ≤ 30) (hB : zin x (nI 0) (nI q - nI 1) = false) : zOkI zw0 1 mX11_trace [.ref 0, .int x] M (-3) := by
  refine zOk_of (by decide +kernel) (fun _ => Nat.le_of_ble_eq_true rfl) (L := [(0, .ref 0), (1, .int x)]) rfl ?_
  refine zi_aload_n dX11_trace_0 (i := 0) rfl 0 rfl ?_
  refine zi_getNb fd_X11_323_X11 rfl cw0_0 rfl h15 (by decide) (by decide) dX11_trace_1 ?_
  refine zi_ifnull dX11_trace_4 ?_
  refine zi_iload_n dX11_trace_7 (i := 1) rfl 1 rfl ?_
  refine zi_aload_n dX11_trace_8 (i := 0) rfl 0 rfl ?_
  refine zi_getNb fd_X11_323_X11 rfl cw0_0 rfl h15 (by decide) (by decide) dX11_trace_9 ?_
  refine zi_getI fd_X11_347_X8 rfl cw0_6 rfl dX11_trace_12 ?_
  refine zi_top (y := nI q) ((h3)) ?_
  refine zi_iconst (v := nI 1) dX11_trace_15 (by decide) ?_
  refine zi_isub dX11_trace_16 ?_
  refine zcI (zc_S (as := [.int x, .int ((nI q) - (nI 1))]) lk_X11_86 ce_X11_isFrom0To dX11_trace_17 (by decide) rfl rfl (Nat.le_of_ble_eq_true rfl)) (zOkI_eq ok_X11_isFrom0To (congrArg zb hB)) ?_
  refine zi_ifN_eq (by decide) (tgt := 35) dX11_trace_20 (by decide) (fun _ => ?_) (fun c => absurd c (by decide))
  refine zi_bipush (v := (-3)) dX11_trace_35 (by decide) ?_
  refine zi_retI rfl rfl dX11_trace_37 ?_
  rfl
set_option maxRecDepth 100000 in
set_option maxHeartbeats 4000000 in
theorem ok_X11_many6_6 {M : zMem} {q : Nat} (h15 : M 0 15 = nI 6) (h3 : M 6 3 = nI q) (hq : q ≤ 30) : zOkI zw0 2 mX11_many [.ref 0, .int (nI 6)] M (nI q) := by
  refine zOk_of (by decide +kernel) (fun _ => Nat.le_of_ble_eq_true rfl) (L := [(0, .ref 0), (1, .int (nI 6))]) rfl ?_
  refine zi_iload_n dX11_many_0 (i := 1) rfl 1 rfl ?_
  refine zi_tableIn (off := 97) (tgt := 98) dX11_many_1 (by decide) (by decide) (by decide) (by decide) ?_
  refine zi_aload_n dX11_many_98 (i := 0) rfl 0 rfl ?_
  refine zi_getNb fd_X11_323_X11 rfl cw0_0 rfl h15 (by decide) (by decide) dX11_many_99 ?_
  refine zi_ifnonnull (tgt := 109) dX11_many_102 (by decide) ?_
  refine zi_aload_n dX11_many_109 (i := 0) rfl 0 rfl ?_
  refine zi_getNb fd_X11_323_X11 rfl cw0_0 rfl h15 (by decide) (by decide) dX11_many_110 ?_
  refine zi_getI fd_X11_347_X8 rfl cw0_6 rfl dX11_many_113 ?_
  refine zi_top (y := nI q) ((h3)) ?_
  refine zi_retI rfl rfl dX11_many_116 ?_
  rfl
set_option maxRecDepth 100000 in
set_option maxHeartbeats 4000000 in
theorem ok_X11_trace_8 {M : zMem} {q i : Nat} (h15 : M 0 15 = nI 8) (h3 : M 8 3 = nI q) (hq : q ≤ 30) (hi : i < q) : zOkI zw0 1 mX11_trace [.ref 0, .int (nI i)] M (M 9 i) := by
  refine zOk_of (by decide +kernel) (fun _ => Nat.le_of_ble_eq_true rfl) (L := [(0, .ref 0), (1, .int (nI i))]) rfl ?_
  refine zi_aload_n dX11_trace_0 (i := 0) rfl 0 rfl ?_
  refine zi_getNb fd_X11_323_X11 rfl cw0_0 rfl h15 (by decide) (by decide) dX11_trace_1 ?_
  refine zi_ifnull dX11_trace_4 ?_
  refine zi_iload_n dX11_trace_7 (i := 1) rfl 1 rfl ?_
  refine zi_aload_n dX11_trace_8 (i := 0) rfl 0 rfl ?_
  refine zi_getNb fd_X11_323_X11 rfl cw0_0 rfl h15 (by decide) (by decide) dX11_trace_9 ?_
  refine zi_getI fd_X11_347_X9 rfl cw0_8 rfl dX11_trace_12 ?_
  refine zi_top (y := nI q) ((h3)) ?_
  refine zi_iconst (v := nI 1) dX11_trace_15 (by decide) ?_
  refine zi_isubN (by omega) dX11_trace_16 ?_
  refine zcI (zc_S (as := [.int (nI i), .int (nI (q - 1))]) lk_X11_86 ce_X11_isFrom0To dX11_trace_17 (by decide) rfl rfl (Nat.le_of_ble_eq_true rfl)) (zOkI_eq ok_X11_isFrom0To (zinT (by omega) (by omega) (by omega))) ?_
  refine zi_ifN_eq (by decide) (tgt := 35) dX11_trace_20 (by decide) (fun c => absurd c (by decide)) (fun _ => ?_)
  refine zi_aload_n dX11_trace_23 (i := 0) rfl 0 rfl ?_
  refine zi_getNb fd_X11_323_X11 rfl cw0_0 rfl h15 (by decide) (by decide) dX11_trace_24 ?_
  refine zi_getR fd_X11_350_X9 rfl cw0_8 rfl dX11_trace_27 ?_
  refine zi_iload_n dX11_trace_30 (i := 1) rfl 1 rfl ?_
  refine zi_ialdN cw0_9 (by omega) (by decide) dX11_trace_31 ?_
  refine zi_goto (tgt := 37) dX11_trace_32 (by decide) ?_
  refine zi_retI rfl rfl dX11_trace_37 ?_
  rfl
set_option maxRecDepth 100000 in
set_option maxHeartbeats 4000000 in
theorem bad_X11_trace_8 {M : zMem} {q : Nat} {x : Int32} (h15 : M 0 15 = nI 8) (h3 : M 8 3 = nI q) (hq : q ≤ 30) (hB : zin x (nI 0) (nI q - nI 1) = false) : zOkI zw0 1 mX11_trace [.ref 0, .int x] M (-3) := by
  refine zOk_of (by decide +kernel) (fun _ => Nat.le_of_ble_eq_true rfl) (L := [(0, .ref 0), (1, .int x)]) rfl ?_
  refine zi_aload_n dX11_trace_0 (i := 0) rfl 0 rfl ?_
  refine zi_getNb fd_X11_323_X11 rfl cw0_0 rfl h15 (by decide) (by decide) dX11_trace_1 ?_
  refine zi_ifnull dX11_trace_4 ?_
  refine zi_iload_n dX11_trace_7 (i := 1) rfl 1 rfl ?_
  refine zi_aload_n dX11_trace_8 (i := 0) rfl 0 rfl ?_
  refine zi_getNb fd_X11_323_X11 rfl cw0_0 rfl h15 (by decide) (by decide) dX11_trace_9 ?_
  refine zi_getI fd_X11_347_X9 rfl cw0_8 rfl dX11_trace_12 ?_
  refine zi_top (y := nI q) ((h3)) ?_
  refine zi_iconst (v := nI 1) dX11_trace_15 (by decide) ?_
  refine zi_isub dX11_trace_16 ?_
  refine zcI (zc_S (as := [.int x, .int ((nI q) - (nI 1))]) lk_X11_86 ce_X11_isFrom0To dX11_trace_17 (by decide) rfl rfl (Nat.le_of_ble_eq_true rfl)) (zOkI_eq ok_X11_isFrom0To (congrArg zb hB)) ?_
  refine zi_ifN_eq (by decide) (tgt := 35) dX11_trace_20 (by decide) (fun _ => ?_) (fun c => absurd c (by decide))
  refine zi_bipush (v := (-3)) dX11_trace_35 (by decide) ?_
  refine zi_retI rfl rfl dX11_trace_37 ?_
  rfl
set_option maxRecDepth 100000 in
set_option maxHeartbeats 4000000 in
theorem ok_X11_many6_8 {M : zMem} {q : Nat} (h15 : M 0 15 = nI 8) (h3 : M 8 3 = nI q) (hq : q ≤ 30) : zOkI zw0 2 mX11_many [.ref 0, .int (nI 6)] M (nI q) := by
  refine zOk_of (by decide +kernel) (fun _ => Nat.le_of_ble_eq_true rfl) (L := [(0, .ref 0), (1, .int (nI 6))]) rfl ?_
  refine zi_iload_n dX11_many_0 (i := 1) rfl 1 rfl ?_
  refine zi_tableIn (off := 97) (tgt := 98) dX11_many_1 (by decide) (by decide) (by decide) (by decide) ?_
  refine zi_aload_n dX11_many_98 (i := 0) rfl 0 rfl ?_
  refine zi_getNb fd_X11_323_X11 rfl cw0_0 rfl h15 (by decide) (by decide) dX11_many_99 ?_
  refine zi_ifnonnull (tgt := 109) dX11_many_102 (by decide) ?_
  refine zi_aload_n dX11_many_109 (i := 0) rfl 0 rfl ?_
  refine zi_getNb fd_X11_323_X11 rfl cw0_0 rfl h15 (by decide) (by decide) dX11_many_110 ?_
  refine zi_getI fd_X11_347_X9 rfl cw0_8 rfl dX11_many_113 ?_
  refine zi_top (y := nI q) ((h3)) ?_
  refine zi_retI rfl rfl dX11_many_116 ?_
  rfl
set_option maxRecDepth 100000 in
set_option maxHeartbeats 4000000 in
theorem ok_X11_trace_10 {M : zMem} {q i : Nat} (h15 : M 0 15 = nI 10) (h3 : M 10 3 = nI q) (hq : q ≤ 30) (hi : i < q) : zOkI zw0 1 mX11_trace [.ref 0, .int (nI i)] M (M 11 i) := by
  refine zOk_of (by decide +kernel) (fun _ => Nat.le_of_ble_eq_true rfl) (L := [(0, .ref 0), (1, .int (nI i))]) rfl ?_
  refine zi_aload_n dX11_trace_0 (i := 0) rfl 0 rfl ?_
  refine zi_getNb fd_X11_323_X11 rfl cw0_0 rfl h15 (by decide) (by decide) dX11_trace_1 ?_
  refine zi_ifnull dX11_trace_4 ?_
  refine zi_iload_n dX11_trace_7 (i := 1) rfl 1 rfl ?_
  refine zi_aload_n dX11_trace_8 (i := 0) rfl 0 rfl ?_
  refine zi_getNb fd_X11_323_X11 rfl cw0_0 rfl h15 (by decide) (by decide) dX11_trace_9 ?_
  refine zi_getI fd_X11_347_X1 rfl cw0_10 rfl dX11_trace_12 ?_
  refine zi_top (y := nI q) ((h3)) ?_
  refine zi_iconst (v := nI 1) dX11_trace_15 (by decide) ?_
  refine zi_isubN (by omega) dX11_trace_16 ?_
  refine zcI (zc_S (as := [.int (nI i), .int (nI (q - 1))]) lk_X11_86 ce_X11_isFrom0To dX11_trace_17 (by decide) rfl rfl (Nat.le_of_ble_eq_true rfl)) (zOkI_eq ok_X11_isFrom0To (zinT (by omega) (by omega) (by omega))) ?_
  refine zi_ifN_eq (by decide) (tgt := 35) dX11_trace_20 (by decide) (fun c => absurd c (by decide)) (fun _ => ?_)
  refine zi_aload_n dX11_trace_23 (i := 0) rfl 0 rfl ?_
  refine zi_getNb fd_X11_323_X11 rfl cw0_0 rfl h15 (by decide) (by decide) dX11_trace_24 ?_
  refine zi_getR fd_X11_350_X1 rfl cw0_10 rfl dX11_trace_27 ?_
  refine zi_iload_n dX11_trace_30 (i := 1) rfl 1 rfl ?_
  refine zi_ialdN cw0_11 (by omega) (by decide) dX11_trace_31 ?_
  refine zi_goto (tgt := 37) dX11_trace_32 (by decide) ?_
  refine zi_retI rfl rfl dX11_trace_37 ?_
  rfl
set_option maxRecDepth 100000 in
set_option maxHeartbeats 4000000 in
theorem bad_X11_trace_10 {M : zMem} {q : Nat} {x : Int32} (h15 : M 0 15 = nI 10) (h3 : M 10 3 = nI q) (hq : q ≤ 30) (hB : zin x (nI 0) (nI q - nI 1) = false) : zOkI zw0 1 mX11_trace [.ref 0, .int x] M (-3) := by
  refine zOk_of (by decide +kernel) (fun _ => Nat.le_of_ble_eq_true rfl) (L := [(0, .ref 0), (1, .int x)]) rfl ?_
  refine zi_aload_n dX11_trace_0 (i := 0) rfl 0 rfl ?_
  refine zi_getNb fd_X11_323_X11 rfl cw0_0 rfl h15 (by decide) (by decide) dX11_trace_1 ?_
  refine zi_ifnull dX11_trace_4 ?_
  refine zi_iload_n dX11_trace_7 (i := 1) rfl 1 rfl ?_
  refine zi_aload_n dX11_trace_8 (i := 0) rfl 0 rfl ?_
  refine zi_getNb fd_X11_323_X11 rfl cw0_0 rfl h15 (by decide) (by decide) dX11_trace_9 ?_
  refine zi_getI fd_X11_347_X1 rfl cw0_10 rfl dX11_trace_12 ?_
  refine zi_top (y := nI q) ((h3)) ?_
  refine zi_iconst (v := nI 1) dX11_trace_15 (by decide) ?_
  refine zi_isub dX11_trace_16 ?_
  refine zcI (zc_S (as := [.int x, .int ((nI q) - (nI 1))]) lk_X11_86 ce_X11_isFrom0To dX11_trace_17 (by decide) rfl rfl (Nat.le_of_ble_eq_true rfl)) (zOkI_eq ok_X11_isFrom0To (congrArg zb hB)) ?_
  refine zi_ifN_eq (by decide) (tgt := 35) dX11_trace_20 (by decide) (fun _ => ?_) (fun c => absurd c (by decide))
  refine zi_bipush (v := (-3)) dX11_trace_35 (by decide) ?_
  refine zi_retI rfl rfl dX11_trace_37 ?_
  rfl
set_option maxRecDepth 100000 in
set_option maxHeartbeats 4000000 in
theorem ok_X11_many6_10 {M : zMem} {q : Nat} (h15 : M 0 15 = nI 10) (h3 : M 10 3 = nI q) (hq : q ≤ 30) : zOkI zw0 2 mX11_many [.ref 0, .int (nI 6)] M (nI q) := by
  refine zOk_of (by decide +kernel) (fun _ => Nat.le_of_ble_eq_true rfl) (L := [(0, .ref 0), (1, .int (nI 6))]) rfl ?_
  refine zi_iload_n dX11_many_0 (i := 1) rfl 1 rfl ?_
  refine zi_tableIn (off := 97) (tgt := 98) dX11_many_1 (by decide) (by decide) (by decide) (by decide) ?_
  refine zi_aload_n dX11_many_98 (i := 0) rfl 0 rfl ?_
  refine zi_getNb fd_X11_323_X11 rfl cw0_0 rfl h15 (by decide) (by decide) dX11_many_99 ?_
  refine zi_ifnonnull (tgt := 109) dX11_many_102 (by decide) ?_
  refine zi_aload_n dX11_many_109 (i := 0) rfl 0 rfl ?_
  refine zi_getNb fd_X11_323_X11 rfl cw0_0 rfl h15 (by decide) (by decide) dX11_many_110 ?_
  refine zi_getI fd_X11_347_X1 rfl cw0_10 rfl dX11_many_113 ?_
  refine zi_top (y := nI q) ((h3)) ?_
  refine zi_retI rfl rfl dX11_many_116 ?_
  rfl
set_option maxRecDepth 100000 in
set_option maxHeartbeats 4000000 in
theorem ok_X11_trace_12 {M : zMem} {q i : Nat} (h15 : M 0 15 = nI 12) (h3 : M 12 3 = nI q) (hq : q ≤ 30) (hi : i < q) : zOkI zw0 1 mX11_trace [.ref 0, .int (nI i)] M (M 13 i) := by
  refine zOk_of (by decide +kernel) (fun _ => Nat.le_of_ble_eq_true rfl) (L := [(0, .ref 0), (1, .int (nI i))]) rfl ?_
  refine zi_aload_n dX11_trace_0 (i := 0) rfl 0 rfl ?_
  refine zi_getNb fd_X11_323_X11 rfl cw0_0 rfl h15 (by decide) (by decide) dX11_trace_1 ?_
  refine zi_ifnull dX11_trace_4 ?_
  refine zi_iload_n dX11_trace_7 (i := 1) rfl 1 rfl ?_
  refine zi_aload_n dX11_trace_8 (i := 0) rfl 0 rfl ?_
  refine zi_getNb fd_X11_323_X11 rfl cw0_0 rfl h15 (by decide) (by decide) dX11_trace_9 ?_
  refine zi_getI fd_X11_347_X3 rfl cw0_12 rfl dX11_trace_12 ?_
  refine zi_top (y := nI q) ((h3)) ?_
  refine zi_iconst (v := nI 1) dX11_trace_15 (by decide) ?_
  refine zi_isubN (by omega) dX11_trace_16 ?_
  refine zcI (zc_S (as := [.int (nI i), .int (nI (q - 1))]) lk_X11_86 ce_X11_isFrom0To dX11_trace_17 (by decide) rfl rfl (Nat.le_of_ble_eq_true rfl)) (zOkI_eq ok_X11_isFrom0To (zinT (by omega) (by omega) (by omega))) ?_
  refine zi_ifN_eq (by decide) (tgt := 35) dX11_trace_20 (by decide) (fun c => absurd c (by decide)) (fun _ => ?_)
  refine zi_aload_n dX11_trace_23 (i := 0) rfl 0 rfl ?_
  refine zi_getNb fd_X11_323_X11 rfl cw0_0 rfl h15 (by decide) (by decide) dX11_trace_24 ?_
  refine zi_getR fd_X11_350_X3 rfl cw0_12 rfl dX11_trace_27 ?_
  refine zi_iload_n dX11_trace_30 (i := 1) rfl 1 rfl ?_
  refine zi_ialdN cw0_13 (by omega) (by decide) dX11_trace_31 ?_
  refine zi_goto (tgt := 37) dX11_trace_32 (by decide) ?_
  refine zi_retI rfl rfl dX11_trace_37 ?_
  rfl
set_option maxRecDepth 100000 in
set_option maxHeartbeats 4000000 in
theorem bad_X11_trace_12 {M : zMem} {q : Nat} {x : Int32} (h15 : M 0 15 = nI 12) (h3 : M 12 3 = nI q) (hq : q ≤ 30) (hB : zin x (nI 0) (nI q - nI 1) = false) : zOkI zw0 1 mX11_trace [.ref 0, .int x] M (-3) := by
  refine zOk_of (by decide +kernel) (fun _ => Nat.le_of_ble_eq_true rfl) (L := [(0, .ref 0), (1, .int x)]) rfl ?_
  refine zi_aload_n dX11_trace_0 (i := 0) rfl 0 rfl ?_
  refine zi_getNb fd_X11_323_X11 rfl cw0_0 rfl h15 (by decide) (by decide) dX11_trace_1 ?_
  refine zi_ifnull dX11_trace_4 ?_
  refine zi_iload_n dX11_trace_7 (i := 1) rfl 1 rfl ?_
  refine zi_aload_n dX11_trace_8 (i := 0) rfl 0 rfl ?_
  refine zi_getNb fd_X11_323_X11 rfl cw0_0 rfl h15 (by decide) (by decide) dX11_trace_9 ?_
  refine zi_getI fd_X11_347_X3 rfl cw0_12 rfl dX11_trace_12 ?_
  refine zi_top (y := nI q) ((h3)) ?_
  refine zi_iconst (v := nI 1) dX11_trace_15 (by decide) ?_
  refine zi_isub dX11_trace_16 ?_
  refine zcI (zc_S (as := [.int x, .int ((nI q) - (nI 1))]) lk_X11_86 ce_X11_isFrom0To dX11_trace_17 (by decide) rfl rfl (Nat.le_of_ble_eq_true rfl)) (zOkI_eq ok_X11_isFrom0To (congrArg zb hB)) ?_
  refine zi_ifN_eq (by decide) (tgt := 35) dX11_trace_20 (by decide) (fun _ => ?_) (fun c => absurd c (by decide))
  refine zi_bipush (v := (-3)) dX11_trace_35 (by decide) ?_
  refine zi_retI rfl rfl dX11_trace_37 ?_
  rfl
set_option maxRecDepth 100000 in
set_option maxHeartbeats 4000000 in
theorem ok_X11_many6_12 {M : zMem} {q : Nat} (h15 : M 0 15 = nI 12) (h3 : M 12 3 = nI q) (hq : q ≤ 30) : zOkI zw0 2 mX11_many [.ref 0, .int (nI 6)] M (nI q) := by
  refine zOk_of (by decide +kernel) (fun _ => Nat.le_of_ble_eq_true rfl) (L := [(0, .ref 0), (1, .int (nI 6))]) rfl ?_
  refine zi_iload_n dX11_many_0 (i := 1) rfl 1 rfl ?_
  refine zi_tableIn (off := 97) (tgt := 98) dX11_many_1 (by decide) (by decide) (by decide) (by decide) ?_
  refine zi_aload_n dX11_many_98 (i := 0) rfl 0 rfl ?_
  refine zi_getNb fd_X11_323_X11 rfl cw0_0 rfl h15 (by decide) (by decide) dX11_many_99 ?_
  refine zi_ifnonnull (tgt := 109) dX11_many_102 (by decide) ?_
  refine zi_aload_n dX11_many_109 (i := 0) rfl 0 rfl ?_
  refine zi_getNb fd_X11_323_X11 rfl cw0_0 rfl h15 (by decide) (by decide) dX11_many_110 ?_
  refine zi_getI fd_X11_347_X3 rfl cw0_12 rfl dX11_many_113 ?_
  refine zi_top (y := nI q) ((h3)) ?_
  refine zi_retI rfl rfl dX11_many_116 ?_
  rfl
