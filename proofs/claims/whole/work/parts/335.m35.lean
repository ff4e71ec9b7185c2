set_option maxRecDepth 100000 in
set_option maxHeartbeats 4000000 in
theorem ok_X12_many0 {M : zMem} {σ : Nat → Nat} (hs : zS (M 1) σ) (hk : qOk σ) : zOkI zw1 3 mX12_many [.ref 0, .int (nI 0)] M (nI (σ 6)) := by
  have hb := hk.1
  refine zOk_of (by decide +kernel) (fun _ => Nat.le_of_ble_eq_true rfl) (L := [(0, .ref 0), (1, .int (nI 0))]) rfl ?_
  refine zi_iload_n dX12_many_0 (i := 1) rfl 1 rfl ?_
  refine zi_tableIn (off := 43) (tgt := 44) dX12_many_1 (by decide) (by decide) (by decide) (by decide) ?_
  refine zi_aload_n dX12_many_44 (i := 0) rfl 0 rfl ?_
  refine zi_getR fd_X12_9_X12 rfl cw1_0 rfl dX12_many_45 ?_
  refine zi_bipush (v := nI 6) dX12_many_48 (by decide) ?_
  refine zi_ialdN cw1_1 (by decide) (by decide) dX12_many_50 ?_
  refine zi_top (y := nI (σ 6)) ((hs _ (by decide) (by decide))) ?_
  refine zi_retI rfl rfl dX12_many_51 ?_
  rfl
set_option maxRecDepth 100000 in
set_option maxHeartbeats 4000000 in
theorem ok_X12_many1 {M : zMem} {σ : Nat → Nat} (hs : zS (M 1) σ) (hk : qOk σ) : zOkI zw1 3 mX12_many [.ref 0, .int (nI 1)] M (nI (σ 7)) := by
  have hb := hk.1
  refine zOk_of (by decide +kernel) (fun _ => Nat.le_of_ble_eq_true rfl) (L := [(0, .ref 0), (1, .int (nI 1))]) rfl ?_
  refine zi_iload_n dX12_many_0 (i := 1) rfl 1 rfl ?_
  refine zi_tableIn (off := 51) (tgt := 52) dX12_many_1 (by decide) (by decide) (by decide) (by decide) ?_
  refine zi_aload_n dX12_many_52 (i := 0) rfl 0 rfl ?_
  refine zi_getR fd_X12_9_X12 rfl cw1_0 rfl dX12_many_53 ?_
  refine zi_bipush (v := nI 7) dX12_many_56 (by decide) ?_
  refine zi_ialdN cw1_1 (by decide) (by decide) dX12_many_58 ?_
  refine zi_top (y := nI (σ 7)) ((hs _ (by decide) (by decide))) ?_
  refine zi_retI rfl rfl dX12_many_59 ?_
  rfl
set_option maxRecDepth 100000 in
set_option maxHeartbeats 4000000 in
theorem ok_X12_many2 {M : zMem} {σ : Nat → Nat} (hs : zS (M 1) σ) (hk : qOk σ) : zOkI zw1 3 mX12_many [.ref 0, .int (nI 2)] M (nI (qOnes (qCalled σ))) := by
  have hb := hk.1
  refine zOk_of (by decide +kernel) (fun _ => Nat.le_of_ble_eq_true rfl) (L := [(0, .ref 0), (1, .int (nI 2))]) rfl ?_
  refine zi_iload_n dX12_many_0 (i := 1) rfl 1 rfl ?_
  refine zi_tableIn (off := 59) (tgt := 60) dX12_many_1 (by decide) (by decide) (by decide) (by decide) ?_
  refine zi_aload_n dX12_many_60 (i := 0) rfl 0 rfl ?_
  refine zi_iconst (v := nI 5) dX12_many_61 (by decide) ?_
  refine zcI (zc_V (as := [.int (nI 5)]) lk_X12_229 ce_X12_those cw1_0 rfl rfl dX12_many_62 (by decide) rfl rfl (Nat.le_of_ble_eq_true rfl)) (ok_X12_called hs hk) ?_
  refine zcI (zc_S (as := [.int (nI (qCalled σ))]) lk_X12_369 ce_X12_ones dX12_many_65 (by decide) rfl rfl (Nat.le_of_ble_eq_true rfl)) (ok_X12_ones (qCalled_lt hk.2.1)) ?_
  refine zi_retI rfl rfl dX12_many_68 ?_
  rfl
set_option maxRecDepth 100000 in
set_option maxHeartbeats 4000000 in
theorem ok_X12_many3 {M : zMem} {σ : Nat → Nat} (hs : zS (M 1) σ) (hk : qOk σ) : zOkI zw1 3 mX12_many [.ref 0, .int (nI 3)] M (nI (σ 8)) := by
  have hb := hk.1
  refine zOk_of (by decide +kernel) (fun _ => Nat.le_of_ble_eq_true rfl) (L := [(0, .ref 0), (1, .int (nI 3))]) rfl ?_
  refine zi_iload_n dX12_many_0 (i := 1) rfl 1 rfl ?_
  refine zi_tableIn (off := 68) (tgt := 69) dX12_many_1 (by decide) (by decide) (by decide) (by decide) ?_
  refine zi_aload_n dX12_many_69 (i := 0) rfl 0 rfl ?_
  refine zi_getR fd_X12_9_X12 rfl cw1_0 rfl dX12_many_70 ?_
  refine zi_bipush (v := nI 8) dX12_many_73 (by decide) ?_
  refine zi_ialdN cw1_1 (by decide) (by decide) dX12_many_75 ?_
  refine zi_top (y := nI (σ 8)) ((hs _ (by decide) (by decide))) ?_
  refine zi_retI rfl rfl dX12_many_76 ?_
  rfl
set_option maxRecDepth 100000 in
set_option maxHeartbeats 4000000 in
theorem ok_X12_many4 {M : zMem} {σ : Nat → Nat} (hs : zS (M 1) σ) (hk : qOk σ) : zOkI zw1 3 mX12_many [.ref 0, .int (nI 4)] M (M 0 29) := by
  have hb := hk.1
  refine zOk_of (by decide +kernel) (fun _ => Nat.le_of_ble_eq_true rfl) (L := [(0, .ref 0), (1, .int (nI 4))]) rfl ?_
  refine zi_iload_n dX12_many_0 (i := 1) rfl 1 rfl ?_
  refine zi_tableIn (off := 76) (tgt := 77) dX12_many_1 (by decide) (by decide) (by decide) (by decide) ?_
  refine zi_aload_n dX12_many_77 (i := 0) rfl 0 rfl ?_
  refine zi_getI fd_X12_320_X12 rfl cw1_0 rfl dX12_many_78 ?_
  refine zi_retI rfl rfl dX12_many_81 ?_
  rfl
set_option maxRecDepth 100000 in
set_option maxHeartbeats 4000000 in
theorem ok_X12_many5 {M : zMem} {σ : Nat → Nat} (hs : zS (M 1) σ) (hk : qOk σ) : zOkI zw1 3 mX12_many [.ref 0, .int (nI 5)] M (M 0 6) := by
  have hb := hk.1
  refine zOk_of (by decide +kernel) (fun _ => Nat.le_of_ble_eq_true rfl) (L := [(0, .ref 0), (1, .int (nI 5))]) rfl ?_
  refine zi_iload_n dX12_many_0 (i := 1) rfl 1 rfl ?_
  refine zi_tableIn (off := 81) (tgt := 82) dX12_many_1 (by decide) (by decide) (by decide) (by decide) ?_
  refine zi_aload_n dX12_many_82 (i := 0) rfl 0 rfl ?_
  refine zi_getI fd_X12_113_X12 rfl cw1_0 rfl dX12_many_83 ?_
  refine zi_retI rfl rfl dX12_many_86 ?_
  rfl
set_option maxRecDepth 100000 in
set_option maxHeartbeats 4000000 in
theorem ok_X12_many6 {M : zMem} {σ : Nat → Nat} (hs : zS (M 1) σ) (hk : qOk σ) : zOkI zw1 3 mX12_many [.ref 0, .int (nI 6)] M (M 0 36) := by
  have hb := hk.1
  refine zOk_of (by decide +kernel) (fun _ => Nat.le_of_ble_eq_true rfl) (L := [(0, .ref 0), (1, .int (nI 6))]) rfl ?_
  refine zi_iload_n dX12_many_0 (i := 1) rfl 1 rfl ?_
  refine zi_tableIn (off := 86) (tgt := 87) dX12_many_1 (by decide) (by decide) (by decide) (by decide) ?_
  refine zi_aload_n dX12_many_87 (i := 0) rfl 0 rfl ?_
  refine zi_getI fd_X12_344_X12 rfl cw1_0 rfl dX12_many_88 ?_
  refine zi_retI rfl rfl dX12_many_91 ?_
  rfl
