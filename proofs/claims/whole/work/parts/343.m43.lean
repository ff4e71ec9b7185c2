set_option maxRecDepth 100000 in
set_option maxHeartbeats 4000000 in
theorem ok_X12_counts4 {M : zMem} {σ : Nat → Nat} {q o : Nat} {x : Int32} (hs : zS (M 1) σ) (hk : qOk σ) (hq : q < 27) (ho6 : o < σ 6) (hm : M 0 36 = nI q) (ho : M 0 37 = nI o) (hp : M 0 38 = nI 0) : zOkJ zw1 5 mX12_countsAs [.ref 0, .int (nI 4), .int x] M (fun r M' => r = qRemJ x (qCoD σ o) - nI 1 ∧ M' = zup (zpu (zpu M q (nI 40)) (q + 1) (nI 12)) 0 38 (zpar (qCoD σ o))) := by
  have hb := hk.1
  have h66 := hk.2.1
  have ho5 : o ≤ 5 := by omega
  have hkk := hk.2.2.2.2.2.2.2.2.2.2.2.2 o (by omega)
  refine zOk_of (by decide +kernel) (fun _ => Nat.le_of_ble_eq_true rfl) (L := [(0, .ref 0), (1, .int (nI 4)), (2, .int x)]) rfl ?_
  refine zi_iload_n dX12_countsAs_0 (i := 1) rfl 1 rfl ?_
  refine zi_iconst (v := nI 5) dX12_countsAs_1 (by decide) ?_
  refine zi_icmpN_ne (by decide) (by decide) (tgt := 41) dX12_countsAs_2 (by decide) (fun _ => ?_) (fun c => absurd c (by decide))
  refine zi_iload_n dX12_countsAs_41 (i := 1) rfl 1 rfl ?_
  refine zi_iconst (v := nI 4) dX12_countsAs_42 (by decide) ?_
  refine zi_icmpN_ne (by decide) (by decide) (tgt := 61) dX12_countsAs_43 (by decide) (fun c => absurd c (by decide)) (fun _ => ?_)
  refine zi_aload_n dX12_countsAs_46 (i := 0) rfl 0 rfl ?_
  refine zi_bipush (v := nI 40) dX12_countsAs_47 (by decide) ?_
  refine zcV (zc_V (as := [.int (nI 40)]) lk_X12_347 ce_X12_starts cw1_0 rfl rfl dX12_countsAs_49 (by decide) rfl rfl (Nat.le_of_ble_eq_true rfl)) (ok_X12_starts hm (by omega)) (fun M49 h49 => ?_)
  replace h49 : M49 = zpu M q (nI 40) := h49
  subst h49
  have hsu : zS (zpu M q (nI 40) 1) σ := by rw [zpu_f (by decide) (by decide)]; exact hs
  refine zi_aload_n dX12_countsAs_52 (i := 0) rfl 0 rfl ?_
  refine zi_iconst (v := nI 0) dX12_countsAs_53 (by decide) ?_
  refine zi_iload_n dX12_countsAs_54 (i := 2) rfl 2 rfl ?_
  refine zcJ (zc_V (as := [.int (nI 0), .int x]) lk_X12_359 ce_X12_countsAs cw1_0 rfl rfl dX12_countsAs_55 (by decide) rfl rfl (Nat.le_of_ble_eq_true rfl)) (ok_X12_countsL (by decide) (by decide) (by decide) hsu hk (by omega) ho6 zpu_q ((zpu_o (by decide)).trans ho) ((zpu_o (by decide)).trans hp)) (fun x55 M55 h55 => ?_)
  obtain ⟨rfl, h55⟩ := h55
  refine zi_iconst (v := nI 1) dX12_countsAs_58 (by decide) ?_
  refine zi_isub dX12_countsAs_59 ?_
  refine zi_retJ rfl rfl dX12_countsAs_60 ?_
  exact ⟨rfl, h55⟩
