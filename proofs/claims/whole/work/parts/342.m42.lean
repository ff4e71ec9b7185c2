/-- what is left of x by d, as the language has it; 0 by 0 -/
def qRemJ (x d : Int32) : Int32 := if d = 0 then 0 else x - x / d * d
def qCoD (σ : Nat → Nat) (o : Nat) : Int32 := nI (2 * o) - nI (σ (38 + 6 * o + 3))
def zpar (d : Int32) : Int32 := if d = 0 then nI 1 else nI 0
set_option maxRecDepth 100000 in
set_option maxHeartbeats 4000000 in
theorem ok_X12_countsL {M : zMem} {σ : Nat → Nat} {k q o : Nat} {x : Int32} (hk4 : k ≠ 4) (hk5 : k ≠ 5) (hkb : k ≤ 5) (hs : zS (M 1) σ) (hk : qOk σ) (hq : q < 28) (ho6 : o < σ 6) (hm : M 0 36 = nI q) (ho : M 0 37 = nI o) (hp : M 0 38 = nI 0) : zOkJ zw1 4 mX12_countsAs [.ref 0, .int (nI k), .int x] M (fun r M' => r = qRemJ x (qCoD σ o) ∧ M' = zup (zpu M q (nI 12)) 0 38 (zpar (qCoD σ o))) := by
  have hb := hk.1
  have h66 := hk.2.1
  have ho5 : o ≤ 5 := by omega
  have hkk := hk.2.2.2.2.2.2.2.2.2.2.2.2 o (by omega)
  refine zOk_of (by decide +kernel) (fun _ => Nat.le_of_ble_eq_true rfl) (L := [(0, .ref 0), (1, .int (nI k)), (2, .int x)]) rfl ?_
  refine zi_iload_n dX12_countsAs_0 (i := 1) rfl 1 rfl ?_
  refine zi_iconst (v := nI 5) dX12_countsAs_1 (by decide) ?_
  refine zi_icmpN_ne (by  omega) (by decide) (tgt := 41) dX12_countsAs_2 (by decide) (fun c2 => ?_) (fun c2 => False.elim (by omega))
  refine zi_iload_n dX12_countsAs_41 (i := 1) rfl 1 rfl ?_
  refine zi_iconst (v := nI 4) dX12_countsAs_42 (by decide) ?_
  refine zi_icmpN_ne (by  omega) (by decide) (tgt := 61) dX12_countsAs_43 (by decide) (fun c43 => ?_) (fun c43 => False.elim (by omega))
  refine zi_aload_n dX12_countsAs_61 (i := 0) rfl 0 rfl ?_
  refine zi_bipush (v := nI 12) dX12_countsAs_62 (by decide) ?_
  refine zcV (zc_V (as := [.int (nI 12)]) lk_X12_347 ce_X12_starts cw1_0 rfl rfl dX12_countsAs_64 (by decide) rfl rfl (Nat.le_of_ble_eq_true rfl)) (ok_X12_starts hm (by omega)) (fun M64 h64 => ?_)
  replace h64 : M64 = zpu M q (nI 12) := h64
  subst h64
  have hsu : zS (zpu M q (nI 12) 1) σ := by rw [zpu_f (by decide) (by decide)]; exact hs
  refine zi_iconst (v := nI 2) dX12_countsAs_67 (by decide) ?_
  refine zi_aload_n dX12_countsAs_68 (i := 0) rfl 0 rfl ?_
  refine zi_getI fd_X12_353_X12 rfl cw1_0 rfl dX12_countsAs_69 ?_
  refine zi_top (y := nI o) (((zpu_o (by decide)).trans ho)) ?_
  refine zi_imulN dX12_countsAs_72 ?_
  refine zi_aload_n dX12_countsAs_73 (i := 0) rfl 0 rfl ?_
  refine zi_aload_n dX12_countsAs_74 (i := 0) rfl 0 rfl ?_
  refine zi_getI fd_X12_353_X12 rfl cw1_0 rfl dX12_countsAs_75 ?_
  refine zi_top (y := nI o) (((zpu_o (by decide)).trans ho)) ?_
  refine zi_iconst (v := nI 3) dX12_countsAs_78 (by decide) ?_
  refine zcI (zc_V (as := [.int (nI o), .int (nI 3)]) lk_X12_79 ce_X12_get cw1_0 rfl rfl dX12_countsAs_79 (by decide) rfl rfl (Nat.le_of_ble_eq_true rfl)) (ok_X12_get (j := 38 + 6 * o + 3) hsu (by omega) (by decide) (by omega)) ?_
  refine zi_isub dX12_countsAs_82 ?_
  refine zi_istore_n (L' := [(3, .int ((nI (2 * o)) - (nI (σ (38 + 6 * o + 3))))), (0, .ref 0), (1, .int (nI k)), (2, .int x)]) dX12_countsAs_83 (i := 3) rfl (by decide) rfl ?_
  refine zi_aload_n dX12_countsAs_84 (i := 0) rfl 1 rfl ?_
  refine zi_aload_n dX12_countsAs_85 (i := 0) rfl 1 rfl ?_
  refine zi_getI fd_X12_362_X12 rfl cw1_0 rfl dX12_countsAs_86 ?_
  refine zi_top (y := nI 0) (((zpu_o (by decide)).trans hp)) ?_
  refine zi_ifN_ne (by decide) (tgt := 96) dX12_countsAs_89 (by decide) (fun c => absurd c (by decide)) (fun _ => ?_)
  refine zi_iload_n dX12_countsAs_92 (i := 3) rfl 0 rfl ?_
  refine zi_if_ne (tgt := 100) dX12_countsAs_93 (by decide) (fun c93 => ?_) (fun c93 => ?_)
  · refine zi_iconst (v := nI 0) dX12_countsAs_100 (by decide) ?_
    refine zi_putZ fd_X12_362_X12 fp_X12_38 rfl cw1_0 rfl ⟨rfl, rfl⟩ rfl dX12_countsAs_101 ?_
    refine zi_aload_n dX12_countsAs_104 (i := 0) rfl 1 rfl ?_
    refine zi_getI fd_X12_362_X12 rfl cw1_0 rfl dX12_countsAs_105 ?_
    refine zi_top (y := nI 0) (zr_h) ?_
    refine zi_ifN_eq (by decide) (tgt := 115) dX12_countsAs_108 (by decide) (fun _ => ?_) (fun c => absurd c (by decide))
    refine zi_iload_n dX12_countsAs_115 (i := 2) rfl 3 rfl ?_
    refine zi_iload_n dX12_countsAs_116 (i := 3) rfl 0 rfl ?_
    refine zi_irem dX12_countsAs_117 c93 ?_
    refine zi_retJ rfl rfl dX12_countsAs_118 ?_
    unfold qRemJ zpar
    first | (rw [if_pos (c := qCoD σ o = 0) c93, if_pos (c := qCoD σ o = 0) c93]; exact ⟨rfl, rfl⟩) | (rw [if_neg (c := qCoD σ o = 0) c93, if_neg (c := qCoD σ o = 0) c93]; exact ⟨rfl, rfl⟩)
  · refine zi_iconst (v := nI 1) dX12_countsAs_96 (by decide) ?_
    refine zi_goto (tgt := 101) dX12_countsAs_97 (by decide) ?_
    refine zi_putZ fd_X12_362_X12 fp_X12_38 rfl cw1_0 rfl ⟨rfl, rfl⟩ rfl dX12_countsAs_101 ?_
    refine zi_aload_n dX12_countsAs_104 (i := 0) rfl 1 rfl ?_
    refine zi_getI fd_X12_362_X12 rfl cw1_0 rfl dX12_countsAs_105 ?_
    refine zi_top (y := nI 1) (zr_h) ?_
    refine zi_ifN_eq (by decide) (tgt := 115) dX12_countsAs_108 (by decide) (fun c => absurd c (by decide)) (fun _ => ?_)
    refine zi_iconst (v := nI 0) dX12_countsAs_111 (by decide) ?_
    refine zi_goto (tgt := 118) dX12_countsAs_112 (by decide) ?_
    refine zi_retJ rfl rfl dX12_countsAs_118 ?_
    unfold qRemJ zpar
    first | (rw [if_pos (c := qCoD σ o = 0) c93, if_pos (c := qCoD σ o = 0) c93]; exact ⟨rfl, rfl⟩) | (rw [if_neg (c := qCoD σ o = 0) c93, if_neg (c := qCoD σ o = 0) c93]; exact ⟨rfl, rfl⟩)
