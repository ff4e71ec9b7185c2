set_option maxRecDepth 100000 in
set_option maxHeartbeats 4000000 in
theorem ok_X12_knocksL3 {M : zMem} {k q o : Nat} {x : Int32} (hk1 : k ≠ 1) (hk3 : k ≠ 3) (hk5 : k ≤ 5) (hq : q < 30) (ho5 : o ≤ 5) (hm : M 0 36 = nI q) (ho : M 0 37 = nI o) : zOkJ zw1 3 mX12_knocksAs [.ref 0, .int (nI k), .int x] M (fun r M' => r = x - nI (2 * o) ∧ M' = zpu M q (nI 10)) := by
  refine zOk_of (by decide +kernel) (fun _ => Nat.le_of_ble_eq_true rfl) (L := [(0, .ref 0), (1, .int (nI k)), (2, .int x)]) rfl ?_
  refine zi_iload_n dX12_knocksAs_0 (i := 1) rfl 1 rfl ?_
  refine zi_iconst (v := nI 1) dX12_knocksAs_1 (by decide) ?_
  refine zi_icmpN_ne (by  omega) (by decide) (tgt := 21) dX12_knocksAs_2 (by decide) (fun c2 => ?_) (fun c2 => False.elim (by omega))
  refine zi_iload_n dX12_knocksAs_21 (i := 1) rfl 1 rfl ?_
  refine zi_iconst (v := nI 3) dX12_knocksAs_22 (by decide) ?_
  refine zi_icmpN_ne (by  omega) (by decide) (tgt := 41) dX12_knocksAs_23 (by decide) (fun c23 => ?_) (fun c23 => False.elim (by omega))
  refine zi_aload_n dX12_knocksAs_41 (i := 0) rfl 0 rfl ?_
  refine zi_bipush (v := nI 10) dX12_knocksAs_42 (by decide) ?_
  refine zcV (zc_V (as := [.int (nI 10)]) lk_X12_347 ce_X12_starts cw1_0 rfl rfl dX12_knocksAs_44 (by decide) rfl rfl (Nat.le_of_ble_eq_true rfl)) (ok_X12_starts hm (by omega)) (fun M44 h44 => ?_)
  replace h44 : M44 = zpu M q (nI 10) := h44
  subst h44
  refine zi_iload_n dX12_knocksAs_47 (i := 2) rfl 2 rfl ?_
  refine zi_iconst (v := nI 2) dX12_knocksAs_48 (by decide) ?_
  refine zi_aload_n dX12_knocksAs_49 (i := 0) rfl 0 rfl ?_
  refine zi_getI fd_X12_353_X12 rfl cw1_0 rfl dX12_knocksAs_50 ?_
  refine zi_top (y := nI o) (((zpu_o (by decide)).trans ho)) ?_
  refine zi_imulN dX12_knocksAs_53 ?_
  refine zi_isub dX12_knocksAs_54 ?_
  refine zi_retJ rfl rfl dX12_knocksAs_55 ?_
  exact ⟨rfl, rfl⟩
/-- marks in the trace, one behind the other -/
def zpus (M : zMem) (q : Nat) : List Int32 → zMem
  | [] => M
  | x :: l => zpus (zpu M q x) (q + 1) l
def qKnT (k : Nat) : List Int32 := if k = 1 then [nI 20, nI 10] else if k = 3 then [nI 50, nI 10] else [nI 10]
def qKnX (k o : Nat) (x : Int32) : Int32 := if k = 1 then x - nI (2 * o) + nI 13 else if k = 3 then (x - nI (2 * o)) * nI 2 else x - nI (2 * o)
theorem ok_X12_knocksAs {M : zMem} {k q o : Nat} {x : Int32} (hk5 : k ≤ 5) (hq : q < 29) (ho5 : o ≤ 5) (hm : M 0 36 = nI q) (ho : M 0 37 = nI o) : zOkJ zw1 3 mX12_knocksAs [.ref 0, .int (nI k), .int x] M (fun r M' => r = qKnX k o x ∧ M' = zpus M q (qKnT k)) := by
  by_cases h1 : k = 1
  · subst h1; exact ok_X12_knocks1 hq ho5 hm ho
  · by_cases h3 : k = 3
    · subst h3; exact ok_X12_knocks3 hq ho5 hm ho
    · unfold qKnX qKnT
      rw [if_neg h1, if_neg h3, if_neg h1, if_neg h3]
      exact ok_X12_knocksL3 h1 h3 hk5 (by omega) ho5 hm ho
