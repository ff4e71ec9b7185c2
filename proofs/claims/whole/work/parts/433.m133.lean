/-! how both begin -/
def zB0 : zMem := zM11 (fun _ _ => 0) 0 1
def zB1 : zMem := zM12 (fun _ _ => 0) 0 1
def qB0 : Nat → Nat := fun j => if j = 1 then 12 else if j = 4 then 26 else if 10 ≤ j ∧ j < 26 then 4 else if 32 ≤ j ∧ j < 38 then 6 else 0
theorem zlE_hi {M : zMem} {c j : Nat} (h : 38 ≤ j) : zlE M c c j = M c j := by
  unfold zlE
  repeat (rw [zup_same, zupd_other _ _ (by omega)])
theorem qB0_hi {j : Nat} (h : 38 ≤ j) : qB0 j = 0 := by
  unfold qB0
  rw [if_neg (by omega), if_neg (by omega), if_neg (by omega), if_neg (by omega)]
set_option maxRecDepth 100000 in
theorem zB1_s : zS (zB1 1) qB0 := fun j h2 h5 => by
  rcases Nat.lt_or_ge j 38 with h | h
  · exact (by decide +kernel : ∀ j, j < 38 → j ≠ 2 → j ≠ 5 → zB1 1 j = nI (qB0 j)) j h h2 h5
  · rw [qB0_hi h]
    obtain ⟨X, e, hX⟩ : ∃ X : zMem, zB1 = zlE X 1 ∧ ∀ j, X 1 j = 0 := ⟨_, rfl, fun _ => rfl⟩
    rw [e, zlE_hi h, hX]
    rfl
theorem qB0_ok : qOk qB0 := by
  refine ⟨fun j => ?_, by decide, by decide, by decide, by decide, by decide, by decide, by decide, by decide, by decide, by decide, by decide, by decide⟩
  unfold qB0
  (repeat' split) <;> omega
theorem zB_side : zSide qB0 [] := by
  refine ⟨qB0_ok, ⟨by decide, by decide, fun i => ?_, fun r hr => absurd hr (Nat.not_lt_zero r)⟩, fun kind kn _ _ => rfl, fun r hr => absurd hr (Nat.not_lt_zero r), fun r hr => absurd hr (Nat.not_lt_zero r), rfl, fun j hj => qB0_hi (by omega)⟩
  show (([] : List gIt).getD i (0, 0, 0)).1 ≤ 6
  rw [List.getD_nil]
  decide
set_option maxRecDepth 100000 in
theorem zB_va : zVa 14 zB0 qB0 [] := by
  refine ⟨⟨by decide +kernel, by decide +kernel, by decide +kernel, by decide +kernel, by decide +kernel, by decide +kernel, fun k hk => absurd hk (Nat.not_lt_zero k), fun k _ h => ?_, fun k h => ?_, fun k h => ?_⟩, ⟨by decide +kernel, by decide +kernel, fun r hr => absurd hr (Nat.not_lt_zero r), fun i hi => absurd hi (Nat.not_lt_zero i)⟩, by decide +kernel, fun r hr => absurd hr (Nat.not_lt_zero r)⟩
  · exact (by decide +kernel : ∀ k, k < 6 → zB0 (14 + 5) k = nI 0) k h
  · exact (by decide +kernel : ∀ k, k < 6 → zB0 (14 + 6) k = nI (qB0 (26 + k)) ∧ zB0 (14 + 7) k = nI (qB0 (32 + k))) k h
  · exact (by decide +kernel : ∀ k, k < 16 → zB0 (14 + 8) k = nI (qB0 (10 + k))) k h
set_option maxRecDepth 100000 in
theorem zB_inv : zInv zB0 zB1 := by
  refine ⟨⟨qB0, [], zB_side, zB_va, zB1_s, by decide +kernel, by decide +kernel⟩, .inl ⟨by decide +kernel, by decide +kernel, fun j _ => rfl⟩, ⟨fun _ => 0, 0, ⟨by decide +kernel, by decide, fun k hk => absurd hk (Nat.not_lt_zero k), fun _ => (by decide : 0 < 256)⟩, ⟨by decide +kernel, by decide, fun k hk => absurd hk (Nat.not_lt_zero k), fun _ => (by decide : 0 < 256)⟩⟩, ?_, ⟨0, by decide, by decide +kernel, by decide +kernel, fun j hj => absurd hj (Nat.not_lt_zero j)⟩, ⟨fun _ => 0, fun _ => 0, ?_, ?_, ?_⟩, fun a ha => .inr (.inr ?_), .inl ⟨by decide +kernel, by decide +kernel⟩⟩
  · exact (by decide +kernel : ∀ k, k < 144 → zB1 6 k = nI (qLtr k))
  · exact (by decide +kernel : ∀ i, i < 4 → zB0 104 i = nI 0 - nI 1 ∧ zB0 105 i = nI 0 ∧ 0 ≤ 5 ∧ 0 ≤ 40)
  · exact (by decide +kernel : ∀ i, i < 4 → zB1 15 i = nI 0 - nI 1 ∧ zB1 16 i = nI 0 ∧ 0 ≤ 5 ∧ 0 ≤ 40)
  · intro a j ha hj
    have hc : a = 0 ∨ a = 1 ∨ a = 2 ∨ a = 3 := by omega
    rcases hc with rfl | rfl | rfl | rfl <;> rfl
  · exact (by decide +kernel : ∀ a, a < 4 → zB0 106 a = nI 2 ∧ zB1 18 a = -1) a ha
