/-- what acts by a sheet would be worth: -12 or -4 at the first that cannot go -/
def qWb (f : Nat → Int32) (s x : Nat) : Nat → Nat → (Nat → Nat) → Nat → Int32
  | 0, _, _, w => nI w
  | c + 1, i, σ, w => if x + i < s then (if zin (f (x + i)) (nI 0) (nI (σ 6)) = true ∧ qOver σ = false then qWb f s x c (i + 1) (qGo σ (f (x + i)).toInt.toNat).2 (w + (qGo σ (f (x + i)).toInt.toNat).1) else -4) else -12
set_option maxRecDepth 100000 in
set_option maxHeartbeats 4000000 in
theorem ok_X12_wouldBe {M : zMem} {σ : Nat → Nat} {a x q : Nat} {so sz : Nat → Nat} (hs : zS (M 1) σ) (hk : qOk σ) (hr : qRuOk σ)(hsh : zSh so sz M) (h1 : a < 4) (hx : x < 2 ^ 30) (hq : q ≤ 20) (hso1 : so a = 1) : zOkJ zw1 7 mX12_wouldBe [.ref 0, .int (nI a), .int (nI x), .int (nI q)] M (fun r M' => r = (qWb (fun j => M 17 (40 * a + j)) (sz a) x q 0 σ 0) ∧ zFr [3, 4] M M') := by
  obtain ⟨-, -, hso, hsz⟩ := hsh a h1
  have hb := hk.1
  refine zOk_of (by decide +kernel) (fun _ => Nat.le_of_ble_eq_true rfl) (L := [(0, .ref 0), (1, .int (nI a)), (2, .int (nI x)), (3, .int (nI q))]) rfl ?_
  refine zi_iload_n dX12_wouldBe_0 (i := 1) rfl 1 rfl ?_
  refine zcI (zc_S (as := [.int (nI a)]) lk_X12_329 ce_X12_isSheet dX12_wouldBe_1 (by decide) rfl rfl (Nat.le_of_ble_eq_true rfl)) (zOkI_eq ok_X12_isSheet (zinT (by omega) (by omega) (by decide))) ?_
  refine zi_ifN_eq (by decide) (tgt := 17) dX12_wouldBe_4 (by decide) (fun c => absurd c (by decide)) (fun _ => ?_)
  refine zi_iload_n dX12_wouldBe_7 (i := 3) rfl 3 rfl ?_
  refine zi_iconst (v := nI 0) dX12_wouldBe_8 (by decide) ?_
  refine zi_bipush (v := nI 20) dX12_wouldBe_9 (by decide) ?_
  refine zcI (zc_S (as := [.int (nI q), .int (nI 0), .int (nI 20)]) lk_X12_71 ce_X12_in1 dX12_wouldBe_11 (by decide) rfl rfl (Nat.le_of_ble_eq_true rfl)) (zOkI_eq ok_X12_in1 (zinT (by omega) (by omega) (by decide))) ?_
  refine zi_ifN_ne (by decide) (tgt := 19) dX12_wouldBe_14 (by decide) (fun _ => ?_) (fun c => absurd c (by decide))
  refine zi_aload_n dX12_wouldBe_19 (i := 0) rfl 0 rfl ?_
  refine zi_iload_n dX12_wouldBe_20 (i := 1) rfl 1 rfl ?_
  refine zi_iconst (v := nI 0) dX12_wouldBe_21 (by decide) ?_
  refine zcI (zc_V (as := [.int (nI a), .int (nI 0)]) lk_X12_335 ce_X12_lacks cw1_0 rfl rfl dX12_wouldBe_22 (by decide) rfl rfl (Nat.le_of_ble_eq_true rfl)) (zOkI_eq (ok_X12_lacks hsh h1 (Nat.zero_le 4)) (by rw [if_neg (by omega), if_pos (by omega)])) ?_
  refine zi_istore (L' := [(4, .int (nI 0)), (0, .ref 0), (1, .int (nI a)), (2, .int (nI x)), (3, .int (nI q))]) dX12_wouldBe_25 (by decide) rfl ?_
  refine zi_iconst (v := nI 0) dX12_wouldBe_27 (by decide) ?_
  refine zi_istore (L' := [(5, .int (nI 0)), (4, .int (nI 0)), (0, .ref 0), (1, .int (nI a)), (2, .int (nI x)), (3, .int (nI q))]) dX12_wouldBe_28 (by decide) rfl ?_
  refine zi_aload_n dX12_wouldBe_30 (i := 0) rfl 2 rfl ?_
  refine zcV (zc_V (as := []) lk_X12_235 ce_X12_layDown cw1_0 rfl rfl dX12_wouldBe_31 (by decide) rfl rfl (Nat.le_of_ble_eq_true rfl)) ok_X12_layDown (fun M31 h31 => ?_)
  refine zi_iconst (v := nI 0) dX12_wouldBe_34 (by decide) ?_
  refine zi_istore (L' := [(6, .int (nI 0)), (5, .int (nI 0)), (4, .int (nI 0)), (0, .ref 0), (1, .int (nI a)), (2, .int (nI x)), (3, .int (nI q))]) dX12_wouldBe_35 (by decide) rfl ?_
  have lp : ∀ (n c i w : Nat) (y : Int32) (τ : Nat → Nat) (M2 : zMem), c < n → i + c = q → zS (M2 1) τ → qOk τ → qRuOk τ → zFr [1, 4] M31 M2 → ((y = 0 ∧ qWb (fun j => M 17 (40 * a + j)) (sz a) x c i τ w = (qWb (fun j => M 17 (40 * a + j)) (sz a) x q 0 σ 0)) ∨ (y ≠ 0 ∧ y = (qWb (fun j => M 17 (40 * a + j)) (sz a) x q 0 σ 0))) → w ≤ 27 * i → (∀ j, 74 ≤ j → τ j = σ j) → zRn zw1 7 mX12_wouldBe (zQJ (fun r M' => r = (qWb (fun j => M 17 (40 * a + j)) (sz a) x q 0 σ 0) ∧ zFr [3, 4] M M')) 37 [(0, .ref 0), (1, .int (nI a)), (2, .int (nI x)), (3, .int (nI q)), (4, .int y), (5, .int (nI w)), (6, .int (nI i))] [] M2 := by
    intro n
    induction n with
    | zero => intro c i w y τ M2 h1_; omega
    | succ n ih =>
      intro c i w y τ M2 h1_ h2 h3 h4 h5 h6 h7 h8 h9
      have hsh2 : zSh so sz M2 := fun k hk4 => by rw [h6 15 (by decide), h6 16 (by decide), h31, zsetF_o _ _ (by decide), zsetF_o _ _ (by decide)]; exact hsh k hk4
      have h17 : M2 17 = M 17 := by rw [h6 17 (by decide), h31, zsetF_o _ _ (by decide)]
      refine zi_iload dX12_wouldBe_37 6 rfl ?_
      refine zi_iload_n dX12_wouldBe_39 (i := 3) rfl 3 rfl ?_
      refine zi_icmpN_ge (by  omega) (by  omega) (tgt := 145) dX12_wouldBe_40 (by decide) (fun c40 => ?_) (fun c40 => ?_)
      · refine zi_aload_n dX12_wouldBe_145 (i := 0) rfl 0 rfl ?_
        refine zcV (zc_V (as := []) lk_X12_241 ce_X12_layBack cw1_0 rfl rfl dX12_wouldBe_146 (by decide) rfl rfl (Nat.le_of_ble_eq_true rfl)) ok_X12_layBack (fun M146 h146 => ?_)
        refine zi_iload dX12_wouldBe_149 4 rfl ?_
        refine zi_if_eq (tgt := 159) dX12_wouldBe_151 (by decide) (fun c151 => ?_) (fun c151 => ?_)
        · refine zi_iload dX12_wouldBe_159 5 rfl ?_
          refine zi_retJ rfl rfl dX12_wouldBe_161 ?_
          have e1 : (if y = 0 then nI w else y) = (qWb (fun j => M 17 (40 * a + j)) (sz a) x q 0 σ 0) := by
            rcases h7 with ⟨z, z2⟩ | ⟨z, z2⟩
            · first
              | (have hc : c = 0 := (by omega); rw [hc] at z2; rw [if_pos z]; exact z2)
              | exact absurd z c45
            · rw [if_neg z]; exact z2
          refine ⟨?_, fun b hb4 => ?_⟩
          · first | (rw [if_pos c151] at e1; exact e1) | (rw [if_neg c151] at e1; exact e1)
          · by_cases e : b = 1
            · rw [e]; exact zback14 hs h31 h3 h6 (by decide) h9 h146
            · rw [h146, zsetF_o _ _ e, h6 b (by simp at hb4 ⊢; omega), h31, zsetF_o _ _ (by simp at hb4; omega)]
        · refine zi_iload dX12_wouldBe_154 4 rfl ?_
          refine zi_goto (tgt := 161) dX12_wouldBe_156 (by decide) ?_
          refine zi_retJ rfl rfl dX12_wouldBe_161 ?_
          have e1 : (if y = 0 then nI w else y) = (qWb (fun j => M 17 (40 * a + j)) (sz a) x q 0 σ 0) := by
            rcases h7 with ⟨z, z2⟩ | ⟨z, z2⟩
            · first
              | (have hc : c = 0 := (by omega); rw [hc] at z2; rw [if_pos z]; exact z2)
              | exact absurd z c45
            · rw [if_neg z]; exact z2
          refine ⟨?_, fun b hb4 => ?_⟩
          · first | (rw [if_pos c151] at e1; exact e1) | (rw [if_neg c151] at e1; exact e1)
          · by_cases e : b = 1
            · rw [e]; exact zback14 hs h31 h3 h6 (by decide) h9 h146
            · rw [h146, zsetF_o _ _ e, h6 b (by simp at hb4 ⊢; omega), h31, zsetF_o _ _ (by simp at hb4; omega)]
      · refine zi_iload dX12_wouldBe_43 4 rfl ?_
        refine zi_if_ne (tgt := 145) dX12_wouldBe_45 (by decide) (fun c45 => ?_) (fun c45 => ?_)
        · refine zi_aload_n dX12_wouldBe_145 (i := 0) rfl 0 rfl ?_
          refine zcV (zc_V (as := []) lk_X12_241 ce_X12_layBack cw1_0 rfl rfl dX12_wouldBe_146 (by decide) rfl rfl (Nat.le_of_ble_eq_true rfl)) ok_X12_layBack (fun M146 h146 => ?_)
          refine zi_iload dX12_wouldBe_149 4 rfl ?_
          refine zi_if_eq (tgt := 159) dX12_wouldBe_151 (by decide) (fun c151 => ?_) (fun c151 => ?_)
          · refine zi_iload dX12_wouldBe_159 5 rfl ?_
            refine zi_retJ rfl rfl dX12_wouldBe_161 ?_
            have e1 : (if y = 0 then nI w else y) = (qWb (fun j => M 17 (40 * a + j)) (sz a) x q 0 σ 0) := by
              rcases h7 with ⟨z, z2⟩ | ⟨z, z2⟩
              · first
                | (have hc : c = 0 := (by omega); rw [hc] at z2; rw [if_pos z]; exact z2)
                | exact absurd z c45
              · rw [if_neg z]; exact z2
            refine ⟨?_, fun b hb4 => ?_⟩
            · first | (rw [if_pos c151] at e1; exact e1) | (rw [if_neg c151] at e1; exact e1)
            · by_cases e : b = 1
              · rw [e]; exact zback14 hs h31 h3 h6 (by decide) h9 h146
              · rw [h146, zsetF_o _ _ e, h6 b (by simp at hb4 ⊢; omega), h31, zsetF_o _ _ (by simp at hb4; omega)]
          · refine zi_iload dX12_wouldBe_154 4 rfl ?_
            refine zi_goto (tgt := 161) dX12_wouldBe_156 (by decide) ?_
            refine zi_retJ rfl rfl dX12_wouldBe_161 ?_
            have e1 : (if y = 0 then nI w else y) = (qWb (fun j => M 17 (40 * a + j)) (sz a) x q 0 σ 0) := by
              rcases h7 with ⟨z, z2⟩ | ⟨z, z2⟩
              · first
                | (have hc : c = 0 := (by omega); rw [hc] at z2; rw [if_pos z]; exact z2)
                | exact absurd z c45
              · rw [if_neg z]; exact z2
            refine ⟨?_, fun b hb4 => ?_⟩
            · first | (rw [if_pos c151] at e1; exact e1) | (rw [if_neg c151] at e1; exact e1)
            · by_cases e : b = 1
              · rw [e]; exact zback14 hs h31 h3 h6 (by decide) h9 h146
              · rw [h146, zsetF_o _ _ e, h6 b (by simp at hb4 ⊢; omega), h31, zsetF_o _ _ (by simp at hb4; omega)]
        · refine zi_aload_n dX12_wouldBe_48 (i := 0) rfl 0 rfl ?_
          refine zi_iload_n dX12_wouldBe_49 (i := 1) rfl 1 rfl ?_
          refine zi_iload_n dX12_wouldBe_50 (i := 2) rfl 2 rfl ?_
          refine zi_iload dX12_wouldBe_51 6 rfl ?_
          refine zcI (zc_V (as := [.int (nI a), .int (nI x), .int (nI i)]) lk_X12_338 ce_X12_isItem cw1_0 rfl rfl dX12_wouldBe_53 (by decide) rfl rfl (Nat.le_of_ble_eq_true rfl)) (ok_X12_isItem hsh2 h1 (by omega)) ?_
          refine zi_ifB_eq (tgt := 76) dX12_wouldBe_56 (by decide) (fun c56 => ?_) (fun c56 => ?_)
          · have hit : ¬ x + i < sz a := of_decide_eq_false ((zitem (by omega) hsz (by omega)).symm.trans c56)
            refine zi_iconst (v := (-1)) dX12_wouldBe_76 (by decide) ?_
            refine zi_istore (L' := [(7, .int (-1)), (0, .ref 0), (1, .int (nI a)), (2, .int (nI x)), (3, .int (nI q)), (4, .int y), (5, .int (nI w)), (6, .int (nI i))]) dX12_wouldBe_77 (by decide) rfl ?_
            refine zi_aload_n dX12_wouldBe_79 (i := 0) rfl 1 rfl ?_
            refine zi_iload_n dX12_wouldBe_80 (i := 1) rfl 2 rfl ?_
            refine zi_iload_n dX12_wouldBe_81 (i := 2) rfl 3 rfl ?_
            refine zi_iload dX12_wouldBe_82 7 rfl ?_
            refine zcI (zc_V (as := [.int (nI a), .int (nI x), .int (nI i)]) lk_X12_338 ce_X12_isItem cw1_0 rfl rfl dX12_wouldBe_84 (by decide) rfl rfl (Nat.le_of_ble_eq_true rfl)) (ok_X12_isItem hsh2 h1 (by omega)) ?_
            refine zi_ifB_ne (tgt := 95) dX12_wouldBe_87 (by decide) (fun c87 => False.elim (by rw [c56] at c87; exact Bool.noConfusion c87)) (fun c87 => ?_)
            refine zi_bipush (v := (-12)) dX12_wouldBe_90 (by decide) ?_
            refine zi_goto (tgt := 117) dX12_wouldBe_92 (by decide) ?_
            refine zi_istore (L' := [(4, .int (-12)), (7, .int (-1)), (0, .ref 0), (1, .int (nI a)), (2, .int (nI x)), (3, .int (nI q)), (5, .int (nI w)), (6, .int (nI i))]) dX12_wouldBe_117 (by decide) rfl ?_
            refine zi_iload dX12_wouldBe_119 6 rfl ?_
            refine zi_iload dX12_wouldBe_121 0 rfl ?_
            refine zi_if_ne (tgt := 135) dX12_wouldBe_123 (by decide) (fun c123 => ?_) (fun c123 => False.elim (by exact absurd c123 (by decide)))
            refine zi_iconst (v := nI 0) dX12_wouldBe_135 (by decide) ?_
            refine zi_iaddN dX12_wouldBe_136 ?_
            refine zi_top (y := nI w) (congrArg nI (by omega)) ?_
            refine zi_istore (L' := [(5, .int (nI w)), (4, .int (-12)), (7, .int (-1)), (0, .ref 0), (1, .int (nI a)), (2, .int (nI x)), (3, .int (nI q)), (6, .int (nI i))]) dX12_wouldBe_137 (by decide) rfl ?_
            refine zi_iincN (L' := [(6, .int (nI (i + 1))), (5, .int (nI w)), (4, .int (-12)), (7, .int (-1)), (0, .ref 0), (1, .int (nI a)), (2, .int (nI x)), (3, .int (nI q))]) dX12_wouldBe_139 7 rfl (k := 1) (by decide) (by decide) rfl ?_
            refine zi_goto (tgt := 37) dX12_wouldBe_142 (by decide) ?_
            refine zi_sub [4, 5, 6, 7, 2, 1, 0] rfl ?_
            obtain ⟨c', rfl⟩ : ∃ c', c = c' + 1 := ⟨c - 1, by omega⟩
            obtain ⟨-, hj⟩ := h7.resolve_right (fun z => z.1 c45)
            first
            | (rw [qWb, if_neg (of_decide_eq_false ((zitem (by omega) hsz (by omega)).symm.trans c56))] at hj; exact ih c' (i + 1) _ _ _ _ (by omega) (by omega) h3 h4 h5 h6 (Or.inr ⟨by decide, hj⟩) (by omega) h9)
            | (rw [qWb, if_pos (of_decide_eq_true ((zitem (by omega) hsz (by omega)).symm.trans c56)), if_neg (fun z => by first | (have z1 := z.1; rw [← Nat.add_assoc, c101] at z1; exact Bool.noConfusion z1) | (have z2 := z.2; rw [c108] at z2; exact Bool.noConfusion z2))] at hj; exact ih c' (i + 1) _ _ _ _ (by omega) (by omega) h3 h4 h5 h6 (Or.inr ⟨by decide, hj⟩) (by omega) h9)
          · have hit : x + i < sz a := of_decide_eq_true ((zitem (by omega) hsz (by omega)).symm.trans c56)
            refine zi_aload_n dX12_wouldBe_59 (i := 0) rfl 0 rfl ?_
            refine zi_getR fd_X12_59_X12 rfl cw1_0 rfl dX12_wouldBe_60 ?_
            refine zi_bipush (v := nI 40) dX12_wouldBe_63 (by decide) ?_
            refine zi_iload_n dX12_wouldBe_65 (i := 1) rfl 1 rfl ?_
            refine zi_imulN dX12_wouldBe_66 ?_
            refine zi_iload_n dX12_wouldBe_67 (i := 2) rfl 2 rfl ?_
            refine zi_iaddN dX12_wouldBe_68 ?_
            refine zi_iload dX12_wouldBe_69 6 rfl ?_
            refine zi_iaddN dX12_wouldBe_71 ?_
            refine zi_ialdN cw1_17 (by omega) (by decide) dX12_wouldBe_72 ?_
            refine zi_top (y := M 17 (40 * a + x + i)) ((congrFun h17 _)) ?_
            refine zi_goto (tgt := 77) dX12_wouldBe_73 (by decide) ?_
            refine zi_istore (L' := [(7, .int (M 17 (40 * a + x + i))), (0, .ref 0), (1, .int (nI a)), (2, .int (nI x)), (3, .int (nI q)), (4, .int y), (5, .int (nI w)), (6, .int (nI i))]) dX12_wouldBe_77 (by decide) rfl ?_
            refine zi_aload_n dX12_wouldBe_79 (i := 0) rfl 1 rfl ?_
            refine zi_iload_n dX12_wouldBe_80 (i := 1) rfl 2 rfl ?_
            refine zi_iload_n dX12_wouldBe_81 (i := 2) rfl 3 rfl ?_
            refine zi_iload dX12_wouldBe_82 7 rfl ?_
            refine zcI (zc_V (as := [.int (nI a), .int (nI x), .int (nI i)]) lk_X12_338 ce_X12_isItem cw1_0 rfl rfl dX12_wouldBe_84 (by decide) rfl rfl (Nat.le_of_ble_eq_true rfl)) (ok_X12_isItem hsh2 h1 (by omega)) ?_
            refine zi_ifB_ne (tgt := 95) dX12_wouldBe_87 (by decide) (fun c87 => ?_) (fun c87 => False.elim (by rw [c56] at c87; exact Bool.noConfusion c87))
            refine zi_aload_n dX12_wouldBe_95 (i := 0) rfl 1 rfl ?_
            refine zi_iload dX12_wouldBe_96 0 rfl ?_
            refine zcI (zc_V (as := [.int (M 17 (40 * a + x + i))]) lk_X12_326 ce_X12_isAct cw1_0 rfl rfl dX12_wouldBe_98 (by decide) rfl rfl (Nat.le_of_ble_eq_true rfl)) (ok_X12_isAct h3) ?_
            refine zi_ifB_eq (tgt := 111) dX12_wouldBe_101 (by decide) (fun c101 => ?_) (fun c101 => ?_)
            · refine zi_bipush (v := (-4)) dX12_wouldBe_111 (by decide) ?_
              refine zi_goto (tgt := 117) dX12_wouldBe_113 (by decide) ?_
              refine zi_istore (L' := [(4, .int (-4)), (7, .int (M 17 (40 * a + x + i))), (0, .ref 0), (1, .int (nI a)), (2, .int (nI x)), (3, .int (nI q)), (5, .int (nI w)), (6, .int (nI i))]) dX12_wouldBe_117 (by decide) rfl ?_
              refine zi_iload dX12_wouldBe_119 6 rfl ?_
              refine zi_iload dX12_wouldBe_121 0 rfl ?_
              refine zi_if_ne (tgt := 135) dX12_wouldBe_123 (by decide) (fun c123 => ?_) (fun c123 => False.elim (by exact absurd c123 (by decide)))
              refine zi_iconst (v := nI 0) dX12_wouldBe_135 (by decide) ?_
              refine zi_iaddN dX12_wouldBe_136 ?_
              refine zi_top (y := nI w) (congrArg nI (by omega)) ?_
              refine zi_istore (L' := [(5, .int (nI w)), (4, .int (-4)), (7, .int (M 17 (40 * a + x + i))), (0, .ref 0), (1, .int (nI a)), (2, .int (nI x)), (3, .int (nI q)), (6, .int (nI i))]) dX12_wouldBe_137 (by decide) rfl ?_
              refine zi_iincN (L' := [(6, .int (nI (i + 1))), (5, .int (nI w)), (4, .int (-4)), (7, .int (M 17 (40 * a + x + i))), (0, .ref 0), (1, .int (nI a)), (2, .int (nI x)), (3, .int (nI q))]) dX12_wouldBe_139 7 rfl (k := 1) (by decide) (by decide) rfl ?_
              refine zi_goto (tgt := 37) dX12_wouldBe_142 (by decide) ?_
              refine zi_sub [4, 5, 6, 7, 2, 1, 0] rfl ?_
              obtain ⟨c', rfl⟩ : ∃ c', c = c' + 1 := ⟨c - 1, by omega⟩
              obtain ⟨-, hj⟩ := h7.resolve_right (fun z => z.1 c45)
              first
              | (rw [qWb, if_neg (of_decide_eq_false ((zitem (by omega) hsz (by omega)).symm.trans c56))] at hj; exact ih c' (i + 1) _ _ _ _ (by omega) (by omega) h3 h4 h5 h6 (Or.inr ⟨by decide, hj⟩) (by omega) h9)
              | (rw [qWb, if_pos (of_decide_eq_true ((zitem (by omega) hsz (by omega)).symm.trans c56)), if_neg (fun z => by first | (have z1 := z.1; rw [← Nat.add_assoc, c101] at z1; exact Bool.noConfusion z1) | (have z2 := z.2; rw [c108] at z2; exact Bool.noConfusion z2))] at hj; exact ih c' (i + 1) _ _ _ _ (by omega) (by omega) h3 h4 h5 h6 (Or.inr ⟨by decide, hj⟩) (by omega) h9)
            · refine zi_aload_n dX12_wouldBe_104 (i := 0) rfl 1 rfl ?_
              refine zcI (zc_V (as := []) lk_X12_226 ce_X12_isOver cw1_0 rfl rfl dX12_wouldBe_105 (by decide) rfl rfl (Nat.le_of_ble_eq_true rfl)) (ok_X12_isOver h3 h4.1) ?_
              refine zi_ifB_eq (tgt := 116) dX12_wouldBe_108 (by decide) (fun c108 => ?_) (fun c108 => ?_)
              · have h0b := qOver_f h4 c108
                have hx6 := zin_of (Nat.lt_trans (Nat.succ_lt_succ (h4.1 6)) (by decide)) c101
                have hx7 := Nat.le_trans hx6.2 h4.2.1
                have hgw := qGo_w τ (M 17 (40 * a + x + i)).toInt.toNat
                refine zi_iconst (v := nI 0) dX12_wouldBe_116 (by decide) ?_
                refine zi_istore (L' := [(4, .int (nI 0)), (7, .int (M 17 (40 * a + x + i))), (0, .ref 0), (1, .int (nI a)), (2, .int (nI x)), (3, .int (nI q)), (5, .int (nI w)), (6, .int (nI i))]) dX12_wouldBe_117 (by decide) rfl ?_
                refine zi_iload dX12_wouldBe_119 6 rfl ?_
                refine zi_iload dX12_wouldBe_121 0 rfl ?_
                refine zi_ifN_ne (by decide) (tgt := 135) dX12_wouldBe_123 (by decide) (fun c => absurd c (by decide)) (fun _ => ?_)
                refine zi_aload_n dX12_wouldBe_126 (i := 0) rfl 2 rfl ?_
                refine zi_iload dX12_wouldBe_127 1 rfl ?_
                refine zcJ (zc_V (as := [.int (M 17 (40 * a + x + i))]) lk_X12_232 ce_X12_goesBy cw1_0 rfl rfl dX12_wouldBe_129 (by decide) rfl rfl (Nat.le_of_ble_eq_true rfl)) (ok_X12_goesA h3 h4 h5 h0b c101) (fun x129 M129 h129 => ?_)
                obtain ⟨rfl, h129⟩ := h129
                refine zi_goto (tgt := 136) dX12_wouldBe_132 (by decide) ?_
                refine zi_iaddN dX12_wouldBe_136 ?_
                refine zi_istore (L' := [(5, .int (nI (w + ((qGo τ (M 17 (40 * a + x + i) : Int32).toInt.toNat).1)))), (4, .int (nI 0)), (7, .int (M 17 (40 * a + x + i))), (0, .ref 0), (1, .int (nI a)), (2, .int (nI x)), (3, .int (nI q)), (6, .int (nI i))]) dX12_wouldBe_137 (by decide) rfl ?_
                refine zi_iincN (L' := [(6, .int (nI (i + 1))), (5, .int (nI (w + ((qGo τ (M 17 (40 * a + x + i) : Int32).toInt.toNat).1)))), (4, .int (nI 0)), (7, .int (M 17 (40 * a + x + i))), (0, .ref 0), (1, .int (nI a)), (2, .int (nI x)), (3, .int (nI q))]) dX12_wouldBe_139 7 rfl (k := 1) (by decide) (by decide) rfl ?_
                refine zi_goto (tgt := 37) dX12_wouldBe_142 (by decide) ?_
                refine zi_sub [4, 5, 6, 7, 2, 1, 0] rfl ?_
                obtain ⟨c', rfl⟩ : ∃ c', c = c' + 1 := ⟨c - 1, by omega⟩
                obtain ⟨-, hj⟩ := h7.resolve_right (fun z => z.1 c45)
                first
                | (rw [qWb, if_pos (of_decide_eq_true ((zitem (by omega) hsz (by omega)).symm.trans c56)), if_pos ⟨(by rw [← Nat.add_assoc]; exact c101), c108⟩, ← Nat.add_assoc] at hj; exact ih c' (i + 1) _ _ _ _ (by omega) (by omega) h129.1 (qOk_go h4 h0b hx7) (qRuOk_go hx7 h5) (zFr_tr h6 h129.2.2.2 (fun _ q => q)) (Or.inl ⟨rfl, hj⟩) (by omega) (fun j hj4 => (qGo_hi hx7 (Or.inr (Or.inr hj4))).trans (h9 j hj4)))
              · refine zi_bipush (v := (-4)) dX12_wouldBe_111 (by decide) ?_
                refine zi_goto (tgt := 117) dX12_wouldBe_113 (by decide) ?_
                refine zi_istore (L' := [(4, .int (-4)), (7, .int (M 17 (40 * a + x + i))), (0, .ref 0), (1, .int (nI a)), (2, .int (nI x)), (3, .int (nI q)), (5, .int (nI w)), (6, .int (nI i))]) dX12_wouldBe_117 (by decide) rfl ?_
                refine zi_iload dX12_wouldBe_119 6 rfl ?_
                refine zi_iload dX12_wouldBe_121 0 rfl ?_
                refine zi_if_ne (tgt := 135) dX12_wouldBe_123 (by decide) (fun c123 => ?_) (fun c123 => False.elim (by exact absurd c123 (by decide)))
                refine zi_iconst (v := nI 0) dX12_wouldBe_135 (by decide) ?_
                refine zi_iaddN dX12_wouldBe_136 ?_
                refine zi_top (y := nI w) (congrArg nI (by omega)) ?_
                refine zi_istore (L' := [(5, .int (nI w)), (4, .int (-4)), (7, .int (M 17 (40 * a + x + i))), (0, .ref 0), (1, .int (nI a)), (2, .int (nI x)), (3, .int (nI q)), (6, .int (nI i))]) dX12_wouldBe_137 (by decide) rfl ?_
                refine zi_iincN (L' := [(6, .int (nI (i + 1))), (5, .int (nI w)), (4, .int (-4)), (7, .int (M 17 (40 * a + x + i))), (0, .ref 0), (1, .int (nI a)), (2, .int (nI x)), (3, .int (nI q))]) dX12_wouldBe_139 7 rfl (k := 1) (by decide) (by decide) rfl ?_
                refine zi_goto (tgt := 37) dX12_wouldBe_142 (by decide) ?_
                refine zi_sub [4, 5, 6, 7, 2, 1, 0] rfl ?_
                obtain ⟨c', rfl⟩ : ∃ c', c = c' + 1 := ⟨c - 1, by omega⟩
                obtain ⟨-, hj⟩ := h7.resolve_right (fun z => z.1 c45)
                first
                | (rw [qWb, if_neg (of_decide_eq_false ((zitem (by omega) hsz (by omega)).symm.trans c56))] at hj; exact ih c' (i + 1) _ _ _ _ (by omega) (by omega) h3 h4 h5 h6 (Or.inr ⟨by decide, hj⟩) (by omega) h9)
                | (rw [qWb, if_pos (of_decide_eq_true ((zitem (by omega) hsz (by omega)).symm.trans c56)), if_neg (fun z => by first | (have z1 := z.1; rw [← Nat.add_assoc, c101] at z1; exact Bool.noConfusion z1) | (have z2 := z.2; rw [c108] at z2; exact Bool.noConfusion z2))] at hj; exact ih c' (i + 1) _ _ _ _ (by omega) (by omega) h3 h4 h5 h6 (Or.inr ⟨by decide, hj⟩) (by omega) h9)
  refine zi_sub [3, 4, 5, 6, 2, 1, 0] rfl ?_
  exact lp (q + 1) q 0 0 _ σ M31 (by omega) (by omega) (zlayd h31 hs) hk hr (zFr_rf _ _) (Or.inl ⟨rfl, rfl⟩) (by omega) (fun _ _ => rfl)
set_option maxRecDepth 100000 in
set_option maxHeartbeats 4000000 in
theorem bad_X12_wouldBe {M : zMem} {σ : Nat → Nat} {k t r : Int32}  (hB : (zin k (nI 0) (nI 3) && zin r (nI 0) (nI 20)) = false) : zOkI zw1 7 mX12_wouldBe [.ref 0, .int k, .int t, .int r] M (-1) := by
  refine zOk_of (by decide +kernel) (fun _ => Nat.le_of_ble_eq_true rfl) (L := [(0, .ref 0), (1, .int k), (2, .int t), (3, .int r)]) rfl ?_
  refine zi_iload_n dX12_wouldBe_0 (i := 1) rfl 1 rfl ?_
  refine zcI (zc_S (as := [.int k]) lk_X12_329 ce_X12_isSheet dX12_wouldBe_1 (by decide) rfl rfl (Nat.le_of_ble_eq_true rfl)) ok_X12_isSheet ?_
  refine zi_ifB_eq (tgt := 17) dX12_wouldBe_4 (by decide) (fun c4 => ?_) (fun c4 => ?_)
  · refine zi_iconst (v := (-1)) dX12_wouldBe_17 (by decide) ?_
    refine zi_retI rfl rfl dX12_wouldBe_18 ?_
    rfl
  · refine zi_iload_n dX12_wouldBe_7 (i := 3) rfl 3 rfl ?_
    refine zi_iconst (v := nI 0) dX12_wouldBe_8 (by decide) ?_
    refine zi_bipush (v := nI 20) dX12_wouldBe_9 (by decide) ?_
    refine zcI (zc_S (as := [.int r, .int (nI 0), .int (nI 20)]) lk_X12_71 ce_X12_in1 dX12_wouldBe_11 (by decide) rfl rfl (Nat.le_of_ble_eq_true rfl)) ok_X12_in1 ?_
    refine zi_ifB_ne (tgt := 19) dX12_wouldBe_14 (by decide) (fun c14 => False.elim (by simp_all)) (fun c14 => ?_)
    refine zi_iconst (v := (-1)) dX12_wouldBe_17 (by decide) ?_
    refine zi_retI rfl rfl dX12_wouldBe_18 ?_
    rfl
set_option maxRecDepth 100000 in
set_option maxHeartbeats 4000000 in
theorem bad_X12_goAll {M : zMem} {σ : Nat → Nat} {k t r : Int32}  (hB : (zin k (nI 0) (nI 3) && zin r (nI 0) (nI 20)) = false) : zOkI zw1 7 mX12_goAll [.ref 0, .int k, .int t, .int r] M (-1) := by
  refine zOk_of (by decide +kernel) (fun _ => Nat.le_of_ble_eq_true rfl) (L := [(0, .ref 0), (1, .int k), (2, .int t), (3, .int r)]) rfl ?_
  refine zi_iload_n dX12_goAll_0 (i := 1) rfl 1 rfl ?_
  refine zcI (zc_S (as := [.int k]) lk_X12_329 ce_X12_isSheet dX12_goAll_1 (by decide) rfl rfl (Nat.le_of_ble_eq_true rfl)) ok_X12_isSheet ?_
  refine zi_ifB_eq (tgt := 17) dX12_goAll_4 (by decide) (fun c4 => ?_) (fun c4 => ?_)
  · refine zi_iconst (v := (-1)) dX12_goAll_17 (by decide) ?_
    refine zi_retI rfl rfl dX12_goAll_18 ?_
    rfl
  · refine zi_iload_n dX12_goAll_7 (i := 3) rfl 3 rfl ?_
    refine zi_iconst (v := nI 0) dX12_goAll_8 (by decide) ?_
    refine zi_bipush (v := nI 20) dX12_goAll_9 (by decide) ?_
    refine zcI (zc_S (as := [.int r, .int (nI 0), .int (nI 20)]) lk_X12_71 ce_X12_in1 dX12_goAll_11 (by decide) rfl rfl (Nat.le_of_ble_eq_true rfl)) ok_X12_in1 ?_
    refine zi_ifB_ne (tgt := 19) dX12_goAll_14 (by decide) (fun c14 => False.elim (by simp_all)) (fun c14 => ?_)
    refine zi_iconst (v := (-1)) dX12_goAll_17 (by decide) ?_
    refine zi_retI rfl rfl dX12_goAll_18 ?_
    rfl
