def zPg (M M' : zMem) : Prop := zFr [0, 7, 8] M M' ∧ ∀ j, (j < 8 ∨ 13 < j) → M' 0 j = M 0 j
theorem zPg_f {M M' : zMem} (h : zPf M M') : zPg M M' := ⟨zFr_mono h.1 (by decide), h.2⟩
theorem zPg_rf (M : zMem) : zPg M M := ⟨zFr_rf _ _, fun _ _ => rfl⟩
theorem zPg_tr {M M1 M2 : zMem} (h1 : zPg M M1) (h2 : zPg M1 M2) : zPg M M2 := ⟨zFr_tr h1.1 h2.1 (fun _ q => q), fun j hj => (h2.2 j hj).trans (h1.2 j hj)⟩
theorem zPg_8 {M M' : zMem} {j : Nat} {x : Int32} (h : zPg M M') : zPg M (zup M' 8 j x) := ⟨zFr_up h.1 (by decide), fun i hi => (zr_c (by decide) rfl).trans (h.2 i hi)⟩
theorem zPs_8 {β : Nat → Nat} {u p o j : Nat} {Ls : List Nat} {M : zMem} {x : Int32} (h : zPs β u p Ls o M) : zPs β u p Ls o (zup M 8 j x) := by
  obtain ⟨⟨a1, a2, a3, a4, a5⟩, ⟨b1, b2, b3, b4⟩, c1, d1, e1, f1⟩ := h
  exact ⟨⟨a1, zr_c (by decide) a2, zr_c (by decide) a3, zr_c (by decide) a4, fun q => zr_c (by decide) (a5 q)⟩, ⟨zr_c (by decide) b1, b2, fun k hk => zr_c (by decide) (b3 k hk), b4⟩, fun k hk => zr_c (by decide) (c1 k hk), zr_c (by decide) d1, fun i hi => zr_c (by decide) (e1 i hi), zr_c (by decide) f1⟩
abbrev gRl : Type := Nat × Nat × List (Nat × Nat × Nat)
def zRl (β : Nat → Nat) (u : Nat) (Ls : List Nat) (r : Nat) (M : zMem) (g : Sum Nat (Nat × gRl)) (x : Int32) (M' : zMem) : Prop := match g with
  | .inl f => x = nI 0 ∧ M' 0 9 = nI f ∧ zPg M M'
  | .inr q => x = nI 1 ∧ zPs β u q.1 (Ls ++ qRxs q.2.2.2) 0 M' ∧ M' 8 (3 * r) = nI q.2.1 ∧ M' 8 (3 * r + 1) = nI q.2.2.1 ∧ M' 8 (3 * r + 2) = nI (Ls ++ qRxs q.2.2.2).length ∧ (∀ j, j < 3 * r → M' 8 j = M 8 j) ∧ zPg M M'
theorem zTk_b {A B : Prop} {x : Int32} {c d : Nat} (h : (c = d → x = nI 1 ∧ A) ∧ (c ≠ d → x = nI 0 ∧ B)) : narrow .boolean (.int x) = .int x := by
  by_cases e : c = d
  · rw [(h.1 e).1]; rfl
  · rw [(h.2 e).1]; rfl
set_option maxRecDepth 100000 in
set_option maxHeartbeats 4000000 in
theorem ok_X12_readsRule {M : zMem} {β : Nat → Nat} {u : Nat} {p o r : Nat} {Ls : List Nat} (hp : zPs β u p Ls o M) (hl : Ls.length ≤ p) (hr : r < 8) : zOkJ zw1 23 mX12_readsRule [.ref 0, .int (nI r)] M (fun x M' => zRl β u Ls r M (gRule β u p) x M') := by
  have hu := hp.2.1.2.1
  have hβ := hp.2.1.2.2.2
  have hok := qTok_ok (p := p) (u := u) hβ
  have hrt := rT_ok hok
  have hg0 : p ≤ qNx β u p := Nat.le_trans (qEnd_ge β u p) (qSk_ge _ _ _)
  have hg1 : qNx β u p ≤ qNx β u (qNx β u p) := Nat.le_trans (qEnd_ge β u _) (qSk_ge _ _ _)
  refine zOk_of (by decide +kernel) (fun _ => Nat.le_of_ble_eq_true rfl) (L := [(0, .ref 0), (1, .int (nI r))]) rfl ?_
  refine zi_iload_n dX12_readsRule_0 (i := 1) rfl 1 rfl ?_
  refine zi_bipush (v := nI 8) dX12_readsRule_1 (by decide) ?_
  refine zi_icmpN_eq (by  omega) (by decide) (tgt := 18) dX12_readsRule_3 (by decide) (fun c3 => False.elim (by omega)) (fun c3 => ?_)
  refine zi_aload_n dX12_readsRule_6 (i := 0) rfl 0 rfl ?_
  refine zi_getI fd_X12_126_X12 rfl cw1_0 rfl dX12_readsRule_7 ?_
  refine zi_top (y := nI (rT (qTok β u p)) - nI 1) ((hp.1.2.2.2.1)) ?_
  refine zi_iconst (v := nI 0) dX12_readsRule_10 (by decide) ?_
  refine zi_iconst (v := nI 5) dX12_readsRule_11 (by decide) ?_
  refine zcI (zc_S (as := [.int (nI (rT (qTok β u p)) - nI 1), .int (nI 0), .int (nI 5)]) lk_X12_71 ce_X12_in1 dX12_readsRule_12 (by decide) rfl rfl (Nat.le_of_ble_eq_true rfl)) (zOkI_eq ok_X12_in1 (congrArg zb (zin_pred (by omega) (by decide) (by decide)))) ?_
  refine zi_ifB_ne (tgt := 20) dX12_readsRule_15 (by decide) (fun c15 => ?_) (fun c15 => ?_)
  · have hc15 := of_decide_eq_true c15
    have htk : 10000 ≤ qTok β u p ∧ qTok β u p ≤ 10005 := by omega
    refine zi_aload_n dX12_readsRule_20 (i := 0) rfl 0 rfl ?_
    refine zi_getR fd_X12_32_X12 rfl cw1_0 rfl dX12_readsRule_21 ?_
    refine zi_iconst (v := nI 3) dX12_readsRule_24 (by decide) ?_
    refine zi_iload_n dX12_readsRule_25 (i := 1) rfl 1 rfl ?_
    refine zi_imulN dX12_readsRule_26 ?_
    refine zi_aload_n dX12_readsRule_27 (i := 0) rfl 0 rfl ?_
    refine zi_getI fd_X12_126_X12 rfl cw1_0 rfl dX12_readsRule_28 ?_
    refine zi_top (y := nI (rT (qTok β u p)) - nI 1) ((hp.1.2.2.2.1)) ?_
    refine zi_top (y := nI (qTok β u p - 10000)) ((pk_sub (by omega : 1 ≤ rT (qTok β u p))).trans (congrArg nI (by omega))) ?_
    refine zi_iastN cw1_8 (by omega) (by decide) dX12_readsRule_31 ?_
    refine zi_aload_n dX12_readsRule_32 (i := 0) rfl 0 rfl ?_
    have hp1 : zPs β u p Ls o (zup M 8 (3 * r) (nI (qTok β u p - 10000))) := zPs_8 hp
    refine zcV (zc_V (as := []) lk_X12_142 ce_X12_next cw1_0 rfl rfl dX12_readsRule_33 (by decide) rfl rfl (Nat.le_of_ble_eq_true rfl)) (ok_X12_next hp1.2.1 hp1.2.2.1 hp1.1.2.2.1 (qEnd_le hp1.1.1)) (fun M33 h33 => ?_)
    obtain ⟨hna, hnb⟩ := zPs_next (p' := qNx β u p) hp1 h33.1 h33.2
    refine zi_aload_n dX12_readsRule_36 (i := 0) rfl 0 rfl ?_
    refine zi_iconst (v := nI 0) dX12_readsRule_37 (by decide) ?_
    refine zi_putI fd_X12_156_X12 fp_X12_12 rfl cw1_0 rfl rfl dX12_readsRule_38 ?_
    refine zi_aload_n dX12_readsRule_41 (i := 0) rfl 0 rfl ?_
    refine zi_bipush (v := nI 9) dX12_readsRule_42 (by decide) ?_
    obtain ⟨ho1, ho2⟩ := zPs_open (o' := 0) hna
    refine zcJ (zc_V (as := [.int (nI 9)]) lk_X12_162 ce_X12_takes cw1_0 rfl rfl dX12_readsRule_44 (by decide) rfl rfl (Nat.le_of_ble_eq_true rfl)) (ok_X12_takes ho1 (by decide) rT_if) (fun x44 M44 h44 => ?_)
    refine zi_if_eq (tgt := 59) dX12_readsRule_47 (by decide) (fun c47 => ?_) (fun c47 => ?_)
    · have hne : qTok β u (qNx β u p) ≠ 10009 := fun z => absurd ((h44.1 z).1.symm.trans c47) (by decide)
      obtain ⟨-, hm44⟩ := h44.2 hne
      obtain ⟨q, hq⟩ : ∃ q : Nat × List (Nat × Nat × Nat), q = (qNx β u p, []) := ⟨_, rfl⟩
      have hsel : (if qTok β u (qNx β u p) = 10009 then gAny β u (gGrp β u 3) (qNx β u (qNx β u p)) else (.inr (qNx β u p, []) : qRes)) = .inr q := by rw [if_neg hne, hq]
      have hs : zPs β u q.1 (Ls ++ qRxs q.2) 0 M44 := by rw [hm44, hq]; show zPs β u (qNx β u p) (Ls ++ []) 0 _; rw [List.append_nil]; exact ho1
      have hfq : zPf (zup M 8 (3 * r) (nI (qTok β u p - 10000))) M44 := by rw [hm44]; exact zPf_tr hnb ho2
      have hrt2 := rT_ok (qTok_ok (p := q.1) (u := u) hβ)
      refine zi_aload_n dX12_readsRule_59 (i := 0) rfl 0 rfl ?_
      refine zi_getI fd_X12_126_X12 rfl cw1_0 rfl dX12_readsRule_60 ?_
      refine zi_top (y := nI (rT (qTok β u q.1)) - nI 1) ((hs.1.2.2.2.1)) ?_
      refine zi_bipush (v := nI 6) dX12_readsRule_63 (by decide) ?_
      refine zi_bipush (v := nI 8) dX12_readsRule_65 (by decide) ?_
      refine zcI (zc_S (as := [.int (nI (rT (qTok β u q.1)) - nI 1), .int (nI 6), .int (nI 8)]) lk_X12_71 ce_X12_in1 dX12_readsRule_67 (by decide) rfl rfl (Nat.le_of_ble_eq_true rfl)) (zOkI_eq ok_X12_in1 (congrArg zb (zin_pred (by omega) (by decide) (by decide)))) ?_
      refine zi_ifB_ne (tgt := 75) dX12_readsRule_70 (by decide) (fun c70 => ?_) (fun c70 => ?_)
      · have hc70 := of_decide_eq_true c70
        have htk2 : 10006 ≤ qTok β u q.1 ∧ qTok β u q.1 ≤ 10008 := by omega
        refine zi_aload_n dX12_readsRule_75 (i := 0) rfl 0 rfl ?_
        refine zi_getR fd_X12_32_X12 rfl cw1_0 rfl dX12_readsRule_76 ?_
        refine zi_iconst (v := nI 3) dX12_readsRule_79 (by decide) ?_
        refine zi_iload_n dX12_readsRule_80 (i := 1) rfl 1 rfl ?_
        refine zi_imulN dX12_readsRule_81 ?_
        refine zi_iconst (v := nI 1) dX12_readsRule_82 (by decide) ?_
        refine zi_iaddN dX12_readsRule_83 ?_
        refine zi_aload_n dX12_readsRule_84 (i := 0) rfl 0 rfl ?_
        refine zi_getI fd_X12_126_X12 rfl cw1_0 rfl dX12_readsRule_85 ?_
        refine zi_top (y := nI (rT (qTok β u q.1)) - nI 1) ((hs.1.2.2.2.1)) ?_
        refine zi_top (y := nI (qTok β u q.1 - 10000)) ((pk_sub (by omega : 1 ≤ rT (qTok β u q.1))).trans (congrArg nI (by omega))) ?_
        refine zi_bipush (v := nI 6) dX12_readsRule_88 (by decide) ?_
        refine zi_isubN (by omega) dX12_readsRule_90 ?_
        refine zi_iastN cw1_8 (by omega) (by decide) dX12_readsRule_91 ?_
        refine zi_aload_n dX12_readsRule_92 (i := 0) rfl 0 rfl ?_
        refine zi_getR fd_X12_32_X12 rfl cw1_0 rfl dX12_readsRule_93 ?_
        refine zi_iconst (v := nI 3) dX12_readsRule_96 (by decide) ?_
        refine zi_iload_n dX12_readsRule_97 (i := 1) rfl 1 rfl ?_
        refine zi_imulN dX12_readsRule_98 ?_
        refine zi_iconst (v := nI 2) dX12_readsRule_99 (by decide) ?_
        refine zi_iaddN dX12_readsRule_100 ?_
        refine zi_aload_n dX12_readsRule_101 (i := 0) rfl 0 rfl ?_
        refine zi_getI fd_X12_145_X12 rfl cw1_0 rfl dX12_readsRule_102 ?_
        refine zi_top (y := nI ((Ls ++ qRxs q.2).length)) ((zr_c (by decide) (hs.2.2.2.1))) ?_
        refine zi_iastN cw1_8 (by omega) (by decide) dX12_readsRule_105 ?_
        refine zi_aload_n dX12_readsRule_106 (i := 0) rfl 0 rfl ?_
        have hs2 : zPs β u q.1 (Ls ++ qRxs q.2) 0 (zup (zup M44 8 (3 * r + 1) (nI ((qTok β u q.1 - 10000) - 6))) 8 (3 * r + 2) (nI ((Ls ++ qRxs q.2).length))) := zPs_8 (zPs_8 hs)
        refine zcV (zc_V (as := []) lk_X12_142 ce_X12_next cw1_0 rfl rfl dX12_readsRule_107 (by decide) rfl rfl (Nat.le_of_ble_eq_true rfl)) (ok_X12_next hs2.2.1 hs2.2.2.1 hs2.1.2.2.1 (qEnd_le hs2.1.1)) (fun M107 h107 => ?_)
        obtain ⟨hma, hmb⟩ := zPs_next (p' := qNx β u q.1) hs2 h107.1 h107.2
        refine zi_aload_n dX12_readsRule_110 (i := 0) rfl 0 rfl ?_
        refine zi_sipush (v := nI 259) dX12_readsRule_111 (by decide) ?_
        refine zcJ (zc_V (as := [.int (nI 259)]) lk_X12_162 ce_X12_takes cw1_0 rfl rfl dX12_readsRule_114 (by decide) rfl rfl (Nat.le_of_ble_eq_true rfl)) (ok_X12_takes hma (by decide) rT_sem) (fun x114 M114 h114 => ?_)
        refine zi_retJ rfl (zTk_b h114) dX12_readsRule_117 ?_
        unfold gRule
        rw [if_pos htk, hsel]
        dsimp only
        rw [if_pos htk2]
        have h8 : ∀ {Mz : zMem}, zPf (zup (zup M44 8 (3 * r + 1) (nI ((qTok β u q.1 - 10000) - 6))) 8 (3 * r + 2) (nI ((Ls ++ qRxs q.2).length))) Mz → Mz 8 = (zup (zup M44 8 (3 * r + 1) (nI ((qTok β u q.1 - 10000) - 6))) 8 (3 * r + 2) (nI ((Ls ++ qRxs q.2).length))) 8 := fun hz => hz.1 8 (by decide)
        have hcell : ∀ {Mz : zMem}, zPf (zup (zup M44 8 (3 * r + 1) (nI ((qTok β u q.1 - 10000) - 6))) 8 (3 * r + 2) (nI ((Ls ++ qRxs q.2).length))) Mz → zPg M Mz ∧ Mz 8 (3 * r) = nI (qTok β u p - 10000) ∧ Mz 8 (3 * r + 1) = nI (qTok β u q.1 - 10006) ∧ Mz 8 (3 * r + 2) = nI (Ls ++ qRxs q.2).length ∧ ∀ j, j < 3 * r → Mz 8 j = M 8 j := fun {Mz} hz => by
          have hb8 : M44 8 = (zup M 8 (3 * r) (nI (qTok β u p - 10000))) 8 := hfq.1 8 (by decide)
          have e9 : qTok β u q.1 - 10000 - 6 = qTok β u q.1 - 10006 := by omega
          refine ⟨zPg_tr (zPg_tr (zPg_8 (zPg_rf M)) (zPg_8 (zPg_8 (zPg_f hfq)))) (zPg_f hz), ?_, ?_, ?_, fun j hj => ?_⟩
          · rw [h8 hz, zr_j (by omega) rfl, zr_j (by omega) rfl, hb8, zr_h]
          · rw [h8 hz, zr_j (by omega) rfl, zr_h, e9]
          · rw [h8 hz, zr_h]
          · rw [h8 hz, zr_j (by omega) rfl, zr_j (by omega) rfl, hb8, zr_j (by omega) rfl]
        by_cases h9 : qTok β u (qNx β u q.1) = 20059
        · rw [if_pos h9]
          obtain ⟨e1, e2, e3⟩ := h114.1 h9
          obtain ⟨k0, k1, k2, k3, k4⟩ := hcell (zPf_tr hmb e3)
          exact ⟨e1, e2, k1, k2, k3, k4, k0⟩
        · rw [if_neg h9]
          obtain ⟨e1, e2⟩ := h114.2 h9
          rw [e2]
          exact ⟨e1, hma.1.2.1, (hcell hmb).1⟩
      · have hc70 := of_decide_eq_false c70
        have htk2 : ¬ (10006 ≤ qTok β u q.1 ∧ qTok β u q.1 ≤ 10008) := by omega
        refine zi_iconst (v := nI 0) dX12_readsRule_73 (by decide) ?_
        refine zi_retJ rfl rfl dX12_readsRule_74 ?_
        unfold gRule
        first
        | (rw [if_neg (by first | omega | assumption)]; exact ⟨rfl, hp.1.2.1, zPg_rf _⟩)
        | (rw [if_pos htk, hsel]; exact ⟨rfl, h51.2.1, zPg_tr (zPg_8 (zPg_rf M)) (zPg_f (zPf_tr hnb (zPf_tr ho2 (zPf_tr hf44 h51.2.2))))⟩)
        | (rw [if_pos htk, hsel]; dsimp only; rw [if_neg (by first | omega | assumption)]; exact ⟨rfl, hs.1.2.1, zPg_tr (zPg_8 (zPg_rf M)) (zPg_f hfq)⟩)
    · have heq : qTok β u (qNx β u p) = 10009 := Decidable.byContradiction fun z => c47 ((h44.2 z).1.trans nI_0)
      obtain ⟨-, hs44, hf44⟩ := h44.1 heq
      refine zi_aload_n dX12_readsRule_50 (i := 0) rfl 0 rfl ?_
      refine zcJ (zc_V (as := []) lk_X12_159 ce_X12_readsCondition cw1_0 rfl rfl dX12_readsRule_51 (by decide) rfl rfl (Nat.le_of_ble_eq_true rfl)) (ok_X12_condition M44 (qNx β u (qNx β u p)) Ls hs44 (by omega)) (fun x51 M51 h51 => ?_)
      refine zi_if_ne (tgt := 59) dX12_readsRule_54 (by decide) (fun c54 => ?_) (fun c54 => ?_)
      · obtain ⟨q, hq⟩ := zPr_1 h51 c54
        have hsel : (if qTok β u (qNx β u p) = 10009 then gAny β u (gGrp β u 3) (qNx β u (qNx β u p)) else (.inr (qNx β u p, []) : qRes)) = .inr q := by rw [if_pos heq, hq]
        rw [hq] at h51
        have hs := h51.2.1
        have hfq : zPf (zup M 8 (3 * r) (nI (qTok β u p - 10000))) M51 := zPf_tr hnb (zPf_tr ho2 (zPf_tr hf44 h51.2.2))
        have hrt2 := rT_ok (qTok_ok (p := q.1) (u := u) hβ)
        refine zi_aload_n dX12_readsRule_59 (i := 0) rfl 0 rfl ?_
        refine zi_getI fd_X12_126_X12 rfl cw1_0 rfl dX12_readsRule_60 ?_
        refine zi_top (y := nI (rT (qTok β u q.1)) - nI 1) ((hs.1.2.2.2.1)) ?_
        refine zi_bipush (v := nI 6) dX12_readsRule_63 (by decide) ?_
        refine zi_bipush (v := nI 8) dX12_readsRule_65 (by decide) ?_
        refine zcI (zc_S (as := [.int (nI (rT (qTok β u q.1)) - nI 1), .int (nI 6), .int (nI 8)]) lk_X12_71 ce_X12_in1 dX12_readsRule_67 (by decide) rfl rfl (Nat.le_of_ble_eq_true rfl)) (zOkI_eq ok_X12_in1 (congrArg zb (zin_pred (by omega) (by decide) (by decide)))) ?_
        refine zi_ifB_ne (tgt := 75) dX12_readsRule_70 (by decide) (fun c70 => ?_) (fun c70 => ?_)
        · have hc70 := of_decide_eq_true c70
          have htk2 : 10006 ≤ qTok β u q.1 ∧ qTok β u q.1 ≤ 10008 := by omega
          refine zi_aload_n dX12_readsRule_75 (i := 0) rfl 0 rfl ?_
          refine zi_getR fd_X12_32_X12 rfl cw1_0 rfl dX12_readsRule_76 ?_
          refine zi_iconst (v := nI 3) dX12_readsRule_79 (by decide) ?_
          refine zi_iload_n dX12_readsRule_80 (i := 1) rfl 1 rfl ?_
          refine zi_imulN dX12_readsRule_81 ?_
          refine zi_iconst (v := nI 1) dX12_readsRule_82 (by decide) ?_
          refine zi_iaddN dX12_readsRule_83 ?_
          refine zi_aload_n dX12_readsRule_84 (i := 0) rfl 0 rfl ?_
          refine zi_getI fd_X12_126_X12 rfl cw1_0 rfl dX12_readsRule_85 ?_
          refine zi_top (y := nI (rT (qTok β u q.1)) - nI 1) ((hs.1.2.2.2.1)) ?_
          refine zi_top (y := nI (qTok β u q.1 - 10000)) ((pk_sub (by omega : 1 ≤ rT (qTok β u q.1))).trans (congrArg nI (by omega))) ?_
          refine zi_bipush (v := nI 6) dX12_readsRule_88 (by decide) ?_
          refine zi_isubN (by omega) dX12_readsRule_90 ?_
          refine zi_iastN cw1_8 (by omega) (by decide) dX12_readsRule_91 ?_
          refine zi_aload_n dX12_readsRule_92 (i := 0) rfl 0 rfl ?_
          refine zi_getR fd_X12_32_X12 rfl cw1_0 rfl dX12_readsRule_93 ?_
          refine zi_iconst (v := nI 3) dX12_readsRule_96 (by decide) ?_
          refine zi_iload_n dX12_readsRule_97 (i := 1) rfl 1 rfl ?_
          refine zi_imulN dX12_readsRule_98 ?_
          refine zi_iconst (v := nI 2) dX12_readsRule_99 (by decide) ?_
          refine zi_iaddN dX12_readsRule_100 ?_
          refine zi_aload_n dX12_readsRule_101 (i := 0) rfl 0 rfl ?_
          refine zi_getI fd_X12_145_X12 rfl cw1_0 rfl dX12_readsRule_102 ?_
          refine zi_top (y := nI ((Ls ++ qRxs q.2).length)) ((zr_c (by decide) (hs.2.2.2.1))) ?_
          refine zi_iastN cw1_8 (by omega) (by decide) dX12_readsRule_105 ?_
          refine zi_aload_n dX12_readsRule_106 (i := 0) rfl 0 rfl ?_
          have hs2 : zPs β u q.1 (Ls ++ qRxs q.2) 0 (zup (zup M51 8 (3 * r + 1) (nI ((qTok β u q.1 - 10000) - 6))) 8 (3 * r + 2) (nI ((Ls ++ qRxs q.2).length))) := zPs_8 (zPs_8 hs)
          refine zcV (zc_V (as := []) lk_X12_142 ce_X12_next cw1_0 rfl rfl dX12_readsRule_107 (by decide) rfl rfl (Nat.le_of_ble_eq_true rfl)) (ok_X12_next hs2.2.1 hs2.2.2.1 hs2.1.2.2.1 (qEnd_le hs2.1.1)) (fun M107 h107 => ?_)
          obtain ⟨hma, hmb⟩ := zPs_next (p' := qNx β u q.1) hs2 h107.1 h107.2
          refine zi_aload_n dX12_readsRule_110 (i := 0) rfl 0 rfl ?_
          refine zi_sipush (v := nI 259) dX12_readsRule_111 (by decide) ?_
          refine zcJ (zc_V (as := [.int (nI 259)]) lk_X12_162 ce_X12_takes cw1_0 rfl rfl dX12_readsRule_114 (by decide) rfl rfl (Nat.le_of_ble_eq_true rfl)) (ok_X12_takes hma (by decide) rT_sem) (fun x114 M114 h114 => ?_)
          refine zi_retJ rfl (zTk_b h114) dX12_readsRule_117 ?_
          unfold gRule
          rw [if_pos htk, hsel]
          dsimp only
          rw [if_pos htk2]
          have h8 : ∀ {Mz : zMem}, zPf (zup (zup M51 8 (3 * r + 1) (nI ((qTok β u q.1 - 10000) - 6))) 8 (3 * r + 2) (nI ((Ls ++ qRxs q.2).length))) Mz → Mz 8 = (zup (zup M51 8 (3 * r + 1) (nI ((qTok β u q.1 - 10000) - 6))) 8 (3 * r + 2) (nI ((Ls ++ qRxs q.2).length))) 8 := fun hz => hz.1 8 (by decide)
          have hcell : ∀ {Mz : zMem}, zPf (zup (zup M51 8 (3 * r + 1) (nI ((qTok β u q.1 - 10000) - 6))) 8 (3 * r + 2) (nI ((Ls ++ qRxs q.2).length))) Mz → zPg M Mz ∧ Mz 8 (3 * r) = nI (qTok β u p - 10000) ∧ Mz 8 (3 * r + 1) = nI (qTok β u q.1 - 10006) ∧ Mz 8 (3 * r + 2) = nI (Ls ++ qRxs q.2).length ∧ ∀ j, j < 3 * r → Mz 8 j = M 8 j := fun {Mz} hz => by
            have hb8 : M51 8 = (zup M 8 (3 * r) (nI (qTok β u p - 10000))) 8 := hfq.1 8 (by decide)
            have e9 : qTok β u q.1 - 10000 - 6 = qTok β u q.1 - 10006 := by omega
            refine ⟨zPg_tr (zPg_tr (zPg_8 (zPg_rf M)) (zPg_8 (zPg_8 (zPg_f hfq)))) (zPg_f hz), ?_, ?_, ?_, fun j hj => ?_⟩
            · rw [h8 hz, zr_j (by omega) rfl, zr_j (by omega) rfl, hb8, zr_h]
            · rw [h8 hz, zr_j (by omega) rfl, zr_h, e9]
            · rw [h8 hz, zr_h]
            · rw [h8 hz, zr_j (by omega) rfl, zr_j (by omega) rfl, hb8, zr_j (by omega) rfl]
          by_cases h9 : qTok β u (qNx β u q.1) = 20059
          · rw [if_pos h9]
            obtain ⟨e1, e2, e3⟩ := h114.1 h9
            obtain ⟨k0, k1, k2, k3, k4⟩ := hcell (zPf_tr hmb e3)
            exact ⟨e1, e2, k1, k2, k3, k4, k0⟩
          · rw [if_neg h9]
            obtain ⟨e1, e2⟩ := h114.2 h9
            rw [e2]
            exact ⟨e1, hma.1.2.1, (hcell hmb).1⟩
        · have hc70 := of_decide_eq_false c70
          have htk2 : ¬ (10006 ≤ qTok β u q.1 ∧ qTok β u q.1 ≤ 10008) := by omega
          refine zi_iconst (v := nI 0) dX12_readsRule_73 (by decide) ?_
          refine zi_retJ rfl rfl dX12_readsRule_74 ?_
          unfold gRule
          first
          | (rw [if_neg (by first | omega | assumption)]; exact ⟨rfl, hp.1.2.1, zPg_rf _⟩)
          | (rw [if_pos htk, hsel]; exact ⟨rfl, h51.2.1, zPg_tr (zPg_8 (zPg_rf M)) (zPg_f (zPf_tr hnb (zPf_tr ho2 (zPf_tr hf44 h51.2.2))))⟩)
          | (rw [if_pos htk, hsel]; dsimp only; rw [if_neg (by first | omega | assumption)]; exact ⟨rfl, hs.1.2.1, zPg_tr (zPg_8 (zPg_rf M)) (zPg_f hfq)⟩)
      · obtain ⟨f, hf⟩ := zPr_0 h51 c54
        have hsel : (if qTok β u (qNx β u p) = 10009 then gAny β u (gGrp β u 3) (qNx β u (qNx β u p)) else (.inr (qNx β u p, []) : qRes)) = .inl f := by rw [if_pos heq, hf]
        rw [hf] at h51
        refine zi_iconst (v := nI 0) dX12_readsRule_57 (by decide) ?_
        refine zi_retJ rfl rfl dX12_readsRule_58 ?_
        unfold gRule
        first
        | (rw [if_neg (by first | omega | assumption)]; exact ⟨rfl, hp.1.2.1, zPg_rf _⟩)
        | (rw [if_pos htk, hsel]; exact ⟨rfl, h51.2.1, zPg_tr (zPg_8 (zPg_rf M)) (zPg_f (zPf_tr hnb (zPf_tr ho2 (zPf_tr hf44 h51.2.2))))⟩)
        | (rw [if_pos htk, hsel]; dsimp only; rw [if_neg (by first | omega | assumption)]; exact ⟨rfl, hs.1.2.1, zPg_tr (zPg_8 (zPg_rf M)) (zPg_f hfq)⟩)
  · have hc15 := of_decide_eq_false c15
    have htk : ¬ (10000 ≤ qTok β u p ∧ qTok β u p ≤ 10005) := by omega
    refine zi_iconst (v := nI 0) dX12_readsRule_18 (by decide) ?_
    refine zi_retJ rfl rfl dX12_readsRule_19 ?_
    unfold gRule
    first
    | (rw [if_neg (by first | omega | assumption)]; exact ⟨rfl, hp.1.2.1, zPg_rf _⟩)
    | (rw [if_pos htk, hsel]; exact ⟨rfl, h51.2.1, zPg_tr (zPg_8 (zPg_rf M)) (zPg_f (zPf_tr hnb (zPf_tr ho2 (zPf_tr hf44 h51.2.2))))⟩)
    | (rw [if_pos htk, hsel]; dsimp only; rw [if_neg (by first | omega | assumption)]; exact ⟨rfl, hs.1.2.1, zPg_tr (zPg_8 (zPg_rf M)) (zPg_f hfq)⟩)
set_option maxRecDepth 100000 in
set_option maxHeartbeats 4000000 in
theorem full_X12_readsRule {M : zMem}   : zOkJ zw1 23 mX12_readsRule [.ref 0, .int (nI 8)] M (fun x M' => x = nI 0 ∧ M' = M) := by
  refine zOk_of (by decide +kernel) (fun _ => Nat.le_of_ble_eq_true rfl) (L := [(0, .ref 0), (1, .int (nI 8))]) rfl ?_
  refine zi_iload_n dX12_readsRule_0 (i := 1) rfl 1 rfl ?_
  refine zi_bipush (v := nI 8) dX12_readsRule_1 (by decide) ?_
  refine zi_icmpN_eq (by decide) (by decide) (tgt := 18) dX12_readsRule_3 (by decide) (fun _ => ?_) (fun c => absurd c (by decide))
  refine zi_iconst (v := nI 0) dX12_readsRule_18 (by decide) ?_
  refine zi_retJ rfl rfl dX12_readsRule_19 ?_
  exact ⟨rfl, rfl⟩
