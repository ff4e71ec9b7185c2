def zFi (lo hi : Nat) (M M' : zMem) : Prop := ∀ a, (a < lo ∨ hi < a) → M' a = M a
/-- a whole village of the class: its houses and nights, its rules, its reports -/
def zVa (v : Nat) (M : zMem) (σ : Nat → Nat) (R : List gRl) : Prop := zV v M σ ∧ zRC (v + 9) M R ∧ zRp (v + 17) M σ
set_option maxRecDepth 100000 in
set_option maxHeartbeats 4000000 in
theorem ok_X10_become_37_14 {M : zMem} {σ : Nat → Nat} {R : List gRl} (hv : zV 14 M σ) (hk : qOk σ) (hR : zRC 23 M R) (hW : gWF R) (hp : zRp 31 M σ) : zOkV zw0 2 mX10_become [.ref 37, .ref 14] M (fun M' => zVa 37 M' σ R ∧ M' 37 16 = M 14 16 ∧ M' 37 17 = M 14 17 ∧ zFi 37 58 M M') := by
  refine zOk_of (by decide +kernel) (fun _ => Nat.le_of_ble_eq_true rfl) (L := [(0, .ref 37), (1, .ref 14)]) rfl ?_
  refine zi_aload_n dX10_become_0 (i := 1) rfl 1 rfl ?_
  refine zi_getR fd_X10_9_X10 rfl cw0_14 rfl dX10_become_1 ?_
  refine zi_iconst (v := nI 0) dX10_become_4 (by decide) ?_
  refine zi_aload_n dX10_become_5 (i := 0) rfl 0 rfl ?_
  refine zi_getR fd_X10_9_X10 rfl cw0_37 rfl dX10_become_6 ?_
  refine zi_iconst (v := nI 0) dX10_become_9 (by decide) ?_
  refine zi_bipush (v := nI 6) dX10_become_10 (by decide) ?_
  refine zi_copy jl_X10_66 cw0_15 cw0_38 (by decide) (by decide) (by decide) dX10_become_12 (Nat.le_of_ble_eq_true rfl) ?_
  generalize hC12 : zsetF M 38 (va_cpy (M 15) (M 38) 0 0 6) = C12
  refine zi_aload_n dX10_become_15 (i := 1) rfl 1 rfl ?_
  refine zi_getR fd_X10_15_X10 rfl cw0_14 rfl dX10_become_16 ?_
  refine zi_iconst (v := nI 0) dX10_become_19 (by decide) ?_
  refine zi_aload_n dX10_become_20 (i := 0) rfl 0 rfl ?_
  refine zi_getR fd_X10_15_X10 rfl cw0_37 rfl dX10_become_21 ?_
  refine zi_iconst (v := nI 0) dX10_become_24 (by decide) ?_
  refine zi_bipush (v := nI 6) dX10_become_25 (by decide) ?_
  refine zi_copy jl_X10_66 cw0_16 cw0_39 (by decide) (by decide) (by decide) dX10_become_27 (Nat.le_of_ble_eq_true rfl) ?_
  generalize hC27 : zsetF C12 39 (va_cpy (C12 16) (C12 39) 0 0 6) = C27
  refine zi_aload_n dX10_become_30 (i := 1) rfl 1 rfl ?_
  refine zi_getR fd_X10_18_X10 rfl cw0_14 rfl dX10_become_31 ?_
  refine zi_iconst (v := nI 0) dX10_become_34 (by decide) ?_
  refine zi_aload_n dX10_become_35 (i := 0) rfl 0 rfl ?_
  refine zi_getR fd_X10_18_X10 rfl cw0_37 rfl dX10_become_36 ?_
  refine zi_iconst (v := nI 0) dX10_become_39 (by decide) ?_
  refine zi_bipush (v := nI 6) dX10_become_40 (by decide) ?_
  refine zi_copy jl_X10_66 cw0_17 cw0_40 (by decide) (by decide) (by decide) dX10_become_42 (Nat.le_of_ble_eq_true rfl) ?_
  generalize hC42 : zsetF C27 40 (va_cpy (C27 17) (C27 40) 0 0 6) = C42
  refine zi_aload_n dX10_become_45 (i := 1) rfl 1 rfl ?_
  refine zi_getR fd_X10_21_X10 rfl cw0_14 rfl dX10_become_46 ?_
  refine zi_iconst (v := nI 0) dX10_become_49 (by decide) ?_
  refine zi_aload_n dX10_become_50 (i := 0) rfl 0 rfl ?_
  refine zi_getR fd_X10_21_X10 rfl cw0_37 rfl dX10_become_51 ?_
  refine zi_iconst (v := nI 0) dX10_become_54 (by decide) ?_
  refine zi_bipush (v := nI 6) dX10_become_55 (by decide) ?_
  refine zi_copy jl_X10_66 cw0_18 cw0_41 (by decide) (by decide) (by decide) dX10_become_57 (Nat.le_of_ble_eq_true rfl) ?_
  generalize hC57 : zsetF C42 41 (va_cpy (C42 18) (C42 41) 0 0 6) = C57
  refine zi_aload_n dX10_become_60 (i := 1) rfl 1 rfl ?_
  refine zi_getR fd_X10_24_X10 rfl cw0_14 rfl dX10_become_61 ?_
  refine zi_iconst (v := nI 0) dX10_become_64 (by decide) ?_
  refine zi_aload_n dX10_become_65 (i := 0) rfl 0 rfl ?_
  refine zi_getR fd_X10_24_X10 rfl cw0_37 rfl dX10_become_66 ?_
  refine zi_iconst (v := nI 0) dX10_become_69 (by decide) ?_
  refine zi_bipush (v := nI 6) dX10_become_70 (by decide) ?_
  refine zi_copy jl_X10_66 cw0_19 cw0_42 (by decide) (by decide) (by decide) dX10_become_72 (Nat.le_of_ble_eq_true rfl) ?_
  generalize hC72 : zsetF C57 42 (va_cpy (C57 19) (C57 42) 0 0 6) = C72
  refine zi_aload_n dX10_become_75 (i := 1) rfl 1 rfl ?_
  refine zi_getR fd_X10_27_X10 rfl cw0_14 rfl dX10_become_76 ?_
  refine zi_iconst (v := nI 0) dX10_become_79 (by decide) ?_
  refine zi_aload_n dX10_become_80 (i := 0) rfl 0 rfl ?_
  refine zi_getR fd_X10_27_X10 rfl cw0_37 rfl dX10_become_81 ?_
  refine zi_iconst (v := nI 0) dX10_become_84 (by decide) ?_
  refine zi_bipush (v := nI 6) dX10_become_85 (by decide) ?_
  refine zi_copy jl_X10_66 cw0_20 cw0_43 (by decide) (by decide) (by decide) dX10_become_87 (Nat.le_of_ble_eq_true rfl) ?_
  generalize hC87 : zsetF C72 43 (va_cpy (C72 20) (C72 43) 0 0 6) = C87
  refine zi_aload_n dX10_become_90 (i := 1) rfl 1 rfl ?_
  refine zi_getR fd_X10_30_X10 rfl cw0_14 rfl dX10_become_91 ?_
  refine zi_iconst (v := nI 0) dX10_become_94 (by decide) ?_
  refine zi_aload_n dX10_become_95 (i := 0) rfl 0 rfl ?_
  refine zi_getR fd_X10_30_X10 rfl cw0_37 rfl dX10_become_96 ?_
  refine zi_iconst (v := nI 0) dX10_become_99 (by decide) ?_
  refine zi_bipush (v := nI 6) dX10_become_100 (by decide) ?_
  refine zi_copy jl_X10_66 cw0_21 cw0_44 (by decide) (by decide) (by decide) dX10_become_102 (Nat.le_of_ble_eq_true rfl) ?_
  generalize hC102 : zsetF C87 44 (va_cpy (C87 21) (C87 44) 0 0 6) = C102
  refine zi_aload_n dX10_become_105 (i := 1) rfl 1 rfl ?_
  refine zi_getR fd_X10_33_X10 rfl cw0_14 rfl dX10_become_106 ?_
  refine zi_iconst (v := nI 0) dX10_become_109 (by decide) ?_
  refine zi_aload_n dX10_become_110 (i := 0) rfl 0 rfl ?_
  refine zi_getR fd_X10_33_X10 rfl cw0_37 rfl dX10_become_111 ?_
  refine zi_iconst (v := nI 0) dX10_become_114 (by decide) ?_
  refine zi_bipush (v := nI 16) dX10_become_115 (by decide) ?_
  refine zi_copy jl_X10_66 cw0_22 cw0_45 (by decide) (by decide) (by decide) dX10_become_117 (Nat.le_of_ble_eq_true rfl) ?_
  generalize hC117 : zsetF C102 45 (va_cpy (C102 22) (C102 45) 0 0 16) = C117
  refine zi_aload_n dX10_become_120 (i := 0) rfl 0 rfl ?_
  refine zi_getR fd_X10_39_X10 rfl cw0_37 rfl dX10_become_121 ?_
  refine zi_aload_n dX10_become_124 (i := 1) rfl 1 rfl ?_
  refine zi_getR fd_X10_39_X10 rfl cw0_14 rfl dX10_become_125 ?_
  have q1 : ∀ k, k < 6 → C117 38 k = M 15 k := fun k hk => ((congrFun (zcp_o hC117 (by decide)) k).trans ((congrFun (zcp_o hC102 (by decide)) k).trans ((congrFun (zcp_o hC87 (by decide)) k).trans ((congrFun (zcp_o hC72 (by decide)) k).trans ((congrFun (zcp_o hC57 (by decide)) k).trans ((congrFun (zcp_o hC42 (by decide)) k).trans ((congrFun (zcp_o hC27 (by decide)) k).trans (zcp_h hC12 hk))))))))
  have q2 : ∀ k, k < 6 → C117 39 k = M 16 k := fun k hk => ((congrFun (zcp_o hC117 (by decide)) k).trans ((congrFun (zcp_o hC102 (by decide)) k).trans ((congrFun (zcp_o hC87 (by decide)) k).trans ((congrFun (zcp_o hC72 (by decide)) k).trans ((congrFun (zcp_o hC57 (by decide)) k).trans ((congrFun (zcp_o hC42 (by decide)) k).trans ((zcp_h hC27 hk).trans (congrFun (zcp_o hC12 (by decide)) k))))))))
  have q3 : ∀ k, k < 6 → C117 40 k = M 17 k := fun k hk => ((congrFun (zcp_o hC117 (by decide)) k).trans ((congrFun (zcp_o hC102 (by decide)) k).trans ((congrFun (zcp_o hC87 (by decide)) k).trans ((congrFun (zcp_o hC72 (by decide)) k).trans ((congrFun (zcp_o hC57 (by decide)) k).trans (((zcp_h hC42 hk).trans (congrFun (zcp_o hC27 (by decide)) k)).trans (congrFun (zcp_o hC12 (by decide)) k)))))))
  have q4 : ∀ k, k < 6 → C117 41 k = M 18 k := fun k hk => ((congrFun (zcp_o hC117 (by decide)) k).trans ((congrFun (zcp_o hC102 (by decide)) k).trans ((congrFun (zcp_o hC87 (by decide)) k).trans ((congrFun (zcp_o hC72 (by decide)) k).trans ((((zcp_h hC57 hk).trans (congrFun (zcp_o hC42 (by decide)) k)).trans (congrFun (zcp_o hC27 (by decide)) k)).trans (congrFun (zcp_o hC12 (by decide)) k))))))
  have q5 : ∀ k, k < 6 → C117 42 k = M 19 k := fun k hk => ((congrFun (zcp_o hC117 (by decide)) k).trans ((congrFun (zcp_o hC102 (by decide)) k).trans ((congrFun (zcp_o hC87 (by decide)) k).trans (((((zcp_h hC72 hk).trans (congrFun (zcp_o hC57 (by decide)) k)).trans (congrFun (zcp_o hC42 (by decide)) k)).trans (congrFun (zcp_o hC27 (by decide)) k)).trans (congrFun (zcp_o hC12 (by decide)) k)))))
  have q6 : ∀ k, k < 6 → C117 43 k = M 20 k := fun k hk => ((congrFun (zcp_o hC117 (by decide)) k).trans ((congrFun (zcp_o hC102 (by decide)) k).trans ((((((zcp_h hC87 hk).trans (congrFun (zcp_o hC72 (by decide)) k)).trans (congrFun (zcp_o hC57 (by decide)) k)).trans (congrFun (zcp_o hC42 (by decide)) k)).trans (congrFun (zcp_o hC27 (by decide)) k)).trans (congrFun (zcp_o hC12 (by decide)) k))))
  have q7 : ∀ k, k < 6 → C117 44 k = M 21 k := fun k hk => ((congrFun (zcp_o hC117 (by decide)) k).trans (((((((zcp_h hC102 hk).trans (congrFun (zcp_o hC87 (by decide)) k)).trans (congrFun (zcp_o hC72 (by decide)) k)).trans (congrFun (zcp_o hC57 (by decide)) k)).trans (congrFun (zcp_o hC42 (by decide)) k)).trans (congrFun (zcp_o hC27 (by decide)) k)).trans (congrFun (zcp_o hC12 (by decide)) k)))
  have q8 : ∀ k, k < 16 → C117 45 k = M 22 k := fun k hk => ((((((((zcp_h hC117 hk).trans (congrFun (zcp_o hC102 (by decide)) k)).trans (congrFun (zcp_o hC87 (by decide)) k)).trans (congrFun (zcp_o hC72 (by decide)) k)).trans (congrFun (zcp_o hC57 (by decide)) k)).trans (congrFun (zcp_o hC42 (by decide)) k)).trans (congrFun (zcp_o hC27 (by decide)) k)).trans (congrFun (zcp_o hC12 (by decide)) k))
  have qo : ∀ a, (a < 38 ∨ 45 < a) → C117 a = M a := fun a ha => ((zcp_o hC117 (by omega)).trans ((zcp_o hC102 (by omega)).trans ((zcp_o hC87 (by omega)).trans ((zcp_o hC72 (by omega)).trans ((zcp_o hC57 (by omega)).trans ((zcp_o hC42 (by omega)).trans ((zcp_o hC27 (by omega)).trans (zcp_o hC12 (by omega)))))))))
  refine zcV (zc_V (as := [.ref 23]) lk_X10_72 ce_X7_become cw0_46 rfl rfl dX10_become_128 (by decide) rfl rfl (Nat.le_of_ble_eq_true rfl)) (ok_X7_become_46_23 (zRC_of hR (fun a h1 h2 => qo a (by omega))) hW.1 hW.2.1) (fun M128 h128 => ?_)
  refine zi_aload_n dX10_become_131 (i := 0) rfl 0 rfl ?_
  refine zi_getR fd_X10_46_X10 rfl cw0_37 rfl dX10_become_132 ?_
  refine zi_aload_n dX10_become_135 (i := 1) rfl 1 rfl ?_
  refine zi_getR fd_X10_46_X10 rfl cw0_14 rfl dX10_become_136 ?_
  have qp : ∀ a, (a < 38 ∨ 52 < a) → M128 a = M a := fun a ha => (h128.2 a (by simp; omega)).trans (qo a (by omega))
  refine zcV (zc_V (as := [.ref 31]) lk_X10_76 ce_X5_become cw0_54 rfl rfl dX10_become_139 (by decide) rfl rfl (Nat.le_of_ble_eq_true rfl)) (ok_X5_become_54_31 (zRp_of hp (fun a h1 h2 => qp a (by omega))) hk.2.2.2.2.2.2.2.2.1) (fun M139 h139 => ?_)
  have qq : ∀ a, (a < 38 ∨ 58 < a) → M139 a = M a := fun a ha => (h139.2 a (by simp; omega)).trans (qp a (by omega))
  have qr : ∀ a, 38 ≤ a → a ≤ 45 → M139 a = C117 a := fun a h1 h2 => (h139.2 a (by simp; omega)).trans (h128.2 a (by simp; omega))
  have qz : ∀ a, 46 ≤ a → a ≤ 52 → M139 a = M128 a := fun a h1 h2 => h139.2 a (by simp; omega)
  refine zi_aload_n dX10_become_142 (i := 0) rfl 0 rfl ?_
  refine zi_aload_n dX10_become_143 (i := 1) rfl 1 rfl ?_
  refine zi_getI fd_X10_79_X10 rfl cw0_14 rfl dX10_become_144 ?_
  refine zi_top (y := nI (σ 6)) (((congrFun (qq 14 (by decide)) _).trans (hv.1))) ?_
  refine zi_putI fd_X10_79_X10 fp_X10_10 rfl cw0_37 rfl rfl dX10_become_147 ?_
  refine zi_aload_n dX10_become_150 (i := 0) rfl 0 rfl ?_
  refine zi_aload_n dX10_become_151 (i := 1) rfl 1 rfl ?_
  refine zi_getI fd_X10_82_X10 rfl cw0_14 rfl dX10_become_152 ?_
  refine zi_top (y := nI (qCalled σ)) ((zr_c (by decide) ((congrFun (qq 14 (by decide)) _).trans (hv.2.1)))) ?_
  refine zi_putI fd_X10_82_X10 fp_X10_11 rfl cw0_37 rfl rfl dX10_become_155 ?_
  refine zi_aload_n dX10_become_158 (i := 0) rfl 0 rfl ?_
  refine zi_aload_n dX10_become_159 (i := 1) rfl 1 rfl ?_
  refine zi_getI fd_X10_85_X10 rfl cw0_14 rfl dX10_become_160 ?_
  refine zi_top (y := nI (σ 0)) ((zr_c (by decide) (zr_c (by decide) ((congrFun (qq 14 (by decide)) _).trans (hv.2.2.1))))) ?_
  refine zi_putI fd_X10_85_X10 fp_X10_12 rfl cw0_37 rfl rfl dX10_become_163 ?_
  refine zi_aload_n dX10_become_166 (i := 0) rfl 0 rfl ?_
  refine zi_aload_n dX10_become_167 (i := 1) rfl 1 rfl ?_
  refine zi_getI fd_X10_50_X10 rfl cw0_14 rfl dX10_become_168 ?_
  refine zi_top (y := nI (σ 1)) ((zr_c (by decide) (zr_c (by decide) (zr_c (by decide) ((congrFun (qq 14 (by decide)) _).trans (hv.2.2.2.1)))))) ?_
  refine zi_putI fd_X10_50_X10 fp_X10_13 rfl cw0_37 rfl rfl dX10_become_171 ?_
  refine zi_aload_n dX10_become_174 (i := 0) rfl 0 rfl ?_
  refine zi_aload_n dX10_become_175 (i := 1) rfl 1 rfl ?_
  refine zi_getI fd_X10_88_X10 rfl cw0_14 rfl dX10_become_176 ?_
  refine zi_top (y := nI (σ 3)) ((zr_c (by decide) (zr_c (by decide) (zr_c (by decide) (zr_c (by decide) ((congrFun (qq 14 (by decide)) _).trans (hv.2.2.2.2.1))))))) ?_
  refine zi_putI fd_X10_88_X10 fp_X10_14 rfl cw0_37 rfl rfl dX10_become_179 ?_
  refine zi_aload_n dX10_become_182 (i := 0) rfl 0 rfl ?_
  refine zi_aload_n dX10_become_183 (i := 1) rfl 1 rfl ?_
  refine zi_getI fd_X10_54_X10 rfl cw0_14 rfl dX10_become_184 ?_
  refine zi_top (y := nI (σ 4)) ((zr_c (by decide) (zr_c (by decide) (zr_c (by decide) (zr_c (by decide) (zr_c (by decide) ((congrFun (qq 14 (by decide)) _).trans (hv.2.2.2.2.2.1)))))))) ?_
  refine zi_putI fd_X10_54_X10 fp_X10_15 rfl cw0_37 rfl rfl dX10_become_187 ?_
  refine zi_aload_n dX10_become_190 (i := 0) rfl 0 rfl ?_
  refine zi_aload_n dX10_become_191 (i := 1) rfl 1 rfl ?_
  refine zi_getI fd_X10_91_X10 rfl cw0_14 rfl dX10_become_192 ?_
  refine zi_top (y := M 14 16) ((zr_c (by decide) (zr_c (by decide) (zr_c (by decide) (zr_c (by decide) (zr_c (by decide) (zr_c (by decide) (congrFun (qq 14 (by decide)) _)))))))) ?_
  refine zi_putI fd_X10_91_X10 fp_X10_16 rfl cw0_37 rfl rfl dX10_become_195 ?_
  refine zi_aload_n dX10_become_198 (i := 0) rfl 0 rfl ?_
  refine zi_aload_n dX10_become_199 (i := 1) rfl 1 rfl ?_
  refine zi_getI fd_X10_57_X10 rfl cw0_14 rfl dX10_become_200 ?_
  refine zi_top (y := M 14 17) ((zr_c (by decide) (zr_c (by decide) (zr_c (by decide) (zr_c (by decide) (zr_c (by decide) (zr_c (by decide) (zr_c (by decide) (congrFun (qq 14 (by decide)) _))))))))) ?_
  refine zi_putI fd_X10_57_X10 fp_X10_17 rfl cw0_37 rfl rfl dX10_become_203 ?_
  refine zi_retV rfl dX10_become_206 ?_
  have zc : ∀ (c : Nat), c ≠ 37 → ∀ k, (zup (zup (zup (zup (zup (zup (zup (zup M139 37 10 (nI (σ 6))) 37 11 (nI (qCalled σ))) 37 12 (nI (σ 0))) 37 13 (nI (σ 1))) 37 14 (nI (σ 3))) 37 15 (nI (σ 4))) 37 16 (M 14 16)) 37 17 (M 14 17)) c k = M139 c k := fun c hc k => by rw [zup_other _ _ _ hc]; rw [zup_other _ _ _ hc]; rw [zup_other _ _ _ hc]; rw [zup_other _ _ _ hc]; rw [zup_other _ _ _ hc]; rw [zup_other _ _ _ hc]; rw [zup_other _ _ _ hc]; rw [zup_other _ _ _ hc]
  refine ⟨⟨⟨(zr_j (by decide) (zr_j (by decide) (zr_j (by decide) (zr_j (by decide) (zr_j (by decide) (zr_j (by decide) (zr_j (by decide) zr_h))))))), (zr_j (by decide) (zr_j (by decide) (zr_j (by decide) (zr_j (by decide) (zr_j (by decide) (zr_j (by decide) zr_h)))))), (zr_j (by decide) (zr_j (by decide) (zr_j (by decide) (zr_j (by decide) (zr_j (by decide) zr_h))))), (zr_j (by decide) (zr_j (by decide) (zr_j (by decide) (zr_j (by decide) zr_h)))), (zr_j (by decide) (zr_j (by decide) (zr_j (by decide) zr_h))), (zr_j (by decide) (zr_j (by decide) zr_h)), fun k hk6 => ?_, fun k hk1 hk6 => ?_, fun k hk6 => ?_, fun k hk6 => ?_⟩, ?_, ?_⟩, (zr_j (by decide) zr_h), zr_h, fun a ha => ?_⟩
  · have h66 := hk.2.1
    obtain ⟨x1, x2, x3, x4, x5, x6⟩ := zV_h hv hk6
    refine ⟨?_, ?_, ?_, ?_, ?_, x6⟩
    · exact (zc 38 (by decide) k).trans ((congrFun (qr 38 (by decide) (by decide)) k).trans ((q1 k (by omega)).trans x1))
    · exact (zc 39 (by decide) k).trans ((congrFun (qr 39 (by decide) (by decide)) k).trans ((q2 k (by omega)).trans x2))
    · exact (zc 40 (by decide) k).trans ((congrFun (qr 40 (by decide) (by decide)) k).trans ((q3 k (by omega)).trans x3))
    · exact (zc 41 (by decide) k).trans ((congrFun (qr 41 (by decide) (by decide)) k).trans ((q4 k (by omega)).trans x4))
    · exact (zc 42 (by decide) k).trans ((congrFun (qr 42 (by decide) (by decide)) k).trans ((q5 k (by omega)).trans x5))
  · exact (zc 42 (by decide) k).trans ((congrFun (qr 42 (by decide) (by decide)) k).trans ((q5 k hk6).trans (hv.2.2.2.2.2.2.2.1 k hk1 hk6)))
  · exact ⟨(zc 43 (by decide) k).trans ((congrFun (qr 43 (by decide) (by decide)) k).trans ((q6 k hk6).trans (zV_l hv hk6).1)), (zc 44 (by decide) k).trans ((congrFun (qr 44 (by decide) (by decide)) k).trans ((q7 k hk6).trans (zV_l hv hk6).2))⟩
  · exact (zc 45 (by decide) k).trans ((congrFun (qr 45 (by decide) (by decide)) k).trans ((q8 k hk6).trans (zV_d hv hk6)))
  · exact zRC_of (zRC_of h128.1 qz) (fun a h1 h2 => funext (zc a (by omega)))
  · exact zRp_of h139.1 (fun a h1 h2 => funext (zc a (by omega)))
  · exact (funext (zc a (by omega))).trans (qq a (by omega))
set_option maxRecDepth 100000 in
set_option maxHeartbeats 4000000 in
theorem ok_X10_become_60_14 {M : zMem} {σ : Nat → Nat} {R : List gRl} (hv : zV 14 M σ) (hk : qOk σ) (hR : zRC 23 M R) (hW : gWF R) (hp : zRp 31 M σ) : zOkV zw0 2 mX10_become [.ref 60, .ref 14] M (fun M' => zVa 60 M' σ R ∧ M' 60 16 = M 14 16 ∧ M' 60 17 = M 14 17 ∧ zFi 60 81 M M') := by
  refine zOk_of (by decide +kernel) (fun _ => Nat.le_of_ble_eq_true rfl) (L := [(0, .ref 60), (1, .ref 14)]) rfl ?_
  refine zi_aload_n dX10_become_0 (i := 1) rfl 1 rfl ?_
  refine zi_getR fd_X10_9_X10 rfl cw0_14 rfl dX10_become_1 ?_
  refine zi_iconst (v := nI 0) dX10_become_4 (by decide) ?_
  refine zi_aload_n dX10_become_5 (i := 0) rfl 0 rfl ?_
  refine zi_getR fd_X10_9_X10 rfl cw0_60 rfl dX10_become_6 ?_
  refine zi_iconst (v := nI 0) dX10_become_9 (by decide) ?_
  refine zi_bipush (v := nI 6) dX10_become_10 (by decide) ?_
  refine zi_copy jl_X10_66 cw0_15 cw0_61 (by decide) (by decide) (by decide) dX10_become_12 (Nat.le_of_ble_eq_true rfl) ?_
  generalize hC12 : zsetF M 61 (va_cpy (M 15) (M 61) 0 0 6) = C12
  refine zi_aload_n dX10_become_15 (i := 1) rfl 1 rfl ?_
  refine zi_getR fd_X10_15_X10 rfl cw0_14 rfl dX10_become_16 ?_
  refine zi_iconst (v := nI 0) dX10_become_19 (by decide) ?_
  refine zi_aload_n dX10_become_20 (i := 0) rfl 0 rfl ?_
  refine zi_getR fd_X10_15_X10 rfl cw0_60 rfl dX10_become_21 ?_
  refine zi_iconst (v := nI 0) dX10_become_24 (by decide) ?_
  refine zi_bipush (v := nI 6) dX10_become_25 (by decide) ?_
  refine zi_copy jl_X10_66 cw0_16 cw0_62 (by decide) (by decide) (by decide) dX10_become_27 (Nat.le_of_ble_eq_true rfl) ?_
  generalize hC27 : zsetF C12 62 (va_cpy (C12 16) (C12 62) 0 0 6) = C27
  refine zi_aload_n dX10_become_30 (i := 1) rfl 1 rfl ?_
  refine zi_getR fd_X10_18_X10 rfl cw0_14 rfl dX10_become_31 ?_
  refine zi_iconst (v := nI 0) dX10_become_34 (by decide) ?_
  refine zi_aload_n dX10_become_35 (i := 0) rfl 0 rfl ?_
  refine zi_getR fd_X10_18_X10 rfl cw0_60 rfl dX10_become_36 ?_
  refine zi_iconst (v := nI 0) dX10_become_39 (by decide) ?_
  refine zi_bipush (v := nI 6) dX10_become_40 (by decide) ?_
  refine zi_copy jl_X10_66 cw0_17 cw0_63 (by decide) (by decide) (by decide) dX10_become_42 (Nat.le_of_ble_eq_true rfl) ?_
  generalize hC42 : zsetF C27 63 (va_cpy (C27 17) (C27 63) 0 0 6) = C42
  refine zi_aload_n dX10_become_45 (i := 1) rfl 1 rfl ?_
  refine zi_getR fd_X10_21_X10 rfl cw0_14 rfl dX10_become_46 ?_
  refine zi_iconst (v := nI 0) dX10_become_49 (by decide) ?_
  refine zi_aload_n dX10_become_50 (i := 0) rfl 0 rfl ?_
  refine zi_getR fd_X10_21_X10 rfl cw0_60 rfl dX10_become_51 ?_
  refine zi_iconst (v := nI 0) dX10_become_54 (by decide) ?_
  refine zi_bipush (v := nI 6) dX10_become_55 (by decide) ?_
  refine zi_copy jl_X10_66 cw0_18 cw0_64 (by decide) (by decide) (by decide) dX10_become_57 (Nat.le_of_ble_eq_true rfl) ?_
  generalize hC57 : zsetF C42 64 (va_cpy (C42 18) (C42 64) 0 0 6) = C57
  refine zi_aload_n dX10_become_60 (i := 1) rfl 1 rfl ?_
  refine zi_getR fd_X10_24_X10 rfl cw0_14 rfl dX10_become_61 ?_
  refine zi_iconst (v := nI 0) dX10_become_64 (by decide) ?_
  refine zi_aload_n dX10_become_65 (i := 0) rfl 0 rfl ?_
  refine zi_getR fd_X10_24_X10 rfl cw0_60 rfl dX10_become_66 ?_
  refine zi_iconst (v := nI 0) dX10_become_69 (by decide) ?_
  refine zi_bipush (v := nI 6) dX10_become_70 (by decide) ?_
  refine zi_copy jl_X10_66 cw0_19 cw0_65 (by decide) (by decide) (by decide) dX10_become_72 (Nat.le_of_ble_eq_true rfl) ?_
  generalize hC72 : zsetF C57 65 (va_cpy (C57 19) (C57 65) 0 0 6) = C72
  refine zi_aload_n dX10_become_75 (i := 1) rfl 1 rfl ?_
  refine zi_getR fd_X10_27_X10 rfl cw0_14 rfl dX10_become_76 ?_
  refine zi_iconst (v := nI 0) dX10_become_79 (by decide) ?_
  refine zi_aload_n dX10_become_80 (i := 0) rfl 0 rfl ?_
  refine zi_getR fd_X10_27_X10 rfl cw0_60 rfl dX10_become_81 ?_
  refine zi_iconst (v := nI 0) dX10_become_84 (by decide) ?_
  refine zi_bipush (v := nI 6) dX10_become_85 (by decide) ?_
  refine zi_copy jl_X10_66 cw0_20 cw0_66 (by decide) (by decide) (by decide) dX10_become_87 (Nat.le_of_ble_eq_true rfl) ?_
  generalize hC87 : zsetF C72 66 (va_cpy (C72 20) (C72 66) 0 0 6) = C87
  refine zi_aload_n dX10_become_90 (i := 1) rfl 1 rfl ?_
  refine zi_getR fd_X10_30_X10 rfl cw0_14 rfl dX10_become_91 ?_
  refine zi_iconst (v := nI 0) dX10_become_94 (by decide) ?_
  refine zi_aload_n dX10_become_95 (i := 0) rfl 0 rfl ?_
  refine zi_getR fd_X10_30_X10 rfl cw0_60 rfl dX10_become_96 ?_
  refine zi_iconst (v := nI 0) dX10_become_99 (by decide) ?_
  refine zi_bipush (v := nI 6) dX10_become_100 (by decide) ?_
  refine zi_copy jl_X10_66 cw0_21 cw0_67 (by decide) (by decide) (by decide) dX10_become_102 (Nat.le_of_ble_eq_true rfl) ?_
  generalize hC102 : zsetF C87 67 (va_cpy (C87 21) (C87 67) 0 0 6) = C102
  refine zi_aload_n dX10_become_105 (i := 1) rfl 1 rfl ?_
  refine zi_getR fd_X10_33_X10 rfl cw0_14 rfl dX10_become_106 ?_
  refine zi_iconst (v := nI 0) dX10_become_109 (by decide) ?_
  refine zi_aload_n dX10_become_110 (i := 0) rfl 0 rfl ?_
  refine zi_getR fd_X10_33_X10 rfl cw0_60 rfl dX10_become_111 ?_
  refine zi_iconst (v := nI 0) dX10_become_114 (by decide) ?_
  refine zi_bipush (v := nI 16) dX10_become_115 (by decide) ?_
  refine zi_copy jl_X10_66 cw0_22 cw0_68 (by decide) (by decide) (by decide) dX10_become_117 (Nat.le_of_ble_eq_true rfl) ?_
  generalize hC117 : zsetF C102 68 (va_cpy (C102 22) (C102 68) 0 0 16) = C117
  refine zi_aload_n dX10_become_120 (i := 0) rfl 0 rfl ?_
  refine zi_getR fd_X10_39_X10 rfl cw0_60 rfl dX10_become_121 ?_
  refine zi_aload_n dX10_become_124 (i := 1) rfl 1 rfl ?_
  refine zi_getR fd_X10_39_X10 rfl cw0_14 rfl dX10_become_125 ?_
  have q1 : ∀ k, k < 6 → C117 61 k = M 15 k := fun k hk => ((congrFun (zcp_o hC117 (by decide)) k).trans ((congrFun (zcp_o hC102 (by decide)) k).trans ((congrFun (zcp_o hC87 (by decide)) k).trans ((congrFun (zcp_o hC72 (by decide)) k).trans ((congrFun (zcp_o hC57 (by decide)) k).trans ((congrFun (zcp_o hC42 (by decide)) k).trans ((congrFun (zcp_o hC27 (by decide)) k).trans (zcp_h hC12 hk))))))))
  have q2 : ∀ k, k < 6 → C117 62 k = M 16 k := fun k hk => ((congrFun (zcp_o hC117 (by decide)) k).trans ((congrFun (zcp_o hC102 (by decide)) k).trans ((congrFun (zcp_o hC87 (by decide)) k).trans ((congrFun (zcp_o hC72 (by decide)) k).trans ((congrFun (zcp_o hC57 (by decide)) k).trans ((congrFun (zcp_o hC42 (by decide)) k).trans ((zcp_h hC27 hk).trans (congrFun (zcp_o hC12 (by decide)) k))))))))
  have q3 : ∀ k, k < 6 → C117 63 k = M 17 k := fun k hk => ((congrFun (zcp_o hC117 (by decide)) k).trans ((congrFun (zcp_o hC102 (by decide)) k).trans ((congrFun (zcp_o hC87 (by decide)) k).trans ((congrFun (zcp_o hC72 (by decide)) k).trans ((congrFun (zcp_o hC57 (by decide)) k).trans (((zcp_h hC42 hk).trans (congrFun (zcp_o hC27 (by decide)) k)).trans (congrFun (zcp_o hC12 (by decide)) k)))))))
  have q4 : ∀ k, k < 6 → C117 64 k = M 18 k := fun k hk => ((congrFun (zcp_o hC117 (by decide)) k).trans ((congrFun (zcp_o hC102 (by decide)) k).trans ((congrFun (zcp_o hC87 (by decide)) k).trans ((congrFun (zcp_o hC72 (by decide)) k).trans ((((zcp_h hC57 hk).trans (congrFun (zcp_o hC42 (by decide)) k)).trans (congrFun (zcp_o hC27 (by decide)) k)).trans (congrFun (zcp_o hC12 (by decide)) k))))))
  have q5 : ∀ k, k < 6 → C117 65 k = M 19 k := fun k hk => ((congrFun (zcp_o hC117 (by decide)) k).trans ((congrFun (zcp_o hC102 (by decide)) k).trans ((congrFun (zcp_o hC87 (by decide)) k).trans (((((zcp_h hC72 hk).trans (congrFun (zcp_o hC57 (by decide)) k)).trans (congrFun (zcp_o hC42 (by decide)) k)).trans (congrFun (zcp_o hC27 (by decide)) k)).trans (congrFun (zcp_o hC12 (by decide)) k)))))
  have q6 : ∀ k, k < 6 → C117 66 k = M 20 k := fun k hk => ((congrFun (zcp_o hC117 (by decide)) k).trans ((congrFun (zcp_o hC102 (by decide)) k).trans ((((((zcp_h hC87 hk).trans (congrFun (zcp_o hC72 (by decide)) k)).trans (congrFun (zcp_o hC57 (by decide)) k)).trans (congrFun (zcp_o hC42 (by decide)) k)).trans (congrFun (zcp_o hC27 (by decide)) k)).trans (congrFun (zcp_o hC12 (by decide)) k))))
  have q7 : ∀ k, k < 6 → C117 67 k = M 21 k := fun k hk => ((congrFun (zcp_o hC117 (by decide)) k).trans (((((((zcp_h hC102 hk).trans (congrFun (zcp_o hC87 (by decide)) k)).trans (congrFun (zcp_o hC72 (by decide)) k)).trans (congrFun (zcp_o hC57 (by decide)) k)).trans (congrFun (zcp_o hC42 (by decide)) k)).trans (congrFun (zcp_o hC27 (by decide)) k)).trans (congrFun (zcp_o hC12 (by decide)) k)))
  have q8 : ∀ k, k < 16 → C117 68 k = M 22 k := fun k hk => ((((((((zcp_h hC117 hk).trans (congrFun (zcp_o hC102 (by decide)) k)).trans (congrFun (zcp_o hC87 (by decide)) k)).trans (congrFun (zcp_o hC72 (by decide)) k)).trans (congrFun (zcp_o hC57 (by decide)) k)).trans (congrFun (zcp_o hC42 (by decide)) k)).trans (congrFun (zcp_o hC27 (by decide)) k)).trans (congrFun (zcp_o hC12 (by decide)) k))
  have qo : ∀ a, (a < 61 ∨ 68 < a) → C117 a = M a := fun a ha => ((zcp_o hC117 (by omega)).trans ((zcp_o hC102 (by omega)).trans ((zcp_o hC87 (by omega)).trans ((zcp_o hC72 (by omega)).trans ((zcp_o hC57 (by omega)).trans ((zcp_o hC42 (by omega)).trans ((zcp_o hC27 (by omega)).trans (zcp_o hC12 (by omega)))))))))
  refine zcV (zc_V (as := [.ref 23]) lk_X10_72 ce_X7_become cw0_69 rfl rfl dX10_become_128 (by decide) rfl rfl (Nat.le_of_ble_eq_true rfl)) (ok_X7_become_69_23 (zRC_of hR (fun a h1 h2 => qo a (by omega))) hW.1 hW.2.1) (fun M128 h128 => ?_)
  refine zi_aload_n dX10_become_131 (i := 0) rfl 0 rfl ?_
  refine zi_getR fd_X10_46_X10 rfl cw0_60 rfl dX10_become_132 ?_
  refine zi_aload_n dX10_become_135 (i := 1) rfl 1 rfl ?_
  refine zi_getR fd_X10_46_X10 rfl cw0_14 rfl dX10_become_136 ?_
  have qp : ∀ a, (a < 61 ∨ 75 < a) → M128 a = M a := fun a ha => (h128.2 a (by simp; omega)).trans (qo a (by omega))
  refine zcV (zc_V (as := [.ref 31]) lk_X10_76 ce_X5_become cw0_77 rfl rfl dX10_become_139 (by decide) rfl rfl (Nat.le_of_ble_eq_true rfl)) (ok_X5_become_77_31 (zRp_of hp (fun a h1 h2 => qp a (by omega))) hk.2.2.2.2.2.2.2.2.1) (fun M139 h139 => ?_)
  have qq : ∀ a, (a < 61 ∨ 81 < a) → M139 a = M a := fun a ha => (h139.2 a (by simp; omega)).trans (qp a (by omega))
  have qr : ∀ a, 61 ≤ a → a ≤ 68 → M139 a = C117 a := fun a h1 h2 => (h139.2 a (by simp; omega)).trans (h128.2 a (by simp; omega))
  have qz : ∀ a, 69 ≤ a → a ≤ 75 → M139 a = M128 a := fun a h1 h2 => h139.2 a (by simp; omega)
  refine zi_aload_n dX10_become_142 (i := 0) rfl 0 rfl ?_
  refine zi_aload_n dX10_become_143 (i := 1) rfl 1 rfl ?_
  refine zi_getI fd_X10_79_X10 rfl cw0_14 rfl dX10_become_144 ?_
  refine zi_top (y := nI (σ 6)) (((congrFun (qq 14 (by decide)) _).trans (hv.1))) ?_
  refine zi_putI fd_X10_79_X10 fp_X10_10 rfl cw0_60 rfl rfl dX10_become_147 ?_
  refine zi_aload_n dX10_become_150 (i := 0) rfl 0 rfl ?_
  refine zi_aload_n dX10_become_151 (i := 1) rfl 1 rfl ?_
  refine zi_getI fd_X10_82_X10 rfl cw0_14 rfl dX10_become_152 ?_
  refine zi_top (y := nI (qCalled σ)) ((zr_c (by decide) ((congrFun (qq 14 (by decide)) _).trans (hv.2.1)))) ?_
  refine zi_putI fd_X10_82_X10 fp_X10_11 rfl cw0_60 rfl rfl dX10_become_155 ?_
  refine zi_aload_n dX10_become_158 (i := 0) rfl 0 rfl ?_
  refine zi_aload_n dX10_become_159 (i := 1) rfl 1 rfl ?_
  refine zi_getI fd_X10_85_X10 rfl cw0_14 rfl dX10_become_160 ?_
  refine zi_top (y := nI (σ 0)) ((zr_c (by decide) (zr_c (by decide) ((congrFun (qq 14 (by decide)) _).trans (hv.2.2.1))))) ?_
  refine zi_putI fd_X10_85_X10 fp_X10_12 rfl cw0_60 rfl rfl dX10_become_163 ?_
  refine zi_aload_n dX10_become_166 (i := 0) rfl 0 rfl ?_
  refine zi_aload_n dX10_become_167 (i := 1) rfl 1 rfl ?_
  refine zi_getI fd_X10_50_X10 rfl cw0_14 rfl dX10_become_168 ?_
  refine zi_top (y := nI (σ 1)) ((zr_c (by decide) (zr_c (by decide) (zr_c (by decide) ((congrFun (qq 14 (by decide)) _).trans (hv.2.2.2.1)))))) ?_
  refine zi_putI fd_X10_50_X10 fp_X10_13 rfl cw0_60 rfl rfl dX10_become_171 ?_
  refine zi_aload_n dX10_become_174 (i := 0) rfl 0 rfl ?_
  refine zi_aload_n dX10_become_175 (i := 1) rfl 1 rfl ?_
  refine zi_getI fd_X10_88_X10 rfl cw0_14 rfl dX10_become_176 ?_
  refine zi_top (y := nI (σ 3)) ((zr_c (by decide) (zr_c (by decide) (zr_c (by decide) (zr_c (by decide) ((congrFun (qq 14 (by decide)) _).trans (hv.2.2.2.2.1))))))) ?_
  refine zi_putI fd_X10_88_X10 fp_X10_14 rfl cw0_60 rfl rfl dX10_become_179 ?_
  refine zi_aload_n dX10_become_182 (i := 0) rfl 0 rfl ?_
  refine zi_aload_n dX10_become_183 (i := 1) rfl 1 rfl ?_
  refine zi_getI fd_X10_54_X10 rfl cw0_14 rfl dX10_become_184 ?_
  refine zi_top (y := nI (σ 4)) ((zr_c (by decide) (zr_c (by decide) (zr_c (by decide) (zr_c (by decide) (zr_c (by decide) ((congrFun (qq 14 (by decide)) _).trans (hv.2.2.2.2.2.1)))))))) ?_
  refine zi_putI fd_X10_54_X10 fp_X10_15 rfl cw0_60 rfl rfl dX10_become_187 ?_
  refine zi_aload_n dX10_become_190 (i := 0) rfl 0 rfl ?_
  refine zi_aload_n dX10_become_191 (i := 1) rfl 1 rfl ?_
  refine zi_getI fd_X10_91_X10 rfl cw0_14 rfl dX10_become_192 ?_
  refine zi_top (y := M 14 16) ((zr_c (by decide) (zr_c (by decide) (zr_c (by decide) (zr_c (by decide) (zr_c (by decide) (zr_c (by decide) (congrFun (qq 14 (by decide)) _)))))))) ?_
  refine zi_putI fd_X10_91_X10 fp_X10_16 rfl cw0_60 rfl rfl dX10_become_195 ?_
  refine zi_aload_n dX10_become_198 (i := 0) rfl 0 rfl ?_
  refine zi_aload_n dX10_become_199 (i := 1) rfl 1 rfl ?_
  refine zi_getI fd_X10_57_X10 rfl cw0_14 rfl dX10_become_200 ?_
  refine zi_top (y := M 14 17) ((zr_c (by decide) (zr_c (by decide) (zr_c (by decide) (zr_c (by decide) (zr_c (by decide) (zr_c (by decide) (zr_c (by decide) (congrFun (qq 14 (by decide)) _))))))))) ?_
  refine zi_putI fd_X10_57_X10 fp_X10_17 rfl cw0_60 rfl rfl dX10_become_203 ?_
  refine zi_retV rfl dX10_become_206 ?_
  have zc : ∀ (c : Nat), c ≠ 60 → ∀ k, (zup (zup (zup (zup (zup (zup (zup (zup M139 60 10 (nI (σ 6))) 60 11 (nI (qCalled σ))) 60 12 (nI (σ 0))) 60 13 (nI (σ 1))) 60 14 (nI (σ 3))) 60 15 (nI (σ 4))) 60 16 (M 14 16)) 60 17 (M 14 17)) c k = M139 c k := fun c hc k => by rw [zup_other _ _ _ hc]; rw [zup_other _ _ _ hc]; rw [zup_other _ _ _ hc]; rw [zup_other _ _ _ hc]; rw [zup_other _ _ _ hc]; rw [zup_other _ _ _ hc]; rw [zup_other _ _ _ hc]; rw [zup_other _ _ _ hc]
  refine ⟨⟨⟨(zr_j (by decide) (zr_j (by decide) (zr_j (by decide) (zr_j (by decide) (zr_j (by decide) (zr_j (by decide) (zr_j (by decide) zr_h))))))), (zr_j (by decide) (zr_j (by decide) (zr_j (by decide) (zr_j (by decide) (zr_j (by decide) (zr_j (by decide) zr_h)))))), (zr_j (by decide) (zr_j (by decide) (zr_j (by decide) (zr_j (by decide) (zr_j (by decide) zr_h))))), (zr_j (by decide) (zr_j (by decide) (zr_j (by decide) (zr_j (by decide) zr_h)))), (zr_j (by decide) (zr_j (by decide) (zr_j (by decide) zr_h))), (zr_j (by decide) (zr_j (by decide) zr_h)), fun k hk6 => ?_, fun k hk1 hk6 => ?_, fun k hk6 => ?_, fun k hk6 => ?_⟩, ?_, ?_⟩, (zr_j (by decide) zr_h), zr_h, fun a ha => ?_⟩
  · have h66 := hk.2.1
    obtain ⟨x1, x2, x3, x4, x5, x6⟩ := zV_h hv hk6
    refine ⟨?_, ?_, ?_, ?_, ?_, x6⟩
    · exact (zc 61 (by decide) k).trans ((congrFun (qr 61 (by decide) (by decide)) k).trans ((q1 k (by omega)).trans x1))
    · exact (zc 62 (by decide) k).trans ((congrFun (qr 62 (by decide) (by decide)) k).trans ((q2 k (by omega)).trans x2))
    · exact (zc 63 (by decide) k).trans ((congrFun (qr 63 (by decide) (by decide)) k).trans ((q3 k (by omega)).trans x3))
    · exact (zc 64 (by decide) k).trans ((congrFun (qr 64 (by decide) (by decide)) k).trans ((q4 k (by omega)).trans x4))
    · exact (zc 65 (by decide) k).trans ((congrFun (qr 65 (by decide) (by decide)) k).trans ((q5 k (by omega)).trans x5))
  · exact (zc 65 (by decide) k).trans ((congrFun (qr 65 (by decide) (by decide)) k).trans ((q5 k hk6).trans (hv.2.2.2.2.2.2.2.1 k hk1 hk6)))
  · exact ⟨(zc 66 (by decide) k).trans ((congrFun (qr 66 (by decide) (by decide)) k).trans ((q6 k hk6).trans (zV_l hv hk6).1)), (zc 67 (by decide) k).trans ((congrFun (qr 67 (by decide) (by decide)) k).trans ((q7 k hk6).trans (zV_l hv hk6).2))⟩
  · exact (zc 68 (by decide) k).trans ((congrFun (qr 68 (by decide) (by decide)) k).trans ((q8 k hk6).trans (zV_d hv hk6)))
  · exact zRC_of (zRC_of h128.1 qz) (fun a h1 h2 => funext (zc a (by omega)))
  · exact zRp_of h139.1 (fun a h1 h2 => funext (zc a (by omega)))
  · exact (funext (zc a (by omega))).trans (qq a (by omega))
set_option maxRecDepth 100000 in
set_option maxHeartbeats 4000000 in
theorem ok_X10_become_14_60 {M : zMem} {σ : Nat → Nat} {R : List gRl} (hv : zV 60 M σ) (hk : qOk σ) (hR : zRC 69 M R) (hW : gWF R) (hp : zRp 77 M σ) : zOkV zw0 2 mX10_become [.ref 14, .ref 60] M (fun M' => zVa 14 M' σ R ∧ M' 14 16 = M 60 16 ∧ M' 14 17 = M 60 17 ∧ zFi 14 35 M M') := by
  refine zOk_of (by decide +kernel) (fun _ => Nat.le_of_ble_eq_true rfl) (L := [(0, .ref 14), (1, .ref 60)]) rfl ?_
  refine zi_aload_n dX10_become_0 (i := 1) rfl 1 rfl ?_
  refine zi_getR fd_X10_9_X10 rfl cw0_60 rfl dX10_become_1 ?_
  refine zi_iconst (v := nI 0) dX10_become_4 (by decide) ?_
  refine zi_aload_n dX10_become_5 (i := 0) rfl 0 rfl ?_
  refine zi_getR fd_X10_9_X10 rfl cw0_14 rfl dX10_become_6 ?_
  refine zi_iconst (v := nI 0) dX10_become_9 (by decide) ?_
  refine zi_bipush (v := nI 6) dX10_become_10 (by decide) ?_
  refine zi_copy jl_X10_66 cw0_61 cw0_15 (by decide) (by decide) (by decide) dX10_become_12 (Nat.le_of_ble_eq_true rfl) ?_
  generalize hC12 : zsetF M 15 (va_cpy (M 61) (M 15) 0 0 6) = C12
  refine zi_aload_n dX10_become_15 (i := 1) rfl 1 rfl ?_
  refine zi_getR fd_X10_15_X10 rfl cw0_60 rfl dX10_become_16 ?_
  refine zi_iconst (v := nI 0) dX10_become_19 (by decide) ?_
  refine zi_aload_n dX10_become_20 (i := 0) rfl 0 rfl ?_
  refine zi_getR fd_X10_15_X10 rfl cw0_14 rfl dX10_become_21 ?_
  refine zi_iconst (v := nI 0) dX10_become_24 (by decide) ?_
  refine zi_bipush (v := nI 6) dX10_become_25 (by decide) ?_
  refine zi_copy jl_X10_66 cw0_62 cw0_16 (by decide) (by decide) (by decide) dX10_become_27 (Nat.le_of_ble_eq_true rfl) ?_
  generalize hC27 : zsetF C12 16 (va_cpy (C12 62) (C12 16) 0 0 6) = C27
  refine zi_aload_n dX10_become_30 (i := 1) rfl 1 rfl ?_
  refine zi_getR fd_X10_18_X10 rfl cw0_60 rfl dX10_become_31 ?_
  refine zi_iconst (v := nI 0) dX10_become_34 (by decide) ?_
  refine zi_aload_n dX10_become_35 (i := 0) rfl 0 rfl ?_
  refine zi_getR fd_X10_18_X10 rfl cw0_14 rfl dX10_become_36 ?_
  refine zi_iconst (v := nI 0) dX10_become_39 (by decide) ?_
  refine zi_bipush (v := nI 6) dX10_become_40 (by decide) ?_
  refine zi_copy jl_X10_66 cw0_63 cw0_17 (by decide) (by decide) (by decide) dX10_become_42 (Nat.le_of_ble_eq_true rfl) ?_
  generalize hC42 : zsetF C27 17 (va_cpy (C27 63) (C27 17) 0 0 6) = C42
  refine zi_aload_n dX10_become_45 (i := 1) rfl 1 rfl ?_
  refine zi_getR fd_X10_21_X10 rfl cw0_60 rfl dX10_become_46 ?_
  refine zi_iconst (v := nI 0) dX10_become_49 (by decide) ?_
  refine zi_aload_n dX10_become_50 (i := 0) rfl 0 rfl ?_
  refine zi_getR fd_X10_21_X10 rfl cw0_14 rfl dX10_become_51 ?_
  refine zi_iconst (v := nI 0) dX10_become_54 (by decide) ?_
  refine zi_bipush (v := nI 6) dX10_become_55 (by decide) ?_
  refine zi_copy jl_X10_66 cw0_64 cw0_18 (by decide) (by decide) (by decide) dX10_become_57 (Nat.le_of_ble_eq_true rfl) ?_
  generalize hC57 : zsetF C42 18 (va_cpy (C42 64) (C42 18) 0 0 6) = C57
  refine zi_aload_n dX10_become_60 (i := 1) rfl 1 rfl ?_
  refine zi_getR fd_X10_24_X10 rfl cw0_60 rfl dX10_become_61 ?_
  refine zi_iconst (v := nI 0) dX10_become_64 (by decide) ?_
  refine zi_aload_n dX10_become_65 (i := 0) rfl 0 rfl ?_
  refine zi_getR fd_X10_24_X10 rfl cw0_14 rfl dX10_become_66 ?_
  refine zi_iconst (v := nI 0) dX10_become_69 (by decide) ?_
  refine zi_bipush (v := nI 6) dX10_become_70 (by decide) ?_
  refine zi_copy jl_X10_66 cw0_65 cw0_19 (by decide) (by decide) (by decide) dX10_become_72 (Nat.le_of_ble_eq_true rfl) ?_
  generalize hC72 : zsetF C57 19 (va_cpy (C57 65) (C57 19) 0 0 6) = C72
  refine zi_aload_n dX10_become_75 (i := 1) rfl 1 rfl ?_
  refine zi_getR fd_X10_27_X10 rfl cw0_60 rfl dX10_become_76 ?_
  refine zi_iconst (v := nI 0) dX10_become_79 (by decide) ?_
  refine zi_aload_n dX10_become_80 (i := 0) rfl 0 rfl ?_
  refine zi_getR fd_X10_27_X10 rfl cw0_14 rfl dX10_become_81 ?_
  refine zi_iconst (v := nI 0) dX10_become_84 (by decide) ?_
  refine zi_bipush (v := nI 6) dX10_become_85 (by decide) ?_
  refine zi_copy jl_X10_66 cw0_66 cw0_20 (by decide) (by decide) (by decide) dX10_become_87 (Nat.le_of_ble_eq_true rfl) ?_
  generalize hC87 : zsetF C72 20 (va_cpy (C72 66) (C72 20) 0 0 6) = C87
  refine zi_aload_n dX10_become_90 (i := 1) rfl 1 rfl ?_
  refine zi_getR fd_X10_30_X10 rfl cw0_60 rfl dX10_become_91 ?_
  refine zi_iconst (v := nI 0) dX10_become_94 (by decide) ?_
  refine zi_aload_n dX10_become_95 (i := 0) rfl 0 rfl ?_
  refine zi_getR fd_X10_30_X10 rfl cw0_14 rfl dX10_become_96 ?_
  refine zi_iconst (v := nI 0) dX10_become_99 (by decide) ?_
  refine zi_bipush (v := nI 6) dX10_become_100 (by decide) ?_
  refine zi_copy jl_X10_66 cw0_67 cw0_21 (by decide) (by decide) (by decide) dX10_become_102 (Nat.le_of_ble_eq_true rfl) ?_
  generalize hC102 : zsetF C87 21 (va_cpy (C87 67) (C87 21) 0 0 6) = C102
  refine zi_aload_n dX10_become_105 (i := 1) rfl 1 rfl ?_
  refine zi_getR fd_X10_33_X10 rfl cw0_60 rfl dX10_become_106 ?_
  refine zi_iconst (v := nI 0) dX10_become_109 (by decide) ?_
  refine zi_aload_n dX10_become_110 (i := 0) rfl 0 rfl ?_
  refine zi_getR fd_X10_33_X10 rfl cw0_14 rfl dX10_become_111 ?_
  refine zi_iconst (v := nI 0) dX10_become_114 (by decide) ?_
  refine zi_bipush (v := nI 16) dX10_become_115 (by decide) ?_
  refine zi_copy jl_X10_66 cw0_68 cw0_22 (by decide) (by decide) (by decide) dX10_become_117 (Nat.le_of_ble_eq_true rfl) ?_
  generalize hC117 : zsetF C102 22 (va_cpy (C102 68) (C102 22) 0 0 16) = C117
  refine zi_aload_n dX10_become_120 (i := 0) rfl 0 rfl ?_
  refine zi_getR fd_X10_39_X10 rfl cw0_14 rfl dX10_become_121 ?_
  refine zi_aload_n dX10_become_124 (i := 1) rfl 1 rfl ?_
  refine zi_getR fd_X10_39_X10 rfl cw0_60 rfl dX10_become_125 ?_
  have q1 : ∀ k, k < 6 → C117 15 k = M 61 k := fun k hk => ((congrFun (zcp_o hC117 (by decide)) k).trans ((congrFun (zcp_o hC102 (by decide)) k).trans ((congrFun (zcp_o hC87 (by decide)) k).trans ((congrFun (zcp_o hC72 (by decide)) k).trans ((congrFun (zcp_o hC57 (by decide)) k).trans ((congrFun (zcp_o hC42 (by decide)) k).trans ((congrFun (zcp_o hC27 (by decide)) k).trans (zcp_h hC12 hk))))))))
  have q2 : ∀ k, k < 6 → C117 16 k = M 62 k := fun k hk => ((congrFun (zcp_o hC117 (by decide)) k).trans ((congrFun (zcp_o hC102 (by decide)) k).trans ((congrFun (zcp_o hC87 (by decide)) k).trans ((congrFun (zcp_o hC72 (by decide)) k).trans ((congrFun (zcp_o hC57 (by decide)) k).trans ((congrFun (zcp_o hC42 (by decide)) k).trans ((zcp_h hC27 hk).trans (congrFun (zcp_o hC12 (by decide)) k))))))))
  have q3 : ∀ k, k < 6 → C117 17 k = M 63 k := fun k hk => ((congrFun (zcp_o hC117 (by decide)) k).trans ((congrFun (zcp_o hC102 (by decide)) k).trans ((congrFun (zcp_o hC87 (by decide)) k).trans ((congrFun (zcp_o hC72 (by decide)) k).trans ((congrFun (zcp_o hC57 (by decide)) k).trans (((zcp_h hC42 hk).trans (congrFun (zcp_o hC27 (by decide)) k)).trans (congrFun (zcp_o hC12 (by decide)) k)))))))
  have q4 : ∀ k, k < 6 → C117 18 k = M 64 k := fun k hk => ((congrFun (zcp_o hC117 (by decide)) k).trans ((congrFun (zcp_o hC102 (by decide)) k).trans ((congrFun (zcp_o hC87 (by decide)) k).trans ((congrFun (zcp_o hC72 (by decide)) k).trans ((((zcp_h hC57 hk).trans (congrFun (zcp_o hC42 (by decide)) k)).trans (congrFun (zcp_o hC27 (by decide)) k)).trans (congrFun (zcp_o hC12 (by decide)) k))))))
  have q5 : ∀ k, k < 6 → C117 19 k = M 65 k := fun k hk => ((congrFun (zcp_o hC117 (by decide)) k).trans ((congrFun (zcp_o hC102 (by decide)) k).trans ((congrFun (zcp_o hC87 (by decide)) k).trans (((((zcp_h hC72 hk).trans (congrFun (zcp_o hC57 (by decide)) k)).trans (congrFun (zcp_o hC42 (by decide)) k)).trans (congrFun (zcp_o hC27 (by decide)) k)).trans (congrFun (zcp_o hC12 (by decide)) k)))))
  have q6 : ∀ k, k < 6 → C117 20 k = M 66 k := fun k hk => ((congrFun (zcp_o hC117 (by decide)) k).trans ((congrFun (zcp_o hC102 (by decide)) k).trans ((((((zcp_h hC87 hk).trans (congrFun (zcp_o hC72 (by decide)) k)).trans (congrFun (zcp_o hC57 (by decide)) k)).trans (congrFun (zcp_o hC42 (by decide)) k)).trans (congrFun (zcp_o hC27 (by decide)) k)).trans (congrFun (zcp_o hC12 (by decide)) k))))
  have q7 : ∀ k, k < 6 → C117 21 k = M 67 k := fun k hk => ((congrFun (zcp_o hC117 (by decide)) k).trans (((((((zcp_h hC102 hk).trans (congrFun (zcp_o hC87 (by decide)) k)).trans (congrFun (zcp_o hC72 (by decide)) k)).trans (congrFun (zcp_o hC57 (by decide)) k)).trans (congrFun (zcp_o hC42 (by decide)) k)).trans (congrFun (zcp_o hC27 (by decide)) k)).trans (congrFun (zcp_o hC12 (by decide)) k)))
  have q8 : ∀ k, k < 16 → C117 22 k = M 68 k := fun k hk => ((((((((zcp_h hC117 hk).trans (congrFun (zcp_o hC102 (by decide)) k)).trans (congrFun (zcp_o hC87 (by decide)) k)).trans (congrFun (zcp_o hC72 (by decide)) k)).trans (congrFun (zcp_o hC57 (by decide)) k)).trans (congrFun (zcp_o hC42 (by decide)) k)).trans (congrFun (zcp_o hC27 (by decide)) k)).trans (congrFun (zcp_o hC12 (by decide)) k))
  have qo : ∀ a, (a < 15 ∨ 22 < a) → C117 a = M a := fun a ha => ((zcp_o hC117 (by omega)).trans ((zcp_o hC102 (by omega)).trans ((zcp_o hC87 (by omega)).trans ((zcp_o hC72 (by omega)).trans ((zcp_o hC57 (by omega)).trans ((zcp_o hC42 (by omega)).trans ((zcp_o hC27 (by omega)).trans (zcp_o hC12 (by omega)))))))))
  refine zcV (zc_V (as := [.ref 69]) lk_X10_72 ce_X7_become cw0_23 rfl rfl dX10_become_128 (by decide) rfl rfl (Nat.le_of_ble_eq_true rfl)) (ok_X7_become_23_69 (zRC_of hR (fun a h1 h2 => qo a (by omega))) hW.1 hW.2.1) (fun M128 h128 => ?_)
  refine zi_aload_n dX10_become_131 (i := 0) rfl 0 rfl ?_
  refine zi_getR fd_X10_46_X10 rfl cw0_14 rfl dX10_become_132 ?_
  refine zi_aload_n dX10_become_135 (i := 1) rfl 1 rfl ?_
  refine zi_getR fd_X10_46_X10 rfl cw0_60 rfl dX10_become_136 ?_
  have qp : ∀ a, (a < 15 ∨ 29 < a) → M128 a = M a := fun a ha => (h128.2 a (by simp; omega)).trans (qo a (by omega))
  refine zcV (zc_V (as := [.ref 77]) lk_X10_76 ce_X5_become cw0_31 rfl rfl dX10_become_139 (by decide) rfl rfl (Nat.le_of_ble_eq_true rfl)) (ok_X5_become_31_77 (zRp_of hp (fun a h1 h2 => qp a (by omega))) hk.2.2.2.2.2.2.2.2.1) (fun M139 h139 => ?_)
  have qq : ∀ a, (a < 15 ∨ 35 < a) → M139 a = M a := fun a ha => (h139.2 a (by simp; omega)).trans (qp a (by omega))
  have qr : ∀ a, 15 ≤ a → a ≤ 22 → M139 a = C117 a := fun a h1 h2 => (h139.2 a (by simp; omega)).trans (h128.2 a (by simp; omega))
  have qz : ∀ a, 23 ≤ a → a ≤ 29 → M139 a = M128 a := fun a h1 h2 => h139.2 a (by simp; omega)
  refine zi_aload_n dX10_become_142 (i := 0) rfl 0 rfl ?_
  refine zi_aload_n dX10_become_143 (i := 1) rfl 1 rfl ?_
  refine zi_getI fd_X10_79_X10 rfl cw0_60 rfl dX10_become_144 ?_
  refine zi_top (y := nI (σ 6)) (((congrFun (qq 60 (by decide)) _).trans (hv.1))) ?_
  refine zi_putI fd_X10_79_X10 fp_X10_10 rfl cw0_14 rfl rfl dX10_become_147 ?_
  refine zi_aload_n dX10_become_150 (i := 0) rfl 0 rfl ?_
  refine zi_aload_n dX10_become_151 (i := 1) rfl 1 rfl ?_
  refine zi_getI fd_X10_82_X10 rfl cw0_60 rfl dX10_become_152 ?_
  refine zi_top (y := nI (qCalled σ)) ((zr_c (by decide) ((congrFun (qq 60 (by decide)) _).trans (hv.2.1)))) ?_
  refine zi_putI fd_X10_82_X10 fp_X10_11 rfl cw0_14 rfl rfl dX10_become_155 ?_
  refine zi_aload_n dX10_become_158 (i := 0) rfl 0 rfl ?_
  refine zi_aload_n dX10_become_159 (i := 1) rfl 1 rfl ?_
  refine zi_getI fd_X10_85_X10 rfl cw0_60 rfl dX10_become_160 ?_
  refine zi_top (y := nI (σ 0)) ((zr_c (by decide) (zr_c (by decide) ((congrFun (qq 60 (by decide)) _).trans (hv.2.2.1))))) ?_
  refine zi_putI fd_X10_85_X10 fp_X10_12 rfl cw0_14 rfl rfl dX10_become_163 ?_
  refine zi_aload_n dX10_become_166 (i := 0) rfl 0 rfl ?_
  refine zi_aload_n dX10_become_167 (i := 1) rfl 1 rfl ?_
  refine zi_getI fd_X10_50_X10 rfl cw0_60 rfl dX10_become_168 ?_
  refine zi_top (y := nI (σ 1)) ((zr_c (by decide) (zr_c (by decide) (zr_c (by decide) ((congrFun (qq 60 (by decide)) _).trans (hv.2.2.2.1)))))) ?_
  refine zi_putI fd_X10_50_X10 fp_X10_13 rfl cw0_14 rfl rfl dX10_become_171 ?_
  refine zi_aload_n dX10_become_174 (i := 0) rfl 0 rfl ?_
  refine zi_aload_n dX10_become_175 (i := 1) rfl 1 rfl ?_
  refine zi_getI fd_X10_88_X10 rfl cw0_60 rfl dX10_become_176 ?_
  refine zi_top (y := nI (σ 3)) ((zr_c (by decide) (zr_c (by decide) (zr_c (by decide) (zr_c (by decide) ((congrFun (qq 60 (by decide)) _).trans (hv.2.2.2.2.1))))))) ?_
  refine zi_putI fd_X10_88_X10 fp_X10_14 rfl cw0_14 rfl rfl dX10_become_179 ?_
  refine zi_aload_n dX10_become_182 (i := 0) rfl 0 rfl ?_
  refine zi_aload_n dX10_become_183 (i := 1) rfl 1 rfl ?_
  refine zi_getI fd_X10_54_X10 rfl cw0_60 rfl dX10_become_184 ?_
  refine zi_top (y := nI (σ 4)) ((zr_c (by decide) (zr_c (by decide) (zr_c (by decide) (zr_c (by decide) (zr_c (by decide) ((congrFun (qq 60 (by decide)) _).trans (hv.2.2.2.2.2.1)))))))) ?_
  refine zi_putI fd_X10_54_X10 fp_X10_15 rfl cw0_14 rfl rfl dX10_become_187 ?_
  refine zi_aload_n dX10_become_190 (i := 0) rfl 0 rfl ?_
  refine zi_aload_n dX10_become_191 (i := 1) rfl 1 rfl ?_
  refine zi_getI fd_X10_91_X10 rfl cw0_60 rfl dX10_become_192 ?_
  refine zi_top (y := M 60 16) ((zr_c (by decide) (zr_c (by decide) (zr_c (by decide) (zr_c (by decide) (zr_c (by decide) (zr_c (by decide) (congrFun (qq 60 (by decide)) _)))))))) ?_
  refine zi_putI fd_X10_91_X10 fp_X10_16 rfl cw0_14 rfl rfl dX10_become_195 ?_
  refine zi_aload_n dX10_become_198 (i := 0) rfl 0 rfl ?_
  refine zi_aload_n dX10_become_199 (i := 1) rfl 1 rfl ?_
  refine zi_getI fd_X10_57_X10 rfl cw0_60 rfl dX10_become_200 ?_
  refine zi_top (y := M 60 17) ((zr_c (by decide) (zr_c (by decide) (zr_c (by decide) (zr_c (by decide) (zr_c (by decide) (zr_c (by decide) (zr_c (by decide) (congrFun (qq 60 (by decide)) _))))))))) ?_
  refine zi_putI fd_X10_57_X10 fp_X10_17 rfl cw0_14 rfl rfl dX10_become_203 ?_
  refine zi_retV rfl dX10_become_206 ?_
  have zc : ∀ (c : Nat), c ≠ 14 → ∀ k, (zup (zup (zup (zup (zup (zup (zup (zup M139 14 10 (nI (σ 6))) 14 11 (nI (qCalled σ))) 14 12 (nI (σ 0))) 14 13 (nI (σ 1))) 14 14 (nI (σ 3))) 14 15 (nI (σ 4))) 14 16 (M 60 16)) 14 17 (M 60 17)) c k = M139 c k := fun c hc k => by rw [zup_other _ _ _ hc]; rw [zup_other _ _ _ hc]; rw [zup_other _ _ _ hc]; rw [zup_other _ _ _ hc]; rw [zup_other _ _ _ hc]; rw [zup_other _ _ _ hc]; rw [zup_other _ _ _ hc]; rw [zup_other _ _ _ hc]
  refine ⟨⟨⟨(zr_j (by decide) (zr_j (by decide) (zr_j (by decide) (zr_j (by decide) (zr_j (by decide) (zr_j (by decide) (zr_j (by decide) zr_h))))))), (zr_j (by decide) (zr_j (by decide) (zr_j (by decide) (zr_j (by decide) (zr_j (by decide) (zr_j (by decide) zr_h)))))), (zr_j (by decide) (zr_j (by decide) (zr_j (by decide) (zr_j (by decide) (zr_j (by decide) zr_h))))), (zr_j (by decide) (zr_j (by decide) (zr_j (by decide) (zr_j (by decide) zr_h)))), (zr_j (by decide) (zr_j (by decide) (zr_j (by decide) zr_h))), (zr_j (by decide) (zr_j (by decide) zr_h)), fun k hk6 => ?_, fun k hk1 hk6 => ?_, fun k hk6 => ?_, fun k hk6 => ?_⟩, ?_, ?_⟩, (zr_j (by decide) zr_h), zr_h, fun a ha => ?_⟩
  · have h66 := hk.2.1
    obtain ⟨x1, x2, x3, x4, x5, x6⟩ := zV_h hv hk6
    refine ⟨?_, ?_, ?_, ?_, ?_, x6⟩
    · exact (zc 15 (by decide) k).trans ((congrFun (qr 15 (by decide) (by decide)) k).trans ((q1 k (by omega)).trans x1))
    · exact (zc 16 (by decide) k).trans ((congrFun (qr 16 (by decide) (by decide)) k).trans ((q2 k (by omega)).trans x2))
    · exact (zc 17 (by decide) k).trans ((congrFun (qr 17 (by decide) (by decide)) k).trans ((q3 k (by omega)).trans x3))
    · exact (zc 18 (by decide) k).trans ((congrFun (qr 18 (by decide) (by decide)) k).trans ((q4 k (by omega)).trans x4))
    · exact (zc 19 (by decide) k).trans ((congrFun (qr 19 (by decide) (by decide)) k).trans ((q5 k (by omega)).trans x5))
  · exact (zc 19 (by decide) k).trans ((congrFun (qr 19 (by decide) (by decide)) k).trans ((q5 k hk6).trans (hv.2.2.2.2.2.2.2.1 k hk1 hk6)))
  · exact ⟨(zc 20 (by decide) k).trans ((congrFun (qr 20 (by decide) (by decide)) k).trans ((q6 k hk6).trans (zV_l hv hk6).1)), (zc 21 (by decide) k).trans ((congrFun (qr 21 (by decide) (by decide)) k).trans ((q7 k hk6).trans (zV_l hv hk6).2))⟩
  · exact (zc 22 (by decide) k).trans ((congrFun (qr 22 (by decide) (by decide)) k).trans ((q8 k hk6).trans (zV_d hv hk6)))
  · exact zRC_of (zRC_of h128.1 qz) (fun a h1 h2 => funext (zc a (by omega)))
  · exact zRp_of h139.1 (fun a h1 h2 => funext (zc a (by omega)))
  · exact (funext (zc a (by omega))).trans (qq a (by omega))
set_option maxRecDepth 100000 in
set_option maxHeartbeats 4000000 in
theorem ok_X11_freshTrial {M : zMem} {σ : Nat → Nat} {R : List gRl} (ha : zVa 14 M σ R) (hk : qOk σ) (hW : gWF R) : zOkR zw0 3 mX11_freshTrial [.ref 0] M 37 (fun M' => zVa 37 M' σ R ∧ M' 37 16 = M 14 16 ∧ M' 37 17 = M 14 17 ∧ zFi 37 58 M M') := by
  refine zOk_of (by decide +kernel) (fun _ => Nat.le_of_ble_eq_true rfl) (L := [(0, .ref 0)]) rfl ?_
  refine zi_aload_n dX11_freshTrial_0 (i := 0) rfl 0 rfl ?_
  refine zi_getR fd_X11_38_X11 rfl cw0_0 rfl dX11_freshTrial_1 ?_
  refine zi_aload_n dX11_freshTrial_4 (i := 0) rfl 0 rfl ?_
  refine zi_getR fd_X11_34_X11 rfl cw0_0 rfl dX11_freshTrial_5 ?_
  refine zcV (zc_V (as := [.ref 14]) lk_X11_361 ce_X10_become cw0_37 rfl rfl dX11_freshTrial_8 (by decide) rfl rfl (Nat.le_of_ble_eq_true rfl)) (ok_X10_become_37_14 ha.1 hk ha.2.1 hW ha.2.2) (fun M8 h8 => ?_)
  refine zi_aload_n dX11_freshTrial_11 (i := 0) rfl 0 rfl ?_
  refine zi_getR fd_X11_38_X11 rfl cw0_0 rfl dX11_freshTrial_12 ?_
  refine zi_retR rfl dX11_freshTrial_15 ?_
  exact h8
