/-! the library's own methods, lengths -/
theorem zbn (b : Bool) : narrow .boolean (.int (zb b)) = .int (zb b) := by cases b <;> rfl
theorem zbnz (b : Bool) : narrow .boolean (.int (zb b)) = .int (zb b) ∧ fits .boolean (.int (zb b)) = true := by cases b <;> exact ⟨rfl, rfl⟩
def zLkM (own : String) (index : Nat) (y : MethodName) (code : ByteArray) (n : Nat) : Prop := Cond.methodLink own index y ∈ zTw ∧ Cond.static y ∈ zTw ∧ Cond.initialized "java/lang/Math" ∈ zTw ∧ Cond.code y code n (some .int) ∈ zTw
def zLkA (own : String) (index : Nat) : Prop := Cond.methodLink own index arraycopyName ∈ zTw ∧ Cond.native arraycopyName ∈ zTw ∧ Cond.static arraycopyName ∈ zTw ∧ Cond.initialized "java/lang/System" ∈ zTw
section ZM
variable {w : List zDesc} {d : Nat} {mi : zMI} {Q : Option Value → zMem → Prop} {pc : Nat} {L : zLv} {S : List Value} {M : zMem}
theorem zi_mmax {index : Nat} {x y : Int32} (lk : zLkM mi.1.cls index Lib.Math.max.name Lib.Math.max.code 2) (dg : decode mi.2.1 pc = .ok (.invokestatic index, 3)) (hcat : (S.map fun v => v.category).sum ≤ 8) (kk : zRn w d mi Q (pc + 3) L (.int (if x < y then y else x) :: S) M) : zRn w d mi Q pc L (.int y :: .int x :: S) M := by
  intro p l e s m args below meth c dC dI ad cA C H locs ls hP hS hl
  exact va_mmax C.1 C.2.1 (C.2.2.2.1.trans hl.1.symm) C.2.2.2.2.1 (C.2.2.2.2.2.1 _ lk.1) (C.2.2.2.2.2.1 _ lk.2.1) (C.2.2.2.2.2.1 _ lk.2.2.1) (C.2.2.2.2.2.1 _ lk.2.2.2) (by simp only [zR]; omega) (by rw [zS_cat]; simp only [zR]; omega) (Nat.le_refl _) (Nat.le_refl _) dg (kk p l e s m args below meth c dC dI ad cA C H locs ls hP hS hl)
theorem zi_mmin {index : Nat} {x y : Int32} (lk : zLkM mi.1.cls index Lib.Math.min.name Lib.Math.min.code 2) (dg : decode mi.2.1 pc = .ok (.invokestatic index, 3)) (hcat : (S.map fun v => v.category).sum ≤ 8) (kk : zRn w d mi Q (pc + 3) L (.int (if y < x then y else x) :: S) M) : zRn w d mi Q pc L (.int y :: .int x :: S) M := by
  intro p l e s m args below meth c dC dI ad cA C H locs ls hP hS hl
  exact va_mmin C.1 C.2.1 (C.2.2.2.1.trans hl.1.symm) C.2.2.2.2.1 (C.2.2.2.2.2.1 _ lk.1) (C.2.2.2.2.2.1 _ lk.2.1) (C.2.2.2.2.2.1 _ lk.2.2.1) (C.2.2.2.2.2.1 _ lk.2.2.2) (by simp only [zR]; omega) (by rw [zS_cat]; simp only [zR]; omega) (Nat.le_refl _) (Nat.le_refl _) dg (kk p l e s m args below meth c dC dI ad cA C H locs ls hP hS hl)
theorem zi_mabs {index : Nat} {x : Int32} (lk : zLkM mi.1.cls index Lib.Math.abs.name Lib.Math.abs.code 1) (dg : decode mi.2.1 pc = .ok (.invokestatic index, 3)) (hcat : (S.map fun v => v.category).sum ≤ 8) (kk : zRn w d mi Q (pc + 3) L (.int (if 0 ≤ x then x else 0 - x) :: S) M) : zRn w d mi Q pc L (.int x :: S) M := by
  intro p l e s m args below meth c dC dI ad cA C H locs ls hP hS hl
  exact va_mabs C.1 C.2.1 (C.2.2.2.1.trans hl.1.symm) C.2.2.2.2.1 (C.2.2.2.2.2.1 _ lk.1) (C.2.2.2.2.2.1 _ lk.2.1) (C.2.2.2.2.2.1 _ lk.2.2.1) (C.2.2.2.2.2.1 _ lk.2.2.2) (by simp only [zR]; omega) (by rw [zS_cat]; simp only [zR]; omega) (Nat.le_refl _) (Nat.le_refl _) dg (kk p l e s m args below meth c dC dI ad cA C H locs ls hP hS hl)
theorem zi_copy {index i0 i1 n0 n1 sp dp n : Nat} (lk : zLkA mi.1.cls index) (hw0 : w[i0]? = some (.inl (0, n0))) (hw1 : w[i1]? = some (.inl (0, n1))) (h4 : sp + n ≤ n0) (h5 : dp + n ≤ n1) (hb : n0 < 2 ^ 31 ∧ n1 < 2 ^ 31) (dg : decode mi.2.1 pc = .ok (.invokestatic index, 3)) (hcat : (S.map fun v => v.category).sum ≤ 8)
    (kk : zRn w d mi Q (pc + 3) L S (zsetF M i1 (va_cpy (M i0) (M i1) sp dp n))) : zRn w d mi Q pc L (.int (nI n) :: .int (nI dp) :: .ref i1 :: .int (nI sp) :: .ref i0 :: S) M := by
  intro p l e s m args below meth c dC dI ad cA C H locs ls hP hS hl
  have c1 : (nI sp).toNatClampNeg = sp := nI_clamp (by omega)
  have c2 : (nI dp).toNatClampNeg = dp := nI_clamp (by omega)
  have c3 : (nI n).toNatClampNeg = n := nI_clamp (by omega)
  refine va_copyi C.1 C.2.1 (C.2.2.2.1.trans hl.1.symm) C.2.2.2.2.1 (C.2.2.2.2.2.1 _ lk.1) (C.2.2.2.2.2.1 _ lk.2.1) (C.2.2.2.2.2.1 _ lk.2.2.1) (C.2.2.2.2.2.1 _ lk.2.2.2) C.2.2.2.2.2.2.2.1 hP (zD cA M C.2.2.2.2.2.2.2.2.1) hS i0 i1 0 0 (zWs_at hw0) (zWs_at hw1) rfl rfl rfl (nI_pos (by omega)) (nI_pos (by omega)) (nI_pos (by omega)) (by rw [c1, c3]; exact h4) (by rw [c2, c3]; exact h5) (fun _ _ => rfl) (by simp only [zR]; omega) (by
    rw [zS_cat]
    have e : nativeFrameWords "java/lang/System" "arraycopy" 5 ≤ 60 := by decide +kernel
    simp only [zR]
    omega) dg ?_
  intro H1 locs1 hP1 _ hS1
  rw [c1, c2, c3] at hP1
  have hP2 : va_P (dC, dI) vwCl (zWs w ad cA (zsetF M i1 (va_cpy (M i0) (M i1) sp dp n))) H1 := by
    rw [← zWs_set hw1]
    exact hP1
  exact kk p l e s m args below meth c dC dI ad cA C H1 locs1 ls hP2 hS1 hl
theorem zi_alen {i k n : Nat} (hw : w[i]? = some (.inl (k, n))) (hk : k = 0 ∨ k = 1) (dg : decode mi.2.1 pc = .ok (.arraylength, 1)) (kk : zRn w d mi Q (pc + 1) L (.int (nI n) :: S) M) : zRn w d mi Q pc L (.ref i :: S) M := by
  intro p l e s m args below meth c dC dI ad cA C H locs ls hP hS hl
  have k2 := kk p l e s m args below meth c dC dI ad cA C H locs ls hP hS hl
  rcases hk with rfl | rfl
  · exact va_alen C.1 C.2.1 C.2.2.2.2.2.2.2.1 hP i 0 (x := (n, .inl (M i))) (zWs_at hw) rfl rfl dg k2
  · exact va_alen C.1 C.2.1 C.2.2.2.2.2.2.2.1 hP i 1 (x := (n, .inr (.inl (fun j => (M i j).toInt64)))) (zWs_at hw) rfl rfl dg k2
end ZM
theorem cw0_0 : zw0[0]? = some (.inr (.inr (11, [3, 16, 39, 62, 0, 85, 97, 100, 0, 101, 106, 107, 108, 109, 110, 1]))) := rfl
theorem cw0_1 : zw0[1]? = some (.inr (.inl (3, [2, 4, 6, 8, 10, 12]))) := rfl
theorem cw0_2 : zw0[2]? = some (.inr (.inr (2, [0, 0, 5, 0, 0]))) := rfl
theorem cw0_3 : zw0[3]? = some (.inl (0, 30)) := rfl
theorem cw0_4 : zw0[4]? = some (.inr (.inr (0, [0, 0, 7, 0, 0]))) := rfl
theorem cw0_5 : zw0[5]? = some (.inl (0, 30)) := rfl
theorem cw0_6 : zw0[6]? = some (.inr (.inr (8, [0, 0, 9, 0, 0]))) := rfl
theorem cw0_7 : zw0[7]? = some (.inl (0, 30)) := rfl
theorem cw0_8 : zw0[8]? = some (.inr (.inr (9, [0, 0, 11, 0, 0]))) := rfl
theorem cw0_9 : zw0[9]? = some (.inl (0, 30)) := rfl
theorem cw0_10 : zw0[10]? = some (.inr (.inr (1, [0, 0, 13, 0, 0]))) := rfl
theorem cw0_11 : zw0[11]? = some (.inl (0, 30)) := rfl
theorem cw0_12 : zw0[12]? = some (.inr (.inr (3, [0, 0, 15, 0, 0]))) := rfl
theorem cw0_13 : zw0[13]? = some (.inl (0, 30)) := rfl
theorem cw0_14 : zw0[14]? = some (.inr (.inr (10, [17, 18, 19, 20, 21, 22, 23, 24, 25, 33, 0, 0, 0, 0, 0, 0, 0, 0]))) := rfl
theorem cw0_15 : zw0[15]? = some (.inl (0, 6)) := rfl
theorem cw0_16 : zw0[16]? = some (.inl (0, 6)) := rfl
theorem cw0_17 : zw0[17]? = some (.inl (0, 6)) := rfl
theorem cw0_18 : zw0[18]? = some (.inl (0, 6)) := rfl
theorem cw0_19 : zw0[19]? = some (.inl (0, 6)) := rfl
theorem cw0_20 : zw0[20]? = some (.inl (0, 6)) := rfl
theorem cw0_21 : zw0[21]? = some (.inl (0, 6)) := rfl
theorem cw0_22 : zw0[22]? = some (.inl (0, 16)) := rfl
theorem cw0_23 : zw0[23]? = some (.inr (.inr (7, [26, 27, 28, 29, 30, 31, 32, 0, 0]))) := rfl
theorem cw0_24 : zw0[24]? = some (.inl (0, 8)) := rfl
theorem cw0_25 : zw0[25]? = some (.inl (0, 8)) := rfl
theorem cw0_26 : zw0[26]? = some (.inl (0, 8)) := rfl
theorem cw0_27 : zw0[27]? = some (.inl (0, 100)) := rfl
theorem cw0_28 : zw0[28]? = some (.inl (0, 100)) := rfl
theorem cw0_29 : zw0[29]? = some (.inl (0, 100)) := rfl
theorem cw0_30 : zw0[30]? = some (.inl (0, 5)) := rfl
theorem cw0_31 : zw0[31]? = some (.inr (.inr (5, [34, 35, 36, 37, 0, 0, 38, 0]))) := rfl
theorem cw0_32 : zw0[32]? = some (.inl (0, 6)) := rfl
theorem cw0_33 : zw0[33]? = some (.inl (0, 6)) := rfl
theorem cw0_34 : zw0[34]? = some (.inl (0, 6)) := rfl
theorem cw0_35 : zw0[35]? = some (.inl (0, 6)) := rfl
theorem cw0_36 : zw0[36]? = some (.inl (0, 3)) := rfl
theorem cw0_37 : zw0[37]? = some (.inr (.inr (10, [40, 41, 42, 43, 44, 45, 46, 47, 48, 56, 0, 0, 0, 0, 0, 0, 0, 0]))) := rfl
theorem cw0_38 : zw0[38]? = some (.inl (0, 6)) := rfl
theorem cw0_39 : zw0[39]? = some (.inl (0, 6)) := rfl
theorem cw0_40 : zw0[40]? = some (.inl (0, 6)) := rfl
theorem cw0_41 : zw0[41]? = some (.inl (0, 6)) := rfl
theorem cw0_42 : zw0[42]? = some (.inl (0, 6)) := rfl
theorem cw0_43 : zw0[43]? = some (.inl (0, 6)) := rfl
theorem cw0_44 : zw0[44]? = some (.inl (0, 6)) := rfl
theorem cw0_45 : zw0[45]? = some (.inl (0, 16)) := rfl
theorem cw0_46 : zw0[46]? = some (.inr (.inr (7, [49, 50, 51, 52, 53, 54, 55, 0, 0]))) := rfl
theorem cw0_47 : zw0[47]? = some (.inl (0, 8)) := rfl
theorem cw0_48 : zw0[48]? = some (.inl (0, 8)) := rfl
theorem cw0_49 : zw0[49]? = some (.inl (0, 8)) := rfl
theorem cw0_50 : zw0[50]? = some (.inl (0, 100)) := rfl
theorem cw0_51 : zw0[51]? = some (.inl (0, 100)) := rfl
theorem cw0_52 : zw0[52]? = some (.inl (0, 100)) := rfl
theorem cw0_53 : zw0[53]? = some (.inl (0, 5)) := rfl
theorem cw0_54 : zw0[54]? = some (.inr (.inr (5, [57, 58, 59, 60, 0, 0, 61, 0]))) := rfl
theorem cw0_55 : zw0[55]? = some (.inl (0, 6)) := rfl
theorem cw0_56 : zw0[56]? = some (.inl (0, 6)) := rfl
theorem cw0_57 : zw0[57]? = some (.inl (0, 6)) := rfl
theorem cw0_58 : zw0[58]? = some (.inl (0, 6)) := rfl
theorem cw0_59 : zw0[59]? = some (.inl (0, 3)) := rfl
theorem cw0_60 : zw0[60]? = some (.inr (.inr (10, [63, 64, 65, 66, 67, 68, 69, 70, 71, 79, 0, 0, 0, 0, 0, 0, 0, 0]))) := rfl
theorem cw0_61 : zw0[61]? = some (.inl (0, 6)) := rfl
theorem cw0_62 : zw0[62]? = some (.inl (0, 6)) := rfl
theorem cw0_63 : zw0[63]? = some (.inl (0, 6)) := rfl
theorem cw0_64 : zw0[64]? = some (.inl (0, 6)) := rfl
theorem cw0_65 : zw0[65]? = some (.inl (0, 6)) := rfl
theorem cw0_66 : zw0[66]? = some (.inl (0, 6)) := rfl
theorem cw0_67 : zw0[67]? = some (.inl (0, 6)) := rfl
theorem cw0_68 : zw0[68]? = some (.inl (0, 16)) := rfl
theorem cw0_69 : zw0[69]? = some (.inr (.inr (7, [72, 73, 74, 75, 76, 77, 78, 0, 0]))) := rfl
theorem cw0_70 : zw0[70]? = some (.inl (0, 8)) := rfl
theorem cw0_71 : zw0[71]? = some (.inl (0, 8)) := rfl
theorem cw0_72 : zw0[72]? = some (.inl (0, 8)) := rfl
theorem cw0_73 : zw0[73]? = some (.inl (0, 100)) := rfl
theorem cw0_74 : zw0[74]? = some (.inl (0, 100)) := rfl
theorem cw0_75 : zw0[75]? = some (.inl (0, 100)) := rfl
theorem cw0_76 : zw0[76]? = some (.inl (0, 5)) := rfl
theorem cw0_77 : zw0[77]? = some (.inr (.inr (5, [80, 81, 82, 83, 0, 0, 84, 0]))) := rfl
theorem cw0_78 : zw0[78]? = some (.inl (0, 6)) := rfl
theorem cw0_79 : zw0[79]? = some (.inl (0, 6)) := rfl
theorem cw0_80 : zw0[80]? = some (.inl (0, 6)) := rfl
theorem cw0_81 : zw0[81]? = some (.inl (0, 6)) := rfl
theorem cw0_82 : zw0[82]? = some (.inl (0, 3)) := rfl
theorem cw0_83 : zw0[83]? = some (.inr (.inr (6, [86, 0, 87, 88, 89, 0, 0]))) := rfl
theorem cw0_84 : zw0[84]? = some (.inl (0, 200)) := rfl
theorem cw0_85 : zw0[85]? = some (.inl (0, 201)) := rfl
theorem cw0_86 : zw0[86]? = some (.inl (0, 201)) := rfl
theorem cw0_87 : zw0[87]? = some (.inr (.inr (7, [90, 91, 92, 93, 94, 95, 96, 0, 0]))) := rfl
theorem cw0_88 : zw0[88]? = some (.inl (0, 8)) := rfl
theorem cw0_89 : zw0[89]? = some (.inl (0, 8)) := rfl
theorem cw0_90 : zw0[90]? = some (.inl (0, 8)) := rfl
theorem cw0_91 : zw0[91]? = some (.inl (0, 100)) := rfl
theorem cw0_92 : zw0[92]? = some (.inl (0, 100)) := rfl
theorem cw0_93 : zw0[93]? = some (.inl (0, 100)) := rfl
theorem cw0_94 : zw0[94]? = some (.inl (0, 5)) := rfl
theorem cw0_95 : zw0[95]? = some (.inr (.inr (4, [0, 0, 0, 0, 0, 0, 98, 99, 0]))) := rfl
theorem cw0_96 : zw0[96]? = some (.inl (0, 4)) := rfl
theorem cw0_97 : zw0[97]? = some (.inl (0, 4)) := rfl
theorem cw0_98 : zw0[98]? = some (.inl (0, 12)) := rfl
theorem cw0_99 : zw0[99]? = some (.inr (.inl (4, [100, 101, 102, 103]))) := rfl
theorem cw0_100 : zw0[100]? = some (.inl (1, 40)) := rfl
theorem cw0_101 : zw0[101]? = some (.inl (1, 40)) := rfl
theorem cw0_102 : zw0[102]? = some (.inl (1, 40)) := rfl
theorem cw0_103 : zw0[103]? = some (.inl (1, 40)) := rfl
theorem cw0_104 : zw0[104]? = some (.inl (0, 4)) := rfl
theorem cw0_105 : zw0[105]? = some (.inl (0, 4)) := rfl
theorem cw0_106 : zw0[106]? = some (.inl (0, 4)) := rfl
theorem cw0_107 : zw0[107]? = some (.inl (0, 4)) := rfl
theorem cw0_108 : zw0[108]? = some (.inl (0, 4)) := rfl
theorem cw1_0 : zw1[0]? = some (.inr (.inr (12, [3, 4, 5, 0, 6, 7, 0, 8, 0, 0, 0, 0, 0, 0, 9, 10, 0, 0, 11, 12, 13, 0, 0, 0, 0, 14, 15, 0, 16, 0, 17, 18, 19, 20, 21, 22, 0, 0, 0]))) := rfl
theorem cw1_1 : zw1[1]? = some (.inl (0, 322)) := rfl
theorem cw1_2 : zw1[2]? = some (.inl (0, 322)) := rfl
theorem cw1_3 : zw1[3]? = some (.inl (0, 74)) := rfl
theorem cw1_4 : zw1[4]? = some (.inl (0, 200)) := rfl
theorem cw1_5 : zw1[5]? = some (.inl (0, 200)) := rfl
theorem cw1_6 : zw1[6]? = some (.inl (2, 144)) := rfl
theorem cw1_7 : zw1[7]? = some (.inl (0, 200)) := rfl
theorem cw1_8 : zw1[8]? = some (.inl (0, 24)) := rfl
theorem cw1_9 : zw1[9]? = some (.inl (0, 370)) := rfl
theorem cw1_10 : zw1[10]? = some (.inl (0, 4)) := rfl
theorem cw1_11 : zw1[11]? = some (.inl (0, 4)) := rfl
theorem cw1_12 : zw1[12]? = some (.inl (0, 16)) := rfl
theorem cw1_13 : zw1[13]? = some (.inl (0, 16)) := rfl
theorem cw1_14 : zw1[14]? = some (.inl (0, 12)) := rfl
theorem cw1_15 : zw1[15]? = some (.inl (0, 4)) := rfl
theorem cw1_16 : zw1[16]? = some (.inl (0, 4)) := rfl
theorem cw1_17 : zw1[17]? = some (.inl (0, 160)) := rfl
theorem cw1_18 : zw1[18]? = some (.inl (0, 4)) := rfl
theorem cw1_19 : zw1[19]? = some (.inl (0, 4)) := rfl
theorem cw1_20 : zw1[20]? = some (.inl (0, 30)) := rfl
theorem jl_X11_367 : zLkM RX11 367 Lib.Math.max.name Lib.Math.max.code 2 := ⟨zm2 193 rfl rfl, zm2 194 rfl rfl, zm1 15 rfl rfl, zm2 195 rfl rfl⟩
theorem jl_X10_106 : zLkM RX10 106 Lib.Math.max.name Lib.Math.max.code 2 := ⟨zm2 196 rfl rfl, zm2 194 rfl rfl, zm1 15 rfl rfl, zm2 195 rfl rfl⟩
theorem jl_X7_40 : zLkA RX7 40 := ⟨zm3 182 rfl rfl, zm3 184 rfl rfl, zm3 183 rfl rfl, zm1 20 rfl rfl⟩
theorem jl_X11_220 : zLkM RX11 220 Lib.Math.min.name Lib.Math.min.code 2 := ⟨zm3 198 rfl rfl, zm3 199 rfl rfl, zm1 15 rfl rfl, zm3 200 rfl rfl⟩
theorem jl_X10_155 : zLkM RX10 155 Lib.Math.min.name Lib.Math.min.code 2 := ⟨zm3 212 rfl rfl, zm3 199 rfl rfl, zm1 15 rfl rfl, zm3 200 rfl rfl⟩
theorem jl_X10_66 : zLkA RX10 66 := ⟨zm3 228 rfl rfl, zm3 184 rfl rfl, zm3 183 rfl rfl, zm1 20 rfl rfl⟩
theorem jl_X5_31 : zLkA RX5 31 := ⟨zm3 234 rfl rfl, zm3 184 rfl rfl, zm3 183 rfl rfl, zm1 20 rfl rfl⟩
theorem jl_X10_163 : zLkM RX10 163 Lib.Math.abs.name Lib.Math.abs.code 1 := ⟨zm4 42 rfl rfl, zm4 43 rfl rfl, zm1 15 rfl rfl, zm4 44 rfl rfl⟩
theorem jl_X11_228 : zLkM RX11 228 Lib.Math.abs.name Lib.Math.abs.code 1 := ⟨zm4 59 rfl rfl, zm4 43 rfl rfl, zm1 15 rfl rfl, zm4 44 rfl rfl⟩
theorem jl_X4_33 : zLkM RX4 33 Lib.Math.min.name Lib.Math.min.code 2 := ⟨zm4 68 rfl rfl, zm3 199 rfl rfl, zm1 15 rfl rfl, zm3 200 rfl rfl⟩
theorem jl_X4_39 : zLkM RX4 39 Lib.Math.max.name Lib.Math.max.code 2 := ⟨zm4 69 rfl rfl, zm2 194 rfl rfl, zm1 15 rfl rfl, zm2 195 rfl rfl⟩
theorem jl_X4_85 : zLkA RX4 85 := ⟨zm4 77 rfl rfl, zm3 184 rfl rfl, zm3 183 rfl rfl, zm1 20 rfl rfl⟩
