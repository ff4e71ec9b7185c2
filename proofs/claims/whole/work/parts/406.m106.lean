/-! the String of the names: the JDK's own methods on it -/
abbrev mJ0_length_8abf5 : zMI := (yJ0_length_8abf5, cJ0_length_8abf5, 1, (some .int))
theorem ce_J0_length_8abf5 : zCe mJ0_length_8abf5 0 := ⟨zm3 93 rfl rfl, by decide, by decide +kernel, by decide +kernel, by decide +kernel⟩
theorem dJ0_length_8abf5_0 : decode cJ0_length_8abf5 0 = .ok (.aload_n 0, 1) := by decide +kernel
theorem dJ0_length_8abf5_1 : decode cJ0_length_8abf5 1 = .ok (.getfield 9, 3) := by decide +kernel
theorem dJ0_length_8abf5_4 : decode cJ0_length_8abf5 4 = .ok (.arraylength, 1) := by decide +kernel
theorem dJ0_length_8abf5_5 : decode cJ0_length_8abf5 5 = .ok (.aload_n 0, 1) := by decide +kernel
theorem dJ0_length_8abf5_6 : decode cJ0_length_8abf5 6 = .ok (.invokevirtual 335, 3) := by decide +kernel
theorem dJ0_length_8abf5_9 : decode cJ0_length_8abf5 9 = .ok (.ishr, 1) := by decide +kernel
theorem dJ0_length_8abf5_10 : decode cJ0_length_8abf5 10 = .ok (.ireturn, 1) := by decide +kernel
abbrev mJ0_charAt_5068e : zMI := (yJ0_charAt_5068e, cJ0_charAt_5068e, 2, (some .char))
theorem ce_J0_charAt_5068e : zCe mJ0_charAt_5068e 1 := ⟨zm3 103 rfl rfl, by decide, by decide +kernel, by decide +kernel, by decide +kernel⟩
theorem dJ0_charAt_5068e_0 : decode cJ0_charAt_5068e 0 = .ok (.aload_n 0, 1) := by decide +kernel
theorem dJ0_charAt_5068e_1 : decode cJ0_charAt_5068e 1 = .ok (.invokevirtual 492, 3) := by decide +kernel
theorem dJ0_charAt_5068e_4 : decode cJ0_charAt_5068e 4 = .ok (.ifCond .eq 12, 3) := by decide +kernel
theorem dJ0_charAt_5068e_7 : decode cJ0_charAt_5068e 7 = .ok (.aload_n 0, 1) := by decide +kernel
theorem dJ0_charAt_5068e_8 : decode cJ0_charAt_5068e 8 = .ok (.getfield 9, 3) := by decide +kernel
theorem dJ0_charAt_5068e_11 : decode cJ0_charAt_5068e 11 = .ok (.iload_n 1, 1) := by decide +kernel
theorem dJ0_charAt_5068e_12 : decode cJ0_charAt_5068e 12 = .ok (.invokestatic 495, 3) := by decide +kernel
theorem dJ0_charAt_5068e_15 : decode cJ0_charAt_5068e 15 = .ok (.ireturn, 1) := by decide +kernel
theorem dJ0_charAt_5068e_16 : decode cJ0_charAt_5068e 16 = .ok (.aload_n 0, 1) := by decide +kernel
theorem dJ0_charAt_5068e_17 : decode cJ0_charAt_5068e 17 = .ok (.getfield 9, 3) := by decide +kernel
theorem dJ0_charAt_5068e_20 : decode cJ0_charAt_5068e 20 = .ok (.iload_n 1, 1) := by decide +kernel
theorem dJ0_charAt_5068e_21 : decode cJ0_charAt_5068e 21 = .ok (.invokestatic 498, 3) := by decide +kernel
theorem dJ0_charAt_5068e_24 : decode cJ0_charAt_5068e 24 = .ok (.ireturn, 1) := by decide +kernel
abbrev mJ0_coder_7d493 : zMI := (yJ0_coder_7d493, cJ0_coder_7d493, 1, (some .byte))
theorem ce_J0_coder_7d493 : zCe mJ0_coder_7d493 0 := ⟨zm3 97 rfl rfl, by decide, by decide +kernel, by decide +kernel, by decide +kernel⟩
theorem dJ0_coder_7d493_0 : decode cJ0_coder_7d493 0 = .ok (.getstatic 38, 3) := by decide +kernel
theorem dJ0_coder_7d493_3 : decode cJ0_coder_7d493 3 = .ok (.ifCond .eq 10, 3) := by decide +kernel
theorem dJ0_coder_7d493_6 : decode cJ0_coder_7d493 6 = .ok (.aload_n 0, 1) := by decide +kernel
theorem dJ0_coder_7d493_7 : decode cJ0_coder_7d493 7 = .ok (.getfield 15, 3) := by decide +kernel
theorem dJ0_coder_7d493_10 : decode cJ0_coder_7d493 10 = .ok (.goto 4, 3) := by decide +kernel
theorem dJ0_coder_7d493_13 : decode cJ0_coder_7d493 13 = .ok (.iconst 1, 1) := by decide +kernel
theorem dJ0_coder_7d493_14 : decode cJ0_coder_7d493 14 = .ok (.ireturn, 1) := by decide +kernel
abbrev mJ0_isLatin1_aae02 : zMI := (yJ0_isLatin1_aae02, cJ0_isLatin1_aae02, 1, (some .boolean))
theorem ce_J0_isLatin1_aae02 : zCe mJ0_isLatin1_aae02 0 := ⟨zm3 107 rfl rfl, by decide, by decide +kernel, by decide +kernel, by decide +kernel⟩
theorem dJ0_isLatin1_aae02_0 : decode cJ0_isLatin1_aae02 0 = .ok (.getstatic 38, 3) := by decide +kernel
theorem dJ0_isLatin1_aae02_3 : decode cJ0_isLatin1_aae02 3 = .ok (.ifCond .eq 14, 3) := by decide +kernel
theorem dJ0_isLatin1_aae02_6 : decode cJ0_isLatin1_aae02 6 = .ok (.aload_n 0, 1) := by decide +kernel
theorem dJ0_isLatin1_aae02_7 : decode cJ0_isLatin1_aae02 7 = .ok (.getfield 15, 3) := by decide +kernel
theorem dJ0_isLatin1_aae02_10 : decode cJ0_isLatin1_aae02 10 = .ok (.ifCond .ne 7, 3) := by decide +kernel
theorem dJ0_isLatin1_aae02_13 : decode cJ0_isLatin1_aae02 13 = .ok (.iconst 1, 1) := by decide +kernel
theorem dJ0_isLatin1_aae02_14 : decode cJ0_isLatin1_aae02 14 = .ok (.goto 4, 3) := by decide +kernel
theorem dJ0_isLatin1_aae02_17 : decode cJ0_isLatin1_aae02 17 = .ok (.iconst 0, 1) := by decide +kernel
theorem dJ0_isLatin1_aae02_18 : decode cJ0_isLatin1_aae02 18 = .ok (.ireturn, 1) := by decide +kernel
abbrev mJ0_checkIndex_df160 : zMI := (yJ0_checkIndex_df160, cJ0_checkIndex_df160, 2, none)
theorem ce_J0_checkIndex_df160 : zCe mJ0_checkIndex_df160 2 := ⟨zm3 113 rfl rfl, by decide, by decide +kernel, by decide +kernel, by decide +kernel⟩
theorem dJ0_checkIndex_df160_0 : decode cJ0_checkIndex_df160 0 = .ok (.iload_n 0, 1) := by decide +kernel
theorem dJ0_checkIndex_df160_1 : decode cJ0_checkIndex_df160 1 = .ok (.iload_n 1, 1) := by decide +kernel
theorem dJ0_checkIndex_df160_2 : decode cJ0_checkIndex_df160 2 = .ok (.getstatic 1053, 3) := by decide +kernel
theorem dJ0_checkIndex_df160_5 : decode cJ0_checkIndex_df160 5 = .ok (.invokestatic 1059, 3) := by decide +kernel
theorem dJ0_checkIndex_df160_8 : decode cJ0_checkIndex_df160 8 = .ok (.pop, 1) := by decide +kernel
theorem dJ0_checkIndex_df160_9 : decode cJ0_checkIndex_df160 9 = .ok (.return_, 1) := by decide +kernel
abbrev mJ1_charAt_3b067 : zMI := (yJ1_charAt_3b067, cJ1_charAt_3b067, 2, (some .char))
theorem ce_J1_charAt_3b067 : zCe mJ1_charAt_3b067 2 := ⟨zm3 110 rfl rfl, by decide, by decide +kernel, by decide +kernel, by decide +kernel⟩
theorem dJ1_charAt_3b067_0 : decode cJ1_charAt_3b067 0 = .ok (.iload_n 1, 1) := by decide +kernel
theorem dJ1_charAt_3b067_1 : decode cJ1_charAt_3b067 1 = .ok (.aload_n 0, 1) := by decide +kernel
theorem dJ1_charAt_3b067_2 : decode cJ1_charAt_3b067 2 = .ok (.arraylength, 1) := by decide +kernel
theorem dJ1_charAt_3b067_3 : decode cJ1_charAt_3b067 3 = .ok (.invokestatic 9, 3) := by decide +kernel
theorem dJ1_charAt_3b067_6 : decode cJ1_charAt_3b067 6 = .ok (.aload_n 0, 1) := by decide +kernel
theorem dJ1_charAt_3b067_7 : decode cJ1_charAt_3b067 7 = .ok (.iload_n 1, 1) := by decide +kernel
theorem dJ1_charAt_3b067_8 : decode cJ1_charAt_3b067 8 = .ok (.baload, 1) := by decide +kernel
theorem dJ1_charAt_3b067_9 : decode cJ1_charAt_3b067 9 = .ok (.sipush 255, 3) := by decide +kernel
theorem dJ1_charAt_3b067_12 : decode cJ1_charAt_3b067 12 = .ok (.iand, 1) := by decide +kernel
theorem dJ1_charAt_3b067_13 : decode cJ1_charAt_3b067 13 = .ok (.i2c, 1) := by decide +kernel
theorem dJ1_charAt_3b067_14 : decode cJ1_charAt_3b067 14 = .ok (.ireturn, 1) := by decide +kernel
abbrev mJ3_checkIndex_8e157 : zMI := (yJ3_checkIndex_8e157, cJ3_checkIndex_8e157, 3, (some .int))
theorem ce_J3_checkIndex_8e157 : zCe mJ3_checkIndex_8e157 3 := ⟨zm3 118 rfl rfl, by decide, by decide +kernel, by decide +kernel, by decide +kernel⟩
theorem dJ3_checkIndex_8e157_0 : decode cJ3_checkIndex_8e157 0 = .ok (.iload_n 0, 1) := by decide +kernel
theorem dJ3_checkIndex_8e157_1 : decode cJ3_checkIndex_8e157 1 = .ok (.ifCond .lt 8, 3) := by decide +kernel
theorem dJ3_checkIndex_8e157_4 : decode cJ3_checkIndex_8e157 4 = .ok (.iload_n 0, 1) := by decide +kernel
theorem dJ3_checkIndex_8e157_5 : decode cJ3_checkIndex_8e157 5 = .ok (.iload_n 1, 1) := by decide +kernel
theorem dJ3_checkIndex_8e157_6 : decode cJ3_checkIndex_8e157 6 = .ok (.if_icmp .lt 10, 3) := by decide +kernel
theorem dJ3_checkIndex_8e157_9 : decode cJ3_checkIndex_8e157 9 = .ok (.aload_n 2, 1) := by decide +kernel
theorem dJ3_checkIndex_8e157_10 : decode cJ3_checkIndex_8e157 10 = .ok (.iload_n 0, 1) := by decide +kernel
theorem dJ3_checkIndex_8e157_11 : decode cJ3_checkIndex_8e157 11 = .ok (.iload_n 1, 1) := by decide +kernel
theorem dJ3_checkIndex_8e157_12 : decode cJ3_checkIndex_8e157 12 = .ok (.invokestatic 95, 3) := by decide +kernel
theorem dJ3_checkIndex_8e157_16 : decode cJ3_checkIndex_8e157 16 = .ok (.iload_n 0, 1) := by decide +kernel
theorem dJ3_checkIndex_8e157_17 : decode cJ3_checkIndex_8e157 17 = .ok (.ireturn, 1) := by decide +kernel
theorem lk_J0_335 : zLkV RJ0 335 mJ0_coder_7d493 := ⟨zm3 94 rfl rfl, zm3 95 rfl rfl, zm3 96 rfl rfl, zm1 16 rfl rfl⟩
theorem lk_J0_492 : zLkV RJ0 492 mJ0_isLatin1_aae02 := ⟨zm3 104 rfl rfl, zm3 105 rfl rfl, zm3 106 rfl rfl, zm1 16 rfl rfl⟩
theorem lk_X6_70 : zLkV RX6 70 mJ0_length_8abf5 := ⟨zm3 90 rfl rfl, zm3 91 rfl rfl, zm3 92 rfl rfl, zm1 16 rfl rfl⟩
theorem lk_X6_76 : zLkV RX6 76 mJ0_charAt_5068e := ⟨zm3 100 rfl rfl, zm3 101 rfl rfl, zm3 102 rfl rfl, zm1 16 rfl rfl⟩
theorem lk_J0_495 : zLkS RJ0 495 mJ1_charAt_3b067 := ⟨zm3 108 rfl rfl, zm3 109 rfl rfl, zm1 17 rfl rfl⟩
theorem lk_J0_1059 : zLkS RJ0 1059 mJ3_checkIndex_8e157 := ⟨zm3 116 rfl rfl, zm3 117 rfl rfl, zm1 18 rfl rfl⟩
theorem lk_J1_9 : zLkS RJ1 9 mJ0_checkIndex_df160 := ⟨zm3 111 rfl rfl, zm3 112 rfl rfl, zm1 16 rfl rfl⟩
theorem zi_ldcS {w : List zDesc} {d : Nat} {mi : zMI} {Q : Option Value → zMem → Prop} {pc : Nat} {L : zLv} {S : List Value} {M : zMem} (ho : mi.1.cls = "ThirteenthBun$RuleText") (dg : decode mi.2.1 pc = .ok (.ldc 68, 2)) (kk : zRn w d mi Q (pc + 2) L (.ref 1000 :: S) M) : zRn w d mi Q pc L S M := by
  intro p l e s m args below meth c dC dI ad cA C H locs ls hP hS hl
  exact va_ldcS C.1 C.2.1 (by rw [← ho]; exact C.2.2.2.2.1) C.2.2.2.2.2.2.2.2.2.2.2.2.2 dg (kk p l e s m args below meth c dC dI ad cA C H locs ls hP hS hl)
theorem zi_getK {w : List zDesc} {d : Nat} {mi : zMI} {Q : Option Value → zMem → Prop} {pc : Nat} {L : zLv} {S : List Value} {M : zMem} (ho : mi.1.cls = "java/lang/String") (dg : decode mi.2.1 pc = .ok (.getfield 15, 3)) (kk : zRn w d mi Q (pc + 3) L (.int (nI 0) :: S) M) : zRn w d mi Q pc L (.ref 1000 :: S) M := by
  intro p l e s m args below meth c dC dI ad cA C H locs ls hP hS hl
  exact vk_getf C.1 C.2.1 (C.2.2.2.2.2.2.2.2.2.2.2.2.1.1 0 (by decide)).2.1 hS (by rw [← ho]; exact C.2.2.2.2.1) (C.2.2.2.2.2.1 _ (zm8 70 rfl rfl)) (fun _ h => h) dg (kk p l e s m args below meth c dC dI ad cA C H locs ls hP hS hl)
theorem zi_getV {w : List zDesc} {d : Nat} {mi : zMI} {Q : Option Value → zMem → Prop} {pc : Nat} {L : zLv} {S : List Value} {M : zMem} (ho : mi.1.cls = "java/lang/String") (dg : decode mi.2.1 pc = .ok (.getfield 9, 3)) (kk : zRn w d mi Q (pc + 3) L (.ref 1001 :: S) M) : zRn w d mi Q pc L (.ref 1000 :: S) M := by
  intro p l e s m args below meth c dC dI ad cA C H locs ls hP hS hl
  exact vk_getf C.1 C.2.1 (C.2.2.2.2.2.2.2.2.2.2.2.2.1.1 0 (by decide)).2.2.1 hS (by rw [← ho]; exact C.2.2.2.2.1) (C.2.2.2.2.2.1 _ (zm8 69 rfl rfl)) (fun _ h => h) dg (kk p l e s m args below meth c dC dI ad cA C H locs ls hP hS hl)
theorem zi_alenS {w : List zDesc} {d : Nat} {mi : zMI} {Q : Option Value → zMem → Prop} {pc : Nat} {L : zLv} {S : List Value} {M : zMem} (dg : decode mi.2.1 pc = .ok (.arraylength, 1)) (kk : zRn w d mi Q (pc + 1) L (.int (nI 95) :: S) M) : zRn w d mi Q pc L (.ref 1001 :: S) M := by
  intro p l e s m args below meth c dC dI ad cA C H locs ls hP hS hl
  exact va_tlen C.1 C.2.1 (C.2.2.2.2.2.2.2.2.2.2.2.2.1.1 0 (by decide)).2.2.2 hS rfl dg (kk p l e s m args below meth c dC dI ad cA C H locs ls hP hS hl)
theorem zi_baldS {w : List zDesc} {d : Nat} {mi : zMI} {Q : Option Value → zMem → Prop} {pc : Nat} {L : zLv} {S : List Value} {M : zMem} {k : Nat} (hk : k < 95) (dg : decode mi.2.1 pc = .ok (.baload, 1)) (kk : zRn w d mi Q (pc + 1) L (.int (zRidB.getD k 0) :: S) M) : zRn w d mi Q pc L (.int (nI k) :: .ref 1001 :: S) M := by
  intro p l e s m args below meth c dC dI ad cA C H locs ls hP hS hl
  exact va_tb C.1 C.2.1 (C.2.2.2.2.2.2.2.2.2.2.2.2.1.1 0 (by decide)).2.2.2 hS (vp_in_nI hk (by decide)) (by rw [nI_clamp (by omega)]; rfl) dg (kk p l e s m args below meth c dC dI ad cA C H locs ls hP hS hl)
theorem zi_getsC {w : List zDesc} {d : Nat} {mi : zMI} {Q : Option Value → zMem → Prop} {pc : Nat} {L : zLv} {S : List Value} {M : zMem} (ho : mi.1.cls = "java/lang/String") (dg : decode mi.2.1 pc = .ok (.getstatic 38, 3)) (kk : zRn w d mi Q (pc + 3) L (.int (nI 1) :: S) M) : zRn w d mi Q pc L S M := by
  intro p l e s m args below meth c dC dI ad cA C H locs ls hP hS hl
  exact va_gets C.1 C.2.1 C.2.2.2.2.2.2.2.2.2.2.1 hS (by rw [← ho]; exact C.2.2.2.2.1) (C.2.2.2.2.2.1 _ (zm3 98 rfl rfl)) (fun _ h => h) dg (kk p l e s m args below meth c dC dI ad cA C H locs ls hP hS hl)
theorem zi_getsQ {w : List zDesc} {d : Nat} {mi : zMI} {Q : Option Value → zMem → Prop} {pc : Nat} {L : zLv} {S : List Value} {M : zMem} (ho : mi.1.cls = "java/lang/String") (dg : decode mi.2.1 pc = .ok (.getstatic 1053, 3)) (k0 : zRn w d mi Q (pc + 3) L (.null :: S) M) (k1 : zRn w d mi Q (pc + 3) L (.ref 1002 :: S) M) : zRn w d mi Q pc L S M := by
  intro p l e s m args below meth c dC dI ad cA C H locs ls hP hS hl
  rcases C.2.2.2.2.2.2.2.2.2.2.2.1 with h | h
  · exact va_gets C.1 C.2.1 h hS (by rw [← ho]; exact C.2.2.2.2.1) (C.2.2.2.2.2.1 _ (zm3 114 rfl rfl)) (fun _ h => h) dg (k0 p l e s m args below meth c dC dI ad cA C H locs ls hP hS hl)
  · exact va_gets C.1 C.2.1 h hS (by rw [← ho]; exact C.2.2.2.2.1) (C.2.2.2.2.2.1 _ (zm3 114 rfl rfl)) (fun _ h => h) dg (k1 p l e s m args below meth c dC dI ad cA C H locs ls hP hS hl)
theorem zi_i2c {w : List zDesc} {d : Nat} {mi : zMI} {Q : Option Value → zMem → Prop} {pc : Nat} {L : zLv} {S : List Value} {M : zMem} {x v : Int32} (dg : decode mi.2.1 pc = .ok (.i2c, 1)) (hv : (x.toUInt32 % 65536).toInt32 = v) (kk : zRn w d mi Q (pc + 1) L (.int v :: S) M) : zRn w d mi Q pc L (.int x :: S) M := by
  intro p l e s m args below meth c dC dI ad cA C H locs ls hP hS hl
  exact lv_i2c C.1 C.2.1 dg hv (kk p l e s m args below meth c dC dI ad cA C H locs ls hP hS hl)
theorem zi_callT {w : List zDesc} {d : Nat} {mi : zMI} {Q : Option Value → zMem → Prop} {pc : Nat} {L : zLv} {S : List Value} {M : zMem} {index d' n : Nat} {mj : zMI} {as S0 : List Value} {Q' : Option Value → zMem → Prop} (lk : zLkV mi.1.cls index mj) (ce : zCe mj n) (hcl : mj.1.cls = "java/lang/String") (dg : decode mi.2.1 pc = .ok (.invokevirtual index, 3)) (hd : d' < d) (hn : as.length = n) (hS0 : as.reverse ++ (.ref 1000 :: S) = S0) (hcat : (S.map fun v => v.category).sum ≤ 8)
    (ok : zOk w d' mj (.ref 1000 :: as) M Q') (kk : ∀ (r : Option Value) (M' : zMem), Q' r M' → zRn w d mi Q (pc + 3) L (r.toList ++ S) M') : zRn w d mi Q pc L S0 M := by
  subst hS0
  intro p l e s m args below meth c dC dI ad cA C H locs ls hP hS hl
  obtain ⟨k1, k2, k3, k4⟩ := lk
  rw [zrev]
  refine zback (rest := S.map (zT ad)) (Q' := Q') (va_runV (As := as.map (zT ad)) (b := ad 1000) (C := mj.1.cls) (ws := zWd mj) (rm := zR d') ⟨C.1, C.2.1, C.2.2.2.1, C.2.2.2.2.1, C.2.2.2.2.2.1⟩ (ok l dC dI ad cA C.2.2.2.2.2.2.2.2.1) (cwV n C.2.2.2.2.2.1 (zGcons k1 (zGcons k2 (zGcons k3 (zGcons k4 (zGwd ce.1))))) rfl rfl rfl ⟨rfl, ce.2.2⟩ (zroom hd ce.2.1))
    ⟨zblind, by rw [hcl]; exact vk_recv C.2.2.2.2.2.2.2.2.2.2.2.2.1 (i := 0) (by decide) hS, fun U hU hW => ⟨rfl, by rw [hU]; exact hP, va_K.moved hW.alike C.2.2.2.2.2.2.2.1, zNw.warm hW C.2.2.2.2.2.2.2.2.2.1, zRid.go hS hU hW C.2.2.2.2.2.2.2.2.2.2⟩⟩ rfl (by rw [List.length_map]; exact hn) hl.1 rfl (zrest hcat) dg ⟨Nat.le_refl _, Nat.le_refl _⟩) hS ?_
  intro r M' H1 locs1 hq hP1 hS1
  have h := kk r M' hq p l e s m args below meth c dC dI ad cA C H1 locs1 ls hP1 hS1 hl
  rw [zpost] at h
  exact h
theorem zc_T {w : List zDesc} {d : Nat} {mi : zMI} {pc : Nat} {S S0 : List Value} {M : zMem} {index d' n : Nat} {mj : zMI} {as : List Value} (lk : zLkV mi.1.cls index mj) (ce : zCe mj n) (hcl : mj.1.cls = "java/lang/String") (dg : decode mi.2.1 pc = .ok (.invokevirtual index, 3)) (hd : d' < d) (hn : as.length = n) (hS0 : as.reverse ++ (.ref 1000 :: S) = S0) (hcat : (S.map fun v => v.category).sum ≤ 8) : zCall w d mi pc S0 S M d' mj (.ref 1000 :: as) :=
  fun _ _ _ ok kk => zi_callT lk ce hcl dg hd hn hS0 hcat ok kk
theorem zch_r : ∀ k, k < 95 → ((zRidB.getD k 0 &&& nI 255).toUInt32 % 65536).toInt32 = zRidB.getD k 0 := by decide +kernel
theorem zch_n : ∀ k, k < 95 → (zRidB.getD k 0).toUInt32.toUInt16.toUInt32.toInt32 = zRidB.getD k 0 := by decide +kernel
theorem zch_c {k : Nat} (h : k < 95) : narrow .char (.int (zRidB.getD k 0)) = .int (zRidB.getD k 0) := (show narrow .char (.int (zRidB.getD k 0)) = .int ((zRidB.getD k 0).toUInt32.toUInt16.toUInt32.toInt32) from rfl).trans (congrArg Value.int (zch_n k h))
set_option maxRecDepth 100000 in
set_option maxHeartbeats 4000000 in
theorem ok_coder {M : zMem}   : zOkI zw0 0 mJ0_coder_7d493 [.ref 1000] M (nI 0) := by
  refine zOk_of (by decide +kernel) (fun _ => Nat.le_of_ble_eq_true rfl) (L := [(0, .ref 1000)]) rfl ?_
  refine zi_getsC rfl dJ0_coder_7d493_0 ?_
  refine zi_ifN_eq (by decide) (tgt := 13) dJ0_coder_7d493_3 (by decide) (fun c => absurd c (by decide)) (fun _ => ?_)
  refine zi_aload_n dJ0_coder_7d493_6 (i := 0) rfl 0 rfl ?_
  refine zi_getK rfl dJ0_coder_7d493_7 ?_
  refine zi_goto (tgt := 14) dJ0_coder_7d493_10 (by decide) ?_
  refine zi_retI rfl rfl dJ0_coder_7d493_14 ?_
  rfl
set_option maxRecDepth 100000 in
set_option maxHeartbeats 4000000 in
theorem ok_isLatin1 {M : zMem}   : zOkI zw0 0 mJ0_isLatin1_aae02 [.ref 1000] M (nI 1) := by
  refine zOk_of (by decide +kernel) (fun _ => Nat.le_of_ble_eq_true rfl) (L := [(0, .ref 1000)]) rfl ?_
  refine zi_getsC rfl dJ0_isLatin1_aae02_0 ?_
  refine zi_ifN_eq (by decide) (tgt := 17) dJ0_isLatin1_aae02_3 (by decide) (fun c => absurd c (by decide)) (fun _ => ?_)
  refine zi_aload_n dJ0_isLatin1_aae02_6 (i := 0) rfl 0 rfl ?_
  refine zi_getK rfl dJ0_isLatin1_aae02_7 ?_
  refine zi_ifN_ne (by decide) (tgt := 17) dJ0_isLatin1_aae02_10 (by decide) (fun c => absurd c (by decide)) (fun _ => ?_)
  refine zi_iconst (v := nI 1) dJ0_isLatin1_aae02_13 (by decide) ?_
  refine zi_goto (tgt := 18) dJ0_isLatin1_aae02_14 (by decide) ?_
  refine zi_retI rfl rfl dJ0_isLatin1_aae02_18 ?_
  rfl
set_option maxRecDepth 100000 in
set_option maxHeartbeats 4000000 in
theorem ok_length {M : zMem}   : zOkI zw0 1 mJ0_length_8abf5 [.ref 1000] M (nI 95) := by
  refine zOk_of (by decide +kernel) (fun _ => Nat.le_of_ble_eq_true rfl) (L := [(0, .ref 1000)]) rfl ?_
  refine zi_aload_n dJ0_length_8abf5_0 (i := 0) rfl 0 rfl ?_
  refine zi_getV rfl dJ0_length_8abf5_1 ?_
  refine zi_alenS dJ0_length_8abf5_4 ?_
  refine zi_aload_n dJ0_length_8abf5_5 (i := 0) rfl 0 rfl ?_
  refine zcI (zc_T (as := []) lk_J0_335 ce_J0_coder_7d493 rfl dJ0_length_8abf5_6 (by decide) rfl rfl (Nat.le_of_ble_eq_true rfl)) (ok_coder) ?_
  refine zi_ishr dJ0_length_8abf5_9 ?_
  refine zi_top (y := nI 95) (by decide) ?_
  refine zi_retI rfl rfl dJ0_length_8abf5_10 ?_
  rfl
set_option maxRecDepth 100000 in
set_option maxHeartbeats 4000000 in
theorem ok_preCheck0 {M : zMem} {k : Nat} (hk : k < 95) : zOkI zw0 0 mJ3_checkIndex_8e157 [.int (nI k), .int (nI 95), .null] M (nI k) := by
  refine zOk_of (by decide +kernel) (fun _ => Nat.le_of_ble_eq_true rfl) (L := [(0, .int (nI k)), (1, .int (nI 95)), (2, .null)]) rfl ?_
  refine zi_iload_n dJ3_checkIndex_8e157_0 (i := 0) rfl 0 rfl ?_
  refine zi_ifN_lt (by  omega) (tgt := 9) dJ3_checkIndex_8e157_1 (by decide) (fun c1 => False.elim (by omega)) (fun c1 => ?_)
  refine zi_iload_n dJ3_checkIndex_8e157_4 (i := 0) rfl 0 rfl ?_
  refine zi_iload_n dJ3_checkIndex_8e157_5 (i := 1) rfl 1 rfl ?_
  refine zi_icmpN_lt (by  omega) (by decide) (tgt := 16) dJ3_checkIndex_8e157_6 (by decide) (fun c6 => ?_) (fun c6 => False.elim (by omega))
  refine zi_iload_n dJ3_checkIndex_8e157_16 (i := 0) rfl 0 rfl ?_
  refine zi_retI rfl rfl dJ3_checkIndex_8e157_17 ?_
  rfl
set_option maxRecDepth 100000 in
set_option maxHeartbeats 4000000 in
theorem ok_preCheck1 {M : zMem} {k : Nat} (hk : k < 95) : zOkI zw0 0 mJ3_checkIndex_8e157 [.int (nI k), .int (nI 95), .ref 1002] M (nI k) := by
  refine zOk_of (by decide +kernel) (fun _ => Nat.le_of_ble_eq_true rfl) (L := [(0, .int (nI k)), (1, .int (nI 95)), (2, .ref 1002)]) rfl ?_
  refine zi_iload_n dJ3_checkIndex_8e157_0 (i := 0) rfl 0 rfl ?_
  refine zi_ifN_lt (by  omega) (tgt := 9) dJ3_checkIndex_8e157_1 (by decide) (fun c1 => False.elim (by omega)) (fun c1 => ?_)
  refine zi_iload_n dJ3_checkIndex_8e157_4 (i := 0) rfl 0 rfl ?_
  refine zi_iload_n dJ3_checkIndex_8e157_5 (i := 1) rfl 1 rfl ?_
  refine zi_icmpN_lt (by  omega) (by decide) (tgt := 16) dJ3_checkIndex_8e157_6 (by decide) (fun c6 => ?_) (fun c6 => False.elim (by omega))
  refine zi_iload_n dJ3_checkIndex_8e157_16 (i := 0) rfl 0 rfl ?_
  refine zi_retI rfl rfl dJ3_checkIndex_8e157_17 ?_
  rfl
set_option maxRecDepth 100000 in
set_option maxHeartbeats 4000000 in
theorem ok_checkIndex {M : zMem} {k : Nat} (hk : k < 95) : zOkV zw0 1 mJ0_checkIndex_df160 [.int (nI k), .int (nI 95)] M (fun M' => M' = M) := by
  refine zOk_of (by decide +kernel) (fun _ => Nat.le_of_ble_eq_true rfl) (L := [(0, .int (nI k)), (1, .int (nI 95))]) rfl ?_
  refine zi_iload_n dJ0_checkIndex_df160_0 (i := 0) rfl 0 rfl ?_
  refine zi_iload_n dJ0_checkIndex_df160_1 (i := 1) rfl 1 rfl ?_
  refine zi_getsQ rfl dJ0_checkIndex_df160_2 ?_ ?_
  · refine zcI (zc_S (as := [.int (nI k), .int (nI 95), .null]) lk_J0_1059 ce_J3_checkIndex_8e157 dJ0_checkIndex_df160_5 (by decide) rfl rfl (Nat.le_of_ble_eq_true rfl)) (ok_preCheck0 hk) ?_
    refine zi_popI dJ0_checkIndex_df160_8 ?_
    refine zi_retV rfl dJ0_checkIndex_df160_9 ?_
    rfl
  · refine zcI (zc_S (as := [.int (nI k), .int (nI 95), .ref 1002]) lk_J0_1059 ce_J3_checkIndex_8e157 dJ0_checkIndex_df160_5 (by decide) rfl rfl (Nat.le_of_ble_eq_true rfl)) (ok_preCheck1 hk) ?_
    refine zi_popI dJ0_checkIndex_df160_8 ?_
    refine zi_retV rfl dJ0_checkIndex_df160_9 ?_
    rfl
set_option maxRecDepth 100000 in
set_option maxHeartbeats 4000000 in
theorem ok_latinCharAt {M : zMem} {k : Nat} (hk : k < 95) : zOkI zw0 2 mJ1_charAt_3b067 [.ref 1001, .int (nI k)] M (zRidB.getD k 0) := by
  refine zOk_of (by decide +kernel) (fun _ => Nat.le_of_ble_eq_true rfl) (L := [(0, .ref 1001), (1, .int (nI k))]) rfl ?_
  refine zi_iload_n dJ1_charAt_3b067_0 (i := 1) rfl 1 rfl ?_
  refine zi_aload_n dJ1_charAt_3b067_1 (i := 0) rfl 0 rfl ?_
  refine zi_alenS dJ1_charAt_3b067_2 ?_
  refine zcV (zc_S (as := [.int (nI k), .int (nI 95)]) lk_J1_9 ce_J0_checkIndex_df160 dJ1_charAt_3b067_3 (by decide) rfl rfl (Nat.le_of_ble_eq_true rfl)) (ok_checkIndex hk) (fun M3 h3 => ?_)
  subst h3
  refine zi_aload_n dJ1_charAt_3b067_6 (i := 0) rfl 0 rfl ?_
  refine zi_iload_n dJ1_charAt_3b067_7 (i := 1) rfl 1 rfl ?_
  refine zi_baldS hk dJ1_charAt_3b067_8 ?_
  refine zi_sipush (v := nI 255) dJ1_charAt_3b067_9 (by decide) ?_
  refine zi_iand dJ1_charAt_3b067_12 ?_
  refine zi_i2c (v := zRidB.getD k 0) dJ1_charAt_3b067_13 (zch_r k hk) ?_
  refine zi_retI rfl (zch_c hk) dJ1_charAt_3b067_14 ?_
  rfl
set_option maxRecDepth 100000 in
set_option maxHeartbeats 4000000 in
theorem ok_charAt {M : zMem} {k : Nat} (hk : k < 95) : zOkI zw0 3 mJ0_charAt_5068e [.ref 1000, .int (nI k)] M (zRidB.getD k 0) := by
  refine zOk_of (by decide +kernel) (fun _ => Nat.le_of_ble_eq_true rfl) (L := [(0, .ref 1000), (1, .int (nI k))]) rfl ?_
  refine zi_aload_n dJ0_charAt_5068e_0 (i := 0) rfl 0 rfl ?_
  refine zcI (zc_T (as := []) lk_J0_492 ce_J0_isLatin1_aae02 rfl dJ0_charAt_5068e_1 (by decide) rfl rfl (Nat.le_of_ble_eq_true rfl)) (ok_isLatin1) ?_
  refine zi_ifN_eq (by decide) (tgt := 16) dJ0_charAt_5068e_4 (by decide) (fun c => absurd c (by decide)) (fun _ => ?_)
  refine zi_aload_n dJ0_charAt_5068e_7 (i := 0) rfl 0 rfl ?_
  refine zi_getV rfl dJ0_charAt_5068e_8 ?_
  refine zi_iload_n dJ0_charAt_5068e_11 (i := 1) rfl 1 rfl ?_
  refine zcI (zc_S (as := [.ref 1001, .int (nI k)]) lk_J0_495 ce_J1_charAt_3b067 dJ0_charAt_5068e_12 (by decide) rfl rfl (Nat.le_of_ble_eq_true rfl)) (ok_latinCharAt hk) ?_
  refine zi_retI rfl (zch_c hk) dJ0_charAt_5068e_15 ?_
  rfl
