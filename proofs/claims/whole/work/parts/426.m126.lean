/-! the class's constructor -/
theorem zup3 {vm : Vm} {a b c : ClassId} {k k1 k2 : Class} (hk : vm.classes[a]? = some k) (hs : k.super = some b) (hk1 : vm.classes[b]? = some k1) (hs1 : k1.super = some c) (hk2 : vm.classes[c]? = some k2) : vm.isSubclass a c = true := by
  by_cases e : b = c
  · subst e; exact zup2 hk hs
  · have h1 : b < vm.classes.size := (Array.getElem?_eq_some_iff.mp hk1).1
    have h2 : c < vm.classes.size := (Array.getElem?_eq_some_iff.mp hk2).1
    have h5 : 2 ≤ vm.classes.size := by
      rcases Nat.lt_or_ge vm.classes.size 2 with h | h
      · exact absurd ((Nat.lt_one_iff.mp (Nat.lt_of_lt_of_le h1 (Nat.le_of_lt_succ h))).trans (Nat.lt_one_iff.mp (Nat.lt_of_lt_of_le h2 (Nat.le_of_lt_succ h))).symm) e
      · exact h
    obtain ⟨n, hn⟩ : ∃ n, vm.classes.size = n + 2 := ⟨vm.classes.size - 2, (Nat.sub_add_cancel h5).symm⟩
    have h4 : vm.isSubclassAux (n + 1) c c = true := by simp [Vm.isSubclassAux]
    unfold Vm.isSubclass
    rw [hn, Vm.isSubclassAux, hk]
    simp only [hs]
    rw [Vm.isSubclassAux, hk1]
    simp only [hs1, h4, Bool.or_true]
theorem zassign {s : State} {A B : String} {a b : ClassId} (h1 : ClassAt s A a) (h2 : ClassAt s B b) (hs : s.vm.isSubclass a b = true) (hni : ∀ k, s.vm.classes[b]? = some k → k.isInterface = false) : s.vm.assignable a b = true := by
  obtain ⟨-, k, hk, hkind⟩ := h1
  obtain ⟨-, k2, hk2, hkind2⟩ := h2
  have h3 := hni k2 hk2
  simp [Vm.assignable, Vm.assignableAux, hk, hkind, hk2, hkind2, hs, h3]
theorem zhni {s : State} {args : Array Value} {b : ClassId} (hW : ∀ v ∈ zTw, v.before args s = true) (h2 : ClassAt s "ThirteenthBun$House" b) : ∀ k, s.vm.classes[b]? = some k → k.isInterface = false := fun k hk => by
  obtain ⟨p1, dk, k1, hp1, hdk, hk1, hs1, -, -, hi⟩ := Cond.superclass_spec h2.1 (hW _ (zm1 61 rfl rfl))
  rw [hk] at hdk
  cases hdk
  exact hi
def zHas (C : String) : Prop := ∀ (s : State) (args : Array Value) (a b : ClassId), (∀ v ∈ zTw, v.before args s = true) → ClassAt s C a → ClassAt s "ThirteenthBun$House" b → s.vm.assignable a b = true
theorem has_X2 : zHas "ThirteenthBun$House" := fun s args a b _ h1 h2 => by
  have e : a = b := Option.some.inj (h1.1.symm.trans h2.1)
  subst e
  exact va_assign h1
theorem zhas1 {C : String} (h : Cond.superclass C "ThirteenthBun$House" ∈ zTw) : zHas C := fun s args a b hW h1 h2 => by
  obtain ⟨p1, dk, k1, hp1, hdk, hk1, hs1, -, -, -⟩ := Cond.superclass_spec h1.1 (hW _ h)
  have e : p1 = b := Option.some.inj (hp1.symm.trans h2.1)
  subst e
  exact zassign h1 h2 (zup2 hdk hs1) (zhni hW h2)
theorem zhas2 {C D : String} (h : Cond.superclass C D ∈ zTw) (h' : Cond.superclass D "ThirteenthBun$House" ∈ zTw) : zHas C := fun s args a b hW h1 h2 => by
  obtain ⟨p1, dk, k1, hp1, hdk, hk1, hs1, -, -, -⟩ := Cond.superclass_spec h1.1 (hW _ h)
  obtain ⟨p2, dk2, k2, hp2, hdk2, hk2, hs2, -, -, -⟩ := Cond.superclass_spec hp1 (hW _ h')
  have e : p2 = b := Option.some.inj (hp2.symm.trans h2.1)
  subst e
  exact zassign h1 h2 (zup3 hdk hs1 hdk2 hs2 hk2) (zhni hW h2)
theorem has_X0 : zHas "ThirteenthBun$Bride" := zhas1 (zm1 74 rfl rfl)
theorem has_X8 : zHas "ThirteenthBun$Sad" := zhas1 (zm1 86 rfl rfl)
theorem has_X1 : zHas "ThirteenthBun$Farm" := zhas1 (zm1 110 rfl rfl)
theorem has_X9 : zHas "ThirteenthBun$Trouble" := zhas2 (D := "ThirteenthBun$Sad") (zm1 98 rfl rfl) (zm1 86 rfl rfl)
theorem has_X3 : zHas "ThirteenthBun$Lovell" := zhas2 (D := "ThirteenthBun$Farm") (zm1 122 rfl rfl) (zm1 110 rfl rfl)
theorem dX11_init_0 : decode cX11_init 0 = .ok (.aload_n 0, 1) := by decide +kernel
theorem dX11_init_1 : decode cX11_init 1 = .ok (.invokespecial 1, 3) := by decide +kernel
theorem dX11_init_4 : decode cX11_init 4 = .ok (.aload_n 0, 1) := by decide +kernel
theorem dX11_init_5 : decode cX11_init 5 = .ok (.bipush 6, 2) := by decide +kernel
theorem dX11_init_7 : decode cX11_init 7 = .ok (.anewarray 7, 3) := by decide +kernel
theorem dX11_init_10 : decode cX11_init 10 = .ok (.dup, 1) := by decide +kernel
theorem dX11_init_11 : decode cX11_init 11 = .ok (.iconst 0, 1) := by decide +kernel
theorem dX11_init_12 : decode cX11_init 12 = .ok (.new 7, 3) := by decide +kernel
theorem dX11_init_15 : decode cX11_init 15 = .ok (.dup, 1) := by decide +kernel
theorem dX11_init_16 : decode cX11_init 16 = .ok (.invokespecial 9, 3) := by decide +kernel
theorem dX11_init_19 : decode cX11_init 19 = .ok (.aastore, 1) := by decide +kernel
theorem dX11_init_20 : decode cX11_init 20 = .ok (.dup, 1) := by decide +kernel
theorem dX11_init_21 : decode cX11_init 21 = .ok (.iconst 1, 1) := by decide +kernel
theorem dX11_init_22 : decode cX11_init 22 = .ok (.new 10, 3) := by decide +kernel
theorem dX11_init_25 : decode cX11_init 25 = .ok (.dup, 1) := by decide +kernel
theorem dX11_init_26 : decode cX11_init 26 = .ok (.invokespecial 12, 3) := by decide +kernel
theorem dX11_init_29 : decode cX11_init 29 = .ok (.aastore, 1) := by decide +kernel
theorem dX11_init_30 : decode cX11_init 30 = .ok (.dup, 1) := by decide +kernel
theorem dX11_init_31 : decode cX11_init 31 = .ok (.iconst 2, 1) := by decide +kernel
theorem dX11_init_32 : decode cX11_init 32 = .ok (.new 13, 3) := by decide +kernel
theorem dX11_init_35 : decode cX11_init 35 = .ok (.dup, 1) := by decide +kernel
theorem dX11_init_36 : decode cX11_init 36 = .ok (.invokespecial 15, 3) := by decide +kernel
theorem dX11_init_39 : decode cX11_init 39 = .ok (.aastore, 1) := by decide +kernel
theorem dX11_init_40 : decode cX11_init 40 = .ok (.dup, 1) := by decide +kernel
theorem dX11_init_41 : decode cX11_init 41 = .ok (.iconst 3, 1) := by decide +kernel
theorem dX11_init_42 : decode cX11_init 42 = .ok (.new 16, 3) := by decide +kernel
theorem dX11_init_45 : decode cX11_init 45 = .ok (.dup, 1) := by decide +kernel
theorem dX11_init_46 : decode cX11_init 46 = .ok (.invokespecial 18, 3) := by decide +kernel
theorem dX11_init_49 : decode cX11_init 49 = .ok (.aastore, 1) := by decide +kernel
theorem dX11_init_50 : decode cX11_init 50 = .ok (.dup, 1) := by decide +kernel
theorem dX11_init_51 : decode cX11_init 51 = .ok (.iconst 4, 1) := by decide +kernel
theorem dX11_init_52 : decode cX11_init 52 = .ok (.new 19, 3) := by decide +kernel
theorem dX11_init_55 : decode cX11_init 55 = .ok (.dup, 1) := by decide +kernel
theorem dX11_init_56 : decode cX11_init 56 = .ok (.invokespecial 21, 3) := by decide +kernel
theorem dX11_init_59 : decode cX11_init 59 = .ok (.aastore, 1) := by decide +kernel
theorem dX11_init_60 : decode cX11_init 60 = .ok (.dup, 1) := by decide +kernel
theorem dX11_init_61 : decode cX11_init 61 = .ok (.iconst 5, 1) := by decide +kernel
theorem dX11_init_62 : decode cX11_init 62 = .ok (.new 22, 3) := by decide +kernel
theorem dX11_init_65 : decode cX11_init 65 = .ok (.dup, 1) := by decide +kernel
theorem dX11_init_66 : decode cX11_init 66 = .ok (.invokespecial 24, 3) := by decide +kernel
theorem dX11_init_69 : decode cX11_init 69 = .ok (.aastore, 1) := by decide +kernel
theorem dX11_init_70 : decode cX11_init 70 = .ok (.putfield 25, 3) := by decide +kernel
theorem dX11_init_73 : decode cX11_init 73 = .ok (.aload_n 0, 1) := by decide +kernel
theorem dX11_init_74 : decode cX11_init 74 = .ok (.new 31, 3) := by decide +kernel
theorem dX11_init_77 : decode cX11_init 77 = .ok (.dup, 1) := by decide +kernel
theorem dX11_init_78 : decode cX11_init 78 = .ok (.invokespecial 33, 3) := by decide +kernel
theorem dX11_init_81 : decode cX11_init 81 = .ok (.putfield 34, 3) := by decide +kernel
theorem dX11_init_84 : decode cX11_init 84 = .ok (.aload_n 0, 1) := by decide +kernel
theorem dX11_init_85 : decode cX11_init 85 = .ok (.new 31, 3) := by decide +kernel
theorem dX11_init_88 : decode cX11_init 88 = .ok (.dup, 1) := by decide +kernel
theorem dX11_init_89 : decode cX11_init 89 = .ok (.invokespecial 33, 3) := by decide +kernel
theorem dX11_init_92 : decode cX11_init 92 = .ok (.putfield 38, 3) := by decide +kernel
theorem dX11_init_95 : decode cX11_init 95 = .ok (.aload_n 0, 1) := by decide +kernel
theorem dX11_init_96 : decode cX11_init 96 = .ok (.new 31, 3) := by decide +kernel
theorem dX11_init_99 : decode cX11_init 99 = .ok (.dup, 1) := by decide +kernel
theorem dX11_init_100 : decode cX11_init 100 = .ok (.invokespecial 33, 3) := by decide +kernel
theorem dX11_init_103 : decode cX11_init 103 = .ok (.putfield 41, 3) := by decide +kernel
theorem dX11_init_106 : decode cX11_init 106 = .ok (.aload_n 0, 1) := by decide +kernel
theorem dX11_init_107 : decode cX11_init 107 = .ok (.new 44, 3) := by decide +kernel
theorem dX11_init_110 : decode cX11_init 110 = .ok (.dup, 1) := by decide +kernel
theorem dX11_init_111 : decode cX11_init 111 = .ok (.invokespecial 46, 3) := by decide +kernel
theorem dX11_init_114 : decode cX11_init 114 = .ok (.putfield 47, 3) := by decide +kernel
theorem dX11_init_117 : decode cX11_init 117 = .ok (.aload_n 0, 1) := by decide +kernel
theorem dX11_init_118 : decode cX11_init 118 = .ok (.new 51, 3) := by decide +kernel
theorem dX11_init_121 : decode cX11_init 121 = .ok (.dup, 1) := by decide +kernel
theorem dX11_init_122 : decode cX11_init 122 = .ok (.invokespecial 53, 3) := by decide +kernel
theorem dX11_init_125 : decode cX11_init 125 = .ok (.putfield 54, 3) := by decide +kernel
theorem dX11_init_128 : decode cX11_init 128 = .ok (.aload_n 0, 1) := by decide +kernel
theorem dX11_init_129 : decode cX11_init 129 = .ok (.bipush 12, 2) := by decide +kernel
theorem dX11_init_131 : decode cX11_init 131 = .ok (.newarray .int, 2) := by decide +kernel
theorem dX11_init_133 : decode cX11_init 133 = .ok (.putfield 58, 3) := by decide +kernel
theorem dX11_init_136 : decode cX11_init 136 = .ok (.aload_n 0, 1) := by decide +kernel
theorem dX11_init_137 : decode cX11_init 137 = .ok (.iconst 4, 1) := by decide +kernel
theorem dX11_init_138 : decode cX11_init 138 = .ok (.bipush 40, 2) := by decide +kernel
theorem dX11_init_140 : decode cX11_init 140 = .ok (.multianewarray 62 2, 4) := by decide +kernel
theorem dX11_init_144 : decode cX11_init 144 = .ok (.putfield 64, 3) := by decide +kernel
theorem dX11_init_147 : decode cX11_init 147 = .ok (.aload_n 0, 1) := by decide +kernel
theorem dX11_init_148 : decode cX11_init 148 = .ok (.iconst 4, 1) := by decide +kernel
theorem dX11_init_149 : decode cX11_init 149 = .ok (.newarray .int, 2) := by decide +kernel
theorem dX11_init_151 : decode cX11_init 151 = .ok (.dup, 1) := by decide +kernel
theorem dX11_init_152 : decode cX11_init 152 = .ok (.iconst 0, 1) := by decide +kernel
theorem dX11_init_153 : decode cX11_init 153 = .ok (.iconst (-1), 1) := by decide +kernel
theorem dX11_init_154 : decode cX11_init 154 = .ok (.iastore, 1) := by decide +kernel
theorem dX11_init_155 : decode cX11_init 155 = .ok (.dup, 1) := by decide +kernel
theorem dX11_init_156 : decode cX11_init 156 = .ok (.iconst 1, 1) := by decide +kernel
theorem dX11_init_157 : decode cX11_init 157 = .ok (.iconst (-1), 1) := by decide +kernel
theorem dX11_init_158 : decode cX11_init 158 = .ok (.iastore, 1) := by decide +kernel
theorem dX11_init_159 : decode cX11_init 159 = .ok (.dup, 1) := by decide +kernel
theorem dX11_init_160 : decode cX11_init 160 = .ok (.iconst 2, 1) := by decide +kernel
theorem dX11_init_161 : decode cX11_init 161 = .ok (.iconst (-1), 1) := by decide +kernel
theorem dX11_init_162 : decode cX11_init 162 = .ok (.iastore, 1) := by decide +kernel
theorem dX11_init_163 : decode cX11_init 163 = .ok (.dup, 1) := by decide +kernel
theorem dX11_init_164 : decode cX11_init 164 = .ok (.iconst 3, 1) := by decide +kernel
theorem dX11_init_165 : decode cX11_init 165 = .ok (.iconst (-1), 1) := by decide +kernel
theorem dX11_init_166 : decode cX11_init 166 = .ok (.iastore, 1) := by decide +kernel
theorem dX11_init_167 : decode cX11_init 167 = .ok (.putfield 67, 3) := by decide +kernel
theorem dX11_init_170 : decode cX11_init 170 = .ok (.aload_n 0, 1) := by decide +kernel
theorem dX11_init_171 : decode cX11_init 171 = .ok (.iconst 4, 1) := by decide +kernel
theorem dX11_init_172 : decode cX11_init 172 = .ok (.newarray .int, 2) := by decide +kernel
theorem dX11_init_174 : decode cX11_init 174 = .ok (.putfield 70, 3) := by decide +kernel
theorem dX11_init_177 : decode cX11_init 177 = .ok (.aload_n 0, 1) := by decide +kernel
theorem dX11_init_178 : decode cX11_init 178 = .ok (.iconst 4, 1) := by decide +kernel
theorem dX11_init_179 : decode cX11_init 179 = .ok (.newarray .int, 2) := by decide +kernel
theorem dX11_init_181 : decode cX11_init 181 = .ok (.dup, 1) := by decide +kernel
theorem dX11_init_182 : decode cX11_init 182 = .ok (.iconst 0, 1) := by decide +kernel
theorem dX11_init_183 : decode cX11_init 183 = .ok (.iconst 2, 1) := by decide +kernel
theorem dX11_init_184 : decode cX11_init 184 = .ok (.iastore, 1) := by decide +kernel
theorem dX11_init_185 : decode cX11_init 185 = .ok (.dup, 1) := by decide +kernel
theorem dX11_init_186 : decode cX11_init 186 = .ok (.iconst 1, 1) := by decide +kernel
theorem dX11_init_187 : decode cX11_init 187 = .ok (.iconst 2, 1) := by decide +kernel
theorem dX11_init_188 : decode cX11_init 188 = .ok (.iastore, 1) := by decide +kernel
theorem dX11_init_189 : decode cX11_init 189 = .ok (.dup, 1) := by decide +kernel
theorem dX11_init_190 : decode cX11_init 190 = .ok (.iconst 2, 1) := by decide +kernel
theorem dX11_init_191 : decode cX11_init 191 = .ok (.iconst 2, 1) := by decide +kernel
theorem dX11_init_192 : decode cX11_init 192 = .ok (.iastore, 1) := by decide +kernel
theorem dX11_init_193 : decode cX11_init 193 = .ok (.dup, 1) := by decide +kernel
theorem dX11_init_194 : decode cX11_init 194 = .ok (.iconst 3, 1) := by decide +kernel
theorem dX11_init_195 : decode cX11_init 195 = .ok (.iconst 2, 1) := by decide +kernel
theorem dX11_init_196 : decode cX11_init 196 = .ok (.iastore, 1) := by decide +kernel
theorem dX11_init_197 : decode cX11_init 197 = .ok (.putfield 73, 3) := by decide +kernel
theorem dX11_init_200 : decode cX11_init 200 = .ok (.aload_n 0, 1) := by decide +kernel
theorem dX11_init_201 : decode cX11_init 201 = .ok (.iconst 4, 1) := by decide +kernel
theorem dX11_init_202 : decode cX11_init 202 = .ok (.newarray .int, 2) := by decide +kernel
theorem dX11_init_204 : decode cX11_init 204 = .ok (.putfield 76, 3) := by decide +kernel
theorem dX11_init_207 : decode cX11_init 207 = .ok (.aload_n 0, 1) := by decide +kernel
theorem dX11_init_208 : decode cX11_init 208 = .ok (.iconst 4, 1) := by decide +kernel
theorem dX11_init_209 : decode cX11_init 209 = .ok (.newarray .int, 2) := by decide +kernel
theorem dX11_init_211 : decode cX11_init 211 = .ok (.putfield 79, 3) := by decide +kernel
theorem dX11_init_214 : decode cX11_init 214 = .ok (.return_, 1) := by decide +kernel
abbrev mX11_init : zMI := (yX11_init, cX11_init, 1, none)
theorem ce_X11_init : zCe mX11_init 0 := ⟨zm1 26 rfl rfl, by decide, by decide +kernel, by decide +kernel, by decide +kernel⟩
theorem lo_X11_1 : Cond.methodLink RX11 1 Lib.objectInit ∈ zTw := zm1 27 rfl rfl
theorem li_X11_9 : zLkI RX11 9 mX2_init := ⟨.inr ⟨_, List.mem_of_getElem? (i := 0) rfl⟩, zm1 34 rfl rfl, zm1 2 rfl rfl, rfl, rfl⟩
theorem li_X11_12 : zLkI RX11 12 mX0_init := ⟨.inr ⟨_, List.mem_of_getElem? (i := 1) rfl⟩, zm1 66 rfl rfl, zm1 3 rfl rfl, rfl, rfl⟩
theorem li_X11_15 : zLkI RX11 15 mX8_init := ⟨.inr ⟨_, List.mem_of_getElem? (i := 3) rfl⟩, zm1 78 rfl rfl, zm1 4 rfl rfl, rfl, rfl⟩
theorem li_X11_18 : zLkI RX11 18 mX9_init := ⟨.inr ⟨_, List.mem_of_getElem? (i := 5) rfl⟩, zm1 90 rfl rfl, zm1 5 rfl rfl, rfl, rfl⟩
theorem li_X11_21 : zLkI RX11 21 mX1_init := ⟨.inr ⟨_, List.mem_of_getElem? (i := 7) rfl⟩, zm1 102 rfl rfl, zm1 6 rfl rfl, rfl, rfl⟩
theorem li_X11_24 : zLkI RX11 24 mX3_init := ⟨.inr ⟨_, List.mem_of_getElem? (i := 9) rfl⟩, zm1 114 rfl rfl, zm1 7 rfl rfl, rfl, rfl⟩
theorem li_X11_33 : zLkI RX11 33 mX10_init := ⟨.inl (zm1 125 rfl rfl), zm1 126 rfl rfl, zm1 8 rfl rfl, rfl, rfl⟩
theorem li_X11_46 : zLkI RX11 46 mX6_init := ⟨.inr ⟨_, List.mem_of_getElem? (i := 13) rfl⟩, zm2 43 rfl rfl, zm1 12 rfl rfl, rfl, rfl⟩
theorem li_X11_53 : zLkI RX11 53 mX4_init := ⟨.inr ⟨_, List.mem_of_getElem? (i := 15) rfl⟩, zm2 74 rfl rfl, zm1 13 rfl rfl, rfl, rfl⟩
theorem nk_X11_7 : zNewOk RX11 7 2 5 RX2 TX2 tyX2 [0, 0, 1, 0, 0] := ⟨rfl, uw_X2, fpq_X2.1, zm1 30 rfl rfl, zm1 32 rfl rfl, zm1 2 rfl rfl, by decide +kernel, by decide⟩
theorem nk_X11_10 : zNewOk RX11 10 0 5 RX0 TX0 tyX0 [0, 0, 1, 0, 0] := ⟨rfl, uw_X0, fpq_X0.1, zm1 63 rfl rfl, zm1 64 rfl rfl, zm1 3 rfl rfl, by decide +kernel, by decide⟩
theorem nk_X11_13 : zNewOk RX11 13 8 5 RX8 TX8 tyX8 [0, 0, 1, 0, 0] := ⟨rfl, uw_X8, fpq_X8.1, zm1 75 rfl rfl, zm1 76 rfl rfl, zm1 4 rfl rfl, by decide +kernel, by decide⟩
theorem nk_X11_16 : zNewOk RX11 16 9 5 RX9 TX9 tyX9 [0, 0, 1, 0, 0] := ⟨rfl, uw_X9, fpq_X9.1, zm1 87 rfl rfl, zm1 88 rfl rfl, zm1 5 rfl rfl, by decide +kernel, by decide⟩
theorem nk_X11_19 : zNewOk RX11 19 1 5 RX1 TX1 tyX1 [0, 0, 1, 0, 0] := ⟨rfl, uw_X1, fpq_X1.1, zm1 99 rfl rfl, zm1 100 rfl rfl, zm1 6 rfl rfl, by decide +kernel, by decide⟩
theorem nk_X11_22 : zNewOk RX11 22 3 5 RX3 TX3 tyX3 [0, 0, 1, 0, 0] := ⟨rfl, uw_X3, fpq_X3.1, zm1 111 rfl rfl, zm1 112 rfl rfl, zm1 7 rfl rfl, by decide +kernel, by decide⟩
theorem nk_X11_31 : zNewOk RX11 31 10 18 RX10 TX10 tyX10 [1, 1, 1, 1, 1, 1, 1, 1, 1, 1, 0, 0, 0, 0, 0, 0, 0, 0] := ⟨rfl, uw_X10, fpq_X10.1, zm1 123 rfl rfl, zm1 124 rfl rfl, zm1 8 rfl rfl, by decide +kernel, by decide⟩
theorem nk_X11_44 : zNewOk RX11 44 6 7 RX6 TX6 tyX6 [1, 0, 1, 1, 1, 0, 0] := ⟨rfl, uw_X6, fpq_X6.1, zm2 40 rfl rfl, zm2 41 rfl rfl, zm1 12 rfl rfl, by decide +kernel, by decide⟩
theorem nk_X11_51 : zNewOk RX11 51 4 9 RX4 TX4 tyX4 [0, 0, 0, 0, 0, 0, 1, 1, 0] := ⟨rfl, uw_X4, fpq_X4.1, zm2 71 rfl rfl, zm2 72 rfl rfl, zm1 13 rfl rfl, by decide +kernel, by decide⟩
def zM11 (M : zMem) (b n : Nat) : zMem := zup (zup (zup (zup (zup (zup (zup (zup (zVil (zVil (zVil (M) ((n + 13) + 0) ((n + 13) + 1)) (((n + 13) + 23) + 0) (((n + 13) + 23) + 1)) ((((n + 13) + 23) + 23) + 0) ((((n + 13) + 23) + 23) + 1)) ((((((n + 13) + 23) + 23) + 23) + 12) + 9) 0 (-1)) ((((((n + 13) + 23) + 23) + 23) + 12) + 9) 1 (-1)) ((((((n + 13) + 23) + 23) + 23) + 12) + 9) 2 (-1)) ((((((n + 13) + 23) + 23) + 23) + 12) + 9) 3 (-1)) ((((((n + 13) + 23) + 23) + 23) + 12) + 11) 0 (nI 2)) ((((((n + 13) + 23) + 23) + 23) + 12) + 11) 1 (nI 2)) ((((((n + 13) + 23) + 23) + 23) + 12) + 11) 2 (nI 2)) ((((((n + 13) + 23) + 23) + 23) + 12) + 11) 3 (nI 2)
set_option maxRecDepth 100000 in
set_option maxHeartbeats 4000000 in
theorem ok_X11_init_X11 {w : List zDesc} {b n : Nat} {M : zMem} (hb : w[b]? = some (.inr (.inr (11, [1, 1, 1, 1, 0, 1, 1, 1, 0, 1, 1, 1, 1, 1, 1, 1])))) (hn : w.length = n) (hl : n + 108 ≤ 1000) : zKo (zRk 4 108 2723) 108 2723 mX11_init [.ref b] w M (fun w' M' => w' = zNF (zNF (zNF (zNF (zNF (zNF w b (.inr (.inr (11, [n + 0 + 2, 1, 1, 1, 0, 1, 1, 1, 0, 1, 1, 1, 1, 1, 1, 1]))) [.inr (.inl (3, [n + 1, n + 3, n + 5, n + 7, n + 9, n + 11])), .inr (.inr (2, [0, 0, n + 2 + 0 + 2, 0, 0])), .inl (0, 30), .inr (.inr (0, [0, 0, n + 4 + 0 + 2, 0, 0])), .inl (0, 30), .inr (.inr (8, [0, 0, n + 6 + 0 + 2, 0, 0])), .inl (0, 30), .inr (.inr (9, [0, 0, n + 8 + 0 + 2, 0, 0])), .inl (0, 30), .inr (.inr (1, [0, 0, n + 10 + 0 + 2, 0, 0])), .inl (0, 30), .inr (.inr (3, [0, 0, n + 12 + 0 + 2, 0, 0])), .inl (0, 30)]) b (.inr (.inr (11, [n + 0 + 2, (n + 13) + 0 + 2, 1, 1, 0, 1, 1, 1, 0, 1, 1, 1, 1, 1, 1, 1]))) [.inr (.inr (10, [(n + 13) + 1 + 0 + 2, (n + 13) + 1 + 1 + 2, (n + 13) + 1 + 2 + 2, (n + 13) + 1 + 3 + 2, (n + 13) + 1 + 4 + 2, (n + 13) + 1 + 5 + 2, (n + 13) + 1 + 6 + 2, (n + 13) + 1 + 7 + 2, (n + 13) + 1 + 8 + 2, (n + 13) + 1 + 16 + 2, 0, 0, 0, 0, 0, 0, 0, 0])), .inl (0, 6), .inl (0, 6), .inl (0, 6), .inl (0, 6), .inl (0, 6), .inl (0, 6), .inl (0, 6), .inl (0, 16), .inr (.inr (7, [(n + 13) + 1 + 9 + 0 + 2, (n + 13) + 1 + 9 + 1 + 2, (n + 13) + 1 + 9 + 2 + 2, (n + 13) + 1 + 9 + 3 + 2, (n + 13) + 1 + 9 + 4 + 2, (n + 13) + 1 + 9 + 5 + 2, (n + 13) + 1 + 9 + 6 + 2, 0, 0])), .inl (0, 8), .inl (0, 8), .inl (0, 8), .inl (0, 100), .inl (0, 100), .inl (0, 100), .inl (0, 5), .inr (.inr (5, [(n + 13) + 1 + 17 + 0 + 2, (n + 13) + 1 + 17 + 1 + 2, (n + 13) + 1 + 17 + 2 + 2, (n + 13) + 1 + 17 + 3 + 2, 0, 0, (n + 13) + 1 + 17 + 4 + 2, 0])), .inl (0, 6), .inl (0, 6), .inl (0, 6), .inl (0, 6), .inl (0, 3)]) b (.inr (.inr (11, [n + 0 + 2, (n + 13) + 0 + 2, ((n + 13) + 23) + 0 + 2, 1, 0, 1, 1, 1, 0, 1, 1, 1, 1, 1, 1, 1]))) [.inr (.inr (10, [((n + 13) + 23) + 1 + 0 + 2, ((n + 13) + 23) + 1 + 1 + 2, ((n + 13) + 23) + 1 + 2 + 2, ((n + 13) + 23) + 1 + 3 + 2, ((n + 13) + 23) + 1 + 4 + 2, ((n + 13) + 23) + 1 + 5 + 2, ((n + 13) + 23) + 1 + 6 + 2, ((n + 13) + 23) + 1 + 7 + 2, ((n + 13) + 23) + 1 + 8 + 2, ((n + 13) + 23) + 1 + 16 + 2, 0, 0, 0, 0, 0, 0, 0, 0])), .inl (0, 6), .inl (0, 6), .inl (0, 6), .inl (0, 6), .inl (0, 6), .inl (0, 6), .inl (0, 6), .inl (0, 16), .inr (.inr (7, [((n + 13) + 23) + 1 + 9 + 0 + 2, ((n + 13) + 23) + 1 + 9 + 1 + 2, ((n + 13) + 23) + 1 + 9 + 2 + 2, ((n + 13) + 23) + 1 + 9 + 3 + 2, ((n + 13) + 23) + 1 + 9 + 4 + 2, ((n + 13) + 23) + 1 + 9 + 5 + 2, ((n + 13) + 23) + 1 + 9 + 6 + 2, 0, 0])), .inl (0, 8), .inl (0, 8), .inl (0, 8), .inl (0, 100), .inl (0, 100), .inl (0, 100), .inl (0, 5), .inr (.inr (5, [((n + 13) + 23) + 1 + 17 + 0 + 2, ((n + 13) + 23) + 1 + 17 + 1 + 2, ((n + 13) + 23) + 1 + 17 + 2 + 2, ((n + 13) + 23) + 1 + 17 + 3 + 2, 0, 0, ((n + 13) + 23) + 1 + 17 + 4 + 2, 0])), .inl (0, 6), .inl (0, 6), .inl (0, 6), .inl (0, 6), .inl (0, 3)]) b (.inr (.inr (11, [n + 0 + 2, (n + 13) + 0 + 2, ((n + 13) + 23) + 0 + 2, (((n + 13) + 23) + 23) + 0 + 2, 0, 1, 1, 1, 0, 1, 1, 1, 1, 1, 1, 1]))) [.inr (.inr (10, [(((n + 13) + 23) + 23) + 1 + 0 + 2, (((n + 13) + 23) + 23) + 1 + 1 + 2, (((n + 13) + 23) + 23) + 1 + 2 + 2, (((n + 13) + 23) + 23) + 1 + 3 + 2, (((n + 13) + 23) + 23) + 1 + 4 + 2, (((n + 13) + 23) + 23) + 1 + 5 + 2, (((n + 13) + 23) + 23) + 1 + 6 + 2, (((n + 13) + 23) + 23) + 1 + 7 + 2, (((n + 13) + 23) + 23) + 1 + 8 + 2, (((n + 13) + 23) + 23) + 1 + 16 + 2, 0, 0, 0, 0, 0, 0, 0, 0])), .inl (0, 6), .inl (0, 6), .inl (0, 6), .inl (0, 6), .inl (0, 6), .inl (0, 6), .inl (0, 6), .inl (0, 16), .inr (.inr (7, [(((n + 13) + 23) + 23) + 1 + 9 + 0 + 2, (((n + 13) + 23) + 23) + 1 + 9 + 1 + 2, (((n + 13) + 23) + 23) + 1 + 9 + 2 + 2, (((n + 13) + 23) + 23) + 1 + 9 + 3 + 2, (((n + 13) + 23) + 23) + 1 + 9 + 4 + 2, (((n + 13) + 23) + 23) + 1 + 9 + 5 + 2, (((n + 13) + 23) + 23) + 1 + 9 + 6 + 2, 0, 0])), .inl (0, 8), .inl (0, 8), .inl (0, 8), .inl (0, 100), .inl (0, 100), .inl (0, 100), .inl (0, 5), .inr (.inr (5, [(((n + 13) + 23) + 23) + 1 + 17 + 0 + 2, (((n + 13) + 23) + 23) + 1 + 17 + 1 + 2, (((n + 13) + 23) + 23) + 1 + 17 + 2 + 2, (((n + 13) + 23) + 23) + 1 + 17 + 3 + 2, 0, 0, (((n + 13) + 23) + 23) + 1 + 17 + 4 + 2, 0])), .inl (0, 6), .inl (0, 6), .inl (0, 6), .inl (0, 6), .inl (0, 3)]) b (.inr (.inr (11, [n + 0 + 2, (n + 13) + 0 + 2, ((n + 13) + 23) + 0 + 2, (((n + 13) + 23) + 23) + 0 + 2, 0, ((((n + 13) + 23) + 23) + 23) + 0 + 2, 1, 1, 0, 1, 1, 1, 1, 1, 1, 1]))) [.inr (.inr (6, [((((n + 13) + 23) + 23) + 23) + 1 + 0 + 2, 0, ((((n + 13) + 23) + 23) + 23) + 1 + 1 + 2, ((((n + 13) + 23) + 23) + 23) + 1 + 2 + 2, ((((n + 13) + 23) + 23) + 23) + 1 + 3 + 2, 0, 0])), .inl (0, 200), .inl (0, 201), .inl (0, 201), .inr (.inr (7, [((((n + 13) + 23) + 23) + 23) + 1 + 4 + 0 + 2, ((((n + 13) + 23) + 23) + 23) + 1 + 4 + 1 + 2, ((((n + 13) + 23) + 23) + 23) + 1 + 4 + 2 + 2, ((((n + 13) + 23) + 23) + 23) + 1 + 4 + 3 + 2, ((((n + 13) + 23) + 23) + 23) + 1 + 4 + 4 + 2, ((((n + 13) + 23) + 23) + 23) + 1 + 4 + 5 + 2, ((((n + 13) + 23) + 23) + 23) + 1 + 4 + 6 + 2, 0, 0])), .inl (0, 8), .inl (0, 8), .inl (0, 8), .inl (0, 100), .inl (0, 100), .inl (0, 100), .inl (0, 5)]) b (.inr (.inr (11, [n + 0 + 2, (n + 13) + 0 + 2, ((n + 13) + 23) + 0 + 2, (((n + 13) + 23) + 23) + 0 + 2, 0, ((((n + 13) + 23) + 23) + 23) + 0 + 2, (((((n + 13) + 23) + 23) + 23) + 12) + 0 + 2, (((((n + 13) + 23) + 23) + 23) + 12) + 3 + 2, 0, (((((n + 13) + 23) + 23) + 23) + 12) + 4 + 2, (((((n + 13) + 23) + 23) + 23) + 12) + 9 + 2, (((((n + 13) + 23) + 23) + 23) + 12) + 10 + 2, (((((n + 13) + 23) + 23) + 23) + 12) + 11 + 2, (((((n + 13) + 23) + 23) + 23) + 12) + 12 + 2, (((((n + 13) + 23) + 23) + 23) + 12) + 13 + 2, 1]))) [.inr (.inr (4, [0, 0, 0, 0, 0, 0, (((((n + 13) + 23) + 23) + 23) + 12) + 1 + 0 + 2, (((((n + 13) + 23) + 23) + 23) + 12) + 1 + 1 + 2, 0])), .inl (0, 4), .inl (0, 4), .inl (0, 12), .inr (.inl (4, [(((((n + 13) + 23) + 23) + 23) + 12) + 4 + 1, (((((n + 13) + 23) + 23) + 23) + 12) + 4 + 2, (((((n + 13) + 23) + 23) + 23) + 12) + 4 + 3, (((((n + 13) + 23) + 23) + 23) + 12) + 4 + 4])), .inl (1, 40), .inl (1, 40), .inl (1, 40), .inl (1, 40), .inl (0, 4), .inl (0, 4), .inl (0, 4), .inl (0, 4), .inl (0, 4)] ∧ M' = (zM11 M b n)) := by
  subst hn
  have hbl : b < w.length := (List.getElem?_eq_some_iff.mp hb).1
  refine zKo_of (by decide +kernel) (fun _ => Nat.le_of_ble_eq_true rfl) (L0 := [(0, .ref b)]) rfl ?_
  refine zg_w (zNF_0 hb) ?_
  refine zg_aload_n dX11_init_0 (i := 0) rfl 0 rfl ?_
  refine zg_objInit lo_X11_1 zo_im zo_code dX11_init_1 (by decide) (by decide) ?_
  refine zg_aload_n dX11_init_4 (i := 0) rfl 0 rfl ?_
  refine zg_bipush dX11_init_5 (v := nI 6) (by decide) ?_
  refine gm_newq (j := 0) (N' := 6) hbl rfl (zm1 30 rfl rfl) dX11_init_7 (by decide) (by decide) (by decide) (by decide) (by decide) (zl1 (by omega)) (zsR (by omega) zs0) (by omega) ?_
  refine zg_w (show _ = zNF w b (.inr (.inr (11, [1, 1, 1, 1, 0, 1, 1, 1, 0, 1, 1, 1, 1, 1, 1, 1]))) [.inr (.inl (3, [2000, 2000, 2000, 2000, 2000, 2000]))] from rfl) ?_
  refine zg_dup dX11_init_10 ?_
  refine zg_iconst dX11_init_11 (v := nI 0) (by decide) ?_
  refine gm_new (j := 1) hbl rfl nk_X11_7 dX11_init_12 (by decide) (by decide) (zl1 (by omega)) (zsI (zsR (by omega) (zsR (by omega) (zsR (by omega) zs0)))) (by omega) ?_
  refine zg_dup dX11_init_15 ?_
  refine gm_callI (j := 1) hbl rfl li_X11_9 ce_X2_init ⟨rfl, rfl, by decide, by decide⟩ (by decide) (by decide) dX11_init_16 (Nat.le_of_ble_eq_true rfl) (zl1 (by omega)) (zsR (by omega) (zsI (zsR (by omega) (zsR (by omega) (zsR (by omega) zs0))))) (ok_X2_init_X2 (n := w.length + 2) (zNF_n (j := 1) hbl rfl) (zNF_len _ _ _ _) (by omega)) ?_
  refine zg_w (show _ = zNF w b (.inr (.inr (11, [1, 1, 1, 1, 0, 1, 1, 1, 0, 1, 1, 1, 1, 1, 1, 1]))) [.inr (.inl (3, [2000, 2000, 2000, 2000, 2000, 2000])), .inr (.inr (2, [0, 0, w.length + 2 + 0 + 2, 0, 0])), .inl (0, 30)] from rfl) ?_
  refine zg_aast (j := 0) (zNF_n (j := 0) hbl rfl) (zNF_n (j := 1) hbl rfl) rfl (by decide) (show vp_in (nI 0) 6 from vp_in_nI (by decide) (by decide)) (by omega) has_X2 dX11_init_19 (zg_w (zNF_setn hbl) ?_)
  refine zg_w (show _ = zNF w b (.inr (.inr (11, [1, 1, 1, 1, 0, 1, 1, 1, 0, 1, 1, 1, 1, 1, 1, 1]))) [.inr (.inl (3, [w.length + 1, 2000, 2000, 2000, 2000, 2000])), .inr (.inr (2, [0, 0, w.length + 2 + 0 + 2, 0, 0])), .inl (0, 30)] from rfl) ?_
  refine zg_dup dX11_init_20 ?_
  refine zg_iconst dX11_init_21 (v := nI 1) (by decide) ?_
  refine gm_new (j := 3) hbl rfl nk_X11_10 dX11_init_22 (by decide) (by decide) (zl1 (by omega)) (zsI (zsR (by omega) (zsR (by omega) (zsR (by omega) zs0)))) (by omega) ?_
  refine zg_dup dX11_init_25 ?_
  refine gm_callI (j := 3) hbl rfl li_X11_12 ce_X0_init ⟨rfl, rfl, by decide, by decide⟩ (by decide) (by decide) dX11_init_26 (Nat.le_of_ble_eq_true rfl) (zl1 (by omega)) (zsR (by omega) (zsI (zsR (by omega) (zsR (by omega) (zsR (by omega) zs0))))) (ok_X0_init_X0 (n := w.length + 4) (zNF_n (j := 3) hbl rfl) (zNF_len _ _ _ _) (by omega)) ?_
  refine zg_w (show _ = zNF w b (.inr (.inr (11, [1, 1, 1, 1, 0, 1, 1, 1, 0, 1, 1, 1, 1, 1, 1, 1]))) [.inr (.inl (3, [w.length + 1, 2000, 2000, 2000, 2000, 2000])), .inr (.inr (2, [0, 0, w.length + 2 + 0 + 2, 0, 0])), .inl (0, 30), .inr (.inr (0, [0, 0, w.length + 4 + 0 + 2, 0, 0])), .inl (0, 30)] from rfl) ?_
  refine zg_aast (j := 1) (zNF_n (j := 0) hbl rfl) (zNF_n (j := 3) hbl rfl) rfl (by decide) (show vp_in (nI 1) 6 from vp_in_nI (by decide) (by decide)) (by omega) has_X0 dX11_init_29 (zg_w (zNF_setn hbl) ?_)
  refine zg_w (show _ = zNF w b (.inr (.inr (11, [1, 1, 1, 1, 0, 1, 1, 1, 0, 1, 1, 1, 1, 1, 1, 1]))) [.inr (.inl (3, [w.length + 1, w.length + 3, 2000, 2000, 2000, 2000])), .inr (.inr (2, [0, 0, w.length + 2 + 0 + 2, 0, 0])), .inl (0, 30), .inr (.inr (0, [0, 0, w.length + 4 + 0 + 2, 0, 0])), .inl (0, 30)] from rfl) ?_
  refine zg_dup dX11_init_30 ?_
  refine zg_iconst dX11_init_31 (v := nI 2) (by decide) ?_
  refine gm_new (j := 5) hbl rfl nk_X11_13 dX11_init_32 (by decide) (by decide) (zl1 (by omega)) (zsI (zsR (by omega) (zsR (by omega) (zsR (by omega) zs0)))) (by omega) ?_
  refine zg_dup dX11_init_35 ?_
  refine gm_callI (j := 5) hbl rfl li_X11_15 ce_X8_init ⟨rfl, rfl, by decide, by decide⟩ (by decide) (by decide) dX11_init_36 (Nat.le_of_ble_eq_true rfl) (zl1 (by omega)) (zsR (by omega) (zsI (zsR (by omega) (zsR (by omega) (zsR (by omega) zs0))))) (ok_X8_init_X8 (n := w.length + 6) (zNF_n (j := 5) hbl rfl) (zNF_len _ _ _ _) (by omega)) ?_
  refine zg_w (show _ = zNF w b (.inr (.inr (11, [1, 1, 1, 1, 0, 1, 1, 1, 0, 1, 1, 1, 1, 1, 1, 1]))) [.inr (.inl (3, [w.length + 1, w.length + 3, 2000, 2000, 2000, 2000])), .inr (.inr (2, [0, 0, w.length + 2 + 0 + 2, 0, 0])), .inl (0, 30), .inr (.inr (0, [0, 0, w.length + 4 + 0 + 2, 0, 0])), .inl (0, 30), .inr (.inr (8, [0, 0, w.length + 6 + 0 + 2, 0, 0])), .inl (0, 30)] from rfl) ?_
  refine zg_aast (j := 2) (zNF_n (j := 0) hbl rfl) (zNF_n (j := 5) hbl rfl) rfl (by decide) (show vp_in (nI 2) 6 from vp_in_nI (by decide) (by decide)) (by omega) has_X8 dX11_init_39 (zg_w (zNF_setn hbl) ?_)
  refine zg_w (show _ = zNF w b (.inr (.inr (11, [1, 1, 1, 1, 0, 1, 1, 1, 0, 1, 1, 1, 1, 1, 1, 1]))) [.inr (.inl (3, [w.length + 1, w.length + 3, w.length + 5, 2000, 2000, 2000])), .inr (.inr (2, [0, 0, w.length + 2 + 0 + 2, 0, 0])), .inl (0, 30), .inr (.inr (0, [0, 0, w.length + 4 + 0 + 2, 0, 0])), .inl (0, 30), .inr (.inr (8, [0, 0, w.length + 6 + 0 + 2, 0, 0])), .inl (0, 30)] from rfl) ?_
  refine zg_dup dX11_init_40 ?_
  refine zg_iconst dX11_init_41 (v := nI 3) (by decide) ?_
  refine gm_new (j := 7) hbl rfl nk_X11_16 dX11_init_42 (by decide) (by decide) (zl1 (by omega)) (zsI (zsR (by omega) (zsR (by omega) (zsR (by omega) zs0)))) (by omega) ?_
  refine zg_dup dX11_init_45 ?_
  refine gm_callI (j := 7) hbl rfl li_X11_18 ce_X9_init ⟨rfl, rfl, by decide, by decide⟩ (by decide) (by decide) dX11_init_46 (Nat.le_of_ble_eq_true rfl) (zl1 (by omega)) (zsR (by omega) (zsI (zsR (by omega) (zsR (by omega) (zsR (by omega) zs0))))) (ok_X9_init_X9 (n := w.length + 8) (zNF_n (j := 7) hbl rfl) (zNF_len _ _ _ _) (by omega)) ?_
  refine zg_w (show _ = zNF w b (.inr (.inr (11, [1, 1, 1, 1, 0, 1, 1, 1, 0, 1, 1, 1, 1, 1, 1, 1]))) [.inr (.inl (3, [w.length + 1, w.length + 3, w.length + 5, 2000, 2000, 2000])), .inr (.inr (2, [0, 0, w.length + 2 + 0 + 2, 0, 0])), .inl (0, 30), .inr (.inr (0, [0, 0, w.length + 4 + 0 + 2, 0, 0])), .inl (0, 30), .inr (.inr (8, [0, 0, w.length + 6 + 0 + 2, 0, 0])), .inl (0, 30), .inr (.inr (9, [0, 0, w.length + 8 + 0 + 2, 0, 0])), .inl (0, 30)] from rfl) ?_
  refine zg_aast (j := 3) (zNF_n (j := 0) hbl rfl) (zNF_n (j := 7) hbl rfl) rfl (by decide) (show vp_in (nI 3) 6 from vp_in_nI (by decide) (by decide)) (by omega) has_X9 dX11_init_49 (zg_w (zNF_setn hbl) ?_)
  refine zg_w (show _ = zNF w b (.inr (.inr (11, [1, 1, 1, 1, 0, 1, 1, 1, 0, 1, 1, 1, 1, 1, 1, 1]))) [.inr (.inl (3, [w.length + 1, w.length + 3, w.length + 5, w.length + 7, 2000, 2000])), .inr (.inr (2, [0, 0, w.length + 2 + 0 + 2, 0, 0])), .inl (0, 30), .inr (.inr (0, [0, 0, w.length + 4 + 0 + 2, 0, 0])), .inl (0, 30), .inr (.inr (8, [0, 0, w.length + 6 + 0 + 2, 0, 0])), .inl (0, 30), .inr (.inr (9, [0, 0, w.length + 8 + 0 + 2, 0, 0])), .inl (0, 30)] from rfl) ?_
  refine zg_dup dX11_init_50 ?_
  refine zg_iconst dX11_init_51 (v := nI 4) (by decide) ?_
  refine gm_new (j := 9) hbl rfl nk_X11_19 dX11_init_52 (by decide) (by decide) (zl1 (by omega)) (zsI (zsR (by omega) (zsR (by omega) (zsR (by omega) zs0)))) (by omega) ?_
  refine zg_dup dX11_init_55 ?_
  refine gm_callI (j := 9) hbl rfl li_X11_21 ce_X1_init ⟨rfl, rfl, by decide, by decide⟩ (by decide) (by decide) dX11_init_56 (Nat.le_of_ble_eq_true rfl) (zl1 (by omega)) (zsR (by omega) (zsI (zsR (by omega) (zsR (by omega) (zsR (by omega) zs0))))) (ok_X1_init_X1 (n := w.length + 10) (zNF_n (j := 9) hbl rfl) (zNF_len _ _ _ _) (by omega)) ?_
  refine zg_w (show _ = zNF w b (.inr (.inr (11, [1, 1, 1, 1, 0, 1, 1, 1, 0, 1, 1, 1, 1, 1, 1, 1]))) [.inr (.inl (3, [w.length + 1, w.length + 3, w.length + 5, w.length + 7, 2000, 2000])), .inr (.inr (2, [0, 0, w.length + 2 + 0 + 2, 0, 0])), .inl (0, 30), .inr (.inr (0, [0, 0, w.length + 4 + 0 + 2, 0, 0])), .inl (0, 30), .inr (.inr (8, [0, 0, w.length + 6 + 0 + 2, 0, 0])), .inl (0, 30), .inr (.inr (9, [0, 0, w.length + 8 + 0 + 2, 0, 0])), .inl (0, 30), .inr (.inr (1, [0, 0, w.length + 10 + 0 + 2, 0, 0])), .inl (0, 30)] from rfl) ?_
  refine zg_aast (j := 4) (zNF_n (j := 0) hbl rfl) (zNF_n (j := 9) hbl rfl) rfl (by decide) (show vp_in (nI 4) 6 from vp_in_nI (by decide) (by decide)) (by omega) has_X1 dX11_init_59 (zg_w (zNF_setn hbl) ?_)
  refine zg_w (show _ = zNF w b (.inr (.inr (11, [1, 1, 1, 1, 0, 1, 1, 1, 0, 1, 1, 1, 1, 1, 1, 1]))) [.inr (.inl (3, [w.length + 1, w.length + 3, w.length + 5, w.length + 7, w.length + 9, 2000])), .inr (.inr (2, [0, 0, w.length + 2 + 0 + 2, 0, 0])), .inl (0, 30), .inr (.inr (0, [0, 0, w.length + 4 + 0 + 2, 0, 0])), .inl (0, 30), .inr (.inr (8, [0, 0, w.length + 6 + 0 + 2, 0, 0])), .inl (0, 30), .inr (.inr (9, [0, 0, w.length + 8 + 0 + 2, 0, 0])), .inl (0, 30), .inr (.inr (1, [0, 0, w.length + 10 + 0 + 2, 0, 0])), .inl (0, 30)] from rfl) ?_
  refine zg_dup dX11_init_60 ?_
  refine zg_iconst dX11_init_61 (v := nI 5) (by decide) ?_
  refine gm_new (j := 11) hbl rfl nk_X11_22 dX11_init_62 (by decide) (by decide) (zl1 (by omega)) (zsI (zsR (by omega) (zsR (by omega) (zsR (by omega) zs0)))) (by omega) ?_
  refine zg_dup dX11_init_65 ?_
  refine gm_callI (j := 11) hbl rfl li_X11_24 ce_X3_init ⟨rfl, rfl, by decide, by decide⟩ (by decide) (by decide) dX11_init_66 (Nat.le_of_ble_eq_true rfl) (zl1 (by omega)) (zsR (by omega) (zsI (zsR (by omega) (zsR (by omega) (zsR (by omega) zs0))))) (ok_X3_init_X3 (n := w.length + 12) (zNF_n (j := 11) hbl rfl) (zNF_len _ _ _ _) (by omega)) ?_
  refine zg_w (show _ = zNF w b (.inr (.inr (11, [1, 1, 1, 1, 0, 1, 1, 1, 0, 1, 1, 1, 1, 1, 1, 1]))) [.inr (.inl (3, [w.length + 1, w.length + 3, w.length + 5, w.length + 7, w.length + 9, 2000])), .inr (.inr (2, [0, 0, w.length + 2 + 0 + 2, 0, 0])), .inl (0, 30), .inr (.inr (0, [0, 0, w.length + 4 + 0 + 2, 0, 0])), .inl (0, 30), .inr (.inr (8, [0, 0, w.length + 6 + 0 + 2, 0, 0])), .inl (0, 30), .inr (.inr (9, [0, 0, w.length + 8 + 0 + 2, 0, 0])), .inl (0, 30), .inr (.inr (1, [0, 0, w.length + 10 + 0 + 2, 0, 0])), .inl (0, 30), .inr (.inr (3, [0, 0, w.length + 12 + 0 + 2, 0, 0])), .inl (0, 30)] from rfl) ?_
  refine zg_aast (j := 5) (zNF_n (j := 0) hbl rfl) (zNF_n (j := 11) hbl rfl) rfl (by decide) (show vp_in (nI 5) 6 from vp_in_nI (by decide) (by decide)) (by omega) has_X3 dX11_init_69 (zg_w (zNF_setn hbl) ?_)
  refine zg_w (show _ = zNF w b (.inr (.inr (11, [1, 1, 1, 1, 0, 1, 1, 1, 0, 1, 1, 1, 1, 1, 1, 1]))) [.inr (.inl (3, [w.length + 1, w.length + 3, w.length + 5, w.length + 7, w.length + 9, w.length + 11])), .inr (.inr (2, [0, 0, w.length + 2 + 0 + 2, 0, 0])), .inl (0, 30), .inr (.inr (0, [0, 0, w.length + 4 + 0 + 2, 0, 0])), .inl (0, 30), .inr (.inr (8, [0, 0, w.length + 6 + 0 + 2, 0, 0])), .inl (0, 30), .inr (.inr (9, [0, 0, w.length + 8 + 0 + 2, 0, 0])), .inl (0, 30), .inr (.inr (1, [0, 0, w.length + 10 + 0 + 2, 0, 0])), .inl (0, 30), .inr (.inr (3, [0, 0, w.length + 12 + 0 + 2, 0, 0])), .inl (0, 30)] from rfl) ?_
  refine gm_putF (j := 13) hbl rfl fd_X11_25_X11 fpq_X11 rfl rfl rfl rfl rfl (by omega) (fun _ => ⟨rfl, rfl⟩) dX11_init_70 ?_
  obtain ⟨w1, hw1⟩ : ∃ z, z = zNF w b (.inr (.inr (11, [w.length + 0 + 2, 1, 1, 1, 0, 1, 1, 1, 0, 1, 1, 1, 1, 1, 1, 1]))) [.inr (.inl (3, [w.length + 1, w.length + 3, w.length + 5, w.length + 7, w.length + 9, w.length + 11])), .inr (.inr (2, [0, 0, w.length + 2 + 0 + 2, 0, 0])), .inl (0, 30), .inr (.inr (0, [0, 0, w.length + 4 + 0 + 2, 0, 0])), .inl (0, 30), .inr (.inr (8, [0, 0, w.length + 6 + 0 + 2, 0, 0])), .inl (0, 30), .inr (.inr (9, [0, 0, w.length + 8 + 0 + 2, 0, 0])), .inl (0, 30), .inr (.inr (1, [0, 0, w.length + 10 + 0 + 2, 0, 0])), .inl (0, 30), .inr (.inr (3, [0, 0, w.length + 12 + 0 + 2, 0, 0])), .inl (0, 30)] := ⟨_, rfl⟩
  have hn1 : w1.length = w.length + 13 := by rw [hw1, zNF_len]; rfl
  have hb1 : w1[b]? = some (.inr (.inr (11, [w.length + 0 + 2, 1, 1, 1, 0, 1, 1, 1, 0, 1, 1, 1, 1, 1, 1, 1]))) := by rw [hw1]; exact zNF_b hbl
  refine zg_w (hw1.symm.trans (zNF_0 hb1)) ?_
  replace hbl : b < w1.length := by omega
  refine zg_aload_n dX11_init_73 (i := 0) rfl 0 rfl ?_
  refine gm_new (j := 0) hbl rfl nk_X11_31 dX11_init_74 (by decide) (by decide) (zl1 (by omega)) (zsR (by omega) zs0) (by omega) ?_
  refine zg_dup dX11_init_77 ?_
  refine gm_callI (j := 0) hbl rfl li_X11_33 ce_X10_init ⟨rfl, rfl, by decide, by decide⟩ (by decide) (by decide) dX11_init_78 (Nat.le_of_ble_eq_true rfl) (zl1 (by omega)) (zsR (by omega) (zsR (by omega) zs0)) (ok_X10_init_X10 (n := w1.length + 1) (zNF_n (j := 0) hbl rfl) (zNF_len _ _ _ _) (by omega)) ?_
  refine zg_w (show _ = zNF w1 b (.inr (.inr (11, [w.length + 0 + 2, 1, 1, 1, 0, 1, 1, 1, 0, 1, 1, 1, 1, 1, 1, 1]))) [.inr (.inr (10, [w1.length + 1 + 0 + 2, w1.length + 1 + 1 + 2, w1.length + 1 + 2 + 2, w1.length + 1 + 3 + 2, w1.length + 1 + 4 + 2, w1.length + 1 + 5 + 2, w1.length + 1 + 6 + 2, w1.length + 1 + 7 + 2, w1.length + 1 + 8 + 2, w1.length + 1 + 16 + 2, 0, 0, 0, 0, 0, 0, 0, 0])), .inl (0, 6), .inl (0, 6), .inl (0, 6), .inl (0, 6), .inl (0, 6), .inl (0, 6), .inl (0, 6), .inl (0, 16), .inr (.inr (7, [w1.length + 1 + 9 + 0 + 2, w1.length + 1 + 9 + 1 + 2, w1.length + 1 + 9 + 2 + 2, w1.length + 1 + 9 + 3 + 2, w1.length + 1 + 9 + 4 + 2, w1.length + 1 + 9 + 5 + 2, w1.length + 1 + 9 + 6 + 2, 0, 0])), .inl (0, 8), .inl (0, 8), .inl (0, 8), .inl (0, 100), .inl (0, 100), .inl (0, 100), .inl (0, 5), .inr (.inr (5, [w1.length + 1 + 17 + 0 + 2, w1.length + 1 + 17 + 1 + 2, w1.length + 1 + 17 + 2 + 2, w1.length + 1 + 17 + 3 + 2, 0, 0, w1.length + 1 + 17 + 4 + 2, 0])), .inl (0, 6), .inl (0, 6), .inl (0, 6), .inl (0, 6), .inl (0, 3)] from rfl) ?_
  refine gm_putF (j := 23) hbl rfl fd_X11_34_X11 fpq_X11 rfl rfl rfl rfl rfl (by omega) (fun _ => ⟨rfl, rfl⟩) dX11_init_81 ?_
  obtain ⟨w2, hw2⟩ : ∃ z, z = zNF w1 b (.inr (.inr (11, [w.length + 0 + 2, w1.length + 0 + 2, 1, 1, 0, 1, 1, 1, 0, 1, 1, 1, 1, 1, 1, 1]))) [.inr (.inr (10, [w1.length + 1 + 0 + 2, w1.length + 1 + 1 + 2, w1.length + 1 + 2 + 2, w1.length + 1 + 3 + 2, w1.length + 1 + 4 + 2, w1.length + 1 + 5 + 2, w1.length + 1 + 6 + 2, w1.length + 1 + 7 + 2, w1.length + 1 + 8 + 2, w1.length + 1 + 16 + 2, 0, 0, 0, 0, 0, 0, 0, 0])), .inl (0, 6), .inl (0, 6), .inl (0, 6), .inl (0, 6), .inl (0, 6), .inl (0, 6), .inl (0, 6), .inl (0, 16), .inr (.inr (7, [w1.length + 1 + 9 + 0 + 2, w1.length + 1 + 9 + 1 + 2, w1.length + 1 + 9 + 2 + 2, w1.length + 1 + 9 + 3 + 2, w1.length + 1 + 9 + 4 + 2, w1.length + 1 + 9 + 5 + 2, w1.length + 1 + 9 + 6 + 2, 0, 0])), .inl (0, 8), .inl (0, 8), .inl (0, 8), .inl (0, 100), .inl (0, 100), .inl (0, 100), .inl (0, 5), .inr (.inr (5, [w1.length + 1 + 17 + 0 + 2, w1.length + 1 + 17 + 1 + 2, w1.length + 1 + 17 + 2 + 2, w1.length + 1 + 17 + 3 + 2, 0, 0, w1.length + 1 + 17 + 4 + 2, 0])), .inl (0, 6), .inl (0, 6), .inl (0, 6), .inl (0, 6), .inl (0, 3)] := ⟨_, rfl⟩
  have hn2 : w2.length = w1.length + 23 := by rw [hw2, zNF_len]; rfl
  have hb2 : w2[b]? = some (.inr (.inr (11, [w.length + 0 + 2, w1.length + 0 + 2, 1, 1, 0, 1, 1, 1, 0, 1, 1, 1, 1, 1, 1, 1]))) := by rw [hw2]; exact zNF_b hbl
  refine zg_w (hw2.symm.trans (zNF_0 hb2)) ?_
  replace hbl : b < w2.length := by omega
  refine zg_aload_n dX11_init_84 (i := 0) rfl 0 rfl ?_
  refine gm_new (j := 0) hbl rfl nk_X11_31 dX11_init_85 (by decide) (by decide) (zl1 (by omega)) (zsR (by omega) zs0) (by omega) ?_
  refine zg_dup dX11_init_88 ?_
  refine gm_callI (j := 0) hbl rfl li_X11_33 ce_X10_init ⟨rfl, rfl, by decide, by decide⟩ (by decide) (by decide) dX11_init_89 (Nat.le_of_ble_eq_true rfl) (zl1 (by omega)) (zsR (by omega) (zsR (by omega) zs0)) (ok_X10_init_X10 (n := w2.length + 1) (zNF_n (j := 0) hbl rfl) (zNF_len _ _ _ _) (by omega)) ?_
  refine zg_w (show _ = zNF w2 b (.inr (.inr (11, [w.length + 0 + 2, w1.length + 0 + 2, 1, 1, 0, 1, 1, 1, 0, 1, 1, 1, 1, 1, 1, 1]))) [.inr (.inr (10, [w2.length + 1 + 0 + 2, w2.length + 1 + 1 + 2, w2.length + 1 + 2 + 2, w2.length + 1 + 3 + 2, w2.length + 1 + 4 + 2, w2.length + 1 + 5 + 2, w2.length + 1 + 6 + 2, w2.length + 1 + 7 + 2, w2.length + 1 + 8 + 2, w2.length + 1 + 16 + 2, 0, 0, 0, 0, 0, 0, 0, 0])), .inl (0, 6), .inl (0, 6), .inl (0, 6), .inl (0, 6), .inl (0, 6), .inl (0, 6), .inl (0, 6), .inl (0, 16), .inr (.inr (7, [w2.length + 1 + 9 + 0 + 2, w2.length + 1 + 9 + 1 + 2, w2.length + 1 + 9 + 2 + 2, w2.length + 1 + 9 + 3 + 2, w2.length + 1 + 9 + 4 + 2, w2.length + 1 + 9 + 5 + 2, w2.length + 1 + 9 + 6 + 2, 0, 0])), .inl (0, 8), .inl (0, 8), .inl (0, 8), .inl (0, 100), .inl (0, 100), .inl (0, 100), .inl (0, 5), .inr (.inr (5, [w2.length + 1 + 17 + 0 + 2, w2.length + 1 + 17 + 1 + 2, w2.length + 1 + 17 + 2 + 2, w2.length + 1 + 17 + 3 + 2, 0, 0, w2.length + 1 + 17 + 4 + 2, 0])), .inl (0, 6), .inl (0, 6), .inl (0, 6), .inl (0, 6), .inl (0, 3)] from rfl) ?_
  refine gm_putF (j := 23) hbl rfl fd_X11_38_X11 fpq_X11 rfl rfl rfl rfl rfl (by omega) (fun _ => ⟨rfl, rfl⟩) dX11_init_92 ?_
  obtain ⟨w3, hw3⟩ : ∃ z, z = zNF w2 b (.inr (.inr (11, [w.length + 0 + 2, w1.length + 0 + 2, w2.length + 0 + 2, 1, 0, 1, 1, 1, 0, 1, 1, 1, 1, 1, 1, 1]))) [.inr (.inr (10, [w2.length + 1 + 0 + 2, w2.length + 1 + 1 + 2, w2.length + 1 + 2 + 2, w2.length + 1 + 3 + 2, w2.length + 1 + 4 + 2, w2.length + 1 + 5 + 2, w2.length + 1 + 6 + 2, w2.length + 1 + 7 + 2, w2.length + 1 + 8 + 2, w2.length + 1 + 16 + 2, 0, 0, 0, 0, 0, 0, 0, 0])), .inl (0, 6), .inl (0, 6), .inl (0, 6), .inl (0, 6), .inl (0, 6), .inl (0, 6), .inl (0, 6), .inl (0, 16), .inr (.inr (7, [w2.length + 1 + 9 + 0 + 2, w2.length + 1 + 9 + 1 + 2, w2.length + 1 + 9 + 2 + 2, w2.length + 1 + 9 + 3 + 2, w2.length + 1 + 9 + 4 + 2, w2.length + 1 + 9 + 5 + 2, w2.length + 1 + 9 + 6 + 2, 0, 0])), .inl (0, 8), .inl (0, 8), .inl (0, 8), .inl (0, 100), .inl (0, 100), .inl (0, 100), .inl (0, 5), .inr (.inr (5, [w2.length + 1 + 17 + 0 + 2, w2.length + 1 + 17 + 1 + 2, w2.length + 1 + 17 + 2 + 2, w2.length + 1 + 17 + 3 + 2, 0, 0, w2.length + 1 + 17 + 4 + 2, 0])), .inl (0, 6), .inl (0, 6), .inl (0, 6), .inl (0, 6), .inl (0, 3)] := ⟨_, rfl⟩
  have hn3 : w3.length = w2.length + 23 := by rw [hw3, zNF_len]; rfl
  have hb3 : w3[b]? = some (.inr (.inr (11, [w.length + 0 + 2, w1.length + 0 + 2, w2.length + 0 + 2, 1, 0, 1, 1, 1, 0, 1, 1, 1, 1, 1, 1, 1]))) := by rw [hw3]; exact zNF_b hbl
  refine zg_w (hw3.symm.trans (zNF_0 hb3)) ?_
  replace hbl : b < w3.length := by omega
  refine zg_aload_n dX11_init_95 (i := 0) rfl 0 rfl ?_
  refine gm_new (j := 0) hbl rfl nk_X11_31 dX11_init_96 (by decide) (by decide) (zl1 (by omega)) (zsR (by omega) zs0) (by omega) ?_
  refine zg_dup dX11_init_99 ?_
  refine gm_callI (j := 0) hbl rfl li_X11_33 ce_X10_init ⟨rfl, rfl, by decide, by decide⟩ (by decide) (by decide) dX11_init_100 (Nat.le_of_ble_eq_true rfl) (zl1 (by omega)) (zsR (by omega) (zsR (by omega) zs0)) (ok_X10_init_X10 (n := w3.length + 1) (zNF_n (j := 0) hbl rfl) (zNF_len _ _ _ _) (by omega)) ?_
  refine zg_w (show _ = zNF w3 b (.inr (.inr (11, [w.length + 0 + 2, w1.length + 0 + 2, w2.length + 0 + 2, 1, 0, 1, 1, 1, 0, 1, 1, 1, 1, 1, 1, 1]))) [.inr (.inr (10, [w3.length + 1 + 0 + 2, w3.length + 1 + 1 + 2, w3.length + 1 + 2 + 2, w3.length + 1 + 3 + 2, w3.length + 1 + 4 + 2, w3.length + 1 + 5 + 2, w3.length + 1 + 6 + 2, w3.length + 1 + 7 + 2, w3.length + 1 + 8 + 2, w3.length + 1 + 16 + 2, 0, 0, 0, 0, 0, 0, 0, 0])), .inl (0, 6), .inl (0, 6), .inl (0, 6), .inl (0, 6), .inl (0, 6), .inl (0, 6), .inl (0, 6), .inl (0, 16), .inr (.inr (7, [w3.length + 1 + 9 + 0 + 2, w3.length + 1 + 9 + 1 + 2, w3.length + 1 + 9 + 2 + 2, w3.length + 1 + 9 + 3 + 2, w3.length + 1 + 9 + 4 + 2, w3.length + 1 + 9 + 5 + 2, w3.length + 1 + 9 + 6 + 2, 0, 0])), .inl (0, 8), .inl (0, 8), .inl (0, 8), .inl (0, 100), .inl (0, 100), .inl (0, 100), .inl (0, 5), .inr (.inr (5, [w3.length + 1 + 17 + 0 + 2, w3.length + 1 + 17 + 1 + 2, w3.length + 1 + 17 + 2 + 2, w3.length + 1 + 17 + 3 + 2, 0, 0, w3.length + 1 + 17 + 4 + 2, 0])), .inl (0, 6), .inl (0, 6), .inl (0, 6), .inl (0, 6), .inl (0, 3)] from rfl) ?_
  refine gm_putF (j := 23) hbl rfl fd_X11_41_X11 fpq_X11 rfl rfl rfl rfl rfl (by omega) (fun _ => ⟨rfl, rfl⟩) dX11_init_103 ?_
  obtain ⟨w4, hw4⟩ : ∃ z, z = zNF w3 b (.inr (.inr (11, [w.length + 0 + 2, w1.length + 0 + 2, w2.length + 0 + 2, w3.length + 0 + 2, 0, 1, 1, 1, 0, 1, 1, 1, 1, 1, 1, 1]))) [.inr (.inr (10, [w3.length + 1 + 0 + 2, w3.length + 1 + 1 + 2, w3.length + 1 + 2 + 2, w3.length + 1 + 3 + 2, w3.length + 1 + 4 + 2, w3.length + 1 + 5 + 2, w3.length + 1 + 6 + 2, w3.length + 1 + 7 + 2, w3.length + 1 + 8 + 2, w3.length + 1 + 16 + 2, 0, 0, 0, 0, 0, 0, 0, 0])), .inl (0, 6), .inl (0, 6), .inl (0, 6), .inl (0, 6), .inl (0, 6), .inl (0, 6), .inl (0, 6), .inl (0, 16), .inr (.inr (7, [w3.length + 1 + 9 + 0 + 2, w3.length + 1 + 9 + 1 + 2, w3.length + 1 + 9 + 2 + 2, w3.length + 1 + 9 + 3 + 2, w3.length + 1 + 9 + 4 + 2, w3.length + 1 + 9 + 5 + 2, w3.length + 1 + 9 + 6 + 2, 0, 0])), .inl (0, 8), .inl (0, 8), .inl (0, 8), .inl (0, 100), .inl (0, 100), .inl (0, 100), .inl (0, 5), .inr (.inr (5, [w3.length + 1 + 17 + 0 + 2, w3.length + 1 + 17 + 1 + 2, w3.length + 1 + 17 + 2 + 2, w3.length + 1 + 17 + 3 + 2, 0, 0, w3.length + 1 + 17 + 4 + 2, 0])), .inl (0, 6), .inl (0, 6), .inl (0, 6), .inl (0, 6), .inl (0, 3)] := ⟨_, rfl⟩
  have hn4 : w4.length = w3.length + 23 := by rw [hw4, zNF_len]; rfl
  have hb4 : w4[b]? = some (.inr (.inr (11, [w.length + 0 + 2, w1.length + 0 + 2, w2.length + 0 + 2, w3.length + 0 + 2, 0, 1, 1, 1, 0, 1, 1, 1, 1, 1, 1, 1]))) := by rw [hw4]; exact zNF_b hbl
  refine zg_w (hw4.symm.trans (zNF_0 hb4)) ?_
  replace hbl : b < w4.length := by omega
  refine zg_aload_n dX11_init_106 (i := 0) rfl 0 rfl ?_
  refine gm_new (j := 0) hbl rfl nk_X11_44 dX11_init_107 (by decide) (by decide) (zl1 (by omega)) (zsR (by omega) zs0) (by omega) ?_
  refine zg_dup dX11_init_110 ?_
  refine gm_callI (j := 0) hbl rfl li_X11_46 ce_X6_init ⟨rfl, rfl, by decide, by decide⟩ (by decide) (by decide) dX11_init_111 (Nat.le_of_ble_eq_true rfl) (zl1 (by omega)) (zsR (by omega) (zsR (by omega) zs0)) (ok_X6_init_X6 (n := w4.length + 1) (zNF_n (j := 0) hbl rfl) (zNF_len _ _ _ _) (by omega)) ?_
  refine zg_w (show _ = zNF w4 b (.inr (.inr (11, [w.length + 0 + 2, w1.length + 0 + 2, w2.length + 0 + 2, w3.length + 0 + 2, 0, 1, 1, 1, 0, 1, 1, 1, 1, 1, 1, 1]))) [.inr (.inr (6, [w4.length + 1 + 0 + 2, 0, w4.length + 1 + 1 + 2, w4.length + 1 + 2 + 2, w4.length + 1 + 3 + 2, 0, 0])), .inl (0, 200), .inl (0, 201), .inl (0, 201), .inr (.inr (7, [w4.length + 1 + 4 + 0 + 2, w4.length + 1 + 4 + 1 + 2, w4.length + 1 + 4 + 2 + 2, w4.length + 1 + 4 + 3 + 2, w4.length + 1 + 4 + 4 + 2, w4.length + 1 + 4 + 5 + 2, w4.length + 1 + 4 + 6 + 2, 0, 0])), .inl (0, 8), .inl (0, 8), .inl (0, 8), .inl (0, 100), .inl (0, 100), .inl (0, 100), .inl (0, 5)] from rfl) ?_
  refine gm_putF (j := 12) hbl rfl fd_X11_47_X11 fpq_X11 rfl rfl rfl rfl rfl (by omega) (fun _ => ⟨rfl, rfl⟩) dX11_init_114 ?_
  obtain ⟨w5, hw5⟩ : ∃ z, z = zNF w4 b (.inr (.inr (11, [w.length + 0 + 2, w1.length + 0 + 2, w2.length + 0 + 2, w3.length + 0 + 2, 0, w4.length + 0 + 2, 1, 1, 0, 1, 1, 1, 1, 1, 1, 1]))) [.inr (.inr (6, [w4.length + 1 + 0 + 2, 0, w4.length + 1 + 1 + 2, w4.length + 1 + 2 + 2, w4.length + 1 + 3 + 2, 0, 0])), .inl (0, 200), .inl (0, 201), .inl (0, 201), .inr (.inr (7, [w4.length + 1 + 4 + 0 + 2, w4.length + 1 + 4 + 1 + 2, w4.length + 1 + 4 + 2 + 2, w4.length + 1 + 4 + 3 + 2, w4.length + 1 + 4 + 4 + 2, w4.length + 1 + 4 + 5 + 2, w4.length + 1 + 4 + 6 + 2, 0, 0])), .inl (0, 8), .inl (0, 8), .inl (0, 8), .inl (0, 100), .inl (0, 100), .inl (0, 100), .inl (0, 5)] := ⟨_, rfl⟩
  have hn5 : w5.length = w4.length + 12 := by rw [hw5, zNF_len]; rfl
  have hb5 : w5[b]? = some (.inr (.inr (11, [w.length + 0 + 2, w1.length + 0 + 2, w2.length + 0 + 2, w3.length + 0 + 2, 0, w4.length + 0 + 2, 1, 1, 0, 1, 1, 1, 1, 1, 1, 1]))) := by rw [hw5]; exact zNF_b hbl
  refine zg_w (hw5.symm.trans (zNF_0 hb5)) ?_
  replace hbl : b < w5.length := by omega
  refine zg_aload_n dX11_init_117 (i := 0) rfl 0 rfl ?_
  refine gm_new (j := 0) hbl rfl nk_X11_51 dX11_init_118 (by decide) (by decide) (zl1 (by omega)) (zsR (by omega) zs0) (by omega) ?_
  refine zg_dup dX11_init_121 ?_
  refine gm_callI (j := 0) hbl rfl li_X11_53 ce_X4_init ⟨rfl, rfl, by decide, by decide⟩ (by decide) (by decide) dX11_init_122 (Nat.le_of_ble_eq_true rfl) (zl1 (by omega)) (zsR (by omega) (zsR (by omega) zs0)) (ok_X4_init_X4 (n := w5.length + 1) (zNF_n (j := 0) hbl rfl) (zNF_len _ _ _ _) (by omega)) ?_
  refine zg_w (show _ = zNF w5 b (.inr (.inr (11, [w.length + 0 + 2, w1.length + 0 + 2, w2.length + 0 + 2, w3.length + 0 + 2, 0, w4.length + 0 + 2, 1, 1, 0, 1, 1, 1, 1, 1, 1, 1]))) [.inr (.inr (4, [0, 0, 0, 0, 0, 0, w5.length + 1 + 0 + 2, w5.length + 1 + 1 + 2, 0])), .inl (0, 4), .inl (0, 4)] from rfl) ?_
  refine gm_putF (j := 3) hbl rfl fd_X11_54_X11 fpq_X11 rfl rfl rfl rfl rfl (by omega) (fun _ => ⟨rfl, rfl⟩) dX11_init_125 ?_
  refine zg_aload_n dX11_init_128 (i := 0) rfl 0 rfl ?_
  refine zg_bipush dX11_init_129 (v := nI 12) (by decide) ?_
  refine gm_newaI (j := 3) (N' := 12) hbl rfl za_int dX11_init_131 (by decide) (by decide) (by decide) (by decide) (by decide) (zl1 (by omega)) (zsR (by omega) zs0) (by omega) ?_
  refine gm_putF (j := 4) hbl rfl fd_X11_58_X11 fpq_X11 rfl rfl rfl rfl rfl (by omega) (fun _ => ⟨rfl, rfl⟩) dX11_init_133 ?_
  refine zg_aload_n dX11_init_136 (i := 0) rfl 0 rfl ?_
  refine zg_iconst dX11_init_137 (v := nI 4) (by decide) ?_
  refine zg_bipush dX11_init_138 (v := nI 40) (by decide) ?_
  refine gm_mna (j := 4) hbl rfl (zm2 112 rfl rfl) za_long dX11_init_140 (by decide) (by decide) (zl1 (by omega)) (zsR (by omega) zs0) (by omega) ?_
  refine zg_w (show _ = zNF w5 b (.inr (.inr (11, [w.length + 0 + 2, w1.length + 0 + 2, w2.length + 0 + 2, w3.length + 0 + 2, 0, w4.length + 0 + 2, w5.length + 0 + 2, w5.length + 3 + 2, 0, 1, 1, 1, 1, 1, 1, 1]))) [.inr (.inr (4, [0, 0, 0, 0, 0, 0, w5.length + 1 + 0 + 2, w5.length + 1 + 1 + 2, 0])), .inl (0, 4), .inl (0, 4), .inl (0, 12), .inr (.inl (4, [w5.length + 4 + 1, w5.length + 4 + 2, w5.length + 4 + 3, w5.length + 4 + 4])), .inl (1, 40), .inl (1, 40), .inl (1, 40), .inl (1, 40)] from rfl) ?_
  refine gm_putF (j := 9) hbl rfl fd_X11_64_X11 fpq_X11 rfl rfl rfl rfl rfl (by omega) (fun _ => ⟨rfl, rfl⟩) dX11_init_144 ?_
  refine zg_aload_n dX11_init_147 (i := 0) rfl 0 rfl ?_
  refine zg_iconst dX11_init_148 (v := nI 4) (by decide) ?_
  refine gm_newaI (j := 9) (N' := 4) hbl rfl za_int dX11_init_149 (by decide) (by decide) (by decide) (by decide) (by decide) (zl1 (by omega)) (zsR (by omega) zs0) (by omega) ?_
  refine zg_dup dX11_init_151 ?_
  refine zg_iconst dX11_init_152 (v := nI 0) (by decide) ?_
  refine zg_iconst dX11_init_153 (v := -1) (by decide) ?_
  refine zg_iast (j := 0) (zNF_n (j := 9) hbl rfl) (by decide) (vp_in_nI (by decide) (by decide)) dX11_init_154 ?_
  refine zg_dup dX11_init_155 ?_
  refine zg_iconst dX11_init_156 (v := nI 1) (by decide) ?_
  refine zg_iconst dX11_init_157 (v := -1) (by decide) ?_
  refine zg_iast (j := 1) (zNF_n (j := 9) hbl rfl) (by decide) (vp_in_nI (by decide) (by decide)) dX11_init_158 ?_
  refine zg_dup dX11_init_159 ?_
  refine zg_iconst dX11_init_160 (v := nI 2) (by decide) ?_
  refine zg_iconst dX11_init_161 (v := -1) (by decide) ?_
  refine zg_iast (j := 2) (zNF_n (j := 9) hbl rfl) (by decide) (vp_in_nI (by decide) (by decide)) dX11_init_162 ?_
  refine zg_dup dX11_init_163 ?_
  refine zg_iconst dX11_init_164 (v := nI 3) (by decide) ?_
  refine zg_iconst dX11_init_165 (v := -1) (by decide) ?_
  refine zg_iast (j := 3) (zNF_n (j := 9) hbl rfl) (by decide) (vp_in_nI (by decide) (by decide)) dX11_init_166 ?_
  refine gm_putF (j := 10) hbl rfl fd_X11_67_X11 fpq_X11 rfl rfl rfl rfl rfl (by omega) (fun _ => ⟨rfl, rfl⟩) dX11_init_167 ?_
  refine zg_aload_n dX11_init_170 (i := 0) rfl 0 rfl ?_
  refine zg_iconst dX11_init_171 (v := nI 4) (by decide) ?_
  refine gm_newaI (j := 10) (N' := 4) hbl rfl za_int dX11_init_172 (by decide) (by decide) (by decide) (by decide) (by decide) (zl1 (by omega)) (zsR (by omega) zs0) (by omega) ?_
  refine gm_putF (j := 11) hbl rfl fd_X11_70_X11 fpq_X11 rfl rfl rfl rfl rfl (by omega) (fun _ => ⟨rfl, rfl⟩) dX11_init_174 ?_
  refine zg_aload_n dX11_init_177 (i := 0) rfl 0 rfl ?_
  refine zg_iconst dX11_init_178 (v := nI 4) (by decide) ?_
  refine gm_newaI (j := 11) (N' := 4) hbl rfl za_int dX11_init_179 (by decide) (by decide) (by decide) (by decide) (by decide) (zl1 (by omega)) (zsR (by omega) zs0) (by omega) ?_
  refine zg_dup dX11_init_181 ?_
  refine zg_iconst dX11_init_182 (v := nI 0) (by decide) ?_
  refine zg_iconst dX11_init_183 (v := nI 2) (by decide) ?_
  refine zg_iast (j := 0) (zNF_n (j := 11) hbl rfl) (by decide) (vp_in_nI (by decide) (by decide)) dX11_init_184 ?_
  refine zg_dup dX11_init_185 ?_
  refine zg_iconst dX11_init_186 (v := nI 1) (by decide) ?_
  refine zg_iconst dX11_init_187 (v := nI 2) (by decide) ?_
  refine zg_iast (j := 1) (zNF_n (j := 11) hbl rfl) (by decide) (vp_in_nI (by decide) (by decide)) dX11_init_188 ?_
  refine zg_dup dX11_init_189 ?_
  refine zg_iconst dX11_init_190 (v := nI 2) (by decide) ?_
  refine zg_iconst dX11_init_191 (v := nI 2) (by decide) ?_
  refine zg_iast (j := 2) (zNF_n (j := 11) hbl rfl) (by decide) (vp_in_nI (by decide) (by decide)) dX11_init_192 ?_
  refine zg_dup dX11_init_193 ?_
  refine zg_iconst dX11_init_194 (v := nI 3) (by decide) ?_
  refine zg_iconst dX11_init_195 (v := nI 2) (by decide) ?_
  refine zg_iast (j := 3) (zNF_n (j := 11) hbl rfl) (by decide) (vp_in_nI (by decide) (by decide)) dX11_init_196 ?_
  refine gm_putF (j := 12) hbl rfl fd_X11_73_X11 fpq_X11 rfl rfl rfl rfl rfl (by omega) (fun _ => ⟨rfl, rfl⟩) dX11_init_197 ?_
  refine zg_aload_n dX11_init_200 (i := 0) rfl 0 rfl ?_
  refine zg_iconst dX11_init_201 (v := nI 4) (by decide) ?_
  refine gm_newaI (j := 12) (N' := 4) hbl rfl za_int dX11_init_202 (by decide) (by decide) (by decide) (by decide) (by decide) (zl1 (by omega)) (zsR (by omega) zs0) (by omega) ?_
  refine gm_putF (j := 13) hbl rfl fd_X11_76_X11 fpq_X11 rfl rfl rfl rfl rfl (by omega) (fun _ => ⟨rfl, rfl⟩) dX11_init_204 ?_
  refine zg_aload_n dX11_init_207 (i := 0) rfl 0 rfl ?_
  refine zg_iconst dX11_init_208 (v := nI 4) (by decide) ?_
  refine gm_newaI (j := 13) (N' := 4) hbl rfl za_int dX11_init_209 (by decide) (by decide) (by decide) (by decide) (by decide) (zl1 (by omega)) (zsR (by omega) zs0) (by omega) ?_
  refine gm_putF (j := 14) hbl rfl fd_X11_79_X11 fpq_X11 rfl rfl rfl rfl rfl (by omega) (fun _ => ⟨rfl, rfl⟩) dX11_init_211 ?_
  refine zg_ret rfl dX11_init_214 (by decide) (by decide) ⟨?_, ?_⟩
  · rw [hn5, hn4, hn3, hn2, hn1]
    rw [hw5]
    try rw [hn4]
    try rw [hn3]
    try rw [hn2]
    try rw [hn1]
    rw [hw4]
    try rw [hn3]
    try rw [hn2]
    try rw [hn1]
    rw [hw3]
    try rw [hn2]
    try rw [hn1]
    rw [hw2]
    try rw [hn1]
    rw [hw1]
    try rfl
  · rw [hn5, hn4, hn3, hn2, hn1]; rfl
