/-! what holds at the law's start -/
theorem zmem1 {v : Cond} (h : v ∈ tables_1_1) : v ∈ tables_1 := List.mem_append_left _ h
theorem zmem2 {v : Cond} (h : v ∈ tables_1_2) : v ∈ tables_1 := List.mem_append_right _ (List.mem_append_left _ h)
theorem zmem3 {v : Cond} (h : v ∈ tables_1_3) : v ∈ tables_1 := List.mem_append_right _ (List.mem_append_right _ (List.mem_append_left _ h))
theorem zmem4 {v : Cond} (h : v ∈ tables_1_4) : v ∈ tables_1 := List.mem_append_right _ (List.mem_append_right _ (List.mem_append_right _ (List.mem_append_left _ h)))
theorem zmem5 {v : Cond} (h : v ∈ tables_1_5) : v ∈ tables_1 := List.mem_append_right _ (List.mem_append_right _ (List.mem_append_right _ (List.mem_append_right _ (List.mem_append_left _ h))))
theorem zmem6 {v : Cond} (h : v ∈ tables_1_6) : v ∈ tables_1 := List.mem_append_right _ (List.mem_append_right _ (List.mem_append_right _ (List.mem_append_right _ (List.mem_append_right _ (List.mem_append_left _ h)))))
theorem zmem7 {v : Cond} (h : v ∈ tables_1_7) : v ∈ tables_1 := List.mem_append_right _ (List.mem_append_right _ (List.mem_append_right _ (List.mem_append_right _ (List.mem_append_right _ (List.mem_append_right _ (List.mem_append_left _ h))))))
theorem zmem8 {v : Cond} (h : v ∈ tables_1_8) : v ∈ tables_1 := List.mem_append_right _ (List.mem_append_right _ (List.mem_append_right _ (List.mem_append_right _ (List.mem_append_right _ (List.mem_append_right _ (List.mem_append_right _ (h)))))))
theorem zAr_of {args : Array Value} {s : State} {ty : FieldType} (h : (Cond.arrayClass ty).before args s = true) : ∃ cA : ClassId, ArrOfT s cA ty ∧ s.vm.findClass ("[" ++ ty.toString) = some cA := by
  obtain ⟨c, k, comp, h1, h2, h3⟩ := Cond.arrayClass_spec h
  exact ⟨c, fun n z => ⟨fun q g => (by cases g), k, h2, comp, h3⟩, h1⟩
theorem zAo_of {s : State} {C : String} (h : va_AO C s) : ∃ cA : ClassId, ArrOfT s cA (.object C) ∧ va_RA s cA (.object C) := by
  obtain ⟨comp, c, k, h1, h2, h3, h4, h5⟩ := Cond.arrayOver_spec h
  exact ⟨c, fun n z => ⟨fun q g => (by cases g), k, h3, comp, h4⟩, k, comp, h3, h4, h1, h5⟩
theorem zAa_of {s : State} {t : FieldType} (h : va_AOA t s) : ∃ cA : ClassId, ArrOfT s cA (.array t) ∧ s.vm.findClass ("[" ++ (FieldType.array t).toString) = some cA := by
  unfold va_AOA Cond.before Cond.holds at h
  simp only [Cond.value] at h
  simp only [beq_iff_eq, Option.bind_eq_some_iff, Option.map_eq_some_iff] at h
  obtain ⟨comp, h1, c, h2, k, h3, h4⟩ := h
  cases hk : k.kind with
  | array cp ty =>
    rw [hk] at h4
    simp only [Bool.and_eq_true, decide_eq_true_eq] at h4
    obtain ⟨e, h5⟩ := h4
    subst e
    exact ⟨c, fun n z => ⟨fun q g => (by cases g), k, h3, cp, hk⟩, h5⟩
  | _ => rw [hk] at h4; simp at h4
theorem zK_start {args : Array Value} {s : State} (hts : ∀ v ∈ zTw, v.before args s = true) (hq : zAq s) : ∃ (dC : Nat → ClassId) (dI : Nat → Nat → Nat) (cA : Nat → ClassId), va_K (dC, dI) vwCl (zTy cA) s := by
  obtain ⟨c0, i0, k0⟩ := u_known (C := RX0) (T := TX0) (N := 5) (n := 5) hts uw_X0 (hts _ (zm1 64 rfl rfl))
  obtain ⟨c1, i1, k1⟩ := u_known (C := RX1) (T := TX1) (N := 5) (n := 5) hts uw_X1 (hts _ (zm1 100 rfl rfl))
  obtain ⟨c2, i2, k2⟩ := u_known (C := RX2) (T := TX2) (N := 5) (n := 5) hts uw_X2 (hts _ (zm1 32 rfl rfl))
  obtain ⟨c3, i3, k3⟩ := u_known (C := RX3) (T := TX3) (N := 5) (n := 5) hts uw_X3 (hts _ (zm1 112 rfl rfl))
  obtain ⟨c4, i4, k4⟩ := u_known (C := RX4) (T := TX4) (N := 9) (n := 9) hts uw_X4 (hts _ (zm2 72 rfl rfl))
  obtain ⟨c5, i5, k5⟩ := u_known (C := RX5) (T := TX5) (N := 8) (n := 8) hts uw_X5 (hts _ (zm1 167 rfl rfl))
  obtain ⟨c6, i6, k6⟩ := u_known (C := RX6) (T := TX6) (N := 7) (n := 7) hts uw_X6 (hts _ (zm2 41 rfl rfl))
  obtain ⟨c7, i7, k7⟩ := u_known (C := RX7) (T := TX7) (N := 9) (n := 9) hts uw_X7 (hts _ (zm1 130 rfl rfl))
  obtain ⟨c8, i8, k8⟩ := u_known (C := RX8) (T := TX8) (N := 5) (n := 5) hts uw_X8 (hts _ (zm1 76 rfl rfl))
  obtain ⟨c9, i9, k9⟩ := u_known (C := RX9) (T := TX9) (N := 5) (n := 5) hts uw_X9 (hts _ (zm1 88 rfl rfl))
  obtain ⟨c10, i10, k10⟩ := u_known (C := RX10) (T := TX10) (N := 18) (n := 18) hts uw_X10 (hts _ (zm1 124 rfl rfl))
  obtain ⟨c11, i11, k11⟩ := u_known (C := RX11) (T := TX11) (N := 16) (n := 16) hts uw_X11 (hts _ (zm1 23 rfl rfl))
  obtain ⟨c12, i12, k12⟩ := u_known (C := RX12) (T := TX12) (N := 39) (n := 39) hts uw_X12 (hts _ (zm5 152 rfl rfl))
  obtain ⟨a0, r0, f0⟩ := zAr_of (hts _ za_int)
  obtain ⟨a1, r1, f1⟩ := zAr_of (hts _ za_long)
  obtain ⟨a2, r2, f2⟩ := zAr_of (hts _ za_char)
  obtain ⟨a3, r3, f3⟩ := zAo_of hq.1
  obtain ⟨a4, r4, f4⟩ := zAa_of hq.2.1
  refine ⟨fun k => [c0, c1, c2, c3, c4, c5, c6, c7, c8, c9, c10, c11, c12].getD k c0, fun k => [i0, i1, i2, i3, i4, i5, i6, i7, i8, i9, i10, i11, i12].getD k i0, fun k => [a0, a1, a2, a3, a4].getD k a0, fun k q hk => ?_, fun k q hk => ?_⟩
  · match k, hk with
    | 0, hk => cases hk; exact k0
    | 1, hk => cases hk; exact k1
    | 2, hk => cases hk; exact k2
    | 3, hk => cases hk; exact k3
    | 4, hk => cases hk; exact k4
    | 5, hk => cases hk; exact k5
    | 6, hk => cases hk; exact k6
    | 7, hk => cases hk; exact k7
    | 8, hk => cases hk; exact k8
    | 9, hk => cases hk; exact k9
    | 10, hk => cases hk; exact k10
    | 11, hk => cases hk; exact k11
    | 12, hk => cases hk; exact k12
    | k + 13, hk => exact absurd (List.getElem?_eq_some_iff.mp hk).1 (by show ¬ k + 13 < 13; omega)
  · match k, hk with
    | 0, hk => cases hk; exact ⟨r0, f0⟩
    | 1, hk => cases hk; exact ⟨r1, f1⟩
    | 2, hk => cases hk; exact ⟨r2, f2⟩
    | 3, hk => cases hk; exact ⟨r3, f3⟩
    | 4, hk => cases hk; exact ⟨r4, f4⟩
    | k + 5, hk => exact absurd (List.getElem?_eq_some_iff.mp hk).1 (by show ¬ k + 5 < 5; omega)
theorem zRid_start {b : Nat} {s : State} (hts : ∀ v ∈ zTw, v.before #[Value.ref b] s = true) (htl : ∀ v ∈ lw_tbl, v.before #[Value.ref b] s = true) (hgv : (Jvm.Cond.and given_1 narrow_1).before #[Value.ref b] s = true) : ∃ ad : Nat → Nat, zRid ad (zLA s) s := by
  have hs := flat_of_before _ hgv
  have hA : ∀ a : Nat, a < s.heap.size → ¬ zLA s a := fun a h => Nat.not_le.mpr h
  have z1 := va_Zof (A := zLA s) (v := .int 1) (htl _ (List.mem_append_right _ (zmem3 (List.mem_of_getElem? (i := 99) rfl)))) (hts _ (zm1 16 rfl rfl)) (va_eqi (hs (.eq (.static "java/lang/String" "COMPACT_STRINGS" "Z") (.int 1)) (by decide +kernel))) hA
  have z2 := va_Zqof (A := zLA s) (htl _ (List.mem_append_right _ (zmem3 (List.mem_of_getElem? (i := 115) rfl)))) (hts _ (zm1 18 rfl rfl)) (hs (.isRef (.static "jdk/internal/util/Preconditions" "SIOOBE_FORMATTER" "Ljava/util/function/BiFunction;")) (by decide +kernel)) hA
  obtain ⟨adK, adV, v1, v2⟩ := vk_Sof (args := #[Value.ref b]) (s := s) (N := 1) (tm := fun _ => Term.string "ThirteenthBun$RuleText" 68) (len := [95]) (byt := [zRidB]) (A := zLA s) (fun i hi => by
      have e : i = 0 := by omega
      subst e
      decide)
    (fun i _ => hs (.exactly (.string "ThirteenthBun$RuleText" 68) "java/lang/String") (by decide +kernel)) (fun i _ => hs (.eq (.field (.string "ThirteenthBun$RuleText" 68) "java/lang/String" "coder" "B") (.int 0)) (by decide +kernel))
    (fun i _ => hs (.arrayOf (.field (.string "ThirteenthBun$RuleText" 68) "java/lang/String" "value" "[B") .byte) (by decide +kernel)) (fun i hi => by
      have e : i = 0 := by omega
      subst e
      exact hs (.eq (.length (.field (.string "ThirteenthBun$RuleText" 68) "java/lang/String" "value" "[B")) (.int 95)) (by decide +kernel)) (fun i hi j hj => by
      have e : i = 0 := by omega
      subst e
      exact hs _ ((by decide +kernel : ∀ j, j < 95 → (Cond.eq (.elem (.field (.string "ThirteenthBun$RuleText" 68) "java/lang/String" "value" "[B") (.int (Int32.ofNat j))) (.int (zRidB.getD j 0))) ∈ flatC (Jvm.Cond.and given_1 narrow_1)) j hj)) (fun i j hi hj h => absurd (show i = j by omega) h) hA
  have v3 := v2 0 (by decide)
  have key : ∀ ad : Nat → Nat, ad 1000 = adK 0 → ad 1001 = adV 0 → vk_S 1 [95] [zRidB] (fun _ => ad 1000) (fun _ => ad 1001) (zLA s) s s.heap ∧ vk_R "ThirteenthBun$RuleText" 68 zRidT (ad 1000) s := fun ad e0 e1 => by
    refine ⟨⟨fun i hi => ?_, fun i j hi hj _ => by omega⟩, ?_⟩
    · have e : i = 0 := by omega
      subst e
      have h := v1.1 0 (by decide)
      show va_O _ (ad 1000) _ _ _ ∧ _
      rw [e0, e1]
      exact h
    · rw [e0]
      exact vk_R.of (htl _ (List.mem_append_right _ (zmem3 (List.mem_of_getElem? (i := 89) rfl)))) v3
  rcases z2 with z2 | ⟨t, z2⟩
  · refine ⟨fun i => if i = 1000 then adK 0 else if i = 1001 then adV 0 else 0, z1, .inl z2, key (fun i => if i = 1000 then adK 0 else if i = 1001 then adV 0 else 0) rfl rfl⟩
  · refine ⟨fun i => if i = 1000 then adK 0 else if i = 1001 then adV 0 else if i = 1002 then t else 0, z1, .inr z2, key (fun i => if i = 1000 then adK 0 else if i = 1001 then adV 0 else if i = 1002 then t else 0) rfl rfl⟩
theorem zAq_start {args : Array Value} {s : State} (htl : ∀ v ∈ lw_tbl, v.before args s = true) : zAq s := by
  refine ⟨va_AO.of (htl _ (List.mem_append_right _ (zmem1 (List.mem_of_getElem? (i := 31) rfl)))), va_AOA.of (htl _ (List.mem_append_right _ (zmem2 (List.mem_of_getElem? (i := 113) rfl)))), fun q hq => ?_⟩
  obtain ⟨k, hk, rfl⟩ := List.getElem_of_mem hq
  have hk2 : k < 16 := hk
  match k, hk2 with
  | 0, _ => exact va_Nw.of rfl (htl _ (List.mem_append_right _ (zmem1 (List.mem_of_getElem? (i := 33) rfl))))
  | 1, _ => exact va_Nw.of rfl (htl _ (List.mem_append_right _ (zmem1 (List.mem_of_getElem? (i := 65) rfl))))
  | 2, _ => exact va_Nw.of rfl (htl _ (List.mem_append_right _ (zmem1 (List.mem_of_getElem? (i := 68) rfl))))
  | 3, _ => exact va_Nw.of rfl (htl _ (List.mem_append_right _ (zmem1 (List.mem_of_getElem? (i := 77) rfl))))
  | 4, _ => exact va_Nw.of rfl (htl _ (List.mem_append_right _ (zmem1 (List.mem_of_getElem? (i := 80) rfl))))
  | 5, _ => exact va_Nw.of rfl (htl _ (List.mem_append_right _ (zmem1 (List.mem_of_getElem? (i := 89) rfl))))
  | 6, _ => exact va_Nw.of rfl (htl _ (List.mem_append_right _ (zmem1 (List.mem_of_getElem? (i := 92) rfl))))
  | 7, _ => exact va_Nw.of rfl (htl _ (List.mem_append_right _ (zmem1 (List.mem_of_getElem? (i := 101) rfl))))
  | 8, _ => exact va_Nw.of rfl (htl _ (List.mem_append_right _ (zmem1 (List.mem_of_getElem? (i := 104) rfl))))
  | 9, _ => exact va_Nw.of rfl (htl _ (List.mem_append_right _ (zmem1 (List.mem_of_getElem? (i := 113) rfl))))
  | 10, _ => exact va_Nw.of rfl (htl _ (List.mem_append_right _ (zmem1 (List.mem_of_getElem? (i := 116) rfl))))
  | 11, _ => exact va_Nw.of rfl (htl _ (List.mem_append_right _ (zmem1 (List.mem_of_getElem? (i := 131) rfl))))
  | 12, _ => exact va_Nw.of rfl (htl _ (List.mem_append_right _ (zmem1 (List.mem_of_getElem? (i := 168) rfl))))
  | 13, _ => exact va_Nw.of rfl (htl _ (List.mem_append_right _ (zmem2 (List.mem_of_getElem? (i := 42) rfl))))
  | 14, _ => exact va_Nw.of rfl (htl _ (List.mem_append_right _ (zmem2 (List.mem_of_getElem? (i := 47) rfl))))
  | 15, _ => exact va_Nw.of rfl (htl _ (List.mem_append_right _ (zmem2 (List.mem_of_getElem? (i := 73) rfl))))
  | k + 16, h => exact absurd h (by omega)
theorem zNw_start {args : Array Value} {s : State} (htl : ∀ v ∈ lw_tbl, v.before args s = true) : zNw s := by
  intro q hq
  obtain ⟨k, hk, rfl⟩ := List.getElem_of_mem hq
  have hk2 : k < 9 := hk
  match k, hk2 with
  | 0, _ => exact va_Nw.of rfl (htl _ (List.mem_append_right _ (zmem2 (List.mem_of_getElem? (i := 190) rfl))))
  | 1, _ => exact va_Nw.of rfl (htl _ (List.mem_append_right _ (zmem2 (List.mem_of_getElem? (i := 201) rfl))))
  | 2, _ => exact va_Nw.of rfl (htl _ (List.mem_append_right _ (zmem2 (List.mem_of_getElem? (i := 213) rfl))))
  | 3, _ => exact va_Nw.of rfl (htl _ (List.mem_append_right _ (zmem3 (List.mem_of_getElem? (i := 195) rfl))))
  | 4, _ => exact va_Nw.of rfl (htl _ (List.mem_append_right _ (zmem3 (List.mem_of_getElem? (i := 213) rfl))))
  | 5, _ => exact va_Nw.of rfl (htl _ (List.mem_append_right _ (zmem4 (List.mem_of_getElem? (i := 150) rfl))))
  | 6, _ => exact va_Nw.of rfl (htl _ (List.mem_append_right _ (zmem4 (List.mem_of_getElem? (i := 151) rfl))))
  | 7, _ => exact va_Nw.of rfl (htl _ (List.mem_append_right _ (zmem4 (List.mem_of_getElem? (i := 152) rfl))))
  | 8, _ => exact va_Nw.of rfl (htl _ (List.mem_append_right _ (zmem4 (List.mem_of_getElem? (i := 153) rfl))))
  | k + 9, h => exact absurd h (by omega)
