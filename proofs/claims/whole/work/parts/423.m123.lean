/-! calls in a growing world; its entry -/
section ZG
variable {R : Room} {mc ms : Nat} {mi : zMI} {n0 : Nat} {Q : List zDesc → zMem → Prop} {k kS pc : Nat} {L : zLv} {S : List Value} {w : List zDesc} {M : zMem}
theorem zKo_of {as : List Value} (hy : plainName mi.1.cls = true) (hsl : ∀ ad : Nat → Nat, (lg_sl (as.map (zT ad))).length ≤ mi.2.2.1) {L0 : zLv} (hL : lv_args 0 as = L0) (kk : zGn R mc ms mi w.length Q 0 0 0 L0 [] w M) : zKo R mc ms mi as w M Q := by
  subst hL
  intro l dC dI ad cA sz hi h1000 hz hc
  refine Met.ofW (cc := mi.2.1) (maxL := mi.2.2.1) (ret := mi.2.2.2) hy rfl ?_
  intro p e s m args below meth c s₁ B hml hv
  obtain ⟨rfl, hsz, hP, hK, hN, hR, hq⟩ := hv
  subst hsz
  have hts := atoms_spec (ws := zWd mi) B.pre
  have hl := lv_entry (as.map (zT ad)) (n := mi.2.2.1) (hsl ad)
  rw [lg_entry_eq]
  generalize (lg_sl (as.map (zT ad)) ++ List.replicate (mi.2.2.1 - (lg_sl (as.map (zT ad))).length) Slot.unset).toArray = ls at hl ⊢
  rw [zL_args] at hl
  exact kk p l e s m _ below meth c dC dI cA (zAz w ad s.heap.size) ad ⟨B.exec, B.bytes, B.returns, hml, findClass_of_methodNamed B.named, fun v h => hts v (List.mem_cons_of_mem _ h), B.notSynchronized, hK, hN, hR, hq, fun q h => .inr h, (name_of_methodNamed B.named B.method).1, fun q h => h⟩ ad s.heap [] ls
    ⟨fun _ _ => rfl, fun i h1 h2 => absurd h2 (Nat.not_lt.mpr h1), fun i hi => .inl ⟨i, hi, rfl⟩, hi, h1000, hz, hc, Nat.le_refl _⟩ hP va_S.rf hl
theorem zblindK {dC : Nat → ClassId} {dI : Nat → Nat → Nat} {ad : Nat → Nat} {cA : Nat → ClassId} {sz : Nat} {as : List Value} : FrameBlind (zKP w dC dI ad cA sz as M) := fun a U g mk q =>
  ⟨q.1, q.2.1, q.2.2.1, va_K.moved (u := U) (U := U.calling g mk a) (Vm.Alike.refl U.vm) q.2.2.2.1, zNw.same (u := U) (U := U.calling g mk a) rfl q.2.2.2.2.1, zRid.calling q.2.2.2.2.2.1, zAq.same (u := U) (U := U.calling g mk a) rfl q.2.2.2.2.2.2⟩
/-- what a constructor's call needs -/
def zLkI (own : String) (index : Nat) (mj : zMI) : Prop := (Cond.methodLink own index mj.1 ∈ zTw ∨ ∃ host, (own, index, mj.1, host) ∈ zNestI) ∧ Cond.instanceMethod mj.1 ∈ zTw ∧ Cond.initialized mj.1.cls ∈ zTw ∧ mj.1.name = "<init>" ∧ mj.2.2.2 = none
theorem zg_callI {index b mc' ms' : Nat} {R' : Room} {mj : zMI} {Q' : List zDesc → zMem → Prop} (lk : zLkI mi.1.cls index mj) (ce : zCe mj 0) (hR : R'.cells = mc' ∧ R'.slots = ms' ∧ R'.frames + 1 ≤ R.frames ∧ 8 + (mj.2.2.1 + 11) + R'.locals ≤ R.locals) (hc : k + mc' ≤ R.cells) (hs : kS + ms' ≤ R.slots) (dg : decode mi.2.1 pc = .ok (.invokespecial index, 3)) (hcat : (S.map fun v => v.category).sum ≤ 8)
    (hL : ∀ v ∈ L, zLow w.length v.2) (hS0 : ∀ v ∈ S, zLow w.length v) (ok : zKo R' mc' ms' mj [.ref b] w M Q') (kk : ∀ (w' : List zDesc) (M' : zMem), Q' w' M' → zGn R mc ms mi n0 Q (k + mc') (kS + ms') (pc + 3) L S w' M') : zGn R mc ms mi n0 Q k kS pc L (.ref b :: S) w M := by
  intro p l e s m args below meth c dC dI cA A ad0 C ad H locs ls I hP hS hl
  obtain ⟨k1, k2, k3, k4, k5⟩ := lk
  have hW := C.2.2.2.2.2.1
  have hA0 : ∀ q, zAz w ad H.size q → A q := fun q h => by
    rcases h with ⟨i, hi, rfl⟩ | h
    · exact I.2.2.1 i hi
    · exact C.2.2.2.2.2.2.2.2.2.2.2.1 q (Nat.le_trans hS.1 h)
  have hr : va_Run p l e R s m args below meth c H locs k kS mc' ms' (F0 m pc ls (.ref (ad b) :: S.map (zT ad))) (S.map (zT ad)) (zKQ w.length dC dI ad cA H.size (zAz w ad H.size) Q' #[.ref (ad b)]) (zAz w ad H.size) := by
    have hcw : Cond.code mj.1 mj.2.1 mj.2.2.1 none ∈ zTw := by rw [← k5]; exact ce.1
    have hwd : zWd mj = Cond.code mj.1 mj.2.1 mj.2.2.1 none :: zTw := by unfold zWd; rw [k5]
    have hpre : PreS s H (zKP w dC dI ad cA H.size [.ref b] M) (Value.ref (ad b) :: []) := ⟨zblindK, fun U hU hW2 => ⟨rfl, by rw [hU], by rw [hU]; exact hP, va_K.moved hW2.alike C.2.2.2.2.2.2.2.1, zNw.warm hW2 C.2.2.2.2.2.2.2.2.1, (zRid.go hS hU hW2 (zRid.ext C.2.2.2.2.2.2.2.2.2.1 (fun i hi => I.1 i (.inr hi)))).narrow hA0, zAq.warm hW2 C.2.2.2.2.2.2.2.2.2.2.1⟩⟩
    rcases k1 with k1 | ⟨host, k1⟩
    · exact va_runI (As := []) (b := ad b) (ws := zWd mj) (rm := R') ⟨C.1, C.2.1, C.2.2.2.1, C.2.2.2.2.1, hW⟩ (ok l dC dI ad cA H.size I.2.2.2.1 I.2.2.2.2.1 I.2.2.2.2.2.1 I.2.2.2.2.2.2.1)
        (cwI 0 hW (zGwd ce.1) hwd hR.1 hR.2.1 (hW _ k3) (hW _ k1) (hW _ k2) k4 ce.2.2 ⟨hR.2.2.1, hR.2.2.2⟩)
        hpre rfl rfl hl.1 rfl (zrest hcat) dg ⟨hc, hs⟩
    · exact va_runIN (host := host) (As := []) (b := ad b) (ws := zWd mj) (rm := R') ⟨C.1, C.2.1, C.2.2.2.1, C.2.2.2.2.1, hW⟩ (ok l dC dI ad cA H.size I.2.2.2.1 I.2.2.2.2.1 I.2.2.2.2.2.1 I.2.2.2.2.2.2.1)
        ⟨va_cnB 0 hW (zGwd ce.1) hwd hR.1 hR.2.1 (C.2.2.2.2.2.2.2.2.2.2.1.2.2 _ k1) (hW _ k3) ce.2.2 ⟨hR.2.2.1, hR.2.2.2⟩, k4, hW _ k2⟩
        hpre rfl rfl hl.1 rfl (zrest hcat) dg ⟨hc, hs⟩
  intro T hT X
  obtain ⟨v, st₀, t, T', Lc, h0, X', hLc, e1, e2, ⟨⟨w', M', ad', hv, hq, I', hp⟩, hz, hk⟩, st⟩ := hr T hT X
  cases hv
  rw [h0] at hz hk
  obtain ⟨j1, j2, j3, j4, j5, j6, j7, j8⟩ := I'
  have hI : zIn n0 ad0 A s.heap.size w' M' ad' := ⟨fun i hi => by
      rw [j1 i (hi.imp (fun h => Nat.lt_of_lt_of_le h I.2.2.2.2.2.2.2) id)]; exact I.1 i hi, fun i h1 h2 => by
      by_cases h : i < w.length
      · rw [j1 i (.inl h)]; exact I.2.1 i h1 h
      · exact Nat.le_trans hS.1 (j2 i (by omega) h2), fun i hi => hA0 _ (j3 i hi), j4, j5, j6, j7, Nat.le_trans I.2.2.2.2.2.2.2 j8⟩
  have lo : ∀ v, zLow w.length v → zT ad' v = zT ad v := fun v hv => by
    cases v with
    | ref i => exact congrArg Value.ref (j1 i (.inl (hv i rfl)))
    | _ => rfl
  have eL : zL ad' L = zL ad L := List.map_congr_left fun v hv => by rw [lo _ (hL v hv)]
  have eS : S.map (zT ad') = S.map (zT ad) := List.map_congr_left fun v hv => lo _ (hS0 v hv)
  have h := kk w' M' hq p l e s m args below meth c dC dI cA A ad0 C ad' T'.heap (locs ++ Lc) ls hI (by rw [e1]; exact hp)
    ⟨Nat.le_trans hS.1 (by rw [e1]; exact hz), fun q h1 h2 => by rw [e1, hk q (Nat.lt_of_lt_of_le h1 hS.1) (fun g => h2 (hA0 q g))]; exact hS.2.1 q h1 h2, fun q hq => by
      rcases List.mem_append.mp hq with h | h
      · exact hS.2.2 q h
      · exact hA0 _ (hLc q h)⟩ (by rw [eL]; exact hl)
  rw [eS] at h
  obtain ⟨t2, a1, b1⟩ := h T' rfl X'
  exact ⟨t2, st t2 a1, b1⟩
/-- a static method that makes nothing, and leaves one array of numbers changed -/
theorem zg_callS {index d' n i : Nat} {d : zDesc} {f : Nat → Int32} {mj : zMI} {as S0 : List Value} (lk : zLkS mi.1.cls index mj) (ce : zCe mj n) (dg : decode mi.2.1 pc = .ok (.invokestatic index, 3)) (hR : (zR d').frames + 1 ≤ R.frames ∧ 8 + (mj.2.2.1 + 11) + (zR d').locals ≤ R.locals) (hc : k ≤ R.cells) (hs : kS ≤ R.slots) (hn : as.length = n) (hS0 : as.reverse ++ S = S0) (hcat : (S.map fun v => v.category).sum ≤ 8)
    (hw : w[i]? = some d) (hd : zCk w.length d f) (ok : zOk w d' mj as M (fun r M' => r = none ∧ M' = zsetF M i f)) (kk : zGn R mc ms mi n0 Q k kS (pc + 3) L S w (zsetF M i f)) : zGn R mc ms mi n0 Q k kS pc L S0 w M := by
  subst hS0
  intro p l e s m args below meth c dC dI cA A ad0 C ad H locs ls I hP hS hl
  obtain ⟨k1, k2, k3⟩ := lk
  have hW := C.2.2.2.2.2.1
  have hA0 : ∀ q, zA w ad q → A q := fun q h => by
    obtain ⟨i, hi, rfl⟩ := h
    exact I.2.2.1 i hi
  rw [zrev]
  have hr := va_runS (l := l) (e := e) (R := R) (below := below) (locs := locs) (cells := k) (slots := kS) (meth := meth) (rest := S.map (zT ad)) (g := F0 m pc ls ((as.map (zT ad)).reverse ++ S.map (zT ad))) (As := as.map (zT ad)) (ws := zWd mj) (rm := zR d') ⟨C.1, C.2.1, C.2.2.2.1, C.2.2.2.2.1, hW⟩ (ok l dC dI ad cA I.2.2.2.1) (va_cwS n hW (zGcons k1 (zGcons k2 (zGcons k3 (zGwd ce.1)))) rfl rfl rfl ce.2.2 hR)
    ⟨zblind, fun U hU hW2 => ⟨rfl, by rw [hU]; exact hP, va_K.moved hW2.alike C.2.2.2.2.2.2.2.1, zNw.warm hW2 C.2.2.2.2.2.2.2.2.1, (zRid.go hS hU hW2 (zRid.ext C.2.2.2.2.2.2.2.2.2.1 (fun i hi => I.1 i (.inr hi)))).narrow hA0⟩⟩ rfl (by rw [List.length_map]; exact hn) hl.1 rfl (zrest hcat) dg ⟨hc, hs⟩
  intro T hT X
  obtain ⟨v, st₀, t, T', Lc, h0, X', hLc, e1, e2, ⟨⟨r, M', hv, ⟨hq1, hq2⟩, hp⟩, hz, hk⟩, st⟩ := hr T hT X
  cases hv
  subst hq1; subst hq2
  rw [h0] at hz hk
  obtain ⟨t2, a1, b1⟩ := kk p l e s m args below meth c dC dI cA A ad0 C ad T'.heap (locs ++ Lc) ls (zIn_up I hw hd) (by rw [e1]; exact hp)
    ⟨Nat.le_trans hS.1 (by rw [e1]; exact hz), fun q h1 h2 => by rw [e1, hk q (Nat.lt_of_lt_of_le h1 hS.1) (fun g => h2 (hA0 q g))]; exact hS.2.1 q h1 h2, fun q hq => by
      rcases List.mem_append.mp hq with h | h
      · exact hS.2.2 q h
      · exact hA0 _ (hLc q h)⟩ hl T' rfl X'
  exact ⟨t2, st t2 a1, b1⟩
/-- new House[n] -/
theorem zg_newq {n : Int32} {N' index : Nat} (h1 : Cond.classLink mi.1.cls index "ThirteenthBun$House" ∈ zTw) (dg : decode mi.2.1 pc = .ok (.anewarray index, 3)) (hn : ¬ n < 0) (hN : n.toNatClampNeg = N') (hb : N' * 4 ≤ 536870912) (hc : k + 1 ≤ R.cells) (hs : kS + N' ≤ R.slots) (hL : ∀ v ∈ L, zLow w.length v.2) (hS0 : ∀ v ∈ S, zLow w.length v) (hl1 : w.length + 1 ≤ 1000)
    (kk : zGn R mc ms mi n0 Q (k + 1) (kS + N') (pc + 3) L (.ref w.length :: S) (w ++ [.inr (.inl (3, List.replicate N' 2000))]) M) : zGn R mc ms mi n0 Q k kS pc L (.int n :: S) w M := by
  intro p l e s m args below meth c dC dI cA A ad0 C ad H locs ls I hP hS hl
  have hK := C.2.2.2.2.2.2.2.1
  refine va_newq (C := "ThirteenthBun$House") C.1 C.2.1 C.2.2.2.2.1 (C.2.2.2.2.2.1 _ h1) C.2.2.2.2.2.2.2.2.2.2.1.1 hK hP (zDA cA M I.2.2.2.1 I.2.2.1) hS C.2.2.2.2.2.2.2.2.2.2.2.1 hn hN hb hc hs dg ?_
  intro q cB H1 hK1 hP1 hD1 hS1
  obtain ⟨kA1, comp1, -, -, -, g1⟩ := (hK1.2 5 (cB, .object "ThirteenthBun$House") rfl).2
  obtain ⟨kA2, comp2, -, -, -, g2⟩ := (hK.2 3 (cA 3, .object "ThirteenthBun$House") rfl).2
  have ec : cB = cA 3 := Option.some.inj (g1.symm.trans g2)
  subst ec
  have e0 : (@Sum.inl (ClassId × vp_A) (Nat × List Value) (cA 3, N', .inr (.inr (.inr (.inr (fun _ => none)))))) = zE (zadd ad w.length q) cA (.inr (.inl (3, List.replicate N' 2000))) (fun _ => 0) := by
    have e3 : (fun j => ((List.replicate N' 2000)[j]?).bind (zrf (zadd ad w.length q))) = fun _ => none := funext fun (j : Nat) => by
      rw [List.getElem?_replicate]
      by_cases h : j < N'
      · rw [if_pos h]; rfl
      · rw [if_neg h]; rfl
    show _ = @Sum.inl (ClassId × vp_A) (Nat × List Value) (cA 3, (List.replicate N' 2000).length, .inr (.inr (.inr (.inr (fun j => ((List.replicate N' 2000)[j]?).bind (zrf (zadd ad w.length q)))))))
    rw [e3, List.length_replicate]
  obtain ⟨I2, hP2⟩ := zgrow C I (d := .inr (.inl (3, List.replicate N' 2000))) e0 (fun t ht => .inr (by rw [List.eq_of_mem_replicate ht]; exact Nat.le_refl _)) hl1 hP1 hD1
  have h := kk p l e s m args below meth c dC dI cA A ad0 C _ H1 locs ls I2 hP2 hS1 (by rw [zadd_L hL]; exact hl)
  rw [List.map_cons, zadd_S hS0] at h
  have e1 : zT (zadd ad w.length q) (.ref w.length) = .ref q := congrArg Value.ref (if_pos rfl)
  rw [e1] at h
  exact h
/-- a house of any kind is put into the row -/
theorem zg_aast {i t j ci : Nat} {y : Int32} {ts ks : List Nat} {qc : vw_C} (hw : w[i]? = some (.inr (.inl (3, ts)))) (hv : w[t]? = some (.inr (.inr (ci, ks)))) (hc : vwCl[ci]? = some qc) (hj : y.toNatClampNeg = j) (hin : vp_in y ts.length) (ht0 : t < 2000) (hass : ∀ (s : State) (args : Array Value) (a b : ClassId), (∀ v ∈ zTw, v.before args s = true) → ClassAt s qc.1 a → ClassAt s "ThirteenthBun$House" b → s.vm.assignable a b = true) (dg : decode mi.2.1 pc = .ok (.aastore, 1))
    (kk : zGn R mc ms mi n0 Q k kS (pc + 1) L S (w.set i (.inr (.inl (3, ts.set j t)))) M) : zGn R mc ms mi n0 Q k kS pc L (.ref t :: .int y :: .ref i :: S) w M := by
  subst hj
  intro p l e s m args below meth c dC dI cA A ad0 C ad H locs ls I hP hS hl
  have hK := C.2.2.2.2.2.2.2.1
  have hD := zDA cA M I.2.2.2.1 I.2.2.1
  have hlt : y.toNatClampNeg < ts.length := Nat.not_le.mp fun q => hin (Or.inr q)
  have h0 : ¬ y < 0 := fun q => hin (Or.inl q)
  obtain ⟨r', hr', cellV, g1, g2, g3, -⟩ := hP t _ (zWs_at hv)
  have hr : r' = qc := Option.some.inj (hr'.symm.trans hc)
  subst hr
  have hcls := (hK.1 ci r' hc).2
  obtain ⟨kA, comp, k1, k2, k3, -⟩ := (hK.2 3 (cA 3, .object "ThirteenthBun$House") rfl).2
  have hH := (hK.1 2 (RX2, TX2, 5) rfl).2
  have hcomp : comp = dC 2 := Option.some.inj (k3.symm.trans hH.1)
  subst hcomp
  obtain ⟨kH, hkH, -⟩ := hH.2
  obtain ⟨kC, hkC, -⟩ := hcls.2
  have ha := zWs_at (ad := ad) (cA := cA) (M := M) hw
  refine W.aast C.1 C.2.1 (hP i _ ha) (fun q h => by cases h) (fun h => by cases h) k1 k2 rfl hkH ⟨h0, by show _ < (arrV _ _ _).slots.size; rw [arrV_size]; exact hlt⟩ g1 (fun q h => by rw [g3] at h; cases h) (by rw [g2]; exact hkC) (by rw [g2]; exact hass s args _ _ C.2.2.2.2.2.1 hcls hH) rfl rfl dg fun H1 e1 z oq => ?_
  have e9 : zE ad cA (.inr (.inl (3, ts.set y.toNatClampNeg t))) (M i) = .inl (cA 3, ts.length, .inr (.inr (.inr (.inr (va_up (fun j => (ts[j]?).bind (zrf ad)) y.toNatClampNeg (some (ad t))))))) := by
    have e3 : (fun j => ((ts.set y.toNatClampNeg t)[j]?).bind (zrf ad)) = va_up (fun j => (ts[j]?).bind (zrf ad)) y.toNatClampNeg (some (ad t)) := funext fun (j : Nat) => by
      by_cases h : j = y.toNatClampNeg
      · subst h
        rw [List.getElem?_set_self hlt]
        show zrf ad t = _
        unfold zrf va_up
        rw [if_pos ht0, if_pos rfl]
      · rw [List.getElem?_set_ne (fun q => h q.symm)]
        unfold va_up
        rw [if_neg h]
    show @Sum.inl (ClassId × vp_A) (Nat × List Value) (cA 3, (ts.set y.toNatClampNeg t).length, .inr (.inr (.inr (.inr (fun j => ((ts.set y.toNatClampNeg t)[j]?).bind (zrf ad)))))) = _
    rw [e3, List.length_set]
  have hl1 : i < w.length := (List.getElem?_eq_some_iff.mp hw).1
  have hl2 : t < w.length := (List.getElem?_eq_some_iff.mp hv).1
  have hP1 : va_P (dC, dI) vwCl ((zWs w ad cA M).set i (ad i, zE ad cA (.inr (.inl (3, ts.set y.toNatClampNeg t))) (M i))) H1 := by
    refine hP.set hD ha ?_ oq
    rw [e9]
    show H1[ad i]? = some (vp_cell _ _)
    rw [e1]
    show some ((vp_cell (cA 3) (ts.length, .inr (.inr (.inr (.inr (fun j => (ts[j]?).bind (zrf ad))))))).setSlot _ _) = _
    rw [vp_cell_q, vp_cell_q, arrV_store]
    congr 2
    funext q
    by_cases hq : q = y.toNatClampNeg
    · subst hq
      simp [updV, va_up, va_rf]
    · simp [updV, va_up, hq]
  have e2 := zWs_setD (M := M) (ad := ad) (cA := cA) (d' := .inr (.inl (3, ts.set y.toNatClampNeg t))) hw
  rw [e2] at hP1
  obtain ⟨i1, i2, i3, i4, i5, i6, i7, i8⟩ := I
  have len : (w.set i (.inr (.inl (3, ts.set y.toNatClampNeg t)))).length = w.length := List.length_set
  have hI : zIn n0 ad0 A s.heap.size (w.set i (.inr (.inl (3, ts.set y.toNatClampNeg t)))) M ad := ⟨i1, by rw [len]; exact i2, by rw [len]; exact i3, fun a b h1 h2 => i4 a b (by rw [← len]; exact h1) (by rw [← len]; exact h2), by rw [len]; exact i5, by rw [len]; exact i6, fun j d hj => by
    rw [len]
    by_cases h : j = i
    · subst h
      rw [List.getElem?_set_self hl1] at hj
      cases hj
      intro a ha'
      rcases List.mem_or_eq_of_mem_set ha' with q | q
      · exact i7 j _ hw a q
      · exact .inl (by omega)
    · rw [List.getElem?_set_ne (fun q => h q.symm)] at hj
      exact i7 j d hj, by rw [len]; exact i8⟩
  exact kk p l e s m args below meth c dC dI cA A ad0 C ad H1 _ ls hI hP1 (hS.put z oq (hD.2 i _ ha)) hl
end ZG
