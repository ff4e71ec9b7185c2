/-! calls, ends, entry -/
theorem zGG : GoodIn zTw zTw := goodIn_sub (fun _ h => h) (List.all_eq_true.mpr zgW)
theorem zGcons {v : Cond} {ws : List Cond} (h : v ∈ zTw) (hg : GoodIn zTw ws) : GoodIn zTw (v :: ws) := fun x hx => by
  rcases List.mem_cons.mp hx with rfl | h2
  · exact ⟨h, good_of_word (zgW _ h)⟩
  · exact hg x h2
theorem zGwd {mj : zMI} (h : Cond.code mj.1 mj.2.1 mj.2.2.1 mj.2.2.2 ∈ zTw) : GoodIn zTw (zWd mj) := zGcons h zGG
/-- what every callee needs -/
def zCe (mj : zMI) (n : Nat) : Prop := Cond.code mj.1 mj.2.1 mj.2.2.1 mj.2.2.2 ∈ zTw ∧ mj.2.2.1 ≤ 21 ∧ (mj.1.cls ≠ "java/lang/invoke/MethodHandle" ∧ mj.1.cls ≠ "java/lang/invoke/VarHandle" ∧ (parseMethodDescriptor mj.1.desc).map (fun d => d.parameters.length) = some n)
def zLkS (own : String) (index : Nat) (mj : zMI) : Prop := Cond.methodLink own index mj.1 ∈ zTw ∧ Cond.static mj.1 ∈ zTw ∧ Cond.initialized mj.1.cls ∈ zTw
def zLkV (own : String) (index : Nat) (mj : zMI) : Prop := Cond.methodLink own index mj.1 ∈ zTw ∧ Cond.instanceMethod mj.1 ∈ zTw ∧ Cond.selects mj.1.cls mj.1 mj.1 ∈ zTw ∧ Cond.initialized mj.1.cls ∈ zTw
def zLkU (own : String) (index : Nat) (C owner : String) (x : MethodName) (mj : zMI) : Prop := mj.1 = ⟨owner, x.name, x.desc⟩ ∧ Cond.methodLink own index x ∈ zTw ∧ Cond.sameMethod x.cls owner x.name x.desc ∈ zTw ∧ Cond.selects C x mj.1 ∈ zTw ∧ Cond.instanceMethod mj.1 ∈ zTw ∧ Cond.initialized mj.1.cls ∈ zTw ∧ (owner ≠ "java/lang/invoke/MethodHandle" ∧ owner ≠ "java/lang/invoke/VarHandle" ∧ (parseMethodDescriptor x.desc).map (fun d => d.parameters.length) = (parseMethodDescriptor mj.1.desc).map (fun d => d.parameters.length))
def zLkO (own : String) (index : Nat) (C owner : String) (x : MethodName) (mj : zMI) : Prop := (∃ (b0 : ByteArray) (m0 : Nat) (r0 : Option FieldType), Cond.code ⟨owner, x.name, x.desc⟩ b0 m0 r0 ∈ zTw) ∧ Cond.methodLink own index x ∈ zTw ∧ Cond.sameMethod x.cls owner x.name x.desc ∈ zTw ∧ Cond.instanceMethod ⟨owner, x.name, x.desc⟩ ∈ zTw ∧ Cond.selects C x mj.1 ∈ zTw ∧ Cond.instanceMethod mj.1 ∈ zTw ∧ Cond.initialized mj.1.cls ∈ zTw ∧ (owner ≠ "java/lang/invoke/MethodHandle" ∧ owner ≠ "java/lang/invoke/VarHandle" ∧ (parseMethodDescriptor x.desc).map (fun d => d.parameters.length) = (parseMethodDescriptor mj.1.desc).map (fun d => d.parameters.length))
def zLkK (own : String) (index : Nat) (mj : zMI) : Prop := mj.1.name ≠ "<init>" ∧ Cond.methodLink own index mj.1 ∈ zTw ∧ Cond.sameMethod mj.1.cls mj.1.cls mj.1.name mj.1.desc ∈ zTw ∧ Cond.superclass own mj.1.cls ∈ zTw ∧ Cond.instanceMethod mj.1 ∈ zTw ∧ Cond.initialized mj.1.cls ∈ zTw
section ZC
variable {w : List zDesc} {d : Nat} {mi : zMI} {Q : Option Value → zMem → Prop} {pc : Nat} {L : zLv} {S : List Value} {M : zMem}
theorem zback {p : Program} {l : Launch} {e : Env} {s : State} {m : MethodId} {args : Array Value} {below : List Frame} {meth : Method} {c : Code} {dC : Nat → ClassId} {dI : Nat → Nat → Nat} {ad : Nat → Nat} {cA : Nat → ClassId} {H : Heap} {locs : List Loc} {ls : Array Slot} {st0 rest : List Value} {a : Array Value} {Q' : Option Value → zMem → Prop} {Z : State → Prop}
    (hr : va_Run p l e (zR d) s m args below meth c H locs 0 0 0 0 (F0 m pc ls st0) rest (zQc w dC dI ad cA Q' a) (zA w ad)) (hS : va_S (zA w ad) s.heap H locs)
    (kk : ∀ (r : Option Value) (M' : zMem) (H1 : Heap) (locs1 : List Loc), Q' r M' → va_P (dC, dI) vwCl (zWs w ad cA M') H1 → va_S (zA w ad) s.heap H1 locs1 → W p l e (zR d) s m args below meth c H1 locs1 0 0 Z (F0 m (pc + 3) ls ((r.map (zT ad)).toList ++ rest))) :
    W p l e (zR d) s m args below meth c H locs 0 0 Z (F0 m pc ls st0) := by
  intro T hT X
  obtain ⟨v, st₀, t, T', Lc, h0, X', hL, e1, e2, ⟨⟨r, M', hv, hq, hp⟩, hz, hk⟩, st⟩ := hr T hT X
  cases hv
  rw [h0] at hz hk
  obtain ⟨t2, a1, b1⟩ := kk r M' T'.heap (locs ++ Lc) hq (by rw [e1]; exact hp)
    ⟨Nat.le_trans hS.1 (by rw [e1]; exact hz), fun q h1 h2 => by rw [e1, hk q (Nat.lt_of_lt_of_le h1 hS.1) h2]; exact hS.2.1 q h1 h2, fun q hq => by
      rcases List.mem_append.mp hq with h | h
      · exact hS.2.2 q h
      · exact hL q h⟩ T' rfl X'
  exact ⟨t2, st t2 a1, b1⟩
theorem zblind {dC : Nat → ClassId} {dI : Nat → Nat → Nat} {ad : Nat → Nat} {cA : Nat → ClassId} {as : List Value} : FrameBlind (zPc w dC dI ad cA as M) := fun a U g mk q =>
  ⟨q.1, q.2.1, va_K.moved (u := U) (U := U.calling g mk a) (Vm.Alike.refl U.vm) q.2.2.1, zNw.same (u := U) (U := U.calling g mk a) rfl q.2.2.2.1, zRid.calling q.2.2.2.2⟩
theorem zroom {d d' nL : Nat} (h : d' < d) (hm : nL ≤ 21) : (zR d').frames + 1 ≤ (zR d).frames ∧ 8 + (nL + 11) + (zR d').locals ≤ (zR d).locals := by
  simp only [zR]
  omega
theorem zrest {ad : Nat → Nat} {m : MethodId} {ls : Array Slot} {S0 : List Value} (h : (S.map fun v => v.category).sum ≤ 8) : 2 * (F0 m pc ls S0).monitorRoom + ((S.map (zT ad)).map fun v => v.category).sum ≤ 8 :=
  lv_room (rest := S0) (by rw [zS_cat]; exact h)
theorem zrev (ad : Nat → Nat) (as S : List Value) : (as.reverse ++ S).map (zT ad) = (as.map (zT ad)).reverse ++ S.map (zT ad) := by
  rw [List.map_append, List.map_reverse]
theorem zpost (ad : Nat → Nat) (r : Option Value) (S : List Value) : (r.toList ++ S).map (zT ad) = (r.map (zT ad)).toList ++ S.map (zT ad) := by
  cases r <;> rfl
theorem zi_callS {index d' n : Nat} {mj : zMI} {as S0 : List Value} {Q' : Option Value → zMem → Prop} (lk : zLkS mi.1.cls index mj) (ce : zCe mj n) (dg : decode mi.2.1 pc = .ok (.invokestatic index, 3)) (hd : d' < d) (hn : as.length = n) (hS0 : as.reverse ++ S = S0) (hcat : (S.map fun v => v.category).sum ≤ 8)
    (ok : zOk w d' mj as M Q') (kk : ∀ (r : Option Value) (M' : zMem), Q' r M' → zRn w d mi Q (pc + 3) L (r.toList ++ S) M') : zRn w d mi Q pc L S0 M := by
  subst hS0
  intro p l e s m args below meth c dC dI ad cA C H locs ls hP hS hl
  obtain ⟨k1, k2, k3⟩ := lk
  rw [zrev]
  refine zback (rest := S.map (zT ad)) (Q' := Q') (va_runS (As := as.map (zT ad)) (ws := zWd mj) (rm := zR d') ⟨C.1, C.2.1, C.2.2.2.1, C.2.2.2.2.1, C.2.2.2.2.2.1⟩ (ok l dC dI ad cA C.2.2.2.2.2.2.2.2.1) (va_cwS n C.2.2.2.2.2.1 (zGcons k1 (zGcons k2 (zGcons k3 (zGwd ce.1)))) rfl rfl rfl ce.2.2 (zroom hd ce.2.1))
    ⟨zblind, fun U hU hW => ⟨rfl, by rw [hU]; exact hP, va_K.moved hW.alike C.2.2.2.2.2.2.2.1, zNw.warm hW C.2.2.2.2.2.2.2.2.2.1, zRid.go hS hU hW C.2.2.2.2.2.2.2.2.2.2⟩⟩ rfl (by rw [List.length_map]; exact hn) hl.1 rfl (zrest hcat) dg ⟨Nat.le_refl _, Nat.le_refl _⟩) hS ?_
  intro r M' H1 locs1 hq hP1 hS1
  have h := kk r M' hq p l e s m args below meth c dC dI ad cA C H1 locs1 ls hP1 hS1 hl
  rw [zpost] at h
  exact h
/-- a static method of a nest mate's -/
def zLkN (own : String) (index : Nat) (mj : zMI) (host : String) : Prop := (own, index, mj.1, host) ∈ zNest ∧ Cond.static mj.1 ∈ zTw ∧ Cond.initialized mj.1.cls ∈ zTw
theorem zi_callSN {index d' n : Nat} {mj : zMI} {host : String} {as S0 : List Value} {Q' : Option Value → zMem → Prop} (lk : zLkN mi.1.cls index mj host) (ce : zCe mj n) (dg : decode mi.2.1 pc = .ok (.invokestatic index, 3)) (hd : d' < d) (hn : as.length = n) (hS0 : as.reverse ++ S = S0) (hcat : (S.map fun v => v.category).sum ≤ 8)
    (ok : zOk w d' mj as M Q') (kk : ∀ (r : Option Value) (M' : zMem), Q' r M' → zRn w d mi Q (pc + 3) L (r.toList ++ S) M') : zRn w d mi Q pc L S0 M := by
  subst hS0
  intro p l e s m args below meth c dC dI ad cA C H locs ls hP hS hl
  obtain ⟨k1, k2, k3⟩ := lk
  rw [zrev]
  refine zback (rest := S.map (zT ad)) (Q' := Q') (va_runSN (As := as.map (zT ad)) (ws := zWd mj) (rm := zR d') (host := host) ⟨C.1, C.2.1, C.2.2.2.1, C.2.2.2.2.1, C.2.2.2.2.2.1⟩ (ok l dC dI ad cA C.2.2.2.2.2.2.2.2.1) ⟨va_cnB n C.2.2.2.2.2.1 (zGwd ce.1) rfl rfl rfl (C.2.2.2.2.2.2.2.2.2.1 _ k1) (C.2.2.2.2.2.1 _ k3) ce.2.2 (zroom hd ce.2.1), C.2.2.2.2.2.1 _ k2, trivial⟩
    ⟨zblind, fun U hU hW => ⟨rfl, by rw [hU]; exact hP, va_K.moved hW.alike C.2.2.2.2.2.2.2.1, zNw.warm hW C.2.2.2.2.2.2.2.2.2.1, zRid.go hS hU hW C.2.2.2.2.2.2.2.2.2.2⟩⟩ rfl (by rw [List.length_map]; exact hn) hl.1 rfl (zrest hcat) dg ⟨Nat.le_refl _, Nat.le_refl _⟩) hS ?_
  intro r M' H1 locs1 hq hP1 hS1
  have h := kk r M' hq p l e s m args below meth c dC dI ad cA C H1 locs1 ls hP1 hS1 hl
  rw [zpost] at h
  exact h
theorem zrecv {dC : Nat → ClassId} {dI : Nat → Nat → Nat} {ad : Nat → Nat} {cA : Nat → ClassId} {s : State} {H : Heap} {b ci : Nat} {q : vw_C} {ks : List Nat} (hK : va_K (dC, dI) vwCl (zTy cA) s) (hP : va_P (dC, dI) vwCl (zWs w ad cA M) H) (hw : w[b]? = some (.inr (.inr (ci, ks)))) (hc : vwCl[ci]? = some q) : ∃ cell : Cell, H[ad b]? = some cell ∧ cell.vm.isStatics = false ∧ s.vm.findClass q.1 = some cell.cls :=
  va_recv hK hP hc (zWs_at hw)
theorem zi_callV {index d' n b ci : Nat} {mj : zMI} {as S0 : List Value} {ks : List Nat} {qC : vw_C} {Q' : Option Value → zMem → Prop} (lk : zLkV mi.1.cls index mj) (ce : zCe mj n) (hw : w[b]? = some (.inr (.inr (ci, ks)))) (hc : vwCl[ci]? = some qC) (hcl : mj.1.cls = qC.1) (dg : decode mi.2.1 pc = .ok (.invokevirtual index, 3)) (hd : d' < d) (hn : as.length = n) (hS0 : as.reverse ++ (.ref b :: S) = S0) (hcat : (S.map fun v => v.category).sum ≤ 8)
    (ok : zOk w d' mj (.ref b :: as) M Q') (kk : ∀ (r : Option Value) (M' : zMem), Q' r M' → zRn w d mi Q (pc + 3) L (r.toList ++ S) M') : zRn w d mi Q pc L S0 M := by
  subst hS0
  intro p l e s m args below meth c dC dI ad cA C H locs ls hP hS hl
  obtain ⟨k1, k2, k3, k4⟩ := lk
  rw [zrev]
  refine zback (rest := S.map (zT ad)) (Q' := Q') (va_runV (As := as.map (zT ad)) (b := ad b) (C := mj.1.cls) (ws := zWd mj) (rm := zR d') ⟨C.1, C.2.1, C.2.2.2.1, C.2.2.2.2.1, C.2.2.2.2.2.1⟩ (ok l dC dI ad cA C.2.2.2.2.2.2.2.2.1) (cwV n C.2.2.2.2.2.1 (zGcons k1 (zGcons k2 (zGcons k3 (zGcons k4 (zGwd ce.1))))) rfl rfl rfl ⟨rfl, ce.2.2⟩ (zroom hd ce.2.1))
    ⟨zblind, by rw [hcl]; exact zrecv C.2.2.2.2.2.2.2.1 hP hw hc, fun U hU hW => ⟨rfl, by rw [hU]; exact hP, va_K.moved hW.alike C.2.2.2.2.2.2.2.1, zNw.warm hW C.2.2.2.2.2.2.2.2.2.1, zRid.go hS hU hW C.2.2.2.2.2.2.2.2.2.2⟩⟩ rfl (by rw [List.length_map]; exact hn) hl.1 rfl (zrest hcat) dg ⟨Nat.le_refl _, Nat.le_refl _⟩) hS ?_
  intro r M' H1 locs1 hq hP1 hS1
  have h := kk r M' hq p l e s m args below meth c dC dI ad cA C H1 locs1 ls hP1 hS1 hl
  rw [zpost] at h
  exact h
theorem zi_callU {index d' n b ci : Nat} {mj : zMI} {as S0 : List Value} {ks : List Nat} {qC : vw_C} {owner : String} {x : MethodName} {Q' : Option Value → zMem → Prop} (lk : zLkU mi.1.cls index qC.1 owner x mj) (ce : zCe mj n) (hw : w[b]? = some (.inr (.inr (ci, ks)))) (hc : vwCl[ci]? = some qC) (dg : decode mi.2.1 pc = .ok (.invokevirtual index, 3)) (hd : d' < d) (hn : as.length = n) (hS0 : as.reverse ++ (.ref b :: S) = S0) (hcat : (S.map fun v => v.category).sum ≤ 8)
    (ok : zOk w d' mj (.ref b :: as) M Q') (kk : ∀ (r : Option Value) (M' : zMem), Q' r M' → zRn w d mi Q (pc + 3) L (r.toList ++ S) M') : zRn w d mi Q pc L S0 M := by
  subst hS0
  intro p l e s m args below meth c dC dI ad cA C H locs ls hP hS hl
  obtain ⟨k0, k1, k2, k3, k4, k5, k6⟩ := lk
  rw [zrev]
  refine zback (rest := S.map (zT ad)) (Q' := Q') (va_runU (As := as.map (zT ad)) (b := ad b) (C := qC.1) (owner := owner) (x := x) (ws := zWd mj) (rm := zR d') ⟨C.1, C.2.1, C.2.2.2.1, C.2.2.2.2.1, C.2.2.2.2.2.1⟩ (ok l dC dI ad cA C.2.2.2.2.2.2.2.2.1) (va_cwU n C.2.2.2.2.2.1 (zGcons k1 (zGcons k2 (zGcons k3 (zGcons k4 (zGcons k5 (zGwd ce.1)))))) rfl rfl rfl k0 ⟨k6.1, k6.2.1, k6.2.2.trans ce.2.2.2.2⟩ (zroom hd ce.2.1))
    ⟨zblind, zrecv C.2.2.2.2.2.2.2.1 hP hw hc, fun U hU hW => ⟨rfl, by rw [hU]; exact hP, va_K.moved hW.alike C.2.2.2.2.2.2.2.1, zNw.warm hW C.2.2.2.2.2.2.2.2.2.1, zRid.go hS hU hW C.2.2.2.2.2.2.2.2.2.2⟩⟩ rfl (by rw [List.length_map]; exact hn) hl.1 rfl (zrest hcat) dg ⟨Nat.le_refl _, Nat.le_refl _⟩) hS ?_
  intro r M' H1 locs1 hq hP1 hS1
  have h := kk r M' hq p l e s m args below meth c dC dI ad cA C H1 locs1 ls hP1 hS1 hl
  rw [zpost] at h
  exact h
theorem zi_callO {index d' n b ci : Nat} {mj : zMI} {as S0 : List Value} {ks : List Nat} {qC : vw_C} {owner : String} {x : MethodName} {Q' : Option Value → zMem → Prop} (lk : zLkO mi.1.cls index qC.1 owner x mj) (ce : zCe mj n) (hw : w[b]? = some (.inr (.inr (ci, ks)))) (hc : vwCl[ci]? = some qC) (dg : decode mi.2.1 pc = .ok (.invokevirtual index, 3)) (hd : d' < d) (hn : as.length = n) (hS0 : as.reverse ++ (.ref b :: S) = S0) (hcat : (S.map fun v => v.category).sum ≤ 8)
    (ok : zOk w d' mj (.ref b :: as) M Q') (kk : ∀ (r : Option Value) (M' : zMem), Q' r M' → zRn w d mi Q (pc + 3) L (r.toList ++ S) M') : zRn w d mi Q pc L S0 M := by
  subst hS0
  intro p l e s m args below meth c dC dI ad cA C H locs ls hP hS hl
  obtain ⟨⟨b0, m0, r0, k0⟩, k1, k2, k2b, k3, k4, k5, k6⟩ := lk
  rw [zrev]
  refine zback (rest := S.map (zT ad)) (Q' := Q') (va_runU (As := as.map (zT ad)) (b := ad b) (C := qC.1) (owner := owner) (x := x) (ws := zWd mj) (rm := zR d') ⟨C.1, C.2.1, C.2.2.2.1, C.2.2.2.2.1, C.2.2.2.2.2.1⟩ (ok l dC dI ad cA C.2.2.2.2.2.2.2.2.1) (va_cwO n C.2.2.2.2.2.1 (zGcons k1 (zGcons k2 (zGcons k2b (zGcons k3 (zGcons k4 (zGcons k5 (zGwd ce.1))))))) rfl rfl rfl k0 ⟨k6.1, k6.2.1, k6.2.2.trans ce.2.2.2.2⟩ (zroom hd ce.2.1))
    ⟨zblind, zrecv C.2.2.2.2.2.2.2.1 hP hw hc, fun U hU hW => ⟨rfl, by rw [hU]; exact hP, va_K.moved hW.alike C.2.2.2.2.2.2.2.1, zNw.warm hW C.2.2.2.2.2.2.2.2.2.1, zRid.go hS hU hW C.2.2.2.2.2.2.2.2.2.2⟩⟩ rfl (by rw [List.length_map]; exact hn) hl.1 rfl (zrest hcat) dg ⟨Nat.le_refl _, Nat.le_refl _⟩) hS ?_
  intro r M' H1 locs1 hq hP1 hS1
  have h := kk r M' hq p l e s m args below meth c dC dI ad cA C H1 locs1 ls hP1 hS1 hl
  rw [zpost] at h
  exact h
theorem zi_callK {index d' n b ci : Nat} {mj : zMI} {as S0 : List Value} {ks : List Nat} {qC : vw_C} {Q' : Option Value → zMem → Prop} (lk : zLkK mi.1.cls index mj) (ce : zCe mj n) (hw : w[b]? = some (.inr (.inr (ci, ks)))) (hc : vwCl[ci]? = some qC) (dg : decode mi.2.1 pc = .ok (.invokespecial index, 3)) (hd : d' < d) (hn : as.length = n) (hS0 : as.reverse ++ (.ref b :: S) = S0) (hcat : (S.map fun v => v.category).sum ≤ 8)
    (ok : zOk w d' mj (.ref b :: as) M Q') (kk : ∀ (r : Option Value) (M' : zMem), Q' r M' → zRn w d mi Q (pc + 3) L (r.toList ++ S) M') : zRn w d mi Q pc L S0 M := by
  subst hS0
  intro p l e s m args below meth c dC dI ad cA C H locs ls hP hS hl
  obtain ⟨k0, k1, k2, k3, k4, k5⟩ := lk
  rw [zrev]
  refine zback (rest := S.map (zT ad)) (Q' := Q') (va_runSU (As := as.map (zT ad)) (b := ad b) (C := qC.1) (ws := zWd mj) (rm := zR d') (C.2.2.2.2.2.2.2.1.1 ci qC hc).2 ⟨C.1, C.2.1, C.2.2.2.1, C.2.2.2.2.1, C.2.2.2.2.2.1⟩ (ok l dC dI ad cA C.2.2.2.2.2.2.2.2.1) (va_cwSU n C.2.2.2.2.2.1 (zGcons k1 (zGcons k2 (zGcons k3 (zGcons k4 (zGcons k5 (zGwd ce.1)))))) rfl rfl rfl ⟨k0, ce.2.2.2.2⟩ (zroom hd ce.2.1))
    ⟨zblind, zrecv C.2.2.2.2.2.2.2.1 hP hw hc, fun U hU hW => ⟨rfl, by rw [hU]; exact hP, va_K.moved hW.alike C.2.2.2.2.2.2.2.1, zNw.warm hW C.2.2.2.2.2.2.2.2.2.1, zRid.go hS hU hW C.2.2.2.2.2.2.2.2.2.2⟩⟩ rfl (by rw [List.length_map]; exact hn) hl.1 rfl (zrest hcat) dg ⟨Nat.le_refl _, Nat.le_refl _⟩) hS ?_
  intro r M' H1 locs1 hq hP1 hS1
  have h := kk r M' hq p l e s m args below meth c dC dI ad cA C H1 locs1 ls hP1 hS1 hl
  rw [zpost] at h
  exact h
theorem zi_iret {x : Int32} {ty : FieldType} (hr : mi.2.2.2 = some ty) (hn : narrow ty (.int x) = .int x) (dg : decode mi.2.1 pc = .ok (.ireturn, 1)) (hq : Q (some (.int x)) M) : zRn w d mi Q pc L [.int x] M := by
  intro p l e s m args below meth c dC dI ad cA C H locs ls hP hS hl
  exact W.zret C.1 C.2.1 (C.2.2.1.trans hr) hn (fun t ht _ => ⟨⟨some (.int x), M, rfl, hq, by rw [ht]; exact hP⟩, hS.F ht⟩) hS.2.2 dg C.2.2.2.2.2.2.1
theorem zi_vret (hr : mi.2.2.2 = none) (dg : decode mi.2.1 pc = .ok (.return_, 1)) (hq : Q none M) : zRn w d mi Q pc L [] M := by
  intro p l e s m args below meth c dC dI ad cA C H locs ls hP hS hl
  exact W.vret C.1 C.2.1 (C.2.2.1.trans hr) (fun t ht _ => ⟨⟨none, M, rfl, hq, by rw [ht]; exact hP⟩, hS.F ht⟩) hS.2.2 dg C.2.2.2.2.2.2.1
theorem zi_aret {x : Nat} {cn : String} (hr : mi.2.2.2 = some (.object cn)) (dg : decode mi.2.1 pc = .ok (.areturn, 1)) (hq : Q (some (.ref x)) M) : zRn w d mi Q pc L [.ref x] M := by
  intro p l e s m args below meth c dC dI ad cA C H locs ls hP hS hl
  exact W.aret C.1 C.2.1 (C.2.2.1.trans hr) (Or.inl ⟨cn, rfl⟩) (Or.inr ⟨ad x, rfl⟩) (fun t ht _ => ⟨⟨some (.ref x), M, rfl, hq, by rw [ht]; exact hP⟩, hS.F ht⟩) hS.2.2 dg C.2.2.2.2.2.2.1
end ZC
theorem zOk_of {w : List zDesc} {d : Nat} {mi : zMI} {as : List Value} {M : zMem} {Q : Option Value → zMem → Prop} (hy : plainName mi.1.cls = true) (hsl : ∀ ad : Nat → Nat, (lg_sl (as.map (zT ad))).length ≤ mi.2.2.1) {L : zLv} (hL : lv_args 0 as = L) (kk : zRn w d mi Q 0 L [] M) : zOk w d mi as M Q := by
  subst hL
  intro l dC dI ad cA hi
  refine Met.ofW (cc := mi.2.1) (maxL := mi.2.2.1) (ret := mi.2.2.2) hy rfl ?_
  intro p e s m args below meth c s₁ B hml hv
  obtain ⟨rfl, hP, hK, hN⟩ := hv
  have hts := atoms_spec (ws := zWd mi) B.pre
  have hl := lv_entry (as.map (zT ad)) (n := mi.2.2.1) (hsl ad)
  rw [lg_entry_eq]
  generalize (lg_sl (as.map (zT ad)) ++ List.replicate (mi.2.2.1 - (lg_sl (as.map (zT ad))).length) Slot.unset).toArray = ls at hl ⊢
  rw [zL_args] at hl
  exact kk p l e s m _ below meth c dC dI ad cA ⟨B.exec, B.bytes, B.returns, hml, findClass_of_methodNamed B.named, fun v h => hts v (List.mem_cons_of_mem _ h), B.notSynchronized, hK, hi, hN⟩ s.heap [] ls hP va_S.rf hl
theorem zOk_mono {w : List zDesc} {d : Nat} {mi : zMI} {as : List Value} {M : zMem} {Q Q' : Option Value → zMem → Prop} (h : zOk w d mi as M Q) (hq : ∀ r M', Q r M' → Q' r M') : zOk w d mi as M Q' := by
  intro l dC dI ad cA hi
  exact MetFree.mono (h l dC dI ad cA hi) (fun _ _ h => h) (fun _ _ _ _ _ h => h) (fun _ _ _ _ _ h => ⟨⟨by obtain ⟨⟨⟨r, M', a, b, c⟩, -⟩, -⟩ := h; exact ⟨r, M', a, hq r M' b, c⟩, h.1.2⟩, h.2⟩)
