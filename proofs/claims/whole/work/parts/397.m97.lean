/-! super.m(..) where m is found further up: x is the method as the call names it, mj the one that is run -/
def zLkP (own : String) (index : Nat) (x : MethodName) (mj : zMI) : Prop := mj.1 = ⟨mj.1.cls, x.name, x.desc⟩ ∧ x.name ≠ "<init>" ∧ Cond.methodLink own index x ∈ zTw ∧ Cond.sameMethod x.cls mj.1.cls x.name x.desc ∈ zTw ∧ Cond.superclass own x.cls ∈ zTw ∧ Cond.superclass x.cls mj.1.cls ∈ zTw ∧ Cond.instanceMethod mj.1 ∈ zTw ∧ Cond.initialized mj.1.cls ∈ zTw
theorem zup2 {vm : Vm} {a b : ClassId} {k : Class} (hk : vm.classes[a]? = some k) (hs : k.super = some b) : vm.isSubclass a b = true := by
  have h1 : 0 < vm.classes.size := Nat.lt_of_le_of_lt (Nat.zero_le _) (Array.getElem?_eq_some_iff.mp hk).1
  obtain ⟨n, hn⟩ : ∃ n, vm.classes.size = n + 1 := ⟨vm.classes.size - 1, by omega⟩
  have h2 : vm.isSubclassAux (n + 1) b b = true := by simp [Vm.isSubclassAux]
  unfold Vm.isSubclass
  rw [hn, Vm.isSubclassAux, hk]
  simp only [hs, h2, Bool.or_true]
theorem zrunUp {p : Program} {l : Launch} {e : Env} {R : Room} {s : State} {m : MethodId} {args : Array Value} {below : List Frame} {meth : Method} {c : Code} {H : Heap} {locs : List Loc} {cells slots : Nat} {x y : MethodName} {bytes cc : ByteArray} {maxL nL mc ms n index : Nat} {ret : Option FieldType} {ws : List Cond} {rm : Room} {Pc : Array Value → State → Prop} {Qc : Array Value → State → Outcome → State → Prop} {free : Addr → Prop} {Ts : List Cond} {own C : String} {cC : ClassId} {b : Addr} {As rest : List Value} {g : JFrame}
    (hat : ClassAt s C cC) (S : CallFix p m c cc nL s args Ts own) (hM : Met l y ws rm Pc Qc mc ms free) (hy : y = ⟨y.cls, x.name, x.desc⟩) (hroom : rm.cells = mc ∧ rm.slots = ms ∧ rm.frames + 1 ≤ R.frames ∧ 8 + (maxL + 11) + rm.locals ≤ R.locals) (hws : ∀ w ∈ ws, ∀ (a' : Array Value) (U : State), s.WarmedH U.vm → w.before a' U = true) (hcw : Cond.code y bytes maxL ret ∈ ws)
    (hl1 : (Cond.methodLink own index x).before args s = true) (hl2 : (Cond.sameMethod x.cls y.cls x.name x.desc).before args s = true) (hl3 : (Cond.superclass own x.cls).before args s = true) (hl4 : (Cond.superclass x.cls y.cls).before args s = true) (hl5 : (Cond.instanceMethod y).before args s = true) (hini : (Cond.initialized y.cls).before args s = true) (hcode : (Cond.code y bytes maxL ret).before args s = true) (hno : x.name ≠ "<init>") (hlen : ∀ sig, parseMethodDescriptor y.desc = some sig → n = sig.parameters.length)
    (hp : PreV s H C b Pc As) (hg : g.method = m) (hn : As.length = n) (hsize : g.locals.size = nL) (hstack : g.stack = As.reverse ++ .ref b :: rest) (hW : 2 * g.monitorRoom + (rest.map fun v => v.category).sum ≤ 8) (hdg : decode cc g.pc = .ok (.invokespecial index, 3)) (hf : cells + mc ≤ R.cells ∧ slots + ms ≤ R.slots) :
    va_Run p l e R s m args below meth c H locs cells slots mc ms g rest (Qc (Value.ref b :: As).toArray) (free) := by
  obtain ⟨hrc, hrs, hfr, hlo⟩ := hroom
  have hK : Back l R p e below s args y 3 8 (PreOf R mc ms Pc) (PostOf Qc mc ms free) := back_of (bytes := bytes) (maxL := maxL) (ret := ret) hM hp.1 hrc hrs hfr hlo hws hcw (fun a' U hW => word_at hW (Or.inl (by first | rfl | simp [Cond.onTables, Cond.keeps, Cond.steady])) hini)
  obtain ⟨hx, hb, hml, ho, -⟩ := S
  obtain ⟨-, ⟨cellB, hcB, hoB, hclB⟩, hPc⟩ := hp
  obtain ⟨hfc, kB, hkB, -⟩ := hat
  cases hfc.symm.trans hclB
  obtain ⟨mk, methM, hnamed, hmethM, hstM, habM⟩ := Cond.instanceMethod_spec hl5
  obtain ⟨methM', cM, hmethM', -, -, -, -, -, -, hsigM⟩ := Cond.code_spec hnamed hcode
  cases hmethM.symm.trans hmethM'
  obtain ⟨p1, dk, k1, hp1, hdk, hk1, hs1, -, -, hnid⟩ := Cond.superclass_spec ho hl3
  obtain ⟨p2, dk2, k2, hp2, hdk2, hk2, hs2, -, -, -⟩ := Cond.superclass_spec hp1 hl4
  have hpm : p2 = mk.cls := Option.some.inj (hp2.symm.trans (findClass_of_methodNamed hnamed))
  have hnamed2 : s.methodNamed? ⟨y.cls, x.name, x.desc⟩ = some mk := by rw [← hy]; exact hnamed
  have hK2 : Back l R p e below s args ⟨y.cls, x.name, x.desc⟩ 3 8 (PreOf R mc ms Pc) (PostOf Qc mc ms free) := by rw [← hy]; exact hK
  intro T hT X
  obtain ⟨v, vm₁, ⟨U', l2, c2, s2⟩, hW₁, X', ⟨g', mk2, t, L, e1, e2, hq, h1, hL, h2, h3⟩, st⟩ := X.specialUpBack hx (own := own) (owner := y.cls) (index := index) (x := x) ho hl1 hl2 hnamed2 hmethM hstM habM hno hdk hnid hp1 hs1 (by rw [← hpm]; exact zup2 hdk2 hs2) (a := b) (cell := cellB) (by rw [hT]; exact hcB) (fun z h => by rw [h] at hoB; cases hoB) hkB hK2 hg (hsize.trans hml.symm) (Steps.refl _) (argsL := As) (rest := rest) (hn.trans (hlen _ hsigM)) hstack hW (by rw [hb]; exact hdg)
    (fun vm₁ hW₁ => ⟨hf.1, hf.2, hPc (T.setVm vm₁) hT hW₁⟩)
  dsimp only [Pt.U, Pt.locs, Pt.cells, Pt.slots] at X' e1 e2 h1 h2 h3 st
  subst h1; subst h2; subst h3
  exact ⟨v, (T.setVm vm₁).calling g' mk2 (Value.ref b :: As).toArray, t, U', L, hT, X', hL, e1, e2, hq, fun target h => st.trans h⟩
theorem zi_callP {w : List zDesc} {d : Nat} {mi : zMI} {Q : Option Value → zMem → Prop} {pc : Nat} {L : zLv} {S : List Value} {M : zMem} {index d' n b ci : Nat} {x : MethodName} {mj : zMI} {as S0 : List Value} {ks : List Nat} {qC : vw_C} {Q' : Option Value → zMem → Prop} (lk : zLkP mi.1.cls index x mj) (ce : zCe mj n) (hw : w[b]? = some (.inr (.inr (ci, ks)))) (hc : vwCl[ci]? = some qC) (dg : decode mi.2.1 pc = .ok (.invokespecial index, 3)) (hd : d' < d) (hn : as.length = n) (hS0 : as.reverse ++ (.ref b :: S) = S0) (hcat : (S.map fun v => v.category).sum ≤ 8)
    (ok : zOk w d' mj (.ref b :: as) M Q') (kk : ∀ (r : Option Value) (M' : zMem), Q' r M' → zRn w d mi Q (pc + 3) L (r.toList ++ S) M') : zRn w d mi Q pc L S0 M := by
  subst hS0
  intro p l e s m args below meth c dC dI ad cA C H locs ls hP hS hl
  obtain ⟨ky, k0, k1, k2, k3, k4, k5, k6⟩ := lk
  have hT := C.2.2.2.2.2.1
  have hrm := zroom hd ce.2.1
  rw [zrev]
  refine zback (rest := S.map (zT ad)) (Q' := Q') (zrunUp (As := as.map (zT ad)) (b := ad b) (C := qC.1) (ws := zWd mj) (rm := zR d') (bytes := mj.2.1) (maxL := mj.2.2.1) (ret := mj.2.2.2) (n := n) (C.2.2.2.2.2.2.2.1.1 ci qC hc).2 ⟨C.1, C.2.1, C.2.2.2.1, C.2.2.2.2.1, C.2.2.2.2.2.1⟩ (ok l dC dI ad cA C.2.2.2.2.2.2.2.2.1) ky ⟨rfl, rfl, hrm.1, hrm.2⟩ (pay_in hT (zGwd ce.1)) List.mem_cons_self (hT _ k1) (hT _ k2) (hT _ k3) (hT _ k4) (hT _ k5) (hT _ k6) (hT _ ce.1) k0 (fun sig h => by have h2 := ce.2.2.2.2; rw [h] at h2; exact (Option.some.inj h2).symm)
    ⟨zblind, zrecv C.2.2.2.2.2.2.2.1 hP hw hc, fun U hU hW => ⟨rfl, by rw [hU]; exact hP, va_K.moved hW.alike C.2.2.2.2.2.2.2.1, zNw.warm hW C.2.2.2.2.2.2.2.2.2.1, zRid.go hS hU hW C.2.2.2.2.2.2.2.2.2.2⟩⟩ rfl (by rw [List.length_map]; exact hn) hl.1 rfl (zrest hcat) dg ⟨Nat.le_refl _, Nat.le_refl _⟩) hS ?_
  intro r M' H1 locs1 hq hP1 hS1
  have h := kk r M' hq p l e s m args below meth c dC dI ad cA C H1 locs1 ls hP1 hS1 hl
  rw [zpost] at h
  exact h
