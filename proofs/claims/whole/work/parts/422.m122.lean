/-! rows of a growing world -/
section ZG
variable {R : Room} {mc ms : Nat} {mi : zMI} {n0 : Nat} {Q : List zDesc → zMem → Prop} {k kS pc : Nat} {L : zLv} {S : List Value} {w : List zDesc} {M : zMem}
theorem zg_newaI {n : Int32} {N' : Nat} (harr : Cond.arrayClass .int ∈ zTw) (dg : decode mi.2.1 pc = .ok (.newarray .int, 2)) (hn : ¬ n < 0) (hN : n.toNatClampNeg = N') (hb : N' * 4 ≤ 536870912) (hc : k + 1 ≤ R.cells) (hs : kS + N' ≤ R.slots) (hL : ∀ v ∈ L, zLow w.length v.2) (hS0 : ∀ v ∈ S, zLow w.length v) (hl1 : w.length + 1 ≤ 1000)
    (kk : zGn R mc ms mi n0 Q (k + 1) (kS + N') (pc + 2) L (.ref w.length :: S) (w ++ [.inl (0, N')]) M) : zGn R mc ms mi n0 Q k kS pc L (.int n :: S) w M := by
  intro p l e s m args below meth c dC dI cA A ad0 C ad H locs ls I hP hS hl
  have hK := C.2.2.2.2.2.2.2.1
  refine va_newa (atype := .int) (ty := .int) (a0 := (N', .inl (fun _ => 0))) C.1 C.2.1 (C.2.2.2.2.2.1 _ harr) rfl hK hP (zDA cA M I.2.2.2.1 I.2.2.1) hS C.2.2.2.2.2.2.2.2.2.2.2.1 (fun _ => rfl) hn hN hb hc hs dg ?_
  intro q cB H1 hK1 hP1 hD1 hS1
  have ec : cB = cA 0 := Option.some.inj (((hK1.2 5 (cB, .int) rfl).2 : s.vm.findClass _ = some cB).symm.trans ((hK.2 0 (cA 0, .int) rfl).2 : s.vm.findClass _ = some (cA 0)))
  subst ec
  obtain ⟨I2, hP2⟩ := zgrow C I (d := .inl (0, N')) rfl trivial hl1 hP1 hD1
  have h := kk p l e s m args below meth c dC dI cA A ad0 C _ H1 locs ls I2 hP2 hS1 (by rw [zadd_L hL]; exact hl)
  rw [List.map_cons, zadd_S hS0] at h
  have e1 : zT (zadd ad w.length q) (.ref w.length) = .ref q := congrArg Value.ref (if_pos rfl)
  rw [e1] at h
  exact h
theorem zg_newaC {n : Int32} {N' : Nat} (harr : Cond.arrayClass .char ∈ zTw) (dg : decode mi.2.1 pc = .ok (.newarray .char, 2)) (hn : ¬ n < 0) (hN : n.toNatClampNeg = N') (hb : N' * 2 ≤ 536870912) (hc : k + 1 ≤ R.cells) (hs : kS + N' ≤ R.slots) (hL : ∀ v ∈ L, zLow w.length v.2) (hS0 : ∀ v ∈ S, zLow w.length v) (hl1 : w.length + 1 ≤ 1000)
    (kk : zGn R mc ms mi n0 Q (k + 1) (kS + N') (pc + 2) L (.ref w.length :: S) (w ++ [.inl (2, N')]) M) : zGn R mc ms mi n0 Q k kS pc L (.int n :: S) w M := by
  intro p l e s m args below meth c dC dI cA A ad0 C ad H locs ls I hP hS hl
  have hK := C.2.2.2.2.2.2.2.1
  refine va_newa (atype := .char) (ty := .char) (a0 := (N', .inl (fun _ => 0))) C.1 C.2.1 (C.2.2.2.2.2.1 _ harr) rfl hK hP (zDA cA M I.2.2.2.1 I.2.2.1) hS C.2.2.2.2.2.2.2.2.2.2.2.1 (fun _ => rfl) hn hN hb hc hs dg ?_
  intro q cB H1 hK1 hP1 hD1 hS1
  have ec : cB = cA 2 := Option.some.inj (((hK1.2 5 (cB, .char) rfl).2 : s.vm.findClass _ = some cB).symm.trans ((hK.2 2 (cA 2, .char) rfl).2 : s.vm.findClass _ = some (cA 2)))
  subst ec
  obtain ⟨I2, hP2⟩ := zgrow C I (d := .inl (2, N')) rfl trivial hl1 hP1 hD1
  have h := kk p l e s m args below meth c dC dI cA A ad0 C _ H1 locs ls I2 hP2 hS1 (by rw [zadd_L hL]; exact hl)
  rw [List.map_cons, zadd_S hS0] at h
  have e1 : zT (zadd ad w.length q) (.ref w.length) = .ref q := congrArg Value.ref (if_pos rfl)
  rw [e1] at h
  exact h
/-- what a new object needs -/
def zNewOk (own : String) (index ci N : Nat) (C : String) (T : u_T) (ty : Nat → FieldType) (ks : List Nat) : Prop :=
  vwCl[ci]? = some (C, T, N) ∧ (∀ v ∈ u_ws C T N, v ∈ zTw) ∧ (∀ k, k < N → parseFieldDescriptor (T k).2.2.1 = some (ty k)) ∧ Cond.classLink own index C ∈ zTw ∧ Cond.instantiable C N ∈ zTw ∧ Cond.initialized C ∈ zTw ∧ (∀ j, j < N → defaultValue (ty j) = vp_V (ks.mapIdx (fun _ k => zF (fun _ => 0) k 0)) j) ∧ ∀ x ∈ ks, x ≤ 1
theorem zF_01 {ks : List Nat} (h : ∀ x ∈ ks, x ≤ 1) (ad ad' : Nat → Nat) : (ks.mapIdx fun _ k => zF ad k 0) = ks.mapIdx fun _ k => zF ad' k 0 := by
  apply List.ext_getElem?
  intro j
  rw [List.getElem?_mapIdx, List.getElem?_mapIdx]
  cases hx : ks[j]? with
  | none => rfl
  | some x =>
    have := h x (List.mem_of_getElem? hx)
    match x, this with
    | 0, _ => rfl
    | 1, _ => rfl
theorem zg_new {index ci N : Nat} {C' : String} {T : u_T} {ty : Nat → FieldType} {ks : List Nat} (ok : zNewOk mi.1.cls index ci N C' T ty ks) (dg : decode mi.2.1 pc = .ok (.new index, 3)) (hc : k + 1 ≤ R.cells) (hs : kS + N ≤ R.slots) (hL : ∀ v ∈ L, zLow w.length v.2) (hS0 : ∀ v ∈ S, zLow w.length v) (hl1 : w.length + 1 ≤ 1000)
    (kk : zGn R mc ms mi n0 Q (k + 1) (kS + N) (pc + 3) L (.ref w.length :: S) (w ++ [.inr (.inr (ci, ks))]) M) : zGn R mc ms mi n0 Q k kS pc L S w M := by
  intro p l e s m args below meth c dC dI cA A ad0 C ad H locs ls I hP hS hl
  have hK := C.2.2.2.2.2.2.2.1
  obtain ⟨o1, o2, o3, o4, o5, o6, o7, o8⟩ := ok
  have hw := C.2.2.2.2.2.1
  refine va_new (fs := ks.mapIdx fun _ k => zF (fun _ => 0) k 0) C.1 C.2.1 hw o2 ty o3 C.2.2.2.2.1 (hw _ o4) (hw _ o5) (hw _ o6) hK hP (zDA cA M I.2.2.2.1 I.2.2.1) hS C.2.2.2.2.2.2.2.2.2.2.2.1 o1 o7 hc hs dg ?_
  intro q H1 hP1 hD1 hS1
  obtain ⟨I2, hP2⟩ := zgrow C I (d := .inr (.inr (ci, ks))) (congrArg (fun z => @Sum.inr (ClassId × vp_A) (Nat × List Value) (ci, z)) (zF_01 o8 _ _)) (fun j x hx => ⟨by have := o8 x (List.mem_of_getElem? hx); omega, fun _ => rfl⟩) hl1 hP1 hD1
  have h := kk p l e s m args below meth c dC dI cA A ad0 C _ H1 locs ls I2 hP2 hS1 (by rw [zadd_L hL]; exact hl)
  rw [List.map_cons, zadd_S hS0] at h
  have e1 : zT (zadd ad w.length q) (.ref w.length) = .ref q := congrArg Value.ref (if_pos rfl)
  rw [e1] at h
  exact h
theorem zWs_setD {ad : Nat → Nat} {cA : Nat → ClassId} {i : Nat} {d d' : zDesc} (h : w[i]? = some d) : (zWs w ad cA M).set i (ad i, zE ad cA d' (M i)) = zWs (w.set i d') ad cA M := by
  have hl : i < w.length := (List.getElem?_eq_some_iff.mp h).1
  apply List.ext_getElem?
  intro j
  by_cases hj : j = i
  · subst hj
    rw [zWs_at (List.getElem?_set_self hl), List.getElem?_set_self (by rw [zWs_len]; exact hl)]
  · rw [List.getElem?_set_ne (fun q => hj q.symm)]
    cases hx : w[j]? with
    | none =>
      have h2 := List.getElem?_eq_none_iff.mp hx
      rw [List.getElem?_eq_none (by rw [zWs_len]; exact h2), List.getElem?_eq_none (by rw [zWs_len, List.length_set]; exact h2)]
    | some x => rw [zWs_at hx, zWs_at (by rw [List.getElem?_set_ne (fun q => hj q.symm)]; exact hx)]
/-- a final reference is put into its field -/
theorem zg_putF {own C' ref : String} {index ci kf N : Nat} {T : u_T} {ty0 : Nat → FieldType} (hf : zFd own index ci kf N C' ref T) (hp1 : ∀ k, k < N → parseFieldDescriptor (T k).2.2.1 = some (ty0 k)) (hp2 : ∀ a, a < N → ∀ b, b < N → a ≠ b → (T a).2.1 ≠ (T b).2.1) (hfin : (T kf).2.2.2 = true) (hdecl : (T kf).1 = own) (ho : mi.1.cls = own) (hin : mi.1.name = "<init>")
    {i t : Nat} {ks : List Nat} (hw : w[i]? = some (.inr (.inr (ci, ks)))) (hk : ks[kf]? = some 1) (ht : t < w.length) (hty : ∀ a : Nat, narrow (ty0 kf) (.ref a) = .ref a ∧ fits (ty0 kf) (.ref a) = true) (dg : decode mi.2.1 pc = .ok (.putfield index, 3))
    (kk : zGn R mc ms mi n0 Q k kS (pc + 3) L S (w.set i (.inr (.inr (ci, ks.set kf (t + 2))))) M) : zGn R mc ms mi n0 Q k kS pc L (.ref t :: .ref i :: S) w M := by
  intro p l e s m args below meth c dC dI cA A ad0 C ad H locs ls I hP hS hl
  obtain ⟨f1, f2, f3, f4, f5⟩ := hf
  have hW := C.2.2.2.2.2.1
  have hlk : kf < ks.length := (List.getElem?_eq_some_iff.mp hk).1
  have hlen : kf < (ks.mapIdx (fun j k => zF ad k (M i j))).length := by rw [List.length_mapIdx]; exact hlk
  refine va_putF (own := own) C.1 C.2.1 hW f3 ty0 hp1 hp2 (by rw [← ho]; exact C.2.2.2.2.1) C.2.2.2.2.2.2.2.1 hP (zDA cA M I.2.2.2.1 I.2.2.1) hS i (zWs_at hw) f1 kf f2 (hW _ f4) (f5 args s hW) hfin (C.2.2.2.2.2.2.2.2.2.2.2.2.1.trans hin) hdecl (v := .ref (ad t)) (hp1 kf f2) (hty _).1 (hty _).2 hlen dg ?_
  intro H1 locs1 hP1 _ hS1
  have e1 : ((ks.mapIdx (fun j k => zF ad k (M i j))).set kf (.ref (ad t))) = (ks.set kf (t + 2)).mapIdx (fun j k => zF ad k (M i j)) := by
    apply List.ext_getElem?
    intro j
    by_cases hj : j = kf
    · subst hj
      rw [List.getElem?_set_self hlen, List.getElem?_mapIdx, List.getElem?_set_self hlk]
      rfl
    · rw [List.getElem?_set_ne (fun q => hj q.symm), List.getElem?_mapIdx, List.getElem?_mapIdx, List.getElem?_set_ne (fun q => hj q.symm)]
  rw [e1] at hP1
  have e2 := zWs_setD (M := M) (ad := ad) (cA := cA) (d' := .inr (.inr (ci, ks.set kf (t + 2)))) hw
  have hP2 : va_P (dC, dI) vwCl (zWs (w.set i (.inr (.inr (ci, ks.set kf (t + 2))))) ad cA M) H1 := by rw [← e2]; exact hP1
  obtain ⟨i1, i2, i3, i4, i5, i6, i7, i8⟩ := I
  have len : (w.set i (.inr (.inr (ci, ks.set kf (t + 2))))).length = w.length := List.length_set
  have hI : zIn n0 ad0 A s.heap.size (w.set i (.inr (.inr (ci, ks.set kf (t + 2))))) M ad := ⟨i1, by rw [len]; exact i2, by rw [len]; exact i3, fun a b h1 h2 => i4 a b (by rw [← len]; exact h1) (by rw [← len]; exact h2), by rw [len]; exact i5, by rw [len]; exact i6, fun j d hj => by
    rw [len]
    by_cases h : j = i
    · subst h
      rw [List.getElem?_set_self (List.getElem?_eq_some_iff.mp hw).1] at hj
      cases hj
      intro a x hx
      by_cases ha : a = kf
      · subst ha
        rw [List.getElem?_set_self hlk] at hx
        cases hx
        exact ⟨by omega, fun q => by omega⟩
      · rw [List.getElem?_set_ne (fun q => ha q.symm)] at hx
        exact i7 j _ hw a x hx
    · rw [List.getElem?_set_ne (fun q => h q.symm)] at hj
      exact i7 j d hj, by rw [len]; exact i8⟩
  exact kk p l e s m args below meth c dC dI cA A ad0 C ad H1 locs1 ls hI hP2 hS1 hl
/-- a number that is written to a cell leaves all else standing -/
theorem zIn_up {ad0 ad : Nat → Nat} {A : Nat → Prop} {sz i : Nat} {d : zDesc} {f : Nat → Int32} (I : zIn n0 ad0 A sz w M ad) (hw : w[i]? = some d) (hd : zCk w.length d f) : zIn n0 ad0 A sz w (zsetF M i f) ad := by
  obtain ⟨i1, i2, i3, i4, i5, i6, i7, i8⟩ := I
  have hl : i < w.length := (List.getElem?_eq_some_iff.mp hw).1
  refine ⟨i1, i2, i3, i4, i5, fun j hj => (if_neg (by omega)).trans (i6 j hj), fun j d' hj => ?_, i8⟩
  by_cases h : j = i
  · subst h
    rw [hw] at hj
    cases hj
    have e : zsetF M j f j = f := if_pos rfl
    rw [e]; exact hd
  · have e : zsetF M i f j = M j := if_neg h
    rw [e]; exact i7 j d' hj
theorem zg_putI {own C' ref : String} {index ci kf N : Nat} {T : u_T} {ty0 : Nat → FieldType} (hf : zFd own index ci kf N C' ref T) (hp : zFp C' T kf N ty0) (ho : mi.1.cls = own) {i : Nat} {ks : List Nat} (hw : w[i]? = some (.inr (.inr (ci, ks)))) (hk : ks[kf]? = some 0) {x : Int32} (ht : ty0 kf = .int) (dg : decode mi.2.1 pc = .ok (.putfield index, 3))
    (kk : zGn R mc ms mi n0 Q k kS (pc + 3) L S w (zup M i kf x)) : zGn R mc ms mi n0 Q k kS pc L (.int x :: .ref i :: S) w M := by
  intro p l e s m args below meth c dC dI cA A ad0 C ad H locs ls I hP hS hl
  obtain ⟨f1, f2, f3, f4, f5⟩ := hf
  obtain ⟨p1, p2, p3⟩ := hp
  have hW := C.2.2.2.2.2.1
  have hlen : kf < (ks.mapIdx (fun j k => zF ad k (M i j))).length := by
    rw [List.length_mapIdx]
    exact (List.getElem?_eq_some_iff.mp hk).1
  refine va_put (own := own) C.1 C.2.1 hW f3 ty0 p1 p2 (by rw [← ho]; exact C.2.2.2.2.1) C.2.2.2.2.2.2.2.1 hP (zDA cA M I.2.2.2.1 I.2.2.1) hS i (zWs_at hw) f1 kf f2 (hW _ f4) (f5 args s hW) p3 (v := .int x) (p1 kf f2) (by rw [ht]; rfl) (by rw [ht]; rfl) hlen dg ?_
  intro H1 locs1 hP1 _ hS1
  rw [zFs_set hk (show zF ad 0 x = .int x from rfl)] at hP1
  have hP2 : va_P (dC, dI) vwCl (zWs w ad cA (zup M i kf x)) H1 := by
    rw [zup_eq, ← zWs_set hw]
    exact hP1
  have hI : zIn n0 ad0 A s.heap.size w (zup M i kf x) ad := by
    rw [zup_eq]
    refine zIn_up I hw fun j y hy => ⟨(I.2.2.2.2.2.2.1 i _ hw j y hy).1, fun h1 => ?_⟩
    by_cases h : j = kf
    · subst h
      rw [hk] at hy
      cases hy
      cases h1
    · exact (if_neg h).trans ((I.2.2.2.2.2.2.1 i _ hw j y hy).2 h1)
  exact kk p l e s m args below meth c dC dI cA A ad0 C ad H1 locs1 ls hI hP2 hS1 hl
theorem zg_getR {own C' ref : String} {index ci kf N : Nat} {T : u_T} (hf : zFd own index ci kf N C' ref T) (ho : mi.1.cls = own) {i t : Nat} {ks : List Nat} (hw : w[i]? = some (.inr (.inr (ci, ks)))) (hk : ks[kf]? = some (t + 2)) (dg : decode mi.2.1 pc = .ok (.getfield index, 3))
    (kk : zGn R mc ms mi n0 Q k kS (pc + 3) L (.ref t :: S) w M) : zGn R mc ms mi n0 Q k kS pc L (.ref i :: S) w M := by
  intro p l e s m args below meth c dC dI cA A ad0 C ad H locs ls I hP hS hl
  obtain ⟨f1, f2, f3, f4, f5⟩ := hf
  have hW := C.2.2.2.2.2.1
  refine va_get (own := own) C.1 C.2.1 hW f3 (by rw [← ho]; exact C.2.2.2.2.1) C.2.2.2.2.2.2.2.1 hP i (zWs_at hw) f1 kf f2 (hW _ f4) (f5 args s hW) (v := .ref (ad t)) ?_ dg (kk p l e s m args below meth c dC dI cA A ad0 C ad H locs ls I hP hS hl)
  rw [List.getElem?_mapIdx, hk]
  rfl
theorem zg_iast {i n j : Nat} {x y : Int32} (hw : w[i]? = some (.inl (0, n))) (hj : y.toNatClampNeg = j) (hin : vp_in y n) (dg : decode mi.2.1 pc = .ok (.iastore, 1))
    (kk : zGn R mc ms mi n0 Q k kS (pc + 1) L S w (zup M i j x)) : zGn R mc ms mi n0 Q k kS pc L (.int x :: .int y :: .ref i :: S) w M := by
  subst hj
  intro p l e s m args below meth c dC dI cA A ad0 C ad H locs ls I hP hS hl
  refine va_iast C.1 C.2.1 C.2.2.2.2.2.2.2.1 hP (zDA cA M I.2.2.2.1 I.2.2.1) hS i 0 (zWs_at hw) rfl hin dg ?_
  intro H1 locs1 hP1 _ hS1
  have hP2 : va_P (dC, dI) vwCl (zWs w ad cA (zup M i y.toNatClampNeg x)) H1 := by
    rw [zup_eq, ← zWs_set hw]
    exact hP1
  exact kk p l e s m args below meth c dC dI cA A ad0 C ad H1 locs1 ls (by rw [zup_eq]; exact zIn_up I hw trivial) hP2 hS1 hl
theorem zg_cast {i n j : Nat} {x y : Int32} (hw : w[i]? = some (.inl (2, n))) (hj : y.toNatClampNeg = j) (hin : vp_in y n) (hx : vp_nar .char x = x) (dg : decode mi.2.1 pc = .ok (.castore, 1))
    (kk : zGn R mc ms mi n0 Q k kS (pc + 1) L S w (zup M i j x)) : zGn R mc ms mi n0 Q k kS pc L (.int x :: .int y :: .ref i :: S) w M := by
  subst hj
  intro p l e s m args below meth c dC dI cA A ad0 C ad H locs ls I hP hS hl
  refine va_cast C.1 C.2.1 C.2.2.2.2.2.2.2.1 hP (zDA cA M I.2.2.2.1 I.2.2.1) hS i 2 (zWs_at hw) rfl hin dg ?_
  intro H1 locs1 hP1 _ hS1
  rw [hx] at hP1
  have hP2 : va_P (dC, dI) vwCl (zWs w ad cA (zup M i y.toNatClampNeg x)) H1 := by
    rw [zup_eq, ← zWs_set hw]
    exact hP1
  exact kk p l e s m args below meth c dC dI cA A ad0 C ad H1 locs1 ls (by rw [zup_eq]; exact zIn_up I hw trivial) hP2 hS1 hl
theorem zg_objInit {idx x : Nat} (h1 : Cond.methodLink mi.1.cls idx Lib.objectInit ∈ zTw) (h2 : Cond.instanceMethod Lib.objectInit ∈ zTw) (h3 : Cond.code Lib.objectInit ⟨#[0xb1]⟩ 1 none ∈ zTw) (dg : decode mi.2.1 pc = .ok (.invokespecial idx, 3)) (hf : 1 ≤ R.frames) (hr : (S.map fun v => v.category).sum + 20 ≤ R.locals)
    (kk : zGn R mc ms mi n0 Q k kS (pc + 3) L S w M) : zGn R mc ms mi n0 Q k kS pc L (.ref x :: S) w M := by
  intro p l e s m args below meth c dC dI cA A ad0 C ad H locs ls I hP hS hl
  have hW := C.2.2.2.2.2.1
  refine W.objInit C.1 C.2.1 C.2.2.2.2.1 (hW _ h1) (hW _ h2) (hW _ h3) rfl (by rw [C.2.2.2.1]; exact hl.1) rfl dg hf ?_ (kk p l e s m args below meth c dC dI cA A ad0 C ad H locs ls I hP hS hl)
  show 2 * 0 + ((S.map (zT ad)).map fun v => v.category).sum + 12 ≤ R.locals
  rw [zS_cat]
  omega
end ZG
