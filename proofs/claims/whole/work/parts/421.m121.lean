/-! a world that grows: constructors -/
theorem va_AOA.moved {t : FieldType} {u U : State} (hvm : u.vm.Alike U.vm) (h : va_AOA t u) : va_AOA t U := by
  unfold va_AOA Cond.before Cond.holds at h ⊢
  simp only [Cond.value] at h ⊢
  simp only [beq_iff_eq, Option.bind_eq_some_iff, Option.map_eq_some_iff] at h ⊢
  obtain ⟨comp, h1, c, h2, k, h3, h4⟩ := h
  obtain ⟨k', hk', he⟩ := hvm.2.2 _ _ h3
  refine ⟨comp, by rw [hvm.findClass]; exact h1, c, ?_, k', hk', ?_⟩
  · have hb : U.vm.bare = u.vm.bare := by first | exact hvm.bare_eq | exact hvm.bare_eq.symm
    have a := va_idx_bare U.vm comp
    rw [hb] at a
    exact a.symm.trans ((va_idx_bare u.vm comp).trans h2)
  · rw [show k'.kind = k.kind by rw [he], hvm.findClass]
    exact h4
def zAq (s : State) : Prop := va_AO "ThirteenthBun$House" s ∧ va_AOA .long s
theorem zAq.moved {u U : State} (hvm : u.vm.Alike U.vm) (h : zAq u) : zAq U := ⟨va_AO.moved hvm h.1, va_AOA.moved hvm h.2⟩
def zAz (w : List zDesc) (ad : Nat → Nat) (sz : Nat) : Nat → Prop := fun q => zA w ad q ∨ sz ≤ q
def zRk (d mc ms : Nat) : Room := { frames := d + 3, cells := mc, slots := ms, locals := 40 * d + 120 }
def zZr (M : zMem) (n : Nat) : Prop := ∀ i, n ≤ i → M i = fun _ => 0
theorem zRid.ext {ad ad' : Nat → Nat} {A : Nat → Prop} {s : State} (h : zRid ad A s) (e : ∀ i, 1000 ≤ i → ad' i = ad i) : zRid ad' A s := by
  unfold zRid
  rw [e 1000 (by decide), e 1001 (by decide), e 1002 (by decide)]
  exact h
theorem zRid.narrow {ad : Nat → Nat} {A B : Nat → Prop} {s : State} (h : zRid ad A s) (hAB : ∀ q, B q → A q) : zRid ad B s := by
  obtain ⟨h1, h2, h3, h4⟩ := h
  refine ⟨h1.narrow hAB, ?_, h3.narrow hAB, h4⟩
  rcases h2 with h2 | h2
  · exact .inl (h2.narrow hAB)
  · exact .inr (h2.narrow hAB)
def zKP (w : List zDesc) (dC : Nat → ClassId) (dI : Nat → Nat → Nat) (ad : Nat → Nat) (cA : Nat → ClassId) (sz : Nat) (as : List Value) (M : zMem) : Array Value → State → Prop := fun v U =>
  v = (as.map (zT ad)).toArray ∧ U.heap.size = sz ∧ va_P (dC, dI) vwCl (zWs w ad cA M) U.heap ∧ va_K (dC, dI) vwCl (zTy cA) U ∧ zNw U ∧ zRid ad (zAz w ad sz) U ∧ zAq U
def zKQ (n0 : Nat) (dC : Nat → ClassId) (dI : Nat → Nat → Nat) (ad0 : Nat → Nat) (cA : Nat → ClassId) (sz : Nat) (A : Nat → Prop) (Q : List zDesc → zMem → Prop) : Array Value → State → Outcome → State → Prop := fun _ st o t =>
  (∃ (w' : List zDesc) (M' : zMem) (ad' : Nat → Nat), o = .returned none ∧ Q w' M' ∧ (∀ i, i < n0 ∨ 1000 ≤ i → ad' i = ad0 i) ∧ (∀ i, n0 ≤ i → i < w'.length → sz ≤ ad' i) ∧ zInj w' ad' ∧ w'.length ≤ 1000 ∧ zZr M' w'.length ∧ va_P (dC, dI) vwCl (zWs w' ad' cA M') t.heap) ∧ va_F A st t
/-- the constructor mi over world w: it ends, and then Q of the world and its cells; mc new cells, of ms slots -/
def zKo (R : Room) (mc ms : Nat) (mi : zMI) (as : List Value) (w : List zDesc) (M : zMem) (Q : List zDesc → zMem → Prop) : Prop :=
  ∀ (l : Launch) (dC : Nat → ClassId) (dI : Nat → Nat → Nat) (ad : Nat → Nat) (cA : Nat → ClassId) (sz : Nat), zInj w ad → w.length ≤ 1000 → zZr M w.length → Met l mi.1 (zWd mi) R (zKP w dC dI ad cA sz as M) (zKQ w.length dC dI ad cA sz (zAz w ad sz) Q) mc ms (zAz w ad sz)
def zGx (mi : zMI) (p : Program) (s : State) (m : MethodId) (args : Array Value) (meth : Method) (c : Code) (dC : Nat → ClassId) (dI : Nat → Nat → Nat) (ad0 : Nat → Nat) (cA : Nat → ClassId) (A : Nat → Prop) : Prop :=
  p.tables.exec = Jvm.exec ∧ c.code = mi.2.1 ∧ meth.sig.returnType = mi.2.2.2 ∧ c.maxLocals = mi.2.2.1 ∧ s.vm.findClass mi.1.cls = some m.cls ∧ (∀ v ∈ zTw, v.before args s = true) ∧ meth.locks = false ∧ va_K (dC, dI) vwCl (zTy cA) s ∧ zNw s ∧ zRid ad0 A s ∧ zAq s ∧ (∀ q, s.heap.size ≤ q → A q) ∧ meth.name = mi.1.name
/-- from place pc of the constructor, the world being w, k cells of kS slots made so far, it comes to its end with Q -/
def zGn (R : Room) (mc ms : Nat) (mi : zMI) (n0 : Nat) (Q : List zDesc → zMem → Prop) (k kS pc : Nat) (L : zLv) (S : List Value) (w : List zDesc) (M : zMem) : Prop :=
  ∀ (p : Program) (l : Launch) (e : Env) (s : State) (m : MethodId) (args : Array Value) (below : List Frame) (meth : Method) (c : Code) (dC : Nat → ClassId) (dI : Nat → Nat → Nat) (cA : Nat → ClassId) (A : Nat → Prop) (ad0 : Nat → Nat),
    zGx mi p s m args meth c dC dI ad0 cA A → ∀ (ad : Nat → Nat) (H : Heap) (locs : List Loc) (ls : Array Slot), (∀ i, i < n0 ∨ 1000 ≤ i → ad i = ad0 i) → (∀ i, n0 ≤ i → i < w.length → s.heap.size ≤ ad i) → (∀ i, i < w.length → A (ad i)) → zInj w ad → w.length ≤ 1000 → zZr M w.length → va_P (dC, dI) vwCl (zWs w ad cA M) H → va_S A s.heap H locs → lv_has ls mi.2.2.1 (zL ad L) →
      W p l e R s m args below meth c H locs k kS (MQ below (zKQ n0 dC dI ad0 cA s.heap.size A Q) args s mc ms A) (F0 m pc ls (S.map (zT ad)))
section ZG
variable {R : Room} {mc ms : Nat} {mi : zMI} {n0 : Nat} {Q : List zDesc → zMem → Prop} {k kS pc : Nat} {L : zLv} {S : List Value} {w : List zDesc} {M : zMem}
theorem zg_iconst {n : Int} {v : Int32} (dg : decode mi.2.1 pc = .ok (.iconst n, 1)) (hv : Int32.ofInt n = v) (kk : zGn R mc ms mi n0 Q k kS (pc + 1) L (.int v :: S) w M) : zGn R mc ms mi n0 Q k kS pc L S w M := by
  intro p l e s m args below meth c dC dI cA A ad0 C ad H locs ls a1 a2 a3 a4 a5 a6 hP hS hl
  exact lv_iconst C.1 C.2.1 dg hv (kk p l e s m args below meth c dC dI cA A ad0 C ad H locs ls a1 a2 a3 a4 a5 a6 hP hS hl)
theorem zg_bipush {n : Int} {v : Int32} (dg : decode mi.2.1 pc = .ok (.bipush n, 2)) (hv : (Int8.ofInt n).toInt32 = v) (kk : zGn R mc ms mi n0 Q k kS (pc + 2) L (.int v :: S) w M) : zGn R mc ms mi n0 Q k kS pc L S w M := by
  intro p l e s m args below meth c dC dI cA A ad0 C ad H locs ls a1 a2 a3 a4 a5 a6 hP hS hl
  exact lv_bipush C.1 C.2.1 dg hv (kk p l e s m args below meth c dC dI cA A ad0 C ad H locs ls a1 a2 a3 a4 a5 a6 hP hS hl)
theorem zg_sipush {n : Int} {v : Int32} (dg : decode mi.2.1 pc = .ok (.sipush n, 3)) (hv : (Int16.ofInt n).toInt32 = v) (kk : zGn R mc ms mi n0 Q k kS (pc + 3) L (.int v :: S) w M) : zGn R mc ms mi n0 Q k kS pc L S w M := by
  intro p l e s m args below meth c dC dI cA A ad0 C ad H locs ls a1 a2 a3 a4 a5 a6 hP hS hl
  exact lv_sipush C.1 C.2.1 dg hv (kk p l e s m args below meth c dC dI cA A ad0 C ad H locs ls a1 a2 a3 a4 a5 a6 hP hS hl)
theorem zg_aload_n {kf : Fin 4} {i x : Nat} (dg : decode mi.2.1 pc = .ok (.aload_n kf, 1)) (hi : (kf : Nat) = i) (q : Nat) (hq : L[q]? = some (i, .ref x)) (kk : zGn R mc ms mi n0 Q k kS (pc + 1) L (.ref x :: S) w M) : zGn R mc ms mi n0 Q k kS pc L S w M := by
  intro p l e s m args below meth c dC dI cA A ad0 C ad H locs ls a1 a2 a3 a4 a5 a6 hP hS hl
  exact lv_aload_n C.1 C.2.1 dg hi (lv_at hl q (zL_at hq)) (kk p l e s m args below meth c dC dI cA A ad0 C ad H locs ls a1 a2 a3 a4 a5 a6 hP hS hl)
theorem zg_dup {x : Nat} (dg : decode mi.2.1 pc = .ok (.dup, 1)) (kk : zGn R mc ms mi n0 Q k kS (pc + 1) L (.ref x :: .ref x :: S) w M) : zGn R mc ms mi n0 Q k kS pc L (.ref x :: S) w M := by
  intro p l e s m args below meth c dC dI cA A ad0 C ad H locs ls a1 a2 a3 a4 a5 a6 hP hS hl
  exact lv_dup C.1 C.2.1 dg rfl (kk p l e s m args below meth c dC dI cA A ad0 C ad H locs ls a1 a2 a3 a4 a5 a6 hP hS hl)
theorem zDA {ad : Nat → Nat} (cA : Nat → ClassId) (M : zMem) {A : Nat → Prop} (hi : zInj w ad) (ha : ∀ i, i < w.length → A (ad i)) : va_D A (zWs w ad cA M) := by
  obtain ⟨h1, h2⟩ := zD cA M hi
  refine ⟨h1, fun kq q hk => ?_⟩
  obtain ⟨i, hi, e⟩ := h2 kq q hk
  rw [e]
  exact ha i hi
theorem zg_ret (hr : mi.2.2.2 = none) (dg : decode mi.2.1 pc = .ok (.return_, 1)) (h1 : k ≤ mc) (h2 : kS ≤ ms) (hq : Q w M) : zGn R mc ms mi n0 Q k kS pc L [] w M := by
  intro p l e s m args below meth c dC dI cA A ad0 C ad H locs ls a1 a2 a3 a4 a5 a6 hP hS hl
  refine W.widen h1 h2 ?_
  exact W.vret C.1 C.2.1 (C.2.2.1.trans hr) (fun t ht _ => ⟨⟨w, M, ad, rfl, hq, a1, a2, a4, a5, a6, by rw [ht]; exact hP⟩, hS.F ht⟩) hS.2.2 dg C.2.2.2.2.2.2.1
/-- a reference that is there already -/
def zLow (n : Nat) (v : Value) : Prop := ∀ i, v = .ref i → i < n
theorem zLow_i {n : Nat} (x : Int32) : zLow n (.int x) := fun i h => by cases h
theorem zLow_r {n i : Nat} (h : i < n) : zLow n (.ref i) := fun j e => by cases e; exact h
def zadd (ad : Nat → Nat) (n q : Nat) : Nat → Nat := fun i => if i = n then q else ad i
theorem zadd_T {ad : Nat → Nat} {n q : Nat} {v : Value} (h : zLow n v) : zT (zadd ad n q) v = zT ad v := by
  cases v with
  | ref i =>
    have := h i rfl
    show Value.ref (zadd ad n q i) = .ref (ad i)
    exact congrArg Value.ref (if_neg (Nat.ne_of_lt this))
  | _ => rfl
theorem zadd_S {ad : Nat → Nat} {n q : Nat} {S : List Value} (h : ∀ v ∈ S, zLow n v) : S.map (zT (zadd ad n q)) = S.map (zT ad) := List.map_congr_left fun v hv => zadd_T (h v hv)
theorem zadd_L {ad : Nat → Nat} {n q : Nat} {L : zLv} (h : ∀ v ∈ L, zLow n v.2) : zL (zadd ad n q) L = zL ad L := List.map_congr_left fun v hv => by rw [zadd_T (h v hv)]
end ZG
