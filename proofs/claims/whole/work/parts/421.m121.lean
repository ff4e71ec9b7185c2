/-! a world that grows: constructors -/
theorem va_AOA.moved {t : FieldType} {u U : State} (hvm : u.vm.Alike U.vm) (h : va_AOA t u) : va_AOA t U := by
  unfold va_AOA Cond.before Cond.holds at h ⊢
  simp only [Cond.value] at h ⊢
  simp only [beq_iff_eq, Option.bind_eq_some_iff, Option.map_eq_some_iff] at h ⊢
  obtain ⟨comp, h1, c, h2, k, h3, h4⟩ := h
  obtain ⟨k', hk', he⟩ := hvm.2.2 _ _ h3
  refine ⟨comp, by rw [hvm.findClass]; exact h1, c, ?_, k', hk', ?_⟩
  · have hb : U.vm.bare = u.vm.bare := by first | exact hvm.bare_eq | exact hvm.bare_eq.symm
    have a := va_idx_bare U.vm comp
    rw [hb] at a
    exact a.symm.trans ((va_idx_bare u.vm comp).trans h2)
  · rw [show k'.kind = k.kind by rw [he], hvm.findClass]
    exact h4
def zNestI : List (String × Nat × MethodName × String) := [("ThirteenthBun", 9, ⟨"ThirteenthBun$House", "<init>", "()V"⟩, "ThirteenthBun"), ("ThirteenthBun", 12, ⟨"ThirteenthBun$Bride", "<init>", "()V"⟩, "ThirteenthBun"), ("ThirteenthBun$Bride", 1, ⟨"ThirteenthBun$House", "<init>", "()V"⟩, "ThirteenthBun"), ("ThirteenthBun", 15, ⟨"ThirteenthBun$Sad", "<init>", "()V"⟩, "ThirteenthBun"), ("ThirteenthBun$Sad", 1, ⟨"ThirteenthBun$House", "<init>", "()V"⟩, "ThirteenthBun"), ("ThirteenthBun", 18, ⟨"ThirteenthBun$Trouble", "<init>", "()V"⟩, "ThirteenthBun"), ("ThirteenthBun$Trouble", 1, ⟨"ThirteenthBun$Sad", "<init>", "()V"⟩, "ThirteenthBun"), ("ThirteenthBun", 21, ⟨"ThirteenthBun$Farm", "<init>", "()V"⟩, "ThirteenthBun"), ("ThirteenthBun$Farm", 1, ⟨"ThirteenthBun$House", "<init>", "()V"⟩, "ThirteenthBun"), ("ThirteenthBun", 24, ⟨"ThirteenthBun$Lovell", "<init>", "()V"⟩, "ThirteenthBun"), ("ThirteenthBun$Lovell", 1, ⟨"ThirteenthBun$Farm", "<init>", "()V"⟩, "ThirteenthBun"), ("ThirteenthBun$Village", 38, ⟨"ThirteenthBun$Rules", "<init>", "()V"⟩, "ThirteenthBun"), ("ThirteenthBun$Village", 45, ⟨"ThirteenthBun$Reports", "<init>", "()V"⟩, "ThirteenthBun"), ("ThirteenthBun", 46, ⟨"ThirteenthBun$RuleText", "<init>", "()V"⟩, "ThirteenthBun"), ("ThirteenthBun$RuleText", 23, ⟨"ThirteenthBun$Rules", "<init>", "()V"⟩, "ThirteenthBun"), ("ThirteenthBun", 53, ⟨"ThirteenthBun$Plans", "<init>", "()V"⟩, "ThirteenthBun")]
def zAq (s : State) : Prop := va_AO "ThirteenthBun$House" s ∧ va_AOA .long s ∧ ∀ q ∈ zNestI, va_Nw (.methodLinkNest q.1 q.2.1 q.2.2.1 q.2.2.2) s
theorem zAq.warm {s U : State} (hW : s.WarmedH U.vm) (h : zAq s) : zAq U := ⟨va_AO.moved hW.alike h.1, va_AOA.moved hW.alike h.2.1, fun q hq => va_Nw.warmM hW (h.2.2 q hq)⟩
theorem zAq.same {u U : State} (hv : u.vm = U.vm) (h : zAq u) : zAq U := ⟨va_AO.moved (by rw [hv]; exact Vm.Alike.refl _) h.1, va_AOA.moved (by rw [hv]; exact Vm.Alike.refl _) h.2.1, fun q hq => va_Nw.same rfl hv (h.2.2 q hq)⟩
def zAz (w : List zDesc) (ad : Nat → Nat) (sz : Nat) : Nat → Prop := fun q => zA w ad q ∨ sz ≤ q
def zRk (d mc ms : Nat) : Room := { frames := d + 3, cells := mc, slots := ms, locals := 40 * d + 120 }
def zZr (M : zMem) (n : Nat) : Prop := ∀ i, n ≤ i → M i = fun _ => 0
theorem zRid.ext {ad ad' : Nat → Nat} {A : Nat → Prop} {s : State} (h : zRid ad A s) (e : ∀ i, 1000 ≤ i → ad' i = ad i) : zRid ad' A s := by
  unfold zRid
  rw [e 1000 (by decide), e 1001 (by decide), e 1002 (by decide)]
  exact h
theorem zRid.narrow {ad : Nat → Nat} {A B : Nat → Prop} {s : State} (h : zRid ad A s) (hAB : ∀ q, B q → A q) : zRid ad B s := by
  obtain ⟨h1, h2, h3, h4⟩ := h
  refine ⟨h1.narrow hAB, ?_, h3.narrow hAB, h4⟩
  rcases h2 with h2 | h2
  · exact .inl (h2.narrow hAB)
  · exact .inr (h2.narrow hAB)
/-- a cell's references point into the world of n cells; a field that may change holds none yet -/
def zCk (n : Nat) (d : zDesc) (f : Nat → Int32) : Prop := match d with
  | .inl _ => True
  | .inr (.inl (_, ts)) => ∀ t ∈ ts, t < n ∨ 2000 ≤ t
  | .inr (.inr (_, ks)) => ∀ (j x : Nat), ks[j]? = some x → x < n + 2 ∧ (x = 1 → f j = 0)
def zCls (w : List zDesc) (M : zMem) : Prop := ∀ (i : Nat) (d : zDesc), w[i]? = some d → zCk w.length d (M i)
def zKP (w : List zDesc) (dC : Nat → ClassId) (dI : Nat → Nat → Nat) (ad : Nat → Nat) (cA : Nat → ClassId) (sz : Nat) (as : List Value) (M : zMem) : Array Value → State → Prop := fun v U =>
  v = (as.map (zT ad)).toArray ∧ U.heap.size = sz ∧ va_P (dC, dI) vwCl (zWs w ad cA M) U.heap ∧ va_K (dC, dI) vwCl (zTy cA) U ∧ zNw U ∧ zRid ad (zAz w ad sz) U ∧ zAq U
/-- what holds all the way: n0 cells there at the start, at ad0; A: what may be written -/
def zIn (n0 : Nat) (ad0 : Nat → Nat) (A : Nat → Prop) (sz : Nat) (w : List zDesc) (M : zMem) (ad : Nat → Nat) : Prop :=
  (∀ i, i < n0 ∨ 1000 ≤ i → ad i = ad0 i) ∧ (∀ i, n0 ≤ i → i < w.length → sz ≤ ad i) ∧ (∀ i, i < w.length → A (ad i)) ∧ zInj w ad ∧ w.length ≤ 1000 ∧ zZr M w.length ∧ zCls w M ∧ n0 ≤ w.length
def zKQ (n0 : Nat) (dC : Nat → ClassId) (dI : Nat → Nat → Nat) (ad0 : Nat → Nat) (cA : Nat → ClassId) (sz : Nat) (A : Nat → Prop) (Q : List zDesc → zMem → Prop) : Array Value → State → Outcome → State → Prop := fun _ st o t =>
  (∃ (w' : List zDesc) (M' : zMem) (ad' : Nat → Nat), o = .returned none ∧ Q w' M' ∧ zIn n0 ad0 A sz w' M' ad' ∧ va_P (dC, dI) vwCl (zWs w' ad' cA M') t.heap) ∧ va_F A st t
/-- the constructor mi over world w: it ends, and then Q of the world and its cells; mc new cells, of ms slots -/
def zKo (R : Room) (mc ms : Nat) (mi : zMI) (as : List Value) (w : List zDesc) (M : zMem) (Q : List zDesc → zMem → Prop) : Prop :=
  ∀ (l : Launch) (dC : Nat → ClassId) (dI : Nat → Nat → Nat) (ad : Nat → Nat) (cA : Nat → ClassId) (sz : Nat), zInj w ad → w.length ≤ 1000 → zZr M w.length → zCls w M → Met l mi.1 (zWd mi) R (zKP w dC dI ad cA sz as M) (zKQ w.length dC dI ad cA sz (zAz w ad sz) Q) mc ms (zAz w ad sz)
def zGx (mi : zMI) (p : Program) (s : State) (m : MethodId) (args : Array Value) (meth : Method) (c : Code) (dC : Nat → ClassId) (dI : Nat → Nat → Nat) (n0 : Nat) (ad0 : Nat → Nat) (cA : Nat → ClassId) (A : Nat → Prop) : Prop :=
  p.tables.exec = Jvm.exec ∧ c.code = mi.2.1 ∧ meth.sig.returnType = mi.2.2.2 ∧ c.maxLocals = mi.2.2.1 ∧ s.vm.findClass mi.1.cls = some m.cls ∧ (∀ v ∈ zTw, v.before args s = true) ∧ meth.locks = false ∧ va_K (dC, dI) vwCl (zTy cA) s ∧ zNw s ∧ zRid ad0 A s ∧ zAq s ∧ (∀ q, s.heap.size ≤ q → A q) ∧ meth.name = mi.1.name ∧ ∀ q, A q → (∃ i, i < n0 ∧ q = ad0 i) ∨ s.heap.size ≤ q
/-- from place pc of the constructor, the world being w, k cells of kS slots made so far, it comes to its end with Q -/
def zGn (R : Room) (mc ms : Nat) (mi : zMI) (n0 : Nat) (Q : List zDesc → zMem → Prop) (k kS pc : Nat) (L : zLv) (S : List Value) (w : List zDesc) (M : zMem) : Prop :=
  ∀ (p : Program) (l : Launch) (e : Env) (s : State) (m : MethodId) (args : Array Value) (below : List Frame) (meth : Method) (c : Code) (dC : Nat → ClassId) (dI : Nat → Nat → Nat) (cA : Nat → ClassId) (A : Nat → Prop) (ad0 : Nat → Nat),
    zGx mi p s m args meth c dC dI n0 ad0 cA A → ∀ (ad : Nat → Nat) (H : Heap) (locs : List Loc) (ls : Array Slot), zIn n0 ad0 A s.heap.size w M ad → va_P (dC, dI) vwCl (zWs w ad cA M) H → va_S A s.heap H locs → lv_has ls mi.2.2.1 (zL ad L) →
      W p l e R s m args below meth c H locs k kS (MQ below (zKQ n0 dC dI ad0 cA s.heap.size A Q) args s mc ms A) (F0 m pc ls (S.map (zT ad)))
section ZG
variable {R : Room} {mc ms : Nat} {mi : zMI} {n0 : Nat} {Q : List zDesc → zMem → Prop} {k kS pc : Nat} {L : zLv} {S : List Value} {w : List zDesc} {M : zMem}
theorem zg_iconst {n : Int} {v : Int32} (dg : decode mi.2.1 pc = .ok (.iconst n, 1)) (hv : Int32.ofInt n = v) (kk : zGn R mc ms mi n0 Q k kS (pc + 1) L (.int v :: S) w M) : zGn R mc ms mi n0 Q k kS pc L S w M := by
  intro p l e s m args below meth c dC dI cA A ad0 C ad H locs ls I hP hS hl
  exact lv_iconst C.1 C.2.1 dg hv (kk p l e s m args below meth c dC dI cA A ad0 C ad H locs ls I hP hS hl)
theorem zg_bipush {n : Int} {v : Int32} (dg : decode mi.2.1 pc = .ok (.bipush n, 2)) (hv : (Int8.ofInt n).toInt32 = v) (kk : zGn R mc ms mi n0 Q k kS (pc + 2) L (.int v :: S) w M) : zGn R mc ms mi n0 Q k kS pc L S w M := by
  intro p l e s m args below meth c dC dI cA A ad0 C ad H locs ls I hP hS hl
  exact lv_bipush C.1 C.2.1 dg hv (kk p l e s m args below meth c dC dI cA A ad0 C ad H locs ls I hP hS hl)
theorem zg_sipush {n : Int} {v : Int32} (dg : decode mi.2.1 pc = .ok (.sipush n, 3)) (hv : (Int16.ofInt n).toInt32 = v) (kk : zGn R mc ms mi n0 Q k kS (pc + 3) L (.int v :: S) w M) : zGn R mc ms mi n0 Q k kS pc L S w M := by
  intro p l e s m args below meth c dC dI cA A ad0 C ad H locs ls I hP hS hl
  exact lv_sipush C.1 C.2.1 dg hv (kk p l e s m args below meth c dC dI cA A ad0 C ad H locs ls I hP hS hl)
theorem zg_aload_n {kf : Fin 4} {i x : Nat} (dg : decode mi.2.1 pc = .ok (.aload_n kf, 1)) (hi : (kf : Nat) = i) (q : Nat) (hq : L[q]? = some (i, .ref x)) (kk : zGn R mc ms mi n0 Q k kS (pc + 1) L (.ref x :: S) w M) : zGn R mc ms mi n0 Q k kS pc L S w M := by
  intro p l e s m args below meth c dC dI cA A ad0 C ad H locs ls I hP hS hl
  exact lv_aload_n C.1 C.2.1 dg hi (lv_at hl q (zL_at hq)) (kk p l e s m args below meth c dC dI cA A ad0 C ad H locs ls I hP hS hl)
theorem zg_dup {x : Nat} (dg : decode mi.2.1 pc = .ok (.dup, 1)) (kk : zGn R mc ms mi n0 Q k kS (pc + 1) L (.ref x :: .ref x :: S) w M) : zGn R mc ms mi n0 Q k kS pc L (.ref x :: S) w M := by
  intro p l e s m args below meth c dC dI cA A ad0 C ad H locs ls I hP hS hl
  exact lv_dup C.1 C.2.1 dg rfl (kk p l e s m args below meth c dC dI cA A ad0 C ad H locs ls I hP hS hl)
theorem zDA {ad : Nat → Nat} (cA : Nat → ClassId) (M : zMem) {A : Nat → Prop} (hi : zInj w ad) (ha : ∀ i, i < w.length → A (ad i)) : va_D A (zWs w ad cA M) := by
  obtain ⟨h1, h2⟩ := zD cA M hi
  refine ⟨h1, fun kq q hk => ?_⟩
  obtain ⟨i, hi, e⟩ := h2 kq q hk
  rw [e]
  exact ha i hi
theorem zg_ret (hr : mi.2.2.2 = none) (dg : decode mi.2.1 pc = .ok (.return_, 1)) (h1 : k ≤ mc) (h2 : kS ≤ ms) (hq : Q w M) : zGn R mc ms mi n0 Q k kS pc L [] w M := by
  intro p l e s m args below meth c dC dI cA A ad0 C ad H locs ls I hP hS hl
  refine W.widen h1 h2 ?_
  exact W.vret C.1 C.2.1 (C.2.2.1.trans hr) (fun t ht _ => ⟨⟨w, M, ad, rfl, hq, I, by rw [ht]; exact hP⟩, hS.F ht⟩) hS.2.2 dg C.2.2.2.2.2.2.1
/-- a reference that is there already -/
def zLow (n : Nat) (v : Value) : Prop := ∀ i, v = .ref i → i < n
theorem zLow_i {n : Nat} (x : Int32) : zLow n (.int x) := fun i h => by cases h
theorem zLow_r {n i : Nat} (h : i < n) : zLow n (.ref i) := fun j e => by cases e; exact h
def zadd (ad : Nat → Nat) (n q : Nat) : Nat → Nat := fun i => if i = n then q else ad i
theorem zadd_T {ad : Nat → Nat} {n q : Nat} {v : Value} (h : zLow n v) : zT (zadd ad n q) v = zT ad v := by
  cases v with
  | ref i =>
    have := h i rfl
    show Value.ref (zadd ad n q i) = .ref (ad i)
    exact congrArg Value.ref (if_neg (Nat.ne_of_lt this))
  | _ => rfl
theorem zadd_S {ad : Nat → Nat} {n q : Nat} {S : List Value} (h : ∀ v ∈ S, zLow n v) : S.map (zT (zadd ad n q)) = S.map (zT ad) := List.map_congr_left fun v hv => zadd_T (h v hv)
theorem zadd_L {ad : Nat → Nat} {n q : Nat} {L : zLv} (h : ∀ v ∈ L, zLow n v.2) : zL (zadd ad n q) L = zL ad L := List.map_congr_left fun v hv => by rw [zadd_T (h v hv)]
theorem zE_ext {n : Nat} {d : zDesc} {f : Nat → Int32} {ad ad' : Nat → Nat} {cA : Nat → ClassId} (h : zCk n d f) (e : ∀ i, i < n → ad' i = ad i) : zE ad' cA d f = zE ad cA d f := by
  match d, h with
  | .inl (0, _), _ => rfl
  | .inl (1, _), _ => rfl
  | .inl (k + 2, _), _ => rfl
  | .inr (.inl (k, ts)), h =>
    have e2 : (fun j => (ts[j]?).bind (zrf ad')) = fun j => (ts[j]?).bind (zrf ad) := funext fun (j : Nat) => by
      cases ht : ts[j]? with
      | none => rfl
      | some t =>
        show zrf ad' t = zrf ad t
        unfold zrf
        by_cases h2 : t < 2000
        · rw [if_pos h2, if_pos h2]
          rcases h t (List.mem_of_getElem? ht) with q | q
          · rw [e t q]
          · omega
        · rw [if_neg h2, if_neg h2]
    show @Sum.inl (ClassId × vp_A) (Nat × List Value) (cA k, ts.length, .inr (.inr (.inr (.inr (fun j => (ts[j]?).bind (zrf ad')))))) = .inl (cA k, ts.length, .inr (.inr (.inr (.inr (fun j => (ts[j]?).bind (zrf ad))))))
    rw [e2]
  | .inr (.inr (ci, ks)), h =>
    have e2 : (ks.mapIdx fun j k => zF ad' k (f j)) = ks.mapIdx fun j k => zF ad k (f j) := by
      apply List.ext_getElem?
      intro j
      rw [List.getElem?_mapIdx, List.getElem?_mapIdx]
      cases hx : ks[j]? with
      | none => rfl
      | some x =>
        obtain ⟨h1, h2⟩ := h j x hx
        match x, h1, h2 with
        | 0, _, _ => rfl
        | 1, _, h2 => show some (zF ad' 1 (f j)) = some (zF ad 1 (f j)); rw [h2 rfl]; rfl
        | x + 2, h1, _ => show some (Value.ref (ad' x)) = some (Value.ref (ad x)); rw [e x (by omega)]
    show @Sum.inr (ClassId × vp_A) (Nat × List Value) (ci, ks.mapIdx fun j k => zF ad' k (f j)) = .inr (ci, ks.mapIdx fun j k => zF ad k (f j))
    rw [e2]
theorem zCk_up {n n' : Nat} {d : zDesc} {f : Nat → Int32} (h : zCk n d f) (hn : n ≤ n') : zCk n' d f := by
  match d, h with
  | .inl _, _ => trivial
  | .inr (.inl (k, ts)), h => exact fun t ht => (h t ht).imp (fun q => Nat.lt_of_lt_of_le q hn) id
  | .inr (.inr (ci, ks)), h => exact fun j x hx => ⟨Nat.lt_of_lt_of_le (h j x hx).1 (by omega), (h j x hx).2⟩
theorem zWs_len (w : List zDesc) (ad : Nat → Nat) (cA : Nat → ClassId) (M : zMem) : (zWs w ad cA M).length = w.length := by simp [zWs]
theorem zWs_push {w : List zDesc} {ad : Nat → Nat} {cA : Nat → ClassId} {M : zMem} {d : zDesc} {q : Nat} (hc : zCls w M) : zWs (w ++ [d]) (zadd ad w.length q) cA M = zWs w ad cA M ++ [(q, zE (zadd ad w.length q) cA d (M w.length))] := by
  apply List.ext_getElem?
  intro j
  rcases Nat.lt_trichotomy j w.length with h | h | h
  · have hj : w[j]? = some w[j] := List.getElem?_eq_getElem h
    have hj2 : (w ++ [d])[j]? = some w[j] := by rw [List.getElem?_append_left h]; exact hj
    rw [zWs_at hj2, List.getElem?_append_left (by rw [zWs_len]; exact h), zWs_at hj]
    have e1 : zadd ad w.length q j = ad j := if_neg (Nat.ne_of_lt h)
    rw [e1, zE_ext (ad := ad) (ad' := zadd ad w.length q) (hc j _ hj) (fun i hi => if_neg (Nat.ne_of_lt hi))]
  · subst h
    have hj2 : (w ++ [d])[w.length]? = some d := by rw [List.getElem?_append_right (Nat.le_refl _), Nat.sub_self]; rfl
    rw [zWs_at hj2, List.getElem?_append_right (by rw [zWs_len]; exact Nat.le_refl _), zWs_len, Nat.sub_self]
    have e1 : zadd ad w.length q w.length = q := if_pos rfl
    rw [e1]
    rfl
  · rw [List.getElem?_eq_none (by rw [zWs_len, List.length_append]; exact h), List.getElem?_eq_none (by rw [List.length_append, zWs_len]; exact h)]
/-- one more cell -/
theorem zgrow {p : Program} {s : State} {m : MethodId} {args : Array Value} {meth : Method} {c : Code} {dC : Nat → ClassId} {dI : Nat → Nat → Nat} {ad0 : Nat → Nat} {cA : Nat → ClassId} {A : Nat → Prop} (C : zGx mi p s m args meth c dC dI n0 ad0 cA A) {ad : Nat → Nat} (I : zIn n0 ad0 A s.heap.size w M ad) {d : zDesc} {q : Nat} {e : va_E} {H1 : Heap} (he : e = zE (zadd ad w.length q) cA d (fun _ => 0)) (hd : zCk (w.length + 1) d (fun _ => 0)) (hl : w.length + 1 ≤ 1000)
    (hP : va_P (dC, dI) vwCl (zWs w ad cA M ++ [(q, e)]) H1) (hD : va_D A (zWs w ad cA M ++ [(q, e)])) : zIn n0 ad0 A s.heap.size (w ++ [d]) M (zadd ad w.length q) ∧ va_P (dC, dI) vwCl (zWs (w ++ [d]) (zadd ad w.length q) cA M) H1 := by
  obtain ⟨i1, i2, i3, i4, i5, i6, i7, i8⟩ := I
  have len : (w ++ [d]).length = w.length + 1 := by rw [List.length_append]; rfl
  have at_ : ∀ j, j < w.length → zadd ad w.length q j = ad j := fun j h => if_neg (Nat.ne_of_lt h)
  have at1 : zadd ad w.length q w.length = q := if_pos rfl
  have hn : (zWs w ad cA M ++ [(q, e)])[w.length]? = some (q, e) := by
    rw [List.getElem?_append_right (by rw [zWs_len]; exact Nat.le_refl _), zWs_len, Nat.sub_self]; rfl
  have hlo : ∀ j (h : j < w.length), (zWs w ad cA M ++ [(q, e)])[j]? = some (ad j, zE ad cA w[j] (M j)) := fun j h => by
    rw [List.getElem?_append_left (by rw [zWs_len]; exact h), zWs_at (List.getElem?_eq_getElem h)]
  have hne : ∀ j, j < w.length → ad j ≠ q := fun j h g => Nat.ne_of_lt h (hD.1 j w.length _ _ (hlo j h) hn g)
  have hA : A q := hD.2 w.length _ hn
  have hm : M w.length = fun _ => 0 := i6 w.length (Nat.le_refl _)
  refine ⟨⟨fun i hi => ?_, fun i h1 h2 => ?_, fun i hi => ?_, fun i j hi hj g => ?_, by rw [len]; exact hl, fun i hi => i6 i (by rw [len] at hi; omega), fun i d' hi => ?_, by rw [len]; omega⟩, ?_⟩
  · rw [← i1 i hi]; exact if_neg (by omega)
  · rw [len] at h2
    by_cases h : i = w.length
    · rw [h, at1]
      rcases C.2.2.2.2.2.2.2.2.2.2.2.2.2 q hA with ⟨j, hj, e⟩ | g
      · exact absurd (i1 j (.inl hj)) (fun e2 => hne j (Nat.lt_of_lt_of_le hj i8) (e2.trans e.symm))
      · exact g
    · rw [at_ i (by omega)]; exact i2 i h1 (by omega)
  · rw [len] at hi
    by_cases h : i = w.length
    · rw [h, at1]; exact hA
    · rw [at_ i (by omega)]; exact i3 i (by omega)
  · rw [len] at hi hj
    by_cases h : i = w.length
    · by_cases h' : j = w.length
      · rw [h, h']
      · rw [h, at1, at_ j (by omega)] at g; exact absurd g.symm (hne j (by omega))
    · by_cases h' : j = w.length
      · rw [h', at1, at_ i (by omega)] at g; exact absurd g (hne i (by omega))
      · rw [at_ i (by omega), at_ j (by omega)] at g; exact i4 i j (by omega) (by omega) g
  · rw [len]
    by_cases h : i < w.length
    · rw [List.getElem?_append_left h] at hi
      exact zCk_up (i7 i d' hi) (Nat.le_succ _)
    · have hi2 : i < (w ++ [d]).length := (List.getElem?_eq_some_iff.mp hi).1
      rw [len] at hi2
      have h3 : i = w.length := by omega
      subst h3
      rw [List.getElem?_append_right (Nat.le_refl _), Nat.sub_self] at hi
      cases hi
      rw [hm]; exact hd
  · rw [zWs_push i7, hm, ← he]; exact hP
end ZG
