/-! A small machine over the kit: a world is a row of cells, each of a known sort; what they hold is a number by cell and place. -/
abbrev zMem : Type := Nat → Nat → Int32
/-- a cell: an array of numbers (sort 0 int, 1 long, 2 char; length), an array of references (its array sort, its targets), or an object (its number in vwCl, its fields' sorts: 0 a number, 1 a reference that may change, k + 2 always cell k) -/
abbrev zDesc : Type := (Nat × Nat) ⊕ ((Nat × List Nat) ⊕ (Nat × List Nat))
abbrev zMI : Type := MethodName × ByteArray × Nat × Option FieldType
abbrev zLv : Type := List (Nat × Value)
def zF (ad : Nat → Nat) (k : Nat) (x : Int32) : Value := match k with
  | 0 => .int x
  | 1 => if x = 0 then .null else .ref (ad x.toNatClampNeg)
  | k + 2 => .ref (ad k)
/-- an array's reference: 2000 is none -/
def zrf (ad : Nat → Nat) (t : Nat) : Option Nat := if t < 2000 then some (ad t) else none
def zE (ad : Nat → Nat) (cA : Nat → ClassId) (d : zDesc) (f : Nat → Int32) : va_E := match d with
  | .inl (0, n) => .inl (cA 0, n, .inl f)
  | .inl (1, n) => .inl (cA 1, n, .inr (.inl (fun j => (f j).toInt64)))
  | .inl (k + 2, n) => .inl (cA (k + 2), n, .inl f)
  | .inr (.inl (k, ts)) => .inl (cA k, ts.length, .inr (.inr (.inr (.inr (fun j => (ts[j]?).bind (zrf ad))))))
  | .inr (.inr (ci, ks)) => .inr (ci, ks.mapIdx (fun j k => zF ad k (f j)))
def zWs (w : List zDesc) (ad : Nat → Nat) (cA : Nat → ClassId) (M : zMem) : va_W := w.mapIdx (fun i d => (ad i, zE ad cA d (M i)))
def zA (w : List zDesc) (ad : Nat → Nat) : Nat → Prop := fun q => ∃ i, i < w.length ∧ q = ad i
def zInj (w : List zDesc) (ad : Nat → Nat) : Prop := ∀ i j, i < w.length → j < w.length → ad i = ad j → i = j
def zup (M : zMem) (i j : Nat) (x : Int32) : zMem := fun a => if a = i then upd (M a) j x else M a
def zsetF (M : zMem) (i : Nat) (f : Nat → Int32) : zMem := fun a => if a = i then f else M a
def zT (ad : Nat → Nat) : Value → Value
  | .ref k => .ref (ad k)
  | v => v
def zL (ad : Nat → Nat) (L : zLv) : zLv := L.map (fun q => (q.1, zT ad q.2))
def zTy (cA : Nat → ClassId) : List (ClassId × FieldType) := [(cA 0, .int), (cA 1, .long), (cA 2, .char), (cA 3, .object "ThirteenthBun$House"), (cA 4, .array .long)]
def zR (d : Nat) : Room := { frames := d + 3, cells := 0, slots := 0, locals := 40 * d + 120 }
def zNest : List (String × Nat × MethodName × String) := [("ThirteenthBun$Village", 102, ⟨"ThirteenthBun", "draws", "(IIII)I"⟩, "ThirteenthBun"), ("ThirteenthBun$Village", 98, ⟨"ThirteenthBun", "asks", "(III)I"⟩, "ThirteenthBun"), ("ThirteenthBun$Rules", 46, ⟨"ThirteenthBun", "isUnder", "(II)Z"⟩, "ThirteenthBun"), ("ThirteenthBun$Village", 127, ⟨"ThirteenthBun", "rainBehind", "(II)I"⟩, "ThirteenthBun"), ("ThirteenthBun$Village", 142, ⟨"ThirteenthBun", "trayBehind", "(II)I"⟩, "ThirteenthBun"), ("ThirteenthBun$Reports", 61, ⟨"ThirteenthBun", "rainBehind", "(II)I"⟩, "ThirteenthBun"), ("ThirteenthBun$Reports", 65, ⟨"ThirteenthBun", "asks", "(III)I"⟩, "ThirteenthBun"), ("ThirteenthBun$Reports", 68, ⟨"ThirteenthBun", "draws", "(IIII)I"⟩, "ThirteenthBun"), ("ThirteenthBun$Reports", 72, ⟨"ThirteenthBun", "trayBehind", "(II)I"⟩, "ThirteenthBun")]
/-- the words on calls between nest mates: they aren't among those that every callee is given -/
def zNw (U : State) : Prop := ∀ q ∈ zNest, va_Nw (.methodLinkNest q.1 q.2.1 q.2.2.1 q.2.2.2) U
theorem zNw.warm {s U : State} (hW : s.WarmedH U.vm) (h : zNw s) : zNw U := fun q hq => va_Nw.warmM hW (h q hq)
theorem zNw.same {u U : State} (hv : u.vm = U.vm) (h : zNw u) : zNw U := fun q hq => va_Nw.same rfl hv (h q hq)
/-- what stands outside the world and is never written: two statics of the JDK's, the String constant of the names -/
def zRidT : String := "house bride sad trouble farm lovell give hold send if or and not night grief draws rain number "
def zRidB : List Int32 := [104, 111, 117, 115, 101, 32, 98, 114, 105, 100, 101, 32, 115, 97, 100, 32, 116, 114, 111, 117, 98, 108, 101, 32, 102, 97, 114, 109, 32, 108, 111, 118, 101, 108, 108, 32, 103, 105, 118, 101, 32, 104, 111, 108, 100, 32, 115, 101, 110, 100, 32, 105, 102, 32, 111, 114, 32, 97, 110, 100, 32, 110, 111, 116, 32, 110, 105, 103, 104, 116, 32, 103, 114, 105, 101, 102, 32, 100, 114, 97, 119, 115, 32, 114, 97, 105, 110, 32, 110, 117, 109, 98, 101, 114, 32]
/-- its places beyond the world: 1000 the String, 1001 its bytes, 1002 what the second static holds -/
def zRid (ad : Nat → Nat) (A : Nat → Prop) (U : State) : Prop := va_Z "java/lang/String" "COMPACT_STRINGS" "Z" (.int 1) A U U.heap ∧ (va_Z "jdk/internal/util/Preconditions" "SIOOBE_FORMATTER" "Ljava/util/function/BiFunction;" .null A U U.heap ∨ va_Z "jdk/internal/util/Preconditions" "SIOOBE_FORMATTER" "Ljava/util/function/BiFunction;" (.ref (ad 1002)) A U U.heap) ∧ vk_S 1 [95] [zRidB] (fun _ => ad 1000) (fun _ => ad 1001) A U U.heap ∧ vk_R "ThirteenthBun$RuleText" 68 zRidT (ad 1000) U
theorem zRid.go {ad : Nat → Nat} {A : Nat → Prop} {s U : State} {H : Heap} {locs : List Loc} (hS : va_S A s.heap H locs) (hU : U.heap = H) (hW : s.WarmedH U.vm) (h : zRid ad A s) : zRid ad A U := by
  subst hU
  obtain ⟨h1, h2, h3, h4⟩ := h
  refine ⟨va_Z.moved hW.alike (h1.kept hS.2.1), ?_, vk_S.moved hW.alike (h3.kept hS.2.1), h4.warm hW⟩
  rcases h2 with h2 | h2
  · exact Or.inl (va_Z.moved hW.alike (h2.kept hS.2.1))
  · exact Or.inr (va_Z.moved hW.alike (h2.kept hS.2.1))
theorem zRid.calling {ad : Nat → Nat} {A : Nat → Prop} {U : State} {g : JFrame} {mk : MethodId} {a : Array Value} (h : zRid ad A U) : zRid ad A (U.calling g mk a) := by
  obtain ⟨h1, h2, h3, h4⟩ := h
  refine ⟨va_Z.moved (u := U) (U := U.calling g mk a) (Vm.Alike.refl U.vm) h1, ?_, vk_S.moved (u := U) (U := U.calling g mk a) (Vm.Alike.refl U.vm) h3, vk_R.same (u := U) (U := U.calling g mk a) rfl h4⟩
  rcases h2 with h2 | h2
  · exact Or.inl (va_Z.moved (u := U) (U := U.calling g mk a) (Vm.Alike.refl U.vm) h2)
  · exact Or.inr (va_Z.moved (u := U) (U := U.calling g mk a) (Vm.Alike.refl U.vm) h2)
def zPc (w : List zDesc) (dC : Nat → ClassId) (dI : Nat → Nat → Nat) (ad : Nat → Nat) (cA : Nat → ClassId) (as : List Value) (M : zMem) : Array Value → State → Prop := fun v U =>
  v = (as.map (zT ad)).toArray ∧ va_P (dC, dI) vwCl (zWs w ad cA M) U.heap ∧ va_K (dC, dI) vwCl (zTy cA) U ∧ zNw U ∧ zRid ad (zA w ad) U
def zQc (w : List zDesc) (dC : Nat → ClassId) (dI : Nat → Nat → Nat) (ad : Nat → Nat) (cA : Nat → ClassId) (Q : Option Value → zMem → Prop) : Array Value → State → Outcome → State → Prop := fun _ st o t =>
  (∃ (r : Option Value) (M' : zMem), o = .returned (r.map (zT ad)) ∧ Q r M' ∧ va_P (dC, dI) vwCl (zWs w ad cA M') t.heap) ∧ va_F (zA w ad) st t
def zWd (mi : zMI) : List Cond := .code mi.1 mi.2.1 mi.2.2.1 mi.2.2.2 :: zTw
/-- method mi over world w, of depth d, called with as while the cells hold M: it ends, and then Q of its answer and of what the cells hold -/
def zOk (w : List zDesc) (d : Nat) (mi : zMI) (as : List Value) (M : zMem) (Q : Option Value → zMem → Prop) : Prop :=
  ∀ (l : Launch) (dC : Nat → ClassId) (dI : Nat → Nat → Nat) (ad : Nat → Nat) (cA : Nat → ClassId), zInj w ad → Met l mi.1 (zWd mi) (zR d) (zPc w dC dI ad cA as M) (zQc w dC dI ad cA Q) 0 0 (zA w ad)
def zCx (w : List zDesc) (mi : zMI) (p : Program) (s : State) (m : MethodId) (args : Array Value) (meth : Method) (c : Code) (dC : Nat → ClassId) (dI : Nat → Nat → Nat) (ad : Nat → Nat) (cA : Nat → ClassId) : Prop :=
  p.tables.exec = Jvm.exec ∧ c.code = mi.2.1 ∧ meth.sig.returnType = mi.2.2.2 ∧ c.maxLocals = mi.2.2.1 ∧ s.vm.findClass mi.1.cls = some m.cls ∧ (∀ v ∈ zTw, v.before args s = true) ∧ meth.locks = false ∧ va_K (dC, dI) vwCl (zTy cA) s ∧ zInj w ad ∧ zNw s ∧ zRid ad (zA w ad) s
/-- from place pc of method mi, with locals L, stack S, cells M, the machine comes to mi's end with Q -/
def zRn (w : List zDesc) (d : Nat) (mi : zMI) (Q : Option Value → zMem → Prop) (pc : Nat) (L : zLv) (S : List Value) (M : zMem) : Prop :=
  ∀ (p : Program) (l : Launch) (e : Env) (s : State) (m : MethodId) (args : Array Value) (below : List Frame) (meth : Method) (c : Code) (dC : Nat → ClassId) (dI : Nat → Nat → Nat) (ad : Nat → Nat) (cA : Nat → ClassId),
    zCx w mi p s m args meth c dC dI ad cA → ∀ (H : Heap) (locs : List Loc) (ls : Array Slot), va_P (dC, dI) vwCl (zWs w ad cA M) H → va_S (zA w ad) s.heap H locs → lv_has ls mi.2.2.1 (zL ad L) →
      W p l e (zR d) s m args below meth c H locs 0 0 (MQ below (zQc w dC dI ad cA Q) args s 0 0 (zA w ad)) (F0 m pc ls (S.map (zT ad)))
theorem zT_cat (ad : Nat → Nat) (v : Value) : (zT ad v).category = v.category := by cases v <;> rfl
theorem zL_at {ad : Nat → Nat} {L : zLv} {k i : Nat} {v : Value} (h : L[k]? = some (i, v)) : (zL ad L)[k]? = some (i, zT ad v) := by
  simp [zL, h]
theorem zL_args (ad : Nat → Nat) (as : List Value) : ∀ i, lv_args i (as.map (zT ad)) = zL ad (lv_args i as) := by
  induction as with
  | nil => intro i; rfl
  | cons v vs ih =>
    intro i
    show (i, zT ad v) :: lv_args (if (zT ad v).category = 2 then i + 2 else i + 1) (vs.map (zT ad)) = (i, zT ad v) :: zL ad (lv_args (if v.category = 2 then i + 2 else i + 1) vs)
    rw [zT_cat, ih]
theorem zL_st1 (ad : Nat → Nat) (i : Nat) (v : Value) (L : zLv) :
    (i, zT ad v) :: (zL ad L).filter (fun q => !(q.1 == i) && !(q.1 + 1 == i && q.2.category == 2)) = zL ad ((i, v) :: L.filter (fun q => !(q.1 == i) && !(q.1 + 1 == i && q.2.category == 2))) := by
  simp only [zL, List.map_cons, List.filter_map]
  congr 3
  funext q
  simp [Function.comp, zT_cat]
theorem zL_st2 (ad : Nat → Nat) (i : Nat) (v : Value) (L : zLv) :
    (i, zT ad v) :: (zL ad L).filter (fun q => !(q.1 == i) && (!(q.1 == i + 1) && !(q.1 + 1 == i && q.2.category == 2))) = zL ad ((i, v) :: L.filter (fun q => !(q.1 == i) && (!(q.1 == i + 1) && !(q.1 + 1 == i && q.2.category == 2)))) := by
  simp only [zL, List.map_cons, List.filter_map]
  congr 3
  funext q
  simp [Function.comp, zT_cat]
theorem zS_cat (ad : Nat → Nat) (S : List Value) : ((S.map (zT ad)).map fun v => v.category).sum = (S.map fun v => v.category).sum := by
  rw [List.map_map]
  congr 1
  apply List.map_congr_left
  intro v _
  exact zT_cat ad v
theorem zWs_at {w : List zDesc} {ad : Nat → Nat} {cA : Nat → ClassId} {M : zMem} {i : Nat} {d : zDesc} (h : w[i]? = some d) : (zWs w ad cA M)[i]? = some (ad i, zE ad cA d (M i)) := by
  simp [zWs, h]
theorem zWs_set {w : List zDesc} {ad : Nat → Nat} {cA : Nat → ClassId} {M : zMem} {i : Nat} {d : zDesc} (h : w[i]? = some d) (f : Nat → Int32) : (zWs w ad cA M).set i (ad i, zE ad cA d f) = zWs w ad cA (zsetF M i f) := by
  apply List.ext_getElem?
  intro j
  by_cases hj : j = i
  · subst hj
    have hl : j < w.length := (List.getElem?_eq_some_iff.mp h).1
    rw [zWs_at h, List.getElem?_set_self (by simpa [zWs] using hl)]
    simp [zsetF]
  · rw [List.getElem?_set_ne (fun q => hj q.symm)]
    simp [zWs, zsetF, hj]
theorem zD {w : List zDesc} {ad : Nat → Nat} (cA : Nat → ClassId) (M : zMem) (hi : zInj w ad) : va_D (zA w ad) (zWs w ad cA M) := by
  have len : ∀ (i : Nat) (q : Nat × va_E), (zWs w ad cA M)[i]? = some q → i < w.length ∧ q.1 = ad i := by
    intro i q hq
    have hl : i < w.length := by
      have := (List.getElem?_eq_some_iff.mp hq).1
      simpa [zWs] using this
    have h2 : w[i]? = some w[i] := List.getElem?_eq_getElem hl
    rw [zWs_at h2] at hq
    cases hq
    exact ⟨hl, rfl⟩
  refine ⟨fun i j p q hp hq e => ?_, fun k q hk => ⟨k, len k q hk⟩⟩
  obtain ⟨h1, h2⟩ := len i p hp
  obtain ⟨h3, h4⟩ := len j q hq
  exact hi i j h1 h3 (by rw [← h2, ← h4]; exact e)
theorem zup_eq (M : zMem) (i j : Nat) (x : Int32) : zup M i j x = zsetF M i (upd (M i) j x) := by
  funext a
  by_cases h : a = i
  · subst h; simp [zup, zsetF]
  · simp [zup, zsetF, h]
theorem zFs_set {ad : Nat → Nat} {ks : List Nat} {f : Nat → Int32} {j k : Nat} {x : Int32} {v : Value} (h : ks[j]? = some k) (hv : zF ad k x = v) : (ks.mapIdx (fun j k => zF ad k (f j))).set j v = ks.mapIdx (fun i k => zF ad k (upd f j x i)) := by
  apply List.ext_getElem?
  intro i
  by_cases hj : i = j
  · subst hj
    have hl : i < ks.length := (List.getElem?_eq_some_iff.mp h).1
    rw [List.getElem?_set_self (by simpa using hl)]
    simp [h, upd, hv]
  · rw [List.getElem?_set_ne (fun q => hj q.symm)]
    simp [upd, hj]
theorem zi_iconst {w : List zDesc} {d : Nat} {mi : zMI} {Q : Option Value → zMem → Prop} {pc : Nat} {L : zLv} {S : List Value} {M : zMem} {n : Int} {v : Int32} (dg : decode mi.2.1 pc = .ok (.iconst n, 1)) (hv : Int32.ofInt n = v) (kk : zRn w d mi Q (pc + 1) L (.int v :: S) M) : zRn w d mi Q pc L (S) M := by
  intro p l e s m args below meth c dC dI ad cA C H locs ls hP hS hl
  exact lv_iconst C.1 C.2.1 dg hv (kk p l e s m args below meth c dC dI ad cA C H locs ls hP hS hl)
theorem zi_bipush {w : List zDesc} {d : Nat} {mi : zMI} {Q : Option Value → zMem → Prop} {pc : Nat} {L : zLv} {S : List Value} {M : zMem} {n : Int} {v : Int32} (dg : decode mi.2.1 pc = .ok (.bipush n, 2)) (hv : (Int8.ofInt n).toInt32 = v) (kk : zRn w d mi Q (pc + 2) L (.int v :: S) M) : zRn w d mi Q pc L (S) M := by
  intro p l e s m args below meth c dC dI ad cA C H locs ls hP hS hl
  exact lv_bipush C.1 C.2.1 dg hv (kk p l e s m args below meth c dC dI ad cA C H locs ls hP hS hl)
theorem zi_sipush {w : List zDesc} {d : Nat} {mi : zMI} {Q : Option Value → zMem → Prop} {pc : Nat} {L : zLv} {S : List Value} {M : zMem} {n : Int} {v : Int32} (dg : decode mi.2.1 pc = .ok (.sipush n, 3)) (hv : (Int16.ofInt n).toInt32 = v) (kk : zRn w d mi Q (pc + 3) L (.int v :: S) M) : zRn w d mi Q pc L (S) M := by
  intro p l e s m args below meth c dC dI ad cA C H locs ls hP hS hl
  exact lv_sipush C.1 C.2.1 dg hv (kk p l e s m args below meth c dC dI ad cA C H locs ls hP hS hl)
theorem zi_lconst {w : List zDesc} {d : Nat} {mi : zMI} {Q : Option Value → zMem → Prop} {pc : Nat} {L : zLv} {S : List Value} {M : zMem} {n : Fin 2} {v : Int64} (dg : decode mi.2.1 pc = .ok (.lconst n, 1)) (hv : Int64.ofNat n.val = v) (kk : zRn w d mi Q (pc + 1) L (.long v :: S) M) : zRn w d mi Q pc L (S) M := by
  intro p l e s m args below meth c dC dI ad cA C H locs ls hP hS hl
  exact lv_lconst C.1 C.2.1 dg hv (kk p l e s m args below meth c dC dI ad cA C H locs ls hP hS hl)
theorem zi_iload_n {w : List zDesc} {d : Nat} {mi : zMI} {Q : Option Value → zMem → Prop} {pc : Nat} {L : zLv} {S : List Value} {M : zMem} {k : Fin 4} {i : Nat} {x : Int32} (dg : decode mi.2.1 pc = .ok (.iload_n k, 1)) (hi : (k : Nat) = i) (q : Nat) (hq : L[q]? = some (i, .int x)) (kk : zRn w d mi Q (pc + 1) L (.int x :: S) M) : zRn w d mi Q pc L (S) M := by
  intro p l e s m args below meth c dC dI ad cA C H locs ls hP hS hl
  exact lv_iload_n C.1 C.2.1 dg hi (lv_at hl q (zL_at hq)) (kk p l e s m args below meth c dC dI ad cA C H locs ls hP hS hl)
theorem zi_iload {w : List zDesc} {d : Nat} {mi : zMI} {Q : Option Value → zMem → Prop} {pc : Nat} {L : zLv} {S : List Value} {M : zMem} {i : Nat} {x : Int32} (dg : decode mi.2.1 pc = .ok (.iload i, 2)) (q : Nat) (hq : L[q]? = some (i, .int x)) (kk : zRn w d mi Q (pc + 2) L (.int x :: S) M) : zRn w d mi Q pc L (S) M := by
  intro p l e s m args below meth c dC dI ad cA C H locs ls hP hS hl
  exact lv_iload C.1 C.2.1 dg (lv_at hl q (zL_at hq)) (kk p l e s m args below meth c dC dI ad cA C H locs ls hP hS hl)
theorem zi_lload_n {w : List zDesc} {d : Nat} {mi : zMI} {Q : Option Value → zMem → Prop} {pc : Nat} {L : zLv} {S : List Value} {M : zMem} {k : Fin 4} {i : Nat} {x : Int64} (dg : decode mi.2.1 pc = .ok (.lload_n k, 1)) (hi : (k : Nat) = i) (q : Nat) (hq : L[q]? = some (i, .long x)) (kk : zRn w d mi Q (pc + 1) L (.long x :: S) M) : zRn w d mi Q pc L (S) M := by
  intro p l e s m args below meth c dC dI ad cA C H locs ls hP hS hl
  exact lv_lload_n C.1 C.2.1 dg hi (lv_at hl q (zL_at hq)) (kk p l e s m args below meth c dC dI ad cA C H locs ls hP hS hl)
theorem zi_lload {w : List zDesc} {d : Nat} {mi : zMI} {Q : Option Value → zMem → Prop} {pc : Nat} {L : zLv} {S : List Value} {M : zMem} {i : Nat} {x : Int64} (dg : decode mi.2.1 pc = .ok (.lload i, 2)) (q : Nat) (hq : L[q]? = some (i, .long x)) (kk : zRn w d mi Q (pc + 2) L (.long x :: S) M) : zRn w d mi Q pc L (S) M := by
  intro p l e s m args below meth c dC dI ad cA C H locs ls hP hS hl
  exact lv_lload C.1 C.2.1 dg (lv_at hl q (zL_at hq)) (kk p l e s m args below meth c dC dI ad cA C H locs ls hP hS hl)
theorem zi_aload_n {w : List zDesc} {d : Nat} {mi : zMI} {Q : Option Value → zMem → Prop} {pc : Nat} {L : zLv} {S : List Value} {M : zMem} {k : Fin 4} {i : Nat} {x : Nat} (dg : decode mi.2.1 pc = .ok (.aload_n k, 1)) (hi : (k : Nat) = i) (q : Nat) (hq : L[q]? = some (i, .ref x)) (kk : zRn w d mi Q (pc + 1) L (.ref x :: S) M) : zRn w d mi Q pc L (S) M := by
  intro p l e s m args below meth c dC dI ad cA C H locs ls hP hS hl
  exact lv_aload_n C.1 C.2.1 dg hi (lv_at hl q (zL_at hq)) (kk p l e s m args below meth c dC dI ad cA C H locs ls hP hS hl)
theorem zi_aload {w : List zDesc} {d : Nat} {mi : zMI} {Q : Option Value → zMem → Prop} {pc : Nat} {L : zLv} {S : List Value} {M : zMem} {i : Nat} {x : Nat} (dg : decode mi.2.1 pc = .ok (.aload i, 2)) (q : Nat) (hq : L[q]? = some (i, .ref x)) (kk : zRn w d mi Q (pc + 2) L (.ref x :: S) M) : zRn w d mi Q pc L (S) M := by
  intro p l e s m args below meth c dC dI ad cA C H locs ls hP hS hl
  exact lv_aload C.1 C.2.1 dg (lv_at hl q (zL_at hq)) (kk p l e s m args below meth c dC dI ad cA C H locs ls hP hS hl)
theorem zi_istore_n {w : List zDesc} {d : Nat} {mi : zMI} {Q : Option Value → zMem → Prop} {pc : Nat} {L : zLv} {S : List Value} {M : zMem} {k : Fin 4} {i : Nat} {x : Int32} {L' : zLv} (dg : decode mi.2.1 pc = .ok (.istore_n k, 1)) (hi : (k : Nat) = i) (hn : i < mi.2.2.1) (hL : (i, .int x) :: L.filter (fun q => !(q.1 == i) && !(q.1 + 1 == i && q.2.category == 2)) = L') (kk : zRn w d mi Q (pc + 1) L' S M) : zRn w d mi Q pc L (.int x :: S) M := by
  subst hL
  intro p l e s m args below meth c dC dI ad cA C H locs ls hP hS hl
  exact lv_istore_n C.1 C.2.1 dg hi hl hn (zL_st1 ad i (.int x) L) (fun ls' hl' => kk p l e s m args below meth c dC dI ad cA C H locs ls' hP hS hl')
theorem zi_istore {w : List zDesc} {d : Nat} {mi : zMI} {Q : Option Value → zMem → Prop} {pc : Nat} {L : zLv} {S : List Value} {M : zMem} {i : Nat} {x : Int32} {L' : zLv} (dg : decode mi.2.1 pc = .ok (.istore i, 2)) (hn : i < mi.2.2.1) (hL : (i, .int x) :: L.filter (fun q => !(q.1 == i) && !(q.1 + 1 == i && q.2.category == 2)) = L') (kk : zRn w d mi Q (pc + 2) L' S M) : zRn w d mi Q pc L (.int x :: S) M := by
  subst hL
  intro p l e s m args below meth c dC dI ad cA C H locs ls hP hS hl
  exact lv_istore C.1 C.2.1 dg hl hn (zL_st1 ad i (.int x) L) (fun ls' hl' => kk p l e s m args below meth c dC dI ad cA C H locs ls' hP hS hl')
theorem zi_astore_n {w : List zDesc} {d : Nat} {mi : zMI} {Q : Option Value → zMem → Prop} {pc : Nat} {L : zLv} {S : List Value} {M : zMem} {k : Fin 4} {i : Nat} {x : Nat} {L' : zLv} (dg : decode mi.2.1 pc = .ok (.astore_n k, 1)) (hi : (k : Nat) = i) (hn : i < mi.2.2.1) (hL : (i, .ref x) :: L.filter (fun q => !(q.1 == i) && !(q.1 + 1 == i && q.2.category == 2)) = L') (kk : zRn w d mi Q (pc + 1) L' S M) : zRn w d mi Q pc L (.ref x :: S) M := by
  subst hL
  intro p l e s m args below meth c dC dI ad cA C H locs ls hP hS hl
  exact lv_astore_n C.1 C.2.1 dg hi hl hn (zL_st1 ad i (.ref x) L) (fun ls' hl' => kk p l e s m args below meth c dC dI ad cA C H locs ls' hP hS hl')
theorem zi_astore {w : List zDesc} {d : Nat} {mi : zMI} {Q : Option Value → zMem → Prop} {pc : Nat} {L : zLv} {S : List Value} {M : zMem} {i : Nat} {x : Nat} {L' : zLv} (dg : decode mi.2.1 pc = .ok (.astore i, 2)) (hn : i < mi.2.2.1) (hL : (i, .ref x) :: L.filter (fun q => !(q.1 == i) && !(q.1 + 1 == i && q.2.category == 2)) = L') (kk : zRn w d mi Q (pc + 2) L' S M) : zRn w d mi Q pc L (.ref x :: S) M := by
  subst hL
  intro p l e s m args below meth c dC dI ad cA C H locs ls hP hS hl
  exact lv_astore C.1 C.2.1 dg hl hn (zL_st1 ad i (.ref x) L) (fun ls' hl' => kk p l e s m args below meth c dC dI ad cA C H locs ls' hP hS hl')
theorem zi_iinc {w : List zDesc} {d : Nat} {mi : zMI} {Q : Option Value → zMem → Prop} {pc : Nat} {L : zLv} {S : List Value} {M : zMem} {i : Nat} {n : Int} {x v : Int32} {L' : zLv} (dg : decode mi.2.1 pc = .ok (.iinc i n, 3)) (q : Nat) (hq : L[q]? = some (i, .int x)) (hv : x + Int32.ofInt n = v) (hn : i < mi.2.2.1) (hL : (i, .int v) :: L.filter (fun q => !(q.1 == i) && !(q.1 + 1 == i && q.2.category == 2)) = L') (kk : zRn w d mi Q (pc + 3) L' S M) : zRn w d mi Q pc L S M := by
  subst hL
  intro p l e s m args below meth c dC dI ad cA C H locs ls hP hS hl
  exact lv_iinc C.1 C.2.1 dg hl (zL_at hq) hv hn (zL_st1 ad i (.int v) L) (fun ls' hl' => kk p l e s m args below meth c dC dI ad cA C H locs ls' hP hS hl')
theorem zi_iadd {w : List zDesc} {d : Nat} {mi : zMI} {Q : Option Value → zMem → Prop} {pc : Nat} {L : zLv} {S : List Value} {M : zMem} {x y : Int32} (dg : decode mi.2.1 pc = .ok (.iadd, 1)) (kk : zRn w d mi Q (pc + 1) L (.int (x + y) :: S) M) : zRn w d mi Q pc L (.int y :: .int x :: S) M := by
  intro p l e s m args below meth c dC dI ad cA C H locs ls hP hS hl
  exact lv_iadd C.1 C.2.1 dg (kk p l e s m args below meth c dC dI ad cA C H locs ls hP hS hl)
theorem zi_isub {w : List zDesc} {d : Nat} {mi : zMI} {Q : Option Value → zMem → Prop} {pc : Nat} {L : zLv} {S : List Value} {M : zMem} {x y : Int32} (dg : decode mi.2.1 pc = .ok (.isub, 1)) (kk : zRn w d mi Q (pc + 1) L (.int (x - y) :: S) M) : zRn w d mi Q pc L (.int y :: .int x :: S) M := by
  intro p l e s m args below meth c dC dI ad cA C H locs ls hP hS hl
  exact lv_isub C.1 C.2.1 dg (kk p l e s m args below meth c dC dI ad cA C H locs ls hP hS hl)
theorem zi_imul {w : List zDesc} {d : Nat} {mi : zMI} {Q : Option Value → zMem → Prop} {pc : Nat} {L : zLv} {S : List Value} {M : zMem} {x y : Int32} (dg : decode mi.2.1 pc = .ok (.imul, 1)) (kk : zRn w d mi Q (pc + 1) L (.int (x * y) :: S) M) : zRn w d mi Q pc L (.int y :: .int x :: S) M := by
  intro p l e s m args below meth c dC dI ad cA C H locs ls hP hS hl
  exact lv_imul C.1 C.2.1 dg (kk p l e s m args below meth c dC dI ad cA C H locs ls hP hS hl)
theorem zi_iand {w : List zDesc} {d : Nat} {mi : zMI} {Q : Option Value → zMem → Prop} {pc : Nat} {L : zLv} {S : List Value} {M : zMem} {x y : Int32} (dg : decode mi.2.1 pc = .ok (.iand, 1)) (kk : zRn w d mi Q (pc + 1) L (.int (x &&& y) :: S) M) : zRn w d mi Q pc L (.int y :: .int x :: S) M := by
  intro p l e s m args below meth c dC dI ad cA C H locs ls hP hS hl
  exact lv_iand C.1 C.2.1 dg (kk p l e s m args below meth c dC dI ad cA C H locs ls hP hS hl)
theorem zi_ior {w : List zDesc} {d : Nat} {mi : zMI} {Q : Option Value → zMem → Prop} {pc : Nat} {L : zLv} {S : List Value} {M : zMem} {x y : Int32} (dg : decode mi.2.1 pc = .ok (.ior, 1)) (kk : zRn w d mi Q (pc + 1) L (.int (x ||| y) :: S) M) : zRn w d mi Q pc L (.int y :: .int x :: S) M := by
  intro p l e s m args below meth c dC dI ad cA C H locs ls hP hS hl
  exact lv_ior C.1 C.2.1 dg (kk p l e s m args below meth c dC dI ad cA C H locs ls hP hS hl)
theorem zi_ixor {w : List zDesc} {d : Nat} {mi : zMI} {Q : Option Value → zMem → Prop} {pc : Nat} {L : zLv} {S : List Value} {M : zMem} {x y : Int32} (dg : decode mi.2.1 pc = .ok (.ixor, 1)) (kk : zRn w d mi Q (pc + 1) L (.int (x ^^^ y) :: S) M) : zRn w d mi Q pc L (.int y :: .int x :: S) M := by
  intro p l e s m args below meth c dC dI ad cA C H locs ls hP hS hl
  exact lv_ixor C.1 C.2.1 dg (kk p l e s m args below meth c dC dI ad cA C H locs ls hP hS hl)
theorem zi_ishl {w : List zDesc} {d : Nat} {mi : zMI} {Q : Option Value → zMem → Prop} {pc : Nat} {L : zLv} {S : List Value} {M : zMem} {x y : Int32} (dg : decode mi.2.1 pc = .ok (.ishl, 1)) (kk : zRn w d mi Q (pc + 1) L (.int (x <<< (y &&& 31)) :: S) M) : zRn w d mi Q pc L (.int y :: .int x :: S) M := by
  intro p l e s m args below meth c dC dI ad cA C H locs ls hP hS hl
  exact lv_ishl C.1 C.2.1 dg (kk p l e s m args below meth c dC dI ad cA C H locs ls hP hS hl)
theorem zi_ishr {w : List zDesc} {d : Nat} {mi : zMI} {Q : Option Value → zMem → Prop} {pc : Nat} {L : zLv} {S : List Value} {M : zMem} {x y : Int32} (dg : decode mi.2.1 pc = .ok (.ishr, 1)) (kk : zRn w d mi Q (pc + 1) L (.int (x >>> (y &&& 31)) :: S) M) : zRn w d mi Q pc L (.int y :: .int x :: S) M := by
  intro p l e s m args below meth c dC dI ad cA C H locs ls hP hS hl
  exact lv_ishr C.1 C.2.1 dg (kk p l e s m args below meth c dC dI ad cA C H locs ls hP hS hl)
theorem zi_idiv {w : List zDesc} {d : Nat} {mi : zMI} {Q : Option Value → zMem → Prop} {pc : Nat} {L : zLv} {S : List Value} {M : zMem} {x y : Int32} (dg : decode mi.2.1 pc = .ok (.idiv, 1)) (hne : ¬ y = 0) (kk : zRn w d mi Q (pc + 1) L (.int (x / y) :: S) M) : zRn w d mi Q pc L (.int y :: .int x :: S) M := by
  intro p l e s m args below meth c dC dI ad cA C H locs ls hP hS hl
  exact lv_idiv C.1 C.2.1 dg hne (kk p l e s m args below meth c dC dI ad cA C H locs ls hP hS hl)
theorem zi_irem {w : List zDesc} {d : Nat} {mi : zMI} {Q : Option Value → zMem → Prop} {pc : Nat} {L : zLv} {S : List Value} {M : zMem} {x y : Int32} (dg : decode mi.2.1 pc = .ok (.irem, 1)) (hne : ¬ y = 0) (kk : zRn w d mi Q (pc + 1) L (.int (x - x / y * y) :: S) M) : zRn w d mi Q pc L (.int y :: .int x :: S) M := by
  intro p l e s m args below meth c dC dI ad cA C H locs ls hP hS hl
  exact lv_irem C.1 C.2.1 dg hne (kk p l e s m args below meth c dC dI ad cA C H locs ls hP hS hl)
theorem zi_ineg {w : List zDesc} {d : Nat} {mi : zMI} {Q : Option Value → zMem → Prop} {pc : Nat} {L : zLv} {S : List Value} {M : zMem} {x : Int32} (dg : decode mi.2.1 pc = .ok (.ineg, 1)) (kk : zRn w d mi Q (pc + 1) L (.int (-x) :: S) M) : zRn w d mi Q pc L (.int x :: S) M := by
  intro p l e s m args below meth c dC dI ad cA C H locs ls hP hS hl
  exact lv_ineg C.1 C.2.1 dg (kk p l e s m args below meth c dC dI ad cA C H locs ls hP hS hl)
theorem zi_iushr {w : List zDesc} {d : Nat} {mi : zMI} {Q : Option Value → zMem → Prop} {pc : Nat} {L : zLv} {S : List Value} {M : zMem} {x y : Int32} (dg : decode mi.2.1 pc = .ok (.iushr, 1)) (kk : zRn w d mi Q (pc + 1) L (.int ((x.toUInt32 >>> (y.toUInt32 &&& Int32.toUInt32 31)).toInt32) :: S) M) : zRn w d mi Q pc L (.int y :: .int x :: S) M := by
  intro p l e s m args below meth c dC dI ad cA C H locs ls hP hS hl
  exact lv_iushr C.1 C.2.1 dg rfl (kk p l e s m args below meth c dC dI ad cA C H locs ls hP hS hl)
theorem zi_ladd {w : List zDesc} {d : Nat} {mi : zMI} {Q : Option Value → zMem → Prop} {pc : Nat} {L : zLv} {S : List Value} {M : zMem} {x y : Int64} (dg : decode mi.2.1 pc = .ok (.ladd, 1)) (kk : zRn w d mi Q (pc + 1) L (.long (x + y) :: S) M) : zRn w d mi Q pc L (.long y :: .long x :: S) M := by
  intro p l e s m args below meth c dC dI ad cA C H locs ls hP hS hl
  exact lv_ladd C.1 C.2.1 dg (kk p l e s m args below meth c dC dI ad cA C H locs ls hP hS hl)
theorem zi_lsub {w : List zDesc} {d : Nat} {mi : zMI} {Q : Option Value → zMem → Prop} {pc : Nat} {L : zLv} {S : List Value} {M : zMem} {x y : Int64} (dg : decode mi.2.1 pc = .ok (.lsub, 1)) (kk : zRn w d mi Q (pc + 1) L (.long (x - y) :: S) M) : zRn w d mi Q pc L (.long y :: .long x :: S) M := by
  intro p l e s m args below meth c dC dI ad cA C H locs ls hP hS hl
  exact lv_lsub C.1 C.2.1 dg (kk p l e s m args below meth c dC dI ad cA C H locs ls hP hS hl)
theorem zi_land {w : List zDesc} {d : Nat} {mi : zMI} {Q : Option Value → zMem → Prop} {pc : Nat} {L : zLv} {S : List Value} {M : zMem} {x y : Int64} (dg : decode mi.2.1 pc = .ok (.land, 1)) (kk : zRn w d mi Q (pc + 1) L (.long (x &&& y) :: S) M) : zRn w d mi Q pc L (.long y :: .long x :: S) M := by
  intro p l e s m args below meth c dC dI ad cA C H locs ls hP hS hl
  exact lv_land C.1 C.2.1 dg (kk p l e s m args below meth c dC dI ad cA C H locs ls hP hS hl)
theorem zi_lor {w : List zDesc} {d : Nat} {mi : zMI} {Q : Option Value → zMem → Prop} {pc : Nat} {L : zLv} {S : List Value} {M : zMem} {x y : Int64} (dg : decode mi.2.1 pc = .ok (.lor, 1)) (kk : zRn w d mi Q (pc + 1) L (.long (x ||| y) :: S) M) : zRn w d mi Q pc L (.long y :: .long x :: S) M := by
  intro p l e s m args below meth c dC dI ad cA C H locs ls hP hS hl
  exact lv_lor C.1 C.2.1 dg (kk p l e s m args below meth c dC dI ad cA C H locs ls hP hS hl)
theorem zi_lxor {w : List zDesc} {d : Nat} {mi : zMI} {Q : Option Value → zMem → Prop} {pc : Nat} {L : zLv} {S : List Value} {M : zMem} {x y : Int64} (dg : decode mi.2.1 pc = .ok (.lxor, 1)) (kk : zRn w d mi Q (pc + 1) L (.long (x ^^^ y) :: S) M) : zRn w d mi Q pc L (.long y :: .long x :: S) M := by
  intro p l e s m args below meth c dC dI ad cA C H locs ls hP hS hl
  exact lv_lxor C.1 C.2.1 dg (kk p l e s m args below meth c dC dI ad cA C H locs ls hP hS hl)
theorem zi_i2l {w : List zDesc} {d : Nat} {mi : zMI} {Q : Option Value → zMem → Prop} {pc : Nat} {L : zLv} {S : List Value} {M : zMem} {x : Int32} (dg : decode mi.2.1 pc = .ok (.i2l, 1)) (kk : zRn w d mi Q (pc + 1) L (.long x.toInt64 :: S) M) : zRn w d mi Q pc L (.int x :: S) M := by
  intro p l e s m args below meth c dC dI ad cA C H locs ls hP hS hl
  exact lv_i2l C.1 C.2.1 dg rfl (kk p l e s m args below meth c dC dI ad cA C H locs ls hP hS hl)
theorem zi_l2i {w : List zDesc} {d : Nat} {mi : zMI} {Q : Option Value → zMem → Prop} {pc : Nat} {L : zLv} {S : List Value} {M : zMem} {x : Int64} (dg : decode mi.2.1 pc = .ok (.l2i, 1)) (kk : zRn w d mi Q (pc + 1) L (.int x.toInt32 :: S) M) : zRn w d mi Q pc L (.long x :: S) M := by
  intro p l e s m args below meth c dC dI ad cA C H locs ls hP hS hl
  exact lv_l2i C.1 C.2.1 dg rfl (kk p l e s m args below meth c dC dI ad cA C H locs ls hP hS hl)
theorem zi_i2b {w : List zDesc} {d : Nat} {mi : zMI} {Q : Option Value → zMem → Prop} {pc : Nat} {L : zLv} {S : List Value} {M : zMem} {x : Int32} (dg : decode mi.2.1 pc = .ok (.i2b, 1)) (kk : zRn w d mi Q (pc + 1) L (.int x.toInt8.toInt32 :: S) M) : zRn w d mi Q pc L (.int x :: S) M := by
  intro p l e s m args below meth c dC dI ad cA C H locs ls hP hS hl
  exact lv_i2b C.1 C.2.1 dg rfl (kk p l e s m args below meth c dC dI ad cA C H locs ls hP hS hl)
theorem zi_i2s {w : List zDesc} {d : Nat} {mi : zMI} {Q : Option Value → zMem → Prop} {pc : Nat} {L : zLv} {S : List Value} {M : zMem} {x : Int32} (dg : decode mi.2.1 pc = .ok (.i2s, 1)) (kk : zRn w d mi Q (pc + 1) L (.int x.toInt16.toInt32 :: S) M) : zRn w d mi Q pc L (.int x :: S) M := by
  intro p l e s m args below meth c dC dI ad cA C H locs ls hP hS hl
  exact lv_i2s C.1 C.2.1 dg rfl (kk p l e s m args below meth c dC dI ad cA C H locs ls hP hS hl)
theorem zi_lushr {w : List zDesc} {d : Nat} {mi : zMI} {Q : Option Value → zMem → Prop} {pc : Nat} {L : zLv} {S : List Value} {M : zMem} {x v : Int64} {y : Int32} (dg : decode mi.2.1 pc = .ok (.lushr, 1)) (hv : (x.toUInt64 >>> (y.toInt64.toUInt64 &&& Int64.toUInt64 63)).toInt64 = v) (kk : zRn w d mi Q (pc + 1) L (.long v :: S) M) : zRn w d mi Q pc L (.int y :: .long x :: S) M := by
  intro p l e s m args below meth c dC dI ad cA C H locs ls hP hS hl
  exact lv_lushr C.1 C.2.1 dg hv (kk p l e s m args below meth c dC dI ad cA C H locs ls hP hS hl)
theorem zi_lshr {w : List zDesc} {d : Nat} {mi : zMI} {Q : Option Value → zMem → Prop} {pc : Nat} {L : zLv} {S : List Value} {M : zMem} {x v : Int64} {y : Int32} (dg : decode mi.2.1 pc = .ok (.lshr, 1)) (hv : x >>> (y.toInt64 &&& 63) = v) (kk : zRn w d mi Q (pc + 1) L (.long v :: S) M) : zRn w d mi Q pc L (.int y :: .long x :: S) M := by
  intro p l e s m args below meth c dC dI ad cA C H locs ls hP hS hl
  exact lv_lshr C.1 C.2.1 dg hv (kk p l e s m args below meth c dC dI ad cA C H locs ls hP hS hl)
theorem zi_dupI {w : List zDesc} {d : Nat} {mi : zMI} {Q : Option Value → zMem → Prop} {pc : Nat} {L : zLv} {S : List Value} {M : zMem} {x : Int32} (dg : decode mi.2.1 pc = .ok (.dup, 1))  (kk : zRn w d mi Q (pc + 1) L (.int x :: .int x :: S) M) : zRn w d mi Q pc L (.int x :: S) M := by
  intro p l e s m args below meth c dC dI ad cA C H locs ls hP hS hl
  exact lv_dup C.1 C.2.1 dg rfl (kk p l e s m args below meth c dC dI ad cA C H locs ls hP hS hl)
theorem zi_dupR {w : List zDesc} {d : Nat} {mi : zMI} {Q : Option Value → zMem → Prop} {pc : Nat} {L : zLv} {S : List Value} {M : zMem} {x : Nat} (dg : decode mi.2.1 pc = .ok (.dup, 1))  (kk : zRn w d mi Q (pc + 1) L (.ref x :: .ref x :: S) M) : zRn w d mi Q pc L (.ref x :: S) M := by
  intro p l e s m args below meth c dC dI ad cA C H locs ls hP hS hl
  exact lv_dup C.1 C.2.1 dg rfl (kk p l e s m args below meth c dC dI ad cA C H locs ls hP hS hl)
theorem zi_popI {w : List zDesc} {d : Nat} {mi : zMI} {Q : Option Value → zMem → Prop} {pc : Nat} {L : zLv} {S : List Value} {M : zMem} {x : Int32} (dg : decode mi.2.1 pc = .ok (.pop, 1))  (kk : zRn w d mi Q (pc + 1) L (S) M) : zRn w d mi Q pc L (.int x :: S) M := by
  intro p l e s m args below meth c dC dI ad cA C H locs ls hP hS hl
  exact lv_pop C.1 C.2.1 dg rfl (kk p l e s m args below meth c dC dI ad cA C H locs ls hP hS hl)
theorem zi_popR {w : List zDesc} {d : Nat} {mi : zMI} {Q : Option Value → zMem → Prop} {pc : Nat} {L : zLv} {S : List Value} {M : zMem} {x : Nat} (dg : decode mi.2.1 pc = .ok (.pop, 1))  (kk : zRn w d mi Q (pc + 1) L (S) M) : zRn w d mi Q pc L (.ref x :: S) M := by
  intro p l e s m args below meth c dC dI ad cA C H locs ls hP hS hl
  exact lv_pop C.1 C.2.1 dg rfl (kk p l e s m args below meth c dC dI ad cA C H locs ls hP hS hl)
theorem zi_dup2 {w : List zDesc} {d : Nat} {mi : zMI} {Q : Option Value → zMem → Prop} {pc : Nat} {L : zLv} {S : List Value} {M : zMem} {x : Int32} {y : Nat} (dg : decode mi.2.1 pc = .ok (.dup2, 1))  (kk : zRn w d mi Q (pc + 1) L (.int x :: .ref y :: .int x :: .ref y :: S) M) : zRn w d mi Q pc L (.int x :: .ref y :: S) M := by
  intro p l e s m args below meth c dC dI ad cA C H locs ls hP hS hl
  exact lv_dup2_11 C.1 C.2.1 dg rfl rfl (kk p l e s m args below meth c dC dI ad cA C H locs ls hP hS hl)
theorem zi_dup_x1 {w : List zDesc} {d : Nat} {mi : zMI} {Q : Option Value → zMem → Prop} {pc : Nat} {L : zLv} {S : List Value} {M : zMem} {x : Int32} {y : Nat} (dg : decode mi.2.1 pc = .ok (.dup_x1, 1))  (kk : zRn w d mi Q (pc + 1) L (.int x :: .ref y :: .int x :: S) M) : zRn w d mi Q pc L (.int x :: .ref y :: S) M := by
  intro p l e s m args below meth c dC dI ad cA C H locs ls hP hS hl
  exact lv_dup_x1 C.1 C.2.1 dg rfl rfl (kk p l e s m args below meth c dC dI ad cA C H locs ls hP hS hl)
theorem zi_dup_x2 {w : List zDesc} {d : Nat} {mi : zMI} {Q : Option Value → zMem → Prop} {pc : Nat} {L : zLv} {S : List Value} {M : zMem} {x y : Int32} {z : Nat} (dg : decode mi.2.1 pc = .ok (.dup_x2, 1))  (kk : zRn w d mi Q (pc + 1) L (.int x :: .int y :: .ref z :: .int x :: S) M) : zRn w d mi Q pc L (.int x :: .int y :: .ref z :: S) M := by
  intro p l e s m args below meth c dC dI ad cA C H locs ls hP hS hl
  exact lv_dup_x2 C.1 C.2.1 dg rfl rfl rfl (kk p l e s m args below meth c dC dI ad cA C H locs ls hP hS hl)
theorem zi_null {w : List zDesc} {d : Nat} {mi : zMI} {Q : Option Value → zMem → Prop} {pc : Nat} {L : zLv} {S : List Value} {M : zMem} (dg : decode mi.2.1 pc = .ok (.aconst_null, 1)) (kk : zRn w d mi Q (pc + 1) L (.null :: S) M) : zRn w d mi Q pc L (S) M := by
  intro p l e s m args below meth c dC dI ad cA C H locs ls hP hS hl
  exact lv_null C.1 C.2.1 dg (kk p l e s m args below meth c dC dI ad cA C H locs ls hP hS hl)
theorem zi_ldcw {w : List zDesc} {d : Nat} {mi : zMI} {Q : Option Value → zMem → Prop} {pc : Nat} {L : zLv} {S : List Value} {M : zMem} {ix : Nat} {v : Int32} (dg : decode mi.2.1 pc = .ok (.ldc_w ix, 3)) (hc : Cond.constant mi.1.cls ix v ∈ zTw) (kk : zRn w d mi Q (pc + 3) L (.int v :: S) M) : zRn w d mi Q pc L (S) M := by
  intro p l e s m args below meth c dC dI ad cA C H locs ls hP hS hl
  exact lv_ldcw C.1 C.2.1 C.2.2.2.2.1 (C.2.2.2.2.2.1 _ hc) dg (kk p l e s m args below meth c dC dI ad cA C H locs ls hP hS hl)
theorem zi_ldc {w : List zDesc} {d : Nat} {mi : zMI} {Q : Option Value → zMem → Prop} {pc : Nat} {L : zLv} {S : List Value} {M : zMem} {ix : Nat} {v : Int32} (dg : decode mi.2.1 pc = .ok (.ldc ix, 2)) (hc : Cond.constant mi.1.cls ix v ∈ zTw) (kk : zRn w d mi Q (pc + 2) L (.int v :: S) M) : zRn w d mi Q pc L (S) M := by
  intro p l e s m args below meth c dC dI ad cA C H locs ls hP hS hl
  exact lv_ldc C.1 C.2.1 C.2.2.2.2.1 (C.2.2.2.2.2.1 _ hc) dg (kk p l e s m args below meth c dC dI ad cA C H locs ls hP hS hl)
theorem zi_ldc2 {w : List zDesc} {d : Nat} {mi : zMI} {Q : Option Value → zMem → Prop} {pc : Nat} {L : zLv} {S : List Value} {M : zMem} {ix : Nat} {v : Int64} (dg : decode mi.2.1 pc = .ok (.ldc2_w ix, 3)) (hc : Cond.constantLong mi.1.cls ix v ∈ zTw) (kk : zRn w d mi Q (pc + 3) L (.long v :: S) M) : zRn w d mi Q pc L (S) M := by
  intro p l e s m args below meth c dC dI ad cA C H locs ls hP hS hl
  exact lv_ldc2 C.1 C.2.1 C.2.2.2.2.1 (C.2.2.2.2.2.1 _ hc) dg (kk p l e s m args below meth c dC dI ad cA C H locs ls hP hS hl)
theorem zi_icmp_eq {w : List zDesc} {d : Nat} {mi : zMI} {Q : Option Value → zMem → Prop} {pc : Nat} {L : zLv} {S : List Value} {M : zMem} {x y : Int32} {off : Int} {tgt : Nat} (dg : decode mi.2.1 pc = .ok (.if_icmp .eq off, 3)) (ht : (pc : Int) + off = (tgt : Int)) (kt : x = y → zRn w d mi Q tgt L S M) (kf : ¬ x = y → zRn w d mi Q (pc + 3) L S M) : zRn w d mi Q pc L (.int y :: .int x :: S) M := by
  intro p l e s m args below meth c dC dI ad cA C H locs ls hP hS hl
  exact lv_icmp_eq C.1 C.2.1 dg ht (fun h => kt h p l e s m args below meth c dC dI ad cA C H locs ls hP hS hl) (fun h => kf h p l e s m args below meth c dC dI ad cA C H locs ls hP hS hl)
theorem zi_if_eq {w : List zDesc} {d : Nat} {mi : zMI} {Q : Option Value → zMem → Prop} {pc : Nat} {L : zLv} {S : List Value} {M : zMem} {x : Int32} {off : Int} {tgt : Nat} (dg : decode mi.2.1 pc = .ok (.ifCond .eq off, 3)) (ht : (pc : Int) + off = (tgt : Int)) (kt : x = 0 → zRn w d mi Q tgt L S M) (kf : ¬ x = 0 → zRn w d mi Q (pc + 3) L S M) : zRn w d mi Q pc L (.int x :: S) M := by
  intro p l e s m args below meth c dC dI ad cA C H locs ls hP hS hl
  exact lv_if_eq C.1 C.2.1 dg ht (fun h => kt h p l e s m args below meth c dC dI ad cA C H locs ls hP hS hl) (fun h => kf h p l e s m args below meth c dC dI ad cA C H locs ls hP hS hl)
theorem zi_icmp_ne {w : List zDesc} {d : Nat} {mi : zMI} {Q : Option Value → zMem → Prop} {pc : Nat} {L : zLv} {S : List Value} {M : zMem} {x y : Int32} {off : Int} {tgt : Nat} (dg : decode mi.2.1 pc = .ok (.if_icmp .ne off, 3)) (ht : (pc : Int) + off = (tgt : Int)) (kt : x ≠ y → zRn w d mi Q tgt L S M) (kf : x = y → zRn w d mi Q (pc + 3) L S M) : zRn w d mi Q pc L (.int y :: .int x :: S) M := by
  intro p l e s m args below meth c dC dI ad cA C H locs ls hP hS hl
  exact lv_icmp_ne C.1 C.2.1 dg ht (fun h => kt h p l e s m args below meth c dC dI ad cA C H locs ls hP hS hl) (fun h => kf h p l e s m args below meth c dC dI ad cA C H locs ls hP hS hl)
theorem zi_if_ne {w : List zDesc} {d : Nat} {mi : zMI} {Q : Option Value → zMem → Prop} {pc : Nat} {L : zLv} {S : List Value} {M : zMem} {x : Int32} {off : Int} {tgt : Nat} (dg : decode mi.2.1 pc = .ok (.ifCond .ne off, 3)) (ht : (pc : Int) + off = (tgt : Int)) (kt : x ≠ 0 → zRn w d mi Q tgt L S M) (kf : x = 0 → zRn w d mi Q (pc + 3) L S M) : zRn w d mi Q pc L (.int x :: S) M := by
  intro p l e s m args below meth c dC dI ad cA C H locs ls hP hS hl
  exact lv_if_ne C.1 C.2.1 dg ht (fun h => kt h p l e s m args below meth c dC dI ad cA C H locs ls hP hS hl) (fun h => kf h p l e s m args below meth c dC dI ad cA C H locs ls hP hS hl)
theorem zi_icmp_lt {w : List zDesc} {d : Nat} {mi : zMI} {Q : Option Value → zMem → Prop} {pc : Nat} {L : zLv} {S : List Value} {M : zMem} {x y : Int32} {off : Int} {tgt : Nat} (dg : decode mi.2.1 pc = .ok (.if_icmp .lt off, 3)) (ht : (pc : Int) + off = (tgt : Int)) (kt : x < y → zRn w d mi Q tgt L S M) (kf : ¬ x < y → zRn w d mi Q (pc + 3) L S M) : zRn w d mi Q pc L (.int y :: .int x :: S) M := by
  intro p l e s m args below meth c dC dI ad cA C H locs ls hP hS hl
  exact lv_icmp_lt C.1 C.2.1 dg ht (fun h => kt h p l e s m args below meth c dC dI ad cA C H locs ls hP hS hl) (fun h => kf h p l e s m args below meth c dC dI ad cA C H locs ls hP hS hl)
theorem zi_if_lt {w : List zDesc} {d : Nat} {mi : zMI} {Q : Option Value → zMem → Prop} {pc : Nat} {L : zLv} {S : List Value} {M : zMem} {x : Int32} {off : Int} {tgt : Nat} (dg : decode mi.2.1 pc = .ok (.ifCond .lt off, 3)) (ht : (pc : Int) + off = (tgt : Int)) (kt : x < 0 → zRn w d mi Q tgt L S M) (kf : ¬ x < 0 → zRn w d mi Q (pc + 3) L S M) : zRn w d mi Q pc L (.int x :: S) M := by
  intro p l e s m args below meth c dC dI ad cA C H locs ls hP hS hl
  exact lv_if_lt C.1 C.2.1 dg ht (fun h => kt h p l e s m args below meth c dC dI ad cA C H locs ls hP hS hl) (fun h => kf h p l e s m args below meth c dC dI ad cA C H locs ls hP hS hl)
theorem zi_icmp_ge {w : List zDesc} {d : Nat} {mi : zMI} {Q : Option Value → zMem → Prop} {pc : Nat} {L : zLv} {S : List Value} {M : zMem} {x y : Int32} {off : Int} {tgt : Nat} (dg : decode mi.2.1 pc = .ok (.if_icmp .ge off, 3)) (ht : (pc : Int) + off = (tgt : Int)) (kt : y ≤ x → zRn w d mi Q tgt L S M) (kf : ¬ y ≤ x → zRn w d mi Q (pc + 3) L S M) : zRn w d mi Q pc L (.int y :: .int x :: S) M := by
  intro p l e s m args below meth c dC dI ad cA C H locs ls hP hS hl
  exact lv_icmp_ge C.1 C.2.1 dg ht (fun h => kt h p l e s m args below meth c dC dI ad cA C H locs ls hP hS hl) (fun h => kf h p l e s m args below meth c dC dI ad cA C H locs ls hP hS hl)
theorem zi_if_ge {w : List zDesc} {d : Nat} {mi : zMI} {Q : Option Value → zMem → Prop} {pc : Nat} {L : zLv} {S : List Value} {M : zMem} {x : Int32} {off : Int} {tgt : Nat} (dg : decode mi.2.1 pc = .ok (.ifCond .ge off, 3)) (ht : (pc : Int) + off = (tgt : Int)) (kt : 0 ≤ x → zRn w d mi Q tgt L S M) (kf : ¬ 0 ≤ x → zRn w d mi Q (pc + 3) L S M) : zRn w d mi Q pc L (.int x :: S) M := by
  intro p l e s m args below meth c dC dI ad cA C H locs ls hP hS hl
  exact lv_if_ge C.1 C.2.1 dg ht (fun h => kt h p l e s m args below meth c dC dI ad cA C H locs ls hP hS hl) (fun h => kf h p l e s m args below meth c dC dI ad cA C H locs ls hP hS hl)
theorem zi_icmp_gt {w : List zDesc} {d : Nat} {mi : zMI} {Q : Option Value → zMem → Prop} {pc : Nat} {L : zLv} {S : List Value} {M : zMem} {x y : Int32} {off : Int} {tgt : Nat} (dg : decode mi.2.1 pc = .ok (.if_icmp .gt off, 3)) (ht : (pc : Int) + off = (tgt : Int)) (kt : y < x → zRn w d mi Q tgt L S M) (kf : ¬ y < x → zRn w d mi Q (pc + 3) L S M) : zRn w d mi Q pc L (.int y :: .int x :: S) M := by
  intro p l e s m args below meth c dC dI ad cA C H locs ls hP hS hl
  exact lv_icmp_gt C.1 C.2.1 dg ht (fun h => kt h p l e s m args below meth c dC dI ad cA C H locs ls hP hS hl) (fun h => kf h p l e s m args below meth c dC dI ad cA C H locs ls hP hS hl)
theorem zi_if_gt {w : List zDesc} {d : Nat} {mi : zMI} {Q : Option Value → zMem → Prop} {pc : Nat} {L : zLv} {S : List Value} {M : zMem} {x : Int32} {off : Int} {tgt : Nat} (dg : decode mi.2.1 pc = .ok (.ifCond .gt off, 3)) (ht : (pc : Int) + off = (tgt : Int)) (kt : 0 < x → zRn w d mi Q tgt L S M) (kf : ¬ 0 < x → zRn w d mi Q (pc + 3) L S M) : zRn w d mi Q pc L (.int x :: S) M := by
  intro p l e s m args below meth c dC dI ad cA C H locs ls hP hS hl
  exact lv_if_gt C.1 C.2.1 dg ht (fun h => kt h p l e s m args below meth c dC dI ad cA C H locs ls hP hS hl) (fun h => kf h p l e s m args below meth c dC dI ad cA C H locs ls hP hS hl)
theorem zi_icmp_le {w : List zDesc} {d : Nat} {mi : zMI} {Q : Option Value → zMem → Prop} {pc : Nat} {L : zLv} {S : List Value} {M : zMem} {x y : Int32} {off : Int} {tgt : Nat} (dg : decode mi.2.1 pc = .ok (.if_icmp .le off, 3)) (ht : (pc : Int) + off = (tgt : Int)) (kt : x ≤ y → zRn w d mi Q tgt L S M) (kf : ¬ x ≤ y → zRn w d mi Q (pc + 3) L S M) : zRn w d mi Q pc L (.int y :: .int x :: S) M := by
  intro p l e s m args below meth c dC dI ad cA C H locs ls hP hS hl
  exact lv_icmp_le C.1 C.2.1 dg ht (fun h => kt h p l e s m args below meth c dC dI ad cA C H locs ls hP hS hl) (fun h => kf h p l e s m args below meth c dC dI ad cA C H locs ls hP hS hl)
theorem zi_if_le {w : List zDesc} {d : Nat} {mi : zMI} {Q : Option Value → zMem → Prop} {pc : Nat} {L : zLv} {S : List Value} {M : zMem} {x : Int32} {off : Int} {tgt : Nat} (dg : decode mi.2.1 pc = .ok (.ifCond .le off, 3)) (ht : (pc : Int) + off = (tgt : Int)) (kt : x ≤ 0 → zRn w d mi Q tgt L S M) (kf : ¬ x ≤ 0 → zRn w d mi Q (pc + 3) L S M) : zRn w d mi Q pc L (.int x :: S) M := by
  intro p l e s m args below meth c dC dI ad cA C H locs ls hP hS hl
  exact lv_if_le C.1 C.2.1 dg ht (fun h => kt h p l e s m args below meth c dC dI ad cA C H locs ls hP hS hl) (fun h => kf h p l e s m args below meth c dC dI ad cA C H locs ls hP hS hl)
theorem zi_goto {w : List zDesc} {d : Nat} {mi : zMI} {Q : Option Value → zMem → Prop} {pc : Nat} {L : zLv} {S : List Value} {M : zMem} {off : Int} {tgt : Nat} (dg : decode mi.2.1 pc = .ok (.goto off, 3)) (ht : (pc : Int) + off = (tgt : Int)) (kk : zRn w d mi Q tgt L S M) : zRn w d mi Q pc L S M := by
  intro p l e s m args below meth c dC dI ad cA C H locs ls hP hS hl
  exact lv_goto C.1 C.2.1 dg ht (kk p l e s m args below meth c dC dI ad cA C H locs ls hP hS hl)
theorem zi_tableIn {w : List zDesc} {d : Nat} {mi : zMI} {Q : Option Value → zMem → Prop} {pc : Nat} {L : zLv} {S : List Value} {M : zMem} {dflt lo hi : Int} {offs : Array Int} {len : Nat} {x : Int32} {off : Int} {tgt : Nat} (dg : decode mi.2.1 pc = .ok (.tableswitch dflt lo hi offs, len)) (h1 : ¬ x.toInt < lo) (h2 : ¬ hi < x.toInt) (ho : offs[(x.toInt - lo).toNat]? = some off) (ht : (pc : Int) + off = (tgt : Int)) (kk : zRn w d mi Q tgt L S M) : zRn w d mi Q pc L (.int x :: S) M := by
  intro p l e s m args below meth c dC dI ad cA C H locs ls hP hS hl
  exact lv_tableIn C.1 C.2.1 dg h1 h2 ho ht (kk p l e s m args below meth c dC dI ad cA C H locs ls hP hS hl)
theorem zi_tableOut {w : List zDesc} {d : Nat} {mi : zMI} {Q : Option Value → zMem → Prop} {pc : Nat} {L : zLv} {S : List Value} {M : zMem} {dflt lo hi : Int} {offs : Array Int} {len : Nat} {x : Int32} {tgt : Nat} (dg : decode mi.2.1 pc = .ok (.tableswitch dflt lo hi offs, len)) (h : x.toInt < lo ∨ hi < x.toInt) (ht : (pc : Int) + dflt = (tgt : Int)) (kk : zRn w d mi Q tgt L S M) : zRn w d mi Q pc L (.int x :: S) M := by
  intro p l e s m args below meth c dC dI ad cA C H locs ls hP hS hl
  exact lv_tableOut C.1 C.2.1 dg h ht (kk p l e s m args below meth c dC dI ad cA C H locs ls hP hS hl)
theorem zi_ifnull {w : List zDesc} {d : Nat} {mi : zMI} {Q : Option Value → zMem → Prop} {pc : Nat} {L : zLv} {S : List Value} {M : zMem} {x : Nat} {off : Int} (dg : decode mi.2.1 pc = .ok (.ifnull off, 3)) (kk : zRn w d mi Q (pc + 3) L S M) : zRn w d mi Q pc L (.ref x :: S) M := by
  intro p l e s m args below meth c dC dI ad cA C H locs ls hP hS hl
  exact lv_ifnull C.1 C.2.1 dg (kk p l e s m args below meth c dC dI ad cA C H locs ls hP hS hl)
theorem zi_ifnullN {w : List zDesc} {d : Nat} {mi : zMI} {Q : Option Value → zMem → Prop} {pc : Nat} {L : zLv} {S : List Value} {M : zMem} {off : Int} {tgt : Nat} (dg : decode mi.2.1 pc = .ok (.ifnull off, 3)) (ht : (pc : Int) + off = (tgt : Int)) (kk : zRn w d mi Q tgt L S M) : zRn w d mi Q pc L (.null :: S) M := by
  intro p l e s m args below meth c dC dI ad cA C H locs ls hP hS hl
  exact lv_ifnullN C.1 C.2.1 dg ht (kk p l e s m args below meth c dC dI ad cA C H locs ls hP hS hl)
theorem zi_ifnonnull {w : List zDesc} {d : Nat} {mi : zMI} {Q : Option Value → zMem → Prop} {pc : Nat} {L : zLv} {S : List Value} {M : zMem} {x : Nat} {off : Int} {tgt : Nat} (dg : decode mi.2.1 pc = .ok (.ifnonnull off, 3)) (ht : (pc : Int) + off = (tgt : Int)) (kk : zRn w d mi Q tgt L S M) : zRn w d mi Q pc L (.ref x :: S) M := by
  intro p l e s m args below meth c dC dI ad cA C H locs ls hP hS hl
  exact lv_ifnonnull C.1 C.2.1 dg ht (kk p l e s m args below meth c dC dI ad cA C H locs ls hP hS hl)
theorem zi_ifnonnullN {w : List zDesc} {d : Nat} {mi : zMI} {Q : Option Value → zMem → Prop} {pc : Nat} {L : zLv} {S : List Value} {M : zMem} {off : Int} (dg : decode mi.2.1 pc = .ok (.ifnonnull off, 3)) (kk : zRn w d mi Q (pc + 3) L S M) : zRn w d mi Q pc L (.null :: S) M := by
  intro p l e s m args below meth c dC dI ad cA C H locs ls hP hS hl
  exact lv_ifnonnullN C.1 C.2.1 dg (kk p l e s m args below meth c dC dI ad cA C H locs ls hP hS hl)
