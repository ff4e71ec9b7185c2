/-! fields and arrays -/
/-- what a field's use needs: the word of its link, its number in the class's table, the table's facts -/
def zFd (own : String) (index ci k N : Nat) (C ref : String) (T : u_T) : Prop :=
  vwCl[ci]? = some (C, T, N) ∧ k < N ∧ (∀ v ∈ u_ws C T N, v ∈ zTw) ∧ Cond.fieldLink own index ref (T k).2.1 (T k).2.2.1 ∈ zTw ∧ (∀ (args : Array Value) (s : State), (∀ v ∈ zTw, v.before args s = true) → ∀ x, s.fieldFound? (T k).1 (T k).2.1 (T k).2.2.1 = some x → s.fieldFound? ref (T k).2.1 (T k).2.2.1 = some x)
def zFp (C : String) (T : u_T) (k N : Nat) (ty0 : Nat → FieldType) : Prop :=
  (∀ k, k < N → parseFieldDescriptor (T k).2.2.1 = some (ty0 k)) ∧ (∀ a, a < N → ∀ b, b < N → a ≠ b → (T a).2.1 ≠ (T b).2.1) ∧ (T k).2.2.2 = false
theorem zi_get {w : List zDesc} {d : Nat} {mi : zMI} {Q : Option Value → zMem → Prop} {pc : Nat} {L : zLv} {S : List Value} {M : zMem} {own C ref : String} {index ci k N : Nat} {T : u_T} (hf : zFd own index ci k N C ref T) (ho : mi.1.cls = own) {i : Nat} {ks : List Nat} {kd : Nat} (hw : w[i]? = some (.inr (.inr (ci, ks)))) (hk : ks[k]? = some kd) {v : Value} (hv : ∀ ad : Nat → Nat, zF ad kd (M i k) = zT ad v) (dg : decode mi.2.1 pc = .ok (.getfield index, 3))
    (kk : zRn w d mi Q (pc + 3) L (v :: S) M) : zRn w d mi Q pc L (.ref i :: S) M := by
  intro p l e s m args below meth c dC dI ad cA C0 H locs ls hP hS hl
  obtain ⟨f1, f2, f3, f4, f5⟩ := hf
  refine va_get (own := own) C0.1 C0.2.1 C0.2.2.2.2.2.1 f3 (by rw [← ho]; exact C0.2.2.2.2.1) C0.2.2.2.2.2.2.2.1 hP i (zWs_at hw) f1 k f2 (C0.2.2.2.2.2.1 _ f4) (f5 args s C0.2.2.2.2.2.1) (v := zT ad v) ?_ dg (kk p l e s m args below meth c dC dI ad cA C0 H locs ls hP hS hl)
  rw [List.getElem?_mapIdx, hk, ← hv ad]
  rfl
theorem zi_getI {w : List zDesc} {d : Nat} {mi : zMI} {Q : Option Value → zMem → Prop} {pc : Nat} {L : zLv} {S : List Value} {M : zMem} {own C ref : String} {index ci k N : Nat} {T : u_T} (hf : zFd own index ci k N C ref T) (ho : mi.1.cls = own) {i : Nat} {ks : List Nat} (hw : w[i]? = some (.inr (.inr (ci, ks)))) (hk : ks[k]? = some 0) (dg : decode mi.2.1 pc = .ok (.getfield index, 3))
    (kk : zRn w d mi Q (pc + 3) L (.int (M i k) :: S) M) : zRn w d mi Q pc L (.ref i :: S) M := zi_get hf ho hw hk (fun _ => rfl) dg kk
theorem zi_getR {w : List zDesc} {d : Nat} {mi : zMI} {Q : Option Value → zMem → Prop} {pc : Nat} {L : zLv} {S : List Value} {M : zMem} {own C ref : String} {index ci k N : Nat} {T : u_T} (hf : zFd own index ci k N C ref T) (ho : mi.1.cls = own) {i t : Nat} {ks : List Nat} (hw : w[i]? = some (.inr (.inr (ci, ks)))) (hk : ks[k]? = some (t + 2)) (dg : decode mi.2.1 pc = .ok (.getfield index, 3))
    (kk : zRn w d mi Q (pc + 3) L (.ref t :: S) M) : zRn w d mi Q pc L (.ref i :: S) M := zi_get hf ho hw hk (fun _ => rfl) dg kk
theorem zi_getN {w : List zDesc} {d : Nat} {mi : zMI} {Q : Option Value → zMem → Prop} {pc : Nat} {L : zLv} {S : List Value} {M : zMem} {own C ref : String} {index ci k N : Nat} {T : u_T} (hf : zFd own index ci k N C ref T) (ho : mi.1.cls = own) {i : Nat} {ks : List Nat} (hw : w[i]? = some (.inr (.inr (ci, ks)))) (hk : ks[k]? = some 1) (dg : decode mi.2.1 pc = .ok (.getfield index, 3))
    (k0 : M i k = 0 → zRn w d mi Q (pc + 3) L (.null :: S) M) (k1 : ∀ t : Nat, M i k = nI t → t < 2 ^ 31 → M i k ≠ 0 → zRn w d mi Q (pc + 3) L (.ref t :: S) M) (hn : ∃ t : Nat, M i k = nI t ∧ t < 2 ^ 31) : zRn w d mi Q pc L (.ref i :: S) M := by
  by_cases h : M i k = 0
  · exact zi_get hf ho hw hk (v := .null) (fun ad => by simp [zF, h, zT]) dg (k0 h)
  · obtain ⟨t, ht, hb⟩ := hn
    exact zi_get hf ho hw hk (v := .ref t) (fun ad => by simp only [zF, if_neg h, zT]; rw [ht, nI_clamp hb]) dg (k1 t ht hb h)
theorem zi_put {w : List zDesc} {d : Nat} {mi : zMI} {Q : Option Value → zMem → Prop} {pc : Nat} {L : zLv} {S : List Value} {M : zMem} {own C ref : String} {index ci k N : Nat} {T : u_T} {ty0 : Nat → FieldType} (hf : zFd own index ci k N C ref T) (hp : zFp C T k N ty0) (ho : mi.1.cls = own) {i : Nat} {ks : List Nat} {kd : Nat} (hw : w[i]? = some (.inr (.inr (ci, ks)))) (hk : ks[k]? = some kd) {v : Value} {x : Int32} (hv : ∀ ad : Nat → Nat, zF ad kd x = zT ad v) (hn : ∀ ad : Nat → Nat, narrow (ty0 k) (zT ad v) = zT ad v ∧ fits (ty0 k) (zT ad v) = true) (dg : decode mi.2.1 pc = .ok (.putfield index, 3))
    (kk : zRn w d mi Q (pc + 3) L S (zup M i k x)) : zRn w d mi Q pc L (v :: .ref i :: S) M := by
  intro p l e s m args below meth c dC dI ad cA C0 H locs ls hP hS hl
  obtain ⟨f1, f2, f3, f4, f5⟩ := hf
  obtain ⟨p1, p2, p3⟩ := hp
  have hlen : k < (ks.mapIdx (fun j k => zF ad k (M i j))).length := by
    rw [List.length_mapIdx]
    exact (List.getElem?_eq_some_iff.mp hk).1
  refine va_put (own := own) C0.1 C0.2.1 C0.2.2.2.2.2.1 f3 ty0 p1 p2 (by rw [← ho]; exact C0.2.2.2.2.1) C0.2.2.2.2.2.2.2.1 hP (zD cA M C0.2.2.2.2.2.2.2.2.1) hS i (zWs_at hw) f1 k f2 (C0.2.2.2.2.2.1 _ f4) (f5 args s C0.2.2.2.2.2.1) p3 (v := zT ad v) (p1 k f2) (hn ad).1 (hn ad).2 hlen dg ?_
  intro H1 locs1 hP1 _ hS1
  rw [zFs_set hk (hv ad)] at hP1
  have hP2 : va_P (dC, dI) vwCl (zWs w ad cA (zup M i k x)) H1 := by
    rw [zup_eq, ← zWs_set hw]
    exact hP1
  exact kk p l e s m args below meth c dC dI ad cA C0 H1 locs1 ls hP2 hS1 hl
theorem zi_putI {w : List zDesc} {d : Nat} {mi : zMI} {Q : Option Value → zMem → Prop} {pc : Nat} {L : zLv} {S : List Value} {M : zMem} {own C ref : String} {index ci k N : Nat} {T : u_T} {ty0 : Nat → FieldType} (hf : zFd own index ci k N C ref T) (hp : zFp C T k N ty0) (ho : mi.1.cls = own) {i : Nat} {ks : List Nat} (hw : w[i]? = some (.inr (.inr (ci, ks)))) (hk : ks[k]? = some 0) {x : Int32} (ht : ty0 k = .int) (dg : decode mi.2.1 pc = .ok (.putfield index, 3))
    (kk : zRn w d mi Q (pc + 3) L S (zup M i k x)) : zRn w d mi Q pc L (.int x :: .ref i :: S) M := zi_put hf hp ho hw hk (fun _ => rfl) (fun _ => by rw [ht]; exact ⟨rfl, rfl⟩) dg kk
theorem zi_putZ {w : List zDesc} {d : Nat} {mi : zMI} {Q : Option Value → zMem → Prop} {pc : Nat} {L : zLv} {S : List Value} {M : zMem} {own C ref : String} {index ci k N : Nat} {T : u_T} {ty0 : Nat → FieldType} (hf : zFd own index ci k N C ref T) (hp : zFp C T k N ty0) (ho : mi.1.cls = own) {i : Nat} {ks : List Nat} (hw : w[i]? = some (.inr (.inr (ci, ks)))) (hk : ks[k]? = some 0) {x : Int32} (hx : narrow .boolean (.int x) = .int x ∧ fits .boolean (.int x) = true) (ht : ty0 k = .boolean) (dg : decode mi.2.1 pc = .ok (.putfield index, 3))
    (kk : zRn w d mi Q (pc + 3) L S (zup M i k x)) : zRn w d mi Q pc L (.int x :: .ref i :: S) M := zi_put hf hp ho hw hk (fun _ => rfl) (fun _ => by rw [ht]; exact hx) dg kk
theorem zi_putR {w : List zDesc} {d : Nat} {mi : zMI} {Q : Option Value → zMem → Prop} {pc : Nat} {L : zLv} {S : List Value} {M : zMem} {own C ref : String} {index ci k N : Nat} {T : u_T} {ty0 : Nat → FieldType} (hf : zFd own index ci k N C ref T) (hp : zFp C T k N ty0) (ho : mi.1.cls = own) {i t : Nat} {ks : List Nat} (hw : w[i]? = some (.inr (.inr (ci, ks)))) (hk : ks[k]? = some 1) (h0 : 0 < t) (hb : t < 2 ^ 31) {cn : String} (ht : ty0 k = .object cn) (dg : decode mi.2.1 pc = .ok (.putfield index, 3))
    (kk : zRn w d mi Q (pc + 3) L S (zup M i k (nI t))) : zRn w d mi Q pc L (.ref t :: .ref i :: S) M := zi_put hf hp ho hw hk (x := nI t) (fun _ => by simp only [zF, zT]; rw [if_neg (nI_ne0 h0 hb), nI_clamp hb]) (fun _ => by rw [ht]; exact ⟨rfl, rfl⟩) dg kk
theorem zi_putN {w : List zDesc} {d : Nat} {mi : zMI} {Q : Option Value → zMem → Prop} {pc : Nat} {L : zLv} {S : List Value} {M : zMem} {own C ref : String} {index ci k N : Nat} {T : u_T} {ty0 : Nat → FieldType} (hf : zFd own index ci k N C ref T) (hp : zFp C T k N ty0) (ho : mi.1.cls = own) {i : Nat} {ks : List Nat} (hw : w[i]? = some (.inr (.inr (ci, ks)))) (hk : ks[k]? = some 1) {cn : String} (ht : ty0 k = .object cn) (dg : decode mi.2.1 pc = .ok (.putfield index, 3))
    (kk : zRn w d mi Q (pc + 3) L S (zup M i k 0)) : zRn w d mi Q pc L (.null :: .ref i :: S) M := zi_put hf hp ho hw hk (x := 0) (fun _ => rfl) (fun _ => by rw [ht]; exact ⟨rfl, rfl⟩) dg kk
theorem zi_iald {w : List zDesc} {d : Nat} {mi : zMI} {Q : Option Value → zMem → Prop} {pc : Nat} {L : zLv} {S : List Value} {M : zMem} {i n k : Nat} {j : Int32} (hw : w[i]? = some (.inl (0, n))) (hin : vp_in j n) (hk : j.toNatClampNeg = k) (dg : decode mi.2.1 pc = .ok (.iaload, 1))
    (kk : zRn w d mi Q (pc + 1) L (.int (M i k) :: S) M) : zRn w d mi Q pc L (.int j :: .ref i :: S) M := by
  subst hk
  intro p l e s m args below meth c dC dI ad cA C H locs ls hP hS hl
  exact va_iald C.1 C.2.1 C.2.2.2.2.2.2.2.1 hP i 0 (zWs_at hw) rfl hin dg (kk p l e s m args below meth c dC dI ad cA C H locs ls hP hS hl)
theorem zi_cald {w : List zDesc} {d : Nat} {mi : zMI} {Q : Option Value → zMem → Prop} {pc : Nat} {L : zLv} {S : List Value} {M : zMem} {i n k : Nat} {j : Int32} (hw : w[i]? = some (.inl (2, n))) (hin : vp_in j n) (hk : j.toNatClampNeg = k) (dg : decode mi.2.1 pc = .ok (.caload, 1))
    (kk : zRn w d mi Q (pc + 1) L (.int (M i k) :: S) M) : zRn w d mi Q pc L (.int j :: .ref i :: S) M := by
  subst hk
  intro p l e s m args below meth c dC dI ad cA C H locs ls hP hS hl
  exact va_cald C.1 C.2.1 C.2.2.2.2.2.2.2.1 hP i 2 (zWs_at hw) rfl hin dg (kk p l e s m args below meth c dC dI ad cA C H locs ls hP hS hl)
theorem zi_lald {w : List zDesc} {d : Nat} {mi : zMI} {Q : Option Value → zMem → Prop} {pc : Nat} {L : zLv} {S : List Value} {M : zMem} {i n k : Nat} {j : Int32} (hw : w[i]? = some (.inl (1, n))) (hin : vp_in j n) (hk : j.toNatClampNeg = k) (dg : decode mi.2.1 pc = .ok (.laload, 1))
    (kk : zRn w d mi Q (pc + 1) L (.long (M i k).toInt64 :: S) M) : zRn w d mi Q pc L (.int j :: .ref i :: S) M := by
  subst hk
  intro p l e s m args below meth c dC dI ad cA C H locs ls hP hS hl
  exact va_lald C.1 C.2.1 C.2.2.2.2.2.2.2.1 hP i 1 (zWs_at hw) rfl hin dg (kk p l e s m args below meth c dC dI ad cA C H locs ls hP hS hl)
theorem zi_aald {w : List zDesc} {d : Nat} {mi : zMI} {Q : Option Value → zMem → Prop} {pc : Nat} {L : zLv} {S : List Value} {M : zMem} {i ck t : Nat} {ts : List Nat} {j : Int32} (hw : w[i]? = some (.inr (.inl (ck, ts)))) (hc : ck = 3 ∨ ck = 4) (hin : vp_in j ts.length) (ht : ts[j.toNatClampNeg]? = some t) (dg : decode mi.2.1 pc = .ok (.aaload, 1))
    (kk : zRn w d mi Q (pc + 1) L (.ref t :: S) M) (h5 : t < 2000 := by decide) : zRn w d mi Q pc L (.int j :: .ref i :: S) M := by
  intro p l e s m args below meth c dC dI ad cA C H locs ls hP hS hl
  have hlt : j.toNatClampNeg < ts.length := Nat.not_le.mp fun q => hin (Or.inr q)
  have kk2 := kk p l e s m args below meth c dC dI ad cA C H locs ls hP hS hl
  have e1 : va_rf ((ts[j.toNatClampNeg]?).bind (zrf ad)) = .ref (ad t) := by rw [ht]; exact congrArg va_rf (if_pos h5)
  have kk3 : W p l e (zR d) s m args below meth c H locs 0 0 (MQ below (zQc w dC dI ad cA Q) args s 0 0 (zA w ad)) (F0 m (pc + 1) ls (va_rf ((ts[j.toNatClampNeg]?).bind (zrf ad)) :: S.map (zT ad))) := by rw [e1]; exact kk2
  rcases hc with rfl | rfl
  · exact va_aldq C.1 C.2.1 C.2.2.2.2.2.2.2.1 hP i 3 (zWs_at hw) rfl hin dg kk3
  · exact W.aald (v := va_rf ((ts[j.toNatClampNeg]?).bind (zrf ad))) (ty := .array .long) C.1 C.2.1 (hP i _ (zWs_at hw)) ((C.2.2.2.2.2.2.2.1.2 4 _ rfl).1 ts.length (fun j => va_rf ((ts[j]?).bind (zrf ad)))) rfl (fun q => by cases q) (by show ¬ (j < 0 ∨ (arrV _ _ _).slots.size ≤ _); rw [arrV_size]; exact hin) (by show (arrV _ _ _).slots[_]? = _; rw [arrV_read _ _ hlt]) rfl rfl dg kk3
theorem zi_iast {w : List zDesc} {d : Nat} {mi : zMI} {Q : Option Value → zMem → Prop} {pc : Nat} {L : zLv} {S : List Value} {M : zMem} {i n k : Nat} {j x : Int32} (hw : w[i]? = some (.inl (0, n))) (hin : vp_in j n) (hk : j.toNatClampNeg = k) (dg : decode mi.2.1 pc = .ok (.iastore, 1))
    (kk : zRn w d mi Q (pc + 1) L S (zup M i k x)) : zRn w d mi Q pc L (.int x :: .int j :: .ref i :: S) M := by
  subst hk
  intro p l e s m args below meth c dC dI ad cA C H locs ls hP hS hl
  refine va_iast C.1 C.2.1 C.2.2.2.2.2.2.2.1 hP (zD cA M C.2.2.2.2.2.2.2.2.1) hS i 0 (zWs_at hw) rfl hin dg ?_
  intro H1 locs1 hP1 _ hS1
  have hP2 : va_P (dC, dI) vwCl (zWs w ad cA (zup M i j.toNatClampNeg x)) H1 := by
    rw [zup_eq, ← zWs_set hw]
    exact hP1
  exact kk p l e s m args below meth c dC dI ad cA C H1 locs1 ls hP2 hS1 hl
theorem zi_last {w : List zDesc} {d : Nat} {mi : zMI} {Q : Option Value → zMem → Prop} {pc : Nat} {L : zLv} {S : List Value} {M : zMem} {i n k : Nat} {j x : Int32} (hw : w[i]? = some (.inl (1, n))) (hin : vp_in j n) (hk : j.toNatClampNeg = k) (dg : decode mi.2.1 pc = .ok (.lastore, 1))
    (kk : zRn w d mi Q (pc + 1) L S (zup M i k x)) : zRn w d mi Q pc L (.long x.toInt64 :: .int j :: .ref i :: S) M := by
  subst hk
  intro p l e s m args below meth c dC dI ad cA C H locs ls hP hS hl
  refine va_last C.1 C.2.1 C.2.2.2.2.2.2.2.1 hP (zD cA M C.2.2.2.2.2.2.2.2.1) hS i 1 (zWs_at hw) rfl hin dg ?_
  intro H1 locs1 hP1 _ hS1
  have hP2 : va_P (dC, dI) vwCl (zWs w ad cA (zup M i j.toNatClampNeg x)) H1 := by
    rw [zup_eq, ← zWs_set hw]
    have e1 : vp_updL (fun j => (M i j).toInt64) j.toNatClampNeg x.toInt64 = fun k => (upd (M i) j.toNatClampNeg x k).toInt64 := by
      funext k
      by_cases hk : k = j.toNatClampNeg
      · simp [vp_updL, upd, hk]
      · simp [vp_updL, upd, hk]
    rw [e1] at hP1
    exact hP1
  exact kk p l e s m args below meth c dC dI ad cA C H1 locs1 ls hP2 hS1 hl
