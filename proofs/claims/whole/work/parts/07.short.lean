/-! shorter forms: results by sort, natural numbers -/
def zb (b : Bool) : Int32 := if b then nI 1 else nI 0
theorem zb_t : zb true = nI 1 := rfl
theorem zb_f : zb false = nI 0 := rfl
/-- answers x, writes nothing -/
def zOkI (w : List zDesc) (d : Nat) (mi : zMI) (as : List Value) (M : zMem) (x : Int32) : Prop := zOk w d mi as M (fun r M' => r = some (.int x) ∧ M' = M)
/-- answers a number, with P of it and of the cells behind -/
def zOkJ (w : List zDesc) (d : Nat) (mi : zMI) (as : List Value) (M : zMem) (P : Int32 → zMem → Prop) : Prop := zOk w d mi as M (fun r M' => ∃ x, r = some (.int x) ∧ P x M')
/-- answers nothing -/
def zOkV (w : List zDesc) (d : Nat) (mi : zMI) (as : List Value) (M : zMem) (P : zMem → Prop) : Prop := zOk w d mi as M (fun r M' => r = none ∧ P M')
/-- answers cell k -/
def zOkR (w : List zDesc) (d : Nat) (mi : zMI) (as : List Value) (M : zMem) (k : Nat) (P : zMem → Prop) : Prop := zOk w d mi as M (fun r M' => r = some (.ref k) ∧ P M')
abbrev zQI (M : zMem) (x : Int32) : Option Value → zMem → Prop := fun r M' => r = some (.int x) ∧ M' = M
abbrev zQJ (P : Int32 → zMem → Prop) : Option Value → zMem → Prop := fun r M' => ∃ x, r = some (.int x) ∧ P x M'
abbrev zQV (P : zMem → Prop) : Option Value → zMem → Prop := fun r M' => r = none ∧ P M'
abbrev zQR (k : Nat) (P : zMem → Prop) : Option Value → zMem → Prop := fun r M' => r = some (.ref k) ∧ P M'
theorem zOkI_J {w : List zDesc} {d : Nat} {mi : zMI} {as : List Value} {M : zMem} {x : Int32} (h : zOkI w d mi as M x) : zOkJ w d mi as M (fun y M' => y = x ∧ M' = M) := zOk_mono h (fun _ _ q => ⟨x, q.1, rfl, q.2⟩)
theorem zOkJ_mono {w : List zDesc} {d : Nat} {mi : zMI} {as : List Value} {M : zMem} {P P' : Int32 → zMem → Prop} (h : zOkJ w d mi as M P) (hp : ∀ x M', P x M' → P' x M') : zOkJ w d mi as M P' := zOk_mono h (fun _ M' q => by obtain ⟨x, a, b⟩ := q; exact ⟨x, a, hp x M' b⟩)
theorem zOkV_mono {w : List zDesc} {d : Nat} {mi : zMI} {as : List Value} {M : zMem} {P P' : zMem → Prop} (h : zOkV w d mi as M P) (hp : ∀ M', P M' → P' M') : zOkV w d mi as M P' := zOk_mono h (fun _ M' q => ⟨q.1, hp M' q.2⟩)
theorem zOkI_eq {w : List zDesc} {d : Nat} {mi : zMI} {as : List Value} {M : zMem} {x y : Int32} (h : zOkI w d mi as M x) (e : x = y) : zOkI w d mi as M y := e ▸ h
/-- the call at pc of method mi: as and S on the stack S0, mj is called -/
def zCall (w : List zDesc) (d : Nat) (mi : zMI) (pc : Nat) (S0 S : List Value) (M : zMem) (d' : Nat) (mj : zMI) (as : List Value) : Prop :=
  ∀ (Q Q' : Option Value → zMem → Prop) (L : zLv), zOk w d' mj as M Q' → (∀ (r : Option Value) (M' : zMem), Q' r M' → zRn w d mi Q (pc + 3) L (r.toList ++ S) M') → zRn w d mi Q pc L S0 M
section ZD
variable {w : List zDesc} {d : Nat} {mi : zMI} {Q : Option Value → zMem → Prop} {pc : Nat} {L : zLv} {S S0 : List Value} {M : zMem}
theorem zc_S {index d' n : Nat} {mj : zMI} {as : List Value} (lk : zLkS mi.1.cls index mj) (ce : zCe mj n) (dg : decode mi.2.1 pc = .ok (.invokestatic index, 3)) (hd : d' < d) (hn : as.length = n) (hS0 : as.reverse ++ S = S0) (hcat : (S.map fun v => v.category).sum ≤ 8) : zCall w d mi pc S0 S M d' mj as :=
  fun _ _ _ ok kk => zi_callS lk ce dg hd hn hS0 hcat ok kk
theorem zc_N {index d' n : Nat} {mj : zMI} {host : String} {as : List Value} (lk : zLkN mi.1.cls index mj host) (ce : zCe mj n) (dg : decode mi.2.1 pc = .ok (.invokestatic index, 3)) (hd : d' < d) (hn : as.length = n) (hS0 : as.reverse ++ S = S0) (hcat : (S.map fun v => v.category).sum ≤ 8) : zCall w d mi pc S0 S M d' mj as :=
  fun _ _ _ ok kk => zi_callSN lk ce dg hd hn hS0 hcat ok kk
theorem zc_V {index d' n b ci : Nat} {mj : zMI} {as : List Value} {ks : List Nat} {qC : vw_C} (lk : zLkV mi.1.cls index mj) (ce : zCe mj n) (hw : w[b]? = some (.inr (.inr (ci, ks)))) (hc : vwCl[ci]? = some qC) (hcl : mj.1.cls = qC.1) (dg : decode mi.2.1 pc = .ok (.invokevirtual index, 3)) (hd : d' < d) (hn : as.length = n) (hS0 : as.reverse ++ (.ref b :: S) = S0) (hcat : (S.map fun v => v.category).sum ≤ 8) : zCall w d mi pc S0 S M d' mj (.ref b :: as) :=
  fun _ _ _ ok kk => zi_callV lk ce hw hc hcl dg hd hn hS0 hcat ok kk
theorem zc_U {index d' n b ci : Nat} {mj : zMI} {as : List Value} {ks : List Nat} {qC : vw_C} {owner : String} {x : MethodName} (lk : zLkU mi.1.cls index qC.1 owner x mj) (ce : zCe mj n) (hw : w[b]? = some (.inr (.inr (ci, ks)))) (hc : vwCl[ci]? = some qC) (dg : decode mi.2.1 pc = .ok (.invokevirtual index, 3)) (hd : d' < d) (hn : as.length = n) (hS0 : as.reverse ++ (.ref b :: S) = S0) (hcat : (S.map fun v => v.category).sum ≤ 8) : zCall w d mi pc S0 S M d' mj (.ref b :: as) :=
  fun _ _ _ ok kk => zi_callU lk ce hw hc dg hd hn hS0 hcat ok kk
theorem zc_O {index d' n b ci : Nat} {mj : zMI} {as : List Value} {ks : List Nat} {qC : vw_C} {owner : String} {x : MethodName} (lk : zLkO mi.1.cls index qC.1 owner x mj) (ce : zCe mj n) (hw : w[b]? = some (.inr (.inr (ci, ks)))) (hc : vwCl[ci]? = some qC) (dg : decode mi.2.1 pc = .ok (.invokevirtual index, 3)) (hd : d' < d) (hn : as.length = n) (hS0 : as.reverse ++ (.ref b :: S) = S0) (hcat : (S.map fun v => v.category).sum ≤ 8) : zCall w d mi pc S0 S M d' mj (.ref b :: as) :=
  fun _ _ _ ok kk => zi_callO lk ce hw hc dg hd hn hS0 hcat ok kk
theorem zc_K {index d' n b ci : Nat} {mj : zMI} {as : List Value} {ks : List Nat} {qC : vw_C} (lk : zLkK mi.1.cls index mj) (ce : zCe mj n) (hw : w[b]? = some (.inr (.inr (ci, ks)))) (hc : vwCl[ci]? = some qC) (dg : decode mi.2.1 pc = .ok (.invokespecial index, 3)) (hd : d' < d) (hn : as.length = n) (hS0 : as.reverse ++ (.ref b :: S) = S0) (hcat : (S.map fun v => v.category).sum ≤ 8) : zCall w d mi pc S0 S M d' mj (.ref b :: as) :=
  fun _ _ _ ok kk => zi_callK lk ce hw hc dg hd hn hS0 hcat ok kk
theorem zcI {d' : Nat} {mj : zMI} {as : List Value} {x : Int32} (h : zCall w d mi pc S0 S M d' mj as) (ok : zOkI w d' mj as M x) (kk : zRn w d mi Q (pc + 3) L (.int x :: S) M) : zRn w d mi Q pc L S0 M :=
  h Q _ L ok (fun r M' q => by obtain ⟨rfl, rfl⟩ := q; exact kk)
theorem zcJ {d' : Nat} {mj : zMI} {as : List Value} {P : Int32 → zMem → Prop} (h : zCall w d mi pc S0 S M d' mj as) (ok : zOkJ w d' mj as M P) (kk : ∀ (x : Int32) (M' : zMem), P x M' → zRn w d mi Q (pc + 3) L (.int x :: S) M') : zRn w d mi Q pc L S0 M :=
  h Q _ L ok (fun r M' q => by obtain ⟨x, rfl, hp⟩ := q; exact kk x M' hp)
theorem zcV {d' : Nat} {mj : zMI} {as : List Value} {P : zMem → Prop} (h : zCall w d mi pc S0 S M d' mj as) (ok : zOkV w d' mj as M P) (kk : ∀ (M' : zMem), P M' → zRn w d mi Q (pc + 3) L S M') : zRn w d mi Q pc L S0 M :=
  h Q _ L ok (fun r M' q => by obtain ⟨rfl, hp⟩ := q; exact kk M' hp)
theorem zcR {d' k : Nat} {mj : zMI} {as : List Value} {P : zMem → Prop} (h : zCall w d mi pc S0 S M d' mj as) (ok : zOkR w d' mj as M k P) (kk : ∀ (M' : zMem), P M' → zRn w d mi Q (pc + 3) L (.ref k :: S) M') : zRn w d mi Q pc L S0 M :=
  h Q _ L ok (fun r M' q => by obtain ⟨rfl, hp⟩ := q; exact kk M' hp)
theorem zi_retI {x y : Int32} {ty : FieldType} (hr : mi.2.2.2 = some ty) (hn : narrow ty (.int y) = .int y) (dg : decode mi.2.1 pc = .ok (.ireturn, 1)) (h : y = x) : zRn w d mi (zQI M x) pc L [.int y] M := zi_iret hr hn dg ⟨by rw [h], rfl⟩
theorem zi_retJ {y : Int32} {P : Int32 → zMem → Prop} {ty : FieldType} (hr : mi.2.2.2 = some ty) (hn : narrow ty (.int y) = .int y) (dg : decode mi.2.1 pc = .ok (.ireturn, 1)) (h : P y M) : zRn w d mi (zQJ P) pc L [.int y] M := zi_iret hr hn dg ⟨y, rfl, h⟩
theorem zi_retV {P : zMem → Prop} (hr : mi.2.2.2 = none) (dg : decode mi.2.1 pc = .ok (.return_, 1)) (h : P M) : zRn w d mi (zQV P) pc L [] M := zi_vret hr dg ⟨rfl, h⟩
theorem zi_retR {k : Nat} {P : zMem → Prop} {cn : String} (hr : mi.2.2.2 = some (.object cn)) (dg : decode mi.2.1 pc = .ok (.areturn, 1)) (h : P M) : zRn w d mi (zQR k P) pc L [.ref k] M := zi_aret hr dg ⟨rfl, h⟩
theorem zi_top {x y : Int32} (h : x = y) (kk : zRn w d mi Q pc L (.int y :: S) M) : zRn w d mi Q pc L (.int x :: S) M := h ▸ kk
theorem zi_mem {M1 : zMem} (h : M = M1) (kk : zRn w d mi Q pc L S M1) : zRn w d mi Q pc L S M := h ▸ kk
theorem zi_sub {L2 : zLv} (ks : List Nat) (h : lv_pick L ks = L2) (kk : zRn w d mi Q pc L2 S M) : zRn w d mi Q pc L S M := by
  intro p l e s m args below meth c dC dI ad cA C H locs ls hP hS hl
  refine kk p l e s m args below meth c dC dI ad cA C H locs ls hP hS (lv_sub hl ks ?_)
  subst h
  simp only [lv_pick, zL, List.map_filterMap, List.getElem?_map]
theorem zi_iaddN {a b : Nat} (dg : decode mi.2.1 pc = .ok (.iadd, 1)) (kk : zRn w d mi Q (pc + 1) L (.int (nI (a + b)) :: S) M) : zRn w d mi Q pc L (.int (nI b) :: .int (nI a) :: S) M := zi_iadd dg (by rw [nI_add]; exact kk)
theorem zi_imulN {a b : Nat} (dg : decode mi.2.1 pc = .ok (.imul, 1)) (kk : zRn w d mi Q (pc + 1) L (.int (nI (a * b)) :: S) M) : zRn w d mi Q pc L (.int (nI b) :: .int (nI a) :: S) M := zi_imul dg (by rw [pk_mul]; exact kk)
theorem zi_isubN {a b : Nat} (h : b ≤ a) (dg : decode mi.2.1 pc = .ok (.isub, 1)) (kk : zRn w d mi Q (pc + 1) L (.int (nI (a - b)) :: S) M) : zRn w d mi Q pc L (.int (nI b) :: .int (nI a) :: S) M := zi_isub dg (by rw [pk_sub h]; exact kk)
theorem zi_idivN {a b : Nat} (ha : a < 2 ^ 31) (h0 : 0 < b) (hb : b < 2 ^ 31) (dg : decode mi.2.1 pc = .ok (.idiv, 1)) (kk : zRn w d mi Q (pc + 1) L (.int (nI (a / b)) :: S) M) : zRn w d mi Q pc L (.int (nI b) :: .int (nI a) :: S) M := zi_idiv dg (nI_ne0 h0 hb) (by rw [pk_div ha h0 hb]; exact kk)
theorem zi_iremN {a b : Nat} (ha : a < 2 ^ 31) (h0 : 0 < b) (hb : b < 2 ^ 31) (dg : decode mi.2.1 pc = .ok (.irem, 1)) (kk : zRn w d mi Q (pc + 1) L (.int (nI (a % b)) :: S) M) : zRn w d mi Q pc L (.int (nI b) :: .int (nI a) :: S) M := zi_irem dg (nI_ne0 h0 hb) (by rw [pk_rem ha h0 hb]; exact kk)
theorem zi_iincN {i a k : Nat} {n : Int} {L' : zLv} (dg : decode mi.2.1 pc = .ok (.iinc i n, 3)) (q : Nat) (hq : L[q]? = some (i, .int (nI a))) (hk : Int32.ofInt n = nI k) (hn : i < mi.2.2.1) (hL : (i, .int (nI (a + k))) :: L.filter (fun q => !(q.1 == i) && !(q.1 + 1 == i && q.2.category == 2)) = L') (kk : zRn w d mi Q (pc + 3) L' S M) : zRn w d mi Q pc L S M := zi_iinc dg q hq (by rw [hk, nI_add]) hn hL kk
theorem zi_ialdN {i n k : Nat} (hw : w[i]? = some (.inl (0, n))) (h : k < n) (hn : n < 2 ^ 31) (dg : decode mi.2.1 pc = .ok (.iaload, 1)) (kk : zRn w d mi Q (pc + 1) L (.int (M i k) :: S) M) : zRn w d mi Q pc L (.int (nI k) :: .ref i :: S) M := zi_iald hw (vp_in_nI h hn) (nI_clamp (by omega)) dg kk
theorem zi_caldN {i n k : Nat} (hw : w[i]? = some (.inl (2, n))) (h : k < n) (hn : n < 2 ^ 31) (dg : decode mi.2.1 pc = .ok (.caload, 1)) (kk : zRn w d mi Q (pc + 1) L (.int (M i k) :: S) M) : zRn w d mi Q pc L (.int (nI k) :: .ref i :: S) M := zi_cald hw (vp_in_nI h hn) (nI_clamp (by omega)) dg kk
theorem zi_laldN {i n k : Nat} (hw : w[i]? = some (.inl (1, n))) (h : k < n) (hn : n < 2 ^ 31) (dg : decode mi.2.1 pc = .ok (.laload, 1)) (kk : zRn w d mi Q (pc + 1) L (.long (M i k).toInt64 :: S) M) : zRn w d mi Q pc L (.int (nI k) :: .ref i :: S) M := zi_lald hw (vp_in_nI h hn) (nI_clamp (by omega)) dg kk
theorem zi_aaldN {i ck t k : Nat} {ts : List Nat} (hw : w[i]? = some (.inr (.inl (ck, ts)))) (hc : ck = 3 ∨ ck = 4) (ht : ts[k]? = some t) (hn : ts.length < 2 ^ 31) (dg : decode mi.2.1 pc = .ok (.aaload, 1)) (kk : zRn w d mi Q (pc + 1) L (.ref t :: S) M) (h5 : t < 2000 := by decide) : zRn w d mi Q pc L (.int (nI k) :: .ref i :: S) M := by
  have h : k < ts.length := (List.getElem?_eq_some_iff.mp ht).1
  exact zi_aald hw hc (vp_in_nI h hn) (by rw [nI_clamp (by omega)]; exact ht) dg kk h5
theorem zi_iastN {i n k : Nat} {x : Int32} (hw : w[i]? = some (.inl (0, n))) (h : k < n) (hn : n < 2 ^ 31) (dg : decode mi.2.1 pc = .ok (.iastore, 1)) (kk : zRn w d mi Q (pc + 1) L S (zup M i k x)) : zRn w d mi Q pc L (.int x :: .int (nI k) :: .ref i :: S) M := zi_iast hw (vp_in_nI h hn) (nI_clamp (by omega)) dg kk
theorem zi_lastN {i n k : Nat} {x : Int32} (hw : w[i]? = some (.inl (1, n))) (h : k < n) (hn : n < 2 ^ 31) (dg : decode mi.2.1 pc = .ok (.lastore, 1)) (kk : zRn w d mi Q (pc + 1) L S (zup M i k x)) : zRn w d mi Q pc L (.long x.toInt64 :: .int (nI k) :: .ref i :: S) M := zi_last hw (vp_in_nI h hn) (nI_clamp (by omega)) dg kk
theorem zi_icmpN_eq {a b : Nat} {off : Int} {tgt : Nat} (ha : a < 2 ^ 31) (hb : b < 2 ^ 31) (dg : decode mi.2.1 pc = .ok (.if_icmp .eq off, 3)) (ht : (pc : Int) + off = (tgt : Int)) (kt : a = b → zRn w d mi Q tgt L S M) (kf : a ≠ b → zRn w d mi Q (pc + 3) L S M) : zRn w d mi Q pc L (.int (nI b) :: .int (nI a) :: S) M := zi_icmp_eq dg ht (fun c => kt ((nI_eq ha hb).mp c)) (fun c => kf (fun q => c (q ▸ rfl)))
theorem zi_ifN_eq {a : Nat} {off : Int} {tgt : Nat} (ha : a < 2 ^ 31) (dg : decode mi.2.1 pc = .ok (.ifCond .eq off, 3)) (ht : (pc : Int) + off = (tgt : Int)) (kt : a = 0 → zRn w d mi Q tgt L S M) (kf : a ≠ 0 → zRn w d mi Q (pc + 3) L S M) : zRn w d mi Q pc L (.int (nI a) :: S) M := have hb : 0 < 2 ^ 31 := by decide
  zi_if_eq dg ht (fun c => kt ((nI_eq ha hb).mp c)) (fun c => kf (fun q => c (q ▸ rfl)))
theorem zi_icmpN_ne {a b : Nat} {off : Int} {tgt : Nat} (ha : a < 2 ^ 31) (hb : b < 2 ^ 31) (dg : decode mi.2.1 pc = .ok (.if_icmp .ne off, 3)) (ht : (pc : Int) + off = (tgt : Int)) (kt : a ≠ b → zRn w d mi Q tgt L S M) (kf : a = b → zRn w d mi Q (pc + 3) L S M) : zRn w d mi Q pc L (.int (nI b) :: .int (nI a) :: S) M := zi_icmp_ne dg ht (fun c => kt (fun q => c (q ▸ rfl))) (fun c => kf ((nI_eq ha hb).mp c))
theorem zi_ifN_ne {a : Nat} {off : Int} {tgt : Nat} (ha : a < 2 ^ 31) (dg : decode mi.2.1 pc = .ok (.ifCond .ne off, 3)) (ht : (pc : Int) + off = (tgt : Int)) (kt : a ≠ 0 → zRn w d mi Q tgt L S M) (kf : a = 0 → zRn w d mi Q (pc + 3) L S M) : zRn w d mi Q pc L (.int (nI a) :: S) M := have hb : 0 < 2 ^ 31 := by decide
  zi_if_ne dg ht (fun c => kt (fun q => c (q ▸ rfl))) (fun c => kf ((nI_eq ha hb).mp c))
theorem zi_icmpN_lt {a b : Nat} {off : Int} {tgt : Nat} (ha : a < 2 ^ 31) (hb : b < 2 ^ 31) (dg : decode mi.2.1 pc = .ok (.if_icmp .lt off, 3)) (ht : (pc : Int) + off = (tgt : Int)) (kt : a < b → zRn w d mi Q tgt L S M) (kf : b ≤ a → zRn w d mi Q (pc + 3) L S M) : zRn w d mi Q pc L (.int (nI b) :: .int (nI a) :: S) M := zi_icmp_lt dg ht (fun c => kt ((nI_ltI ha hb).mp c)) (fun c => kf (Nat.not_lt.mp fun q => c ((nI_ltI ha hb).mpr q)))
theorem zi_ifN_lt {a : Nat} {off : Int} {tgt : Nat} (ha : a < 2 ^ 31) (dg : decode mi.2.1 pc = .ok (.ifCond .lt off, 3)) (ht : (pc : Int) + off = (tgt : Int)) (kt : a < 0 → zRn w d mi Q tgt L S M) (kf : 0 ≤ a → zRn w d mi Q (pc + 3) L S M) : zRn w d mi Q pc L (.int (nI a) :: S) M := have hb : 0 < 2 ^ 31 := by decide
  zi_if_lt dg ht (fun c => kt ((nI_ltI ha hb).mp c)) (fun c => kf (Nat.not_lt.mp fun q => c ((nI_ltI ha hb).mpr q)))
theorem zi_icmpN_ge {a b : Nat} {off : Int} {tgt : Nat} (ha : a < 2 ^ 31) (hb : b < 2 ^ 31) (dg : decode mi.2.1 pc = .ok (.if_icmp .ge off, 3)) (ht : (pc : Int) + off = (tgt : Int)) (kt : b ≤ a → zRn w d mi Q tgt L S M) (kf : a < b → zRn w d mi Q (pc + 3) L S M) : zRn w d mi Q pc L (.int (nI b) :: .int (nI a) :: S) M := zi_icmp_ge dg ht (fun c => kt ((nI_leI hb ha).mp c)) (fun c => kf (Nat.not_le.mp fun q => c ((nI_leI hb ha).mpr q)))
theorem zi_ifN_ge {a : Nat} {off : Int} {tgt : Nat} (ha : a < 2 ^ 31) (dg : decode mi.2.1 pc = .ok (.ifCond .ge off, 3)) (ht : (pc : Int) + off = (tgt : Int)) (kt : 0 ≤ a → zRn w d mi Q tgt L S M) (kf : a < 0 → zRn w d mi Q (pc + 3) L S M) : zRn w d mi Q pc L (.int (nI a) :: S) M := have hb : 0 < 2 ^ 31 := by decide
  zi_if_ge dg ht (fun c => kt ((nI_leI hb ha).mp c)) (fun c => kf (Nat.not_le.mp fun q => c ((nI_leI hb ha).mpr q)))
theorem zi_icmpN_gt {a b : Nat} {off : Int} {tgt : Nat} (ha : a < 2 ^ 31) (hb : b < 2 ^ 31) (dg : decode mi.2.1 pc = .ok (.if_icmp .gt off, 3)) (ht : (pc : Int) + off = (tgt : Int)) (kt : b < a → zRn w d mi Q tgt L S M) (kf : a ≤ b → zRn w d mi Q (pc + 3) L S M) : zRn w d mi Q pc L (.int (nI b) :: .int (nI a) :: S) M := zi_icmp_gt dg ht (fun c => kt ((nI_ltI hb ha).mp c)) (fun c => kf (Nat.not_lt.mp fun q => c ((nI_ltI hb ha).mpr q)))
theorem zi_ifN_gt {a : Nat} {off : Int} {tgt : Nat} (ha : a < 2 ^ 31) (dg : decode mi.2.1 pc = .ok (.ifCond .gt off, 3)) (ht : (pc : Int) + off = (tgt : Int)) (kt : 0 < a → zRn w d mi Q tgt L S M) (kf : a ≤ 0 → zRn w d mi Q (pc + 3) L S M) : zRn w d mi Q pc L (.int (nI a) :: S) M := have hb : 0 < 2 ^ 31 := by decide
  zi_if_gt dg ht (fun c => kt ((nI_ltI hb ha).mp c)) (fun c => kf (Nat.not_lt.mp fun q => c ((nI_ltI hb ha).mpr q)))
theorem zi_icmpN_le {a b : Nat} {off : Int} {tgt : Nat} (ha : a < 2 ^ 31) (hb : b < 2 ^ 31) (dg : decode mi.2.1 pc = .ok (.if_icmp .le off, 3)) (ht : (pc : Int) + off = (tgt : Int)) (kt : a ≤ b → zRn w d mi Q tgt L S M) (kf : b < a → zRn w d mi Q (pc + 3) L S M) : zRn w d mi Q pc L (.int (nI b) :: .int (nI a) :: S) M := zi_icmp_le dg ht (fun c => kt ((nI_leI ha hb).mp c)) (fun c => kf (Nat.not_le.mp fun q => c ((nI_leI ha hb).mpr q)))
theorem zi_ifN_le {a : Nat} {off : Int} {tgt : Nat} (ha : a < 2 ^ 31) (dg : decode mi.2.1 pc = .ok (.ifCond .le off, 3)) (ht : (pc : Int) + off = (tgt : Int)) (kt : a ≤ 0 → zRn w d mi Q tgt L S M) (kf : 0 < a → zRn w d mi Q (pc + 3) L S M) : zRn w d mi Q pc L (.int (nI a) :: S) M := have hb : 0 < 2 ^ 31 := by decide
  zi_if_le dg ht (fun c => kt ((nI_leI ha hb).mp c)) (fun c => kf (Nat.not_le.mp fun q => c ((nI_leI ha hb).mpr q)))
theorem zi_ifB_eq {b : Bool} {off : Int} {tgt : Nat} (dg : decode mi.2.1 pc = .ok (.ifCond .eq off, 3)) (ht : (pc : Int) + off = (tgt : Int)) (kt : b = false → zRn w d mi Q tgt L S M) (kf : b = true → zRn w d mi Q (pc + 3) L S M) : zRn w d mi Q pc L (.int (zb b) :: S) M := zi_if_eq dg ht (fun c => kt (by cases b with | false => rfl | true => exact absurd c (by decide))) (fun c => kf (by cases b with | false => exact absurd rfl c | true => rfl))
theorem zi_ifB_ne {b : Bool} {off : Int} {tgt : Nat} (dg : decode mi.2.1 pc = .ok (.ifCond .ne off, 3)) (ht : (pc : Int) + off = (tgt : Int)) (kt : b = true → zRn w d mi Q tgt L S M) (kf : b = false → zRn w d mi Q (pc + 3) L S M) : zRn w d mi Q pc L (.int (zb b) :: S) M := zi_if_ne dg ht (fun c => kt (by cases b with | false => exact absurd rfl c | true => rfl)) (fun c => kf (by cases b with | false => rfl | true => exact absurd c (by decide)))
end ZD
theorem zne {x : Int32} {k : Nat} (hk : k < 2 ^ 31) (h : ¬ x = nI k) : x.toInt ≠ (k : Int) := fun e => h (Int32.toInt_inj.mp (by rw [nI_toInt hk]; exact e))
theorem zup_same (M : zMem) (i j : Nat) (x : Int32) : zup M i j x i = upd (M i) j x := if_pos rfl
theorem zup_other (M : zMem) {i a : Nat} (j : Nat) (x : Int32) (h : a ≠ i) : zup M i j x a = M a := if_neg h
theorem zupd_same (f : Nat → Int32) (j : Nat) (x : Int32) : upd f j x j = x := if_pos rfl
theorem zupd_other (f : Nat → Int32) {j k : Nat} (x : Int32) (h : k ≠ j) : upd f j x k = f k := if_neg h
