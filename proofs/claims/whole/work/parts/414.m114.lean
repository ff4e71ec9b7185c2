/-! what is read can be run, and class and reference make the same of it -/
def qRunL (kn : Nat → Nat) : List Nat → List Nat → List Nat
  | [], l => l
  | x :: L, l => qRunL kn L (qOne kn x l)
theorem qRunL_app (kn : Nat → Nat) : ∀ (L1 L2 l : List Nat), qRunL kn (L1 ++ L2) l = qRunL kn L2 (qRunL kn L1 l)
  | [], _, _ => rfl
  | x :: L1, L2, l => qRunL_app kn L1 L2 (qOne kn x l)
def qTyL : List Nat → List Bool → Option (List Bool)
  | [], T => some T
  | x :: L, T => (qTy x T).bind (qTyL L)
theorem qTyL_app : ∀ (L1 L2 : List Nat) (T : List Bool), qTyL (L1 ++ L2) T = (qTyL L1 T).bind (qTyL L2)
  | [], _, _ => rfl
  | x :: L1, L2, T => by
    show (qTy x T).bind (qTyL (L1 ++ L2)) = ((qTy x T).bind (qTyL L1)).bind (qTyL L2)
    cases qTy x T with
    | none => rfl
    | some T1 => exact qTyL_app L1 L2 T1
theorem qRun_L {kn st : Nat → Nat} : ∀ (L : List Nat) (i : Nat) (l : List Nat), (∀ j, j < L.length → st (i + j) = L.getD j 0) → qRun kn st L.length i l = qRunL kn L l
  | [], _, _, _ => rfl
  | x :: L, i, l, h => by
    show qRun kn st L.length (i + 1) (qOne kn (st i) l) = qRunL kn L (qOne kn x l)
    rw [show st i = x from h 0 (Nat.zero_lt_succ _)]
    exact qRun_L L (i + 1) _ fun j hj => by
      rw [show i + 1 + j = i + (j + 1) by omega]
      exact h (j + 1) (Nat.succ_lt_succ hj)
theorem qTyRun_L {st : Nat → Nat} : ∀ (L : List Nat) (i : Nat) (T : List Bool), (∀ j, j < L.length → st (i + j) = L.getD j 0) → qTyRun st L.length i T = qTyL L T
  | [], _, _, _ => rfl
  | x :: L, i, T, h => by
    show (qTy (st i) T).bind (qTyRun st L.length (i + 1)) = (qTy x T).bind (qTyL L)
    rw [show st i = x from h 0 (Nat.zero_lt_succ _)]
    congr 1
    funext T1
    exact qTyRun_L L (i + 1) T1 fun j hj => by
      rw [show i + 1 + j = i + (j + 1) by omega]
      exact h (j + 1) (Nat.succ_lt_succ hj)
/-- the condition J is one truth b, on both sides -/
def gGo (n : Nat) (J : List gIt) : Prop := ∀ kn : Nat → Nat, ∃ b : Bool, (∀ B : List Bool, B.length + n ≤ 25 → cRunL kn (cRxs J) B = some (b :: B)) ∧ ∀ l : List Nat, qRunL kn (qRxs J) l = bN b :: l
def gTj (J : List gIt) : Prop := ∀ T : List Bool, qTyL (qRxs J) T = some (true :: T)
def gCd (J : List gIt) : Prop := (∀ t ∈ cRxs J, t.1 ≤ 6) ∧ ∀ x ∈ qRxs J, x < 100000
def gQ (n : Nat) : qRes → Prop
  | .inl _ => True
  | .inr q => gGo n q.2 ∧ gTj q.2 ∧ gCd q.2
theorem gGo_m {n m : Nat} {J : List gIt} (h : gGo n J) (hm : n ≤ m) : gGo m J := fun kn => by
  obtain ⟨b, h1, h2⟩ := h kn
  exact ⟨b, fun B hB => h1 B (by omega), h2⟩
theorem gQ_m {n m : Nat} {r : qRes} (h : gQ n r) (hm : n ≤ m) : gQ m r := by
  cases r with
  | inl f => exact trivial
  | inr q => exact ⟨gGo_m h.1 hm, h.2⟩
theorem qOne_v {kn : Nat → Nat} {a : Nat} {l : List Nat} (ha : a < 10005) : qOne kn a l = gVal kn a :: l := by
  unfold qOne gVal
  rw [if_pos (by omega)]
theorem zbind {α γ : Type} {x : α} {f : α → Option γ} : (some x).bind f = f x := rfl
theorem gGo_cmp {c a b : Nat} (hc : 4 ≤ c ∧ c ≤ 6) (ha : a < 10005) (hb : b < 10005) : gGo 1 [(c, a, b)] ∧ gTj [(c, a, b)] ∧ gCd [(c, a, b)] := by
  have e1 : cRxs [(c, a, b)] = [(c, a, b)] := by rw [cRxs_1]; exact if_neg (by dsimp only; omega)
  have e2 : qRxs [(c, a, b)] = [a, b, c + 10006] := by
    rw [qRxs_1]
    unfold qRx
    dsimp only
    rw [if_neg (by omega), if_neg (by omega), if_neg (by omega)]
  refine ⟨fun kn => ⟨gCmpB c (gVal kn a) (gVal kn b), fun B hB => ?_, fun l => ?_⟩, fun T => ?_, ?_, ?_⟩
  · rw [e1]
    show (cOne kn (c, a, b) B).bind (cRunL kn []) = _
    unfold cOne
    dsimp only
    rw [if_neg (by omega), if_neg (by omega), if_neg (by omega), if_pos ⟨by omega, hc.1, hc.2, ha, hb⟩]
    rfl
  · rw [e2]
    show qOne kn (c + 10006) (qOne kn b (qOne kn a l)) = _
    rw [qOne_v ha, qOne_v hb]
    unfold qOne
    rw [if_neg (by omega), if_neg (by omega)]
    dsimp only
    refine congrArg (fun z => z :: l) ?_
    rcases (show c = 4 ∨ c = 5 ∨ c = 6 by omega) with rfl | rfl | rfl <;> simp [qJoin, gCmpB, bN]
  · rw [e2]
    show (qTy a T).bind (fun T1 => (qTy b T1).bind (fun T2 => (qTy (c + 10006) T2).bind (qTyL []))) = _
    have f1 : ∀ x, x < 10005 → ∀ T, qTy x T = some (false :: T) := fun x hx T => if_pos (by omega)
    rw [f1 a ha, zbind, f1 b hb, zbind]
    unfold qTy
    rw [if_neg (by omega), if_neg (by omega), if_pos (by omega)]
    rfl
  · rw [e1]
    intro t ht
    rw [List.mem_singleton.mp ht]
    exact hc.2
  · rw [e2]
    intro x hx
    simp only [List.mem_cons, List.not_mem_nil, or_false] at hx
    omega
theorem qSide_lt {c s : Nat} (h : qSide c = some s) : s < 10005 := by
  rcases qSide_some h with h1 | h1 <;> omega
theorem gQ_cmp {β : Nat → Nat} {u p : Nat} : gQ 1 (qCmp β u p) := by
  unfold qCmp
  cases h1 : qSide (qTok β u p) with
  | none => exact trivial
  | some a =>
    dsimp only
    by_cases h2 : 20060 ≤ qTok β u (qNx β u p) ∧ qTok β u (qNx β u p) ≤ 20062
    · rw [if_pos h2]
      cases h3 : qSide (qTok β u (qNx β u (qNx β u p))) with
      | none => exact trivial
      | some b => exact gGo_cmp ⟨by omega, by omega⟩ (qSide_lt h1) (qSide_lt h3)
    · rw [if_neg h2]; exact trivial
def gNeg (k : Nat) (b : Bool) : Bool := if k % 2 = 1 then !b else b
theorem gNeg_s (k : Nat) (b : Bool) : gNeg k (!b) = gNeg (k + 1) b := by
  unfold gNeg
  by_cases h : k % 2 = 1
  · rw [if_pos h, if_neg (by omega), Bool.not_not]
  · rw [if_neg h, if_pos (by omega)]
theorem qRunL_rep {kn : Nat → Nat} {l : List Nat} : ∀ (k : Nat) (b : Bool), qRunL kn (List.replicate k 10015) (bN b :: l) = bN (gNeg k b) :: l
  | 0, b => rfl
  | k + 1, b => by
    rw [List.replicate_succ, ← gNeg_s, ← qRunL_rep k]
    show qRunL kn (List.replicate k 10015) (qOne kn 10015 (bN b :: l)) = _
    congr 1
    show (1 - bN b) :: l = _
    cases b <;> rfl
theorem qTyL_rep : ∀ (k : Nat) (T : List Bool), qTyL (List.replicate k 10015) (true :: T) = some (true :: T)
  | 0, _ => rfl
  | k + 1, T => by
    rw [List.replicate_succ]
    show (qTy 10015 (true :: T)).bind (qTyL (List.replicate k 10015)) = _
    exact qTyL_rep k T
theorem gQ_not {n k : Nat} {r : qRes} (h : gQ n r) : gQ n (gOne2 k r) := by
  cases r with
  | inl f => exact trivial
  | inr q =>
    obtain ⟨h1, h2, h3, h4⟩ := h
    refine ⟨fun kn => ?_, fun T => ?_, ?_, ?_⟩
    · obtain ⟨b, a1, a2⟩ := h1 kn
      refine ⟨gNeg k b, fun B hB => ?_, fun l => ?_⟩
      · rw [cRxs_app, cRxs_1, cRunL_app, a1 B hB]
        show cRunL kn (if k % 2 = 1 then [(1, 0, 0)] else []) (b :: B) = _
        unfold gNeg
        by_cases hk : k % 2 = 1
        · rw [if_pos hk, if_pos hk]; rfl
        · rw [if_neg hk, if_neg hk]; rfl
      · rw [qRxs_app, qRxs_1, qRunL_app, a2]
        exact qRunL_rep k b
    · rw [qRxs_app, qRxs_1, qTyL_app, h2]
      exact qTyL_rep k T
    · rw [cRxs_app, cRxs_1]
      intro t ht
      rcases List.mem_append.mp ht with ht | ht
      · exact h3 t ht
      · have ht2 : t ∈ (if k % 2 = 1 then [(1, 0, 0)] else [] : List gIt) := ht
        split at ht2
        · rw [List.mem_singleton.mp ht2]; decide
        · exact absurd ht2 List.not_mem_nil
    · rw [qRxs_app, qRxs_1]
      intro x hx
      rcases List.mem_append.mp hx with hx | hx
      · exact h4 x hx
      · have hx2 : x ∈ List.replicate k 10015 := hx
        rw [(List.mem_replicate.mp hx2).2]
        decide
theorem gQ_one {β : Nat → Nat} {u p n : Nat} {G : Nat → qRes} (hn : 1 ≤ n) (hG : ∀ p, gQ n (G p)) : gQ n (gOne β u G p) := by
  unfold gOne
  refine gQ_not ?_
  split
  · exact hG _
  · exact gQ_m gQ_cmp hn
theorem gQ_jn {n code : Nat} {J : List gIt} {r : qRes} (hc : code = 2 ∨ code = 3) (h1 : gGo (n + 1) J ∧ gTj J ∧ gCd J) (h2 : gQ n r) : gQ (n + 1) (gJn J code r) := by
  cases r with
  | inl f => exact trivial
  | inr q =>
    obtain ⟨a1, a2, a3, a4⟩ := h1
    obtain ⟨b1, b2, b3, b4⟩ := h2
    have e1 : cRx (code, 0, 0) = [(code, 0, 0)] := if_neg (by dsimp only; omega)
    have e2 : qRx (code, 0, 0) = [code + 10011] := by rcases hc with rfl | rfl <;> rfl
    refine ⟨fun kn => ?_, fun T => ?_, ?_, ?_⟩
    · obtain ⟨x, x1, x2⟩ := a1 kn
      obtain ⟨y, y1, y2⟩ := b1 kn
      refine ⟨if code = 2 then x && y else x || y, fun B hB => ?_, fun l => ?_⟩
      · rw [cRxs_app, cRxs_app, cRxs_1, cRunL_app, cRunL_app, x1 B hB]
        show (cRunL kn (cRxs q.2) (x :: B)).bind (cRunL kn (cRx (code, 0, 0))) = _
        rw [y1 (x :: B) (by rw [List.length_cons]; omega), e1]
        show (cOne kn (code, 0, 0) (y :: x :: B)).bind (cRunL kn []) = _
        rcases hc with rfl | rfl <;> rfl
      · rw [qRxs_app, qRxs_app, qRxs_1, qRunL_app, qRunL_app, x2, y2, e2]
        show qOne kn (code + 10011) (bN y :: bN x :: l) = _
        rcases hc with rfl | rfl
        · show qJoin 10013 (bN x) (bN y) :: l = _
          cases x <;> cases y <;> rfl
        · show qJoin 10014 (bN x) (bN y) :: l = _
          cases x <;> cases y <;> rfl
    · rw [qRxs_app, qRxs_app, qRxs_1, qTyL_app, qTyL_app, a2]
      show (qTyL (qRxs q.2) (true :: T)).bind (qTyL (qRx (code, 0, 0))) = _
      rw [b2, e2]
      rcases hc with rfl | rfl <;> rfl
    · rw [cRxs_app, cRxs_app, cRxs_1, e1]
      intro t ht
      rcases List.mem_append.mp ht with ht | ht
      · rcases List.mem_append.mp ht with ht | ht
        · exact a3 t ht
        · exact b3 t ht
      · rw [List.mem_singleton.mp ht]
        dsimp only
        omega
    · rw [qRxs_app, qRxs_app, qRxs_1, e2]
      intro x hx
      rcases List.mem_append.mp hx with hx | hx
      · rcases List.mem_append.mp hx with hx | hx
        · exact a4 x hx
        · exact b4 x hx
      · rw [List.mem_singleton.mp hx]
        omega
theorem gQ_loop {β : Nat → Nat} {u n t code : Nat} {F : Nat → qRes} (hc : code = 2 ∨ code = 3) (hF : ∀ p, gQ n (F p)) : ∀ c r, gQ (n + 1) r → gQ (n + 1) (gLoop β u F t code c r)
  | 0, _, h => h
  | c + 1, .inl f, _ => trivial
  | c + 1, .inr q, h => by
    show gQ (n + 1) (if qTok β u q.1 = t then gLoop β u F t code c (gJn q.2 code (F (qNx β u q.1))) else .inr q)
    split
    · exact gQ_loop hc hF c _ (gQ_jn hc h (hF _))
    · exact h
theorem gQ_all {β : Nat → Nat} {u p n : Nat} {G : Nat → qRes} (hn : 1 ≤ n) (hG : ∀ p, gQ n (G p)) : gQ (n + 1) (gAll β u G p) := gQ_loop (Or.inl rfl) (fun _ => gQ_one hn hG) 201 _ (gQ_m (gQ_one hn hG) (by omega))
theorem gQ_any {β : Nat → Nat} {u p n : Nat} {G : Nat → qRes} (hn : 1 ≤ n) (hG : ∀ p, gQ n (G p)) : gQ (n + 2) (gAny β u G p) := gQ_loop (Or.inr rfl) (fun _ => gQ_all hn hG) 201 _ (gQ_m (gQ_all hn hG) (by omega))
theorem gQ_grp {β : Nat → Nat} {u : Nat} : ∀ r p, gQ (1 + 2 * r) (gGrp β u r p)
  | 0, _ => trivial
  | r + 1, p => by
    show gQ (1 + 2 * (r + 1)) (gClo β u (gAny β u (gGrp β u r) (qNx β u p)))
    have h := gQ_any (β := β) (u := u) (p := qNx β u p) (by omega) (gQ_grp (β := β) (u := u) r)
    rw [show 1 + 2 * r + 2 = 1 + 2 * (r + 1) by omega] at h
    revert h
    generalize gAny β u (gGrp β u r) (qNx β u p) = x
    intro h
    cases x with
    | inl f => exact trivial
    | inr q =>
      show gQ (1 + 2 * (r + 1)) (if qTok β u q.1 = 20041 then .inr (qNx β u q.1, q.2) else .inl q.1)
      split
      · exact h
      · exact trivial
/-- a rule that can be run -/
def gRg (t : gRl) : Prop := t.1 ≤ 5 ∧ t.2.1 ≤ 2 ∧ (t.2.2 = [] ∨ (gGo 9 t.2.2 ∧ gTj t.2.2)) ∧ gCd t.2.2
theorem gCd_nil : gCd [] := ⟨fun t ht => absurd ht List.not_mem_nil, fun x hx => absurd hx List.not_mem_nil⟩
theorem gRg_sel {β : Nat → Nat} {u p : Nat} {q : Nat × List gIt} (h : gSel β u p = .inr q) : (q.2 = [] ∨ (gGo 9 q.2 ∧ gTj q.2)) ∧ gCd q.2 := by
  unfold gSel at h
  by_cases hc : qTok β u (qNx β u p) = 10009
  · rw [if_pos hc] at h
    have h3 := gQ_any (β := β) (u := u) (p := qNx β u (qNx β u p)) (n := 7) (by decide) (gQ_grp (β := β) (u := u) 3)
    rw [h] at h3
    exact ⟨Or.inr ⟨h3.1, h3.2.1⟩, h3.2.2⟩
  · rw [if_neg hc] at h
    have h2 := Sum.inr.inj h
    subst h2
    exact ⟨Or.inl rfl, gCd_nil⟩
theorem gRg_5 {A B C : Nat} {L : List gIt} {w : Nat × gRl} (e : (A, B, C, L) = w) (hB : B ≤ 5) (hC : C ≤ 2) (hL : (L = [] ∨ (gGo 9 L ∧ gTj L)) ∧ gCd L) : gRg w.2 := by
  subst e
  exact ⟨hB, hC, hL⟩
theorem gRule2_in {β : Nat → Nat} {u p : Nat} {q : Nat × List gIt} {w : Nat × gRl} (h : gRule2 β u p (.inr q) = .inr w) : 10006 ≤ qTok β u q.1 ∧ qTok β u q.1 ≤ 10008 := by
  unfold gRule2 at h
  dsimp only at h
  by_cases hc : 10006 ≤ qTok β u q.1 ∧ qTok β u q.1 ≤ 10008
  · exact hc
  · rw [if_neg hc] at h; cases h
theorem gRule_rg {β : Nat → Nat} {u p : Nat} {w : Nat × gRl} (h : gRule β u p = .inr w) : gRg w.2 := by
  by_cases hk : 10000 ≤ qTok β u p ∧ qTok β u p ≤ 10005
  · rw [gRule_s hk] at h
    cases hs : gSel β u p with
    | inl f => rw [hs] at h; exact (gR1 h).elim
    | inr q =>
      rw [hs] at h
      have h3 := gRule2_in h
      exact gRg_5 (gR3 h) (by omega) (by omega) (gRg_sel hs)
  · rw [gRule_n hk] at h; cases h
theorem gRule_le {β : Nat → Nat} {u p : Nat} (hβ : ∀ k, β k < 256) (hp : p ≤ u) {w : Nat × gRl} (h : gRule β u p = .inr w) : w.1 ≤ u := by
  by_cases hk : 10000 ≤ qTok β u p ∧ qTok β u p ≤ 10005
  · rw [gRule_s hk] at h
    have hf := gFit_sel hβ hp
    cases hs : gSel β u p with
    | inl f => rw [hs] at h; exact (gR1 h).elim
    | inr q =>
      have hs2 : (if qTok β u (qNx β u p) = 10009 then gAny β u (gGrp β u 3) (qNx β u (qNx β u p)) else (.inr (qNx β u p, []) : qRes)) = .inr q := hs
      rw [hs2] at hf
      rw [hs] at h
      rw [← (gR4 (gR3 h)).1]
      exact qNx_le (qNx_le hf.2)
  · rw [gRule_n hk] at h; cases h
theorem gRules_ok {β : Nat → Nat} {u : Nat} (hβ : ∀ k, β k < 256) : ∀ (c p : Nat) (R0 R : List gRl), p ≤ u → (∀ t ∈ R0, gRg t) → R0.length ≤ 8 → (gSteps R0).length ≤ p → gRules β u c p R0 = .inr R → (∀ t ∈ R, gRg t) ∧ R.length ≤ 8 ∧ (gSteps R).length ≤ u
  | 0, p, R0, R, _, _, _, _, h => by cases h
  | c + 1, p, R0, R, hp, h0, h8, hs, h => by
    rw [gRules] at h
    by_cases ht : qTok β u p = 30001
    · rw [if_pos ht] at h
      have e := Sum.inr.inj h
      subst e
      exact ⟨h0, h8, by omega⟩
    · rw [if_neg ht] at h
      by_cases h9 : R0.length = 8
      · rw [if_pos h9] at h; cases h
      · rw [if_neg h9] at h
        cases hg : gRule β u p with
        | inl f => rw [hg] at h; cases h
        | inr w =>
          rw [hg] at h
          have hfit := gFit_rule hβ hp hg
          refine gRules_ok hβ c w.1 (R0 ++ [w.2]) R (gRule_le hβ hp hg) ?_ ?_ ?_ h
          · intro t ht2
            rcases List.mem_append.mp ht2 with ht2 | ht2
            · exact h0 t ht2
            · rw [List.mem_singleton.mp ht2]; exact gRule_rg hg
          · rw [List.length_append]
            simp only [List.length_cons, List.length_nil]
            omega
          · rw [gSteps_app, List.length_append]
            omega
theorem gIn_ok {β : Nat → Nat} {u : Nat} (hβ : ∀ k, β k < 256) {R : List gRl} (h : gIn β u = .inr R) : (∀ t ∈ R, gRg t) ∧ R.length ≤ 8 ∧ (gSteps R).length ≤ u :=
  gRules_ok hβ 9 (qSk β u 0) [] R (qSk_le (Nat.zero_le u)) (fun t ht => absurd ht List.not_mem_nil) (Nat.zero_le _) (Nat.zero_le _) h
