/-! the law from its entry -/
theorem nk_L_7 : zNewOk R_law 7 11 16 RX11 TX11 tyX11 [1, 1, 1, 1, 0, 1, 1, 1, 0, 1, 1, 1, 1, 1, 1, 1] := ⟨rfl, uw_X11, fpq_X11.1, zm1 22 rfl rfl, zm1 23 rfl rfl, zm1 1 rfl rfl, by decide +kernel, by decide⟩
theorem nk_L_10 : zNewOk R_law 10 12 39 RX12 TX12 tyX12 [1, 1, 1, 0, 1, 1, 0, 1, 0, 0, 0, 0, 0, 0, 1, 1, 0, 0, 1, 1, 1, 0, 0, 0, 0, 1, 1, 0, 1, 0, 1, 1, 1, 1, 1, 1, 0, 0, 0] := ⟨rfl, uw_X12, fpq_X12.1, zm5 151 rfl rfl, zm5 152 rfl rfl, zm1 14 rfl rfl, by decide +kernel, by decide⟩
theorem li_L_9 : Cond.methodLink R_law 9 mX11_init.1 ∈ zTw ∧ Cond.instanceMethod mX11_init.1 ∈ zTw ∧ Cond.initialized mX11_init.1.cls ∈ zTw ∧ mX11_init.1.name = "<init>" ∧ mX11_init.2.2.2 = none := ⟨zm1 24 rfl rfl, zm1 25 rfl rfl, zm1 1 rfl rfl, rfl, rfl⟩
theorem li_L_12 : Cond.methodLink R_law 12 mX12_init.1 ∈ zTw ∧ Cond.instanceMethod mX12_init.1 ∈ zTw ∧ Cond.initialized mX12_init.1.cls ∈ zTw ∧ mX12_init.1.name = "<init>" ∧ mX12_init.2.2.2 = none := ⟨zm5 153 rfl rfl, zm5 154 rfl rfl, zm1 14 rfl rfl, rfl, rfl⟩
/-- a new object and its constructor, beside what is there -/
theorem zl_make {p : Program} {l : Launch} {e : Env} {s : State} {m : MethodId} {below : List Frame} {meth : Method} {c : Code} {b L : Nat} {xs : Nat → Int32} {dC : Nat → ClassId} {dI : Nat → Nat → Nat} {cA : Nat → ClassId} {adr : Nat → Nat} {W0 : va_W} {H : Heap} {locs : List Loc} {ls : Array Slot} {lv : zLv} {S : List Value} {k kS pc index index2 ci N mc ms : Nat} {C : String} {T : u_T} {ty : Nat → FieldType} {ks : List Nat} {mj : zMI} {R' : Room} {Q : List zDesc → zMem → Prop} {Z : State → Prop}
    (C0 : lw_At p s m meth c b L xs) (hK : va_K (dC, dI) vwCl (zTy cA) s) (hN : zNw s) (hq : zAq s) (hR : zRid adr (zLA s) s) (hP : va_P (dC, dI) vwCl W0 H) (hD : va_D (zLA s) W0) (hS : va_S (zLA s) s.heap H locs) (hl : lv_has ls 4 lv) (ok : zNewOk R_law index ci N C T ty ks) (lk : Cond.methodLink R_law index2 mj.1 ∈ zTw ∧ Cond.instanceMethod mj.1 ∈ zTw ∧ Cond.initialized mj.1.cls ∈ zTw ∧ mj.1.name = "<init>" ∧ mj.2.2.2 = none) (ce : zCe mj 0)
    (okc : zKo R' mc ms mj [.ref 0] [.inr (.inr (ci, ks))] (fun _ _ => 0) Q) (hRr : R'.cells = mc ∧ R'.slots = ms ∧ R'.frames + 1 ≤ room_1.frames ∧ 8 + (mj.2.2.1 + 11) + R'.locals ≤ room_1.locals) (hc : k + 1 + mc ≤ room_1.cells) (hs : kS + N + ms ≤ room_1.slots) (hS0 : S = [])
    (d0 : decode code pc = .ok (.new index, 3)) (d1 : decode code (pc + 3) = .ok (.dup, 1)) (d2 : decode code (pc + 3 + 1) = .ok (.invokespecial index2, 3))
    (kk : ∀ (w' : List zDesc) (M' : zMem) (ad' : Nat → Nat) (H' : Heap) (locs' : List Loc), Q w' M' → zInj w' ad' → (∀ i, 1000 ≤ i → ad' i = adr i) → (∀ i, i < w'.length → s.heap.size ≤ ad' i) → (∀ (i k : Nat) (x : Nat × va_E), i < w'.length → W0[k]? = some x → x.1 ≠ ad' i) → va_P (dC, dI) vwCl W0 H' → va_P (dC, dI) vwCl (zWs w' ad' cA M') H' → va_S (zLA s) s.heap H' locs' → W p l e room_1 s m #[Value.ref b] below meth c H' locs' (k + 1 + mc) (kS + N + ms) Z (F0 m (pc + 3 + 1 + 3) ls (.ref (ad' 0) :: S))) :
    W p l e room_1 s m #[Value.ref b] below meth c H locs k kS Z (F0 m pc ls S) := by
  subst hS0
  obtain ⟨hx, hb, hr, hml, hown, htl, hX, hbl, hlocks, hgv⟩ := id C0
  have hts : ∀ v ∈ zTw, v.before #[Value.ref b] s = true := fun v hv => htl v (zTw_in v hv)
  obtain ⟨o1, o2, o3, o4, o5, o6, o7, o8⟩ := ok
  obtain ⟨k1, k2, k3, k4, k5⟩ := lk
  refine va_new (fs := ks.mapIdx fun _ k => zF (fun _ => 0) k 0) hx hb hts o2 ty o3 hown (hts _ o4) (hts _ o5) (hts _ o6) hK hP hD hS (fun _ h => h) o1 o7 (by omega) (by omega) d0 ?_
  intro q H1 hP1 hD1 hS1
  refine lv_dup hx hb d1 rfl ?_
  have hat : (W0 ++ [(q, (.inr (ci, ks.mapIdx fun _ k => zF (fun _ => 0) k 0) : va_E))])[W0.length]? = some (q, .inr (ci, ks.mapIdx fun _ k => zF (fun _ => 0) k 0)) := by
    rw [List.getElem?_append_right (Nat.le_refl _), Nat.sub_self]; rfl
  have hlo : ∀ (k : Nat) (x : Nat × va_E), W0[k]? = some x → (W0 ++ [(q, (.inr (ci, ks.mapIdx fun _ k => zF (fun _ => 0) k 0) : va_E))])[k]? = some x := fun k x hx => by
    rw [List.getElem?_append_left (List.getElem?_eq_some_iff.mp hx).1]; exact hx
  have hPw : va_P (dC, dI) vwCl (zWs [.inr (.inr (ci, ks))] (zadd adr 0 q) cA (fun _ _ => 0)) H1 := fun j x hj => by
    have hj1 : j < 1 := (List.getElem?_eq_some_iff.mp hj).1
    have hj0 : j = 0 := by omega
    subst hj0
    cases hj
    have h := hP1 _ _ hat
    show va_at (dC, dI) vwCl (q, .inr (ci, ks.mapIdx fun _ k => zF (zadd adr 0 q) k 0)) H1
    rw [zF_01 o8 (zadd adr 0 q) (fun _ => 0)]
    exact h
  have hq0 : s.heap.size ≤ q := hD1.2 _ _ hat
  have hA0 : ∀ x, zAz [.inr (.inr (ci, ks))] (zadd adr 0 q) H1.size x → x = q ∨ H1.size ≤ x := fun x h => by
    rcases h with ⟨i, hi, rfl⟩ | h
    · have hi1 : i < 1 := hi
      have : i = 0 := by omega
      subst this
      exact .inl rfl
    · exact .inr h
  have hA1 : ∀ x, zAz [.inr (.inr (ci, ks))] (zadd adr 0 q) H1.size x → zLA s x := fun x h => by
    rcases hA0 x h with rfl | h
    · exact hq0
    · exact Nat.le_trans hS1.1 h
  have hW0 : ∀ (k : Nat) (x : Nat × va_E), W0[k]? = some x → x.1 < H1.size ∧ x.1 ≠ q := fun k x hx => ⟨(hP1 k x (hlo k x hx)).lt, fun g => Nat.ne_of_lt (List.getElem?_eq_some_iff.mp hx).1 (hD1.1 k W0.length _ _ (hlo k x hx) hat g)⟩
  have hcw : Cond.code mj.1 mj.2.1 mj.2.2.1 none ∈ zTw := by rw [← k5]; exact ce.1
  have hwd : zWd mj = Cond.code mj.1 mj.2.1 mj.2.2.1 none :: zTw := by unfold zWd; rw [k5]
  have hR1 : zRid (zadd adr 0 q) (zLA s) s := zRid.ext hR fun i hi => if_neg (by omega)
  have hrr : va_Run p l e room_1 s m #[Value.ref b] below meth c H1 locs (k + 1) (kS + N) mc ms (F0 m (pc + 3 + 1) ls [.ref q, .ref q]) [.ref q] (zKQ 1 dC dI (zadd adr 0 q) cA H1.size (zAz [.inr (.inr (ci, ks))] (zadd adr 0 q) H1.size) Q #[.ref q]) (zAz [.inr (.inr (ci, ks))] (zadd adr 0 q) H1.size) :=
    va_runI (As := []) (b := q) (ws := zWd mj) (rm := R') (nL := 4) ⟨hx, hb, hml, hown, hts⟩ (okc l dC dI (zadd adr 0 q) cA H1.size (fun i j hi hj _ => by
        have hi1 : i < 1 := hi
        have hj1 : j < 1 := hj
        omega) (by show 1 ≤ 1000; decide) (fun _ _ => rfl) (fun i d hd => by
        have hi1 : i < 1 := (List.getElem?_eq_some_iff.mp hd).1
        have : i = 0 := by omega
        subst this
        cases hd
        exact fun j x hx => ⟨by have := o8 x (List.mem_of_getElem? hx); show x < 1 + 2; omega, fun _ => rfl⟩))
      (cwI 0 hts (zGwd ce.1) hwd hRr.1 hRr.2.1 (hts _ k3) (hts _ k1) (hts _ k2) k4 ce.2.2 ⟨hRr.2.2.1, hRr.2.2.2⟩)
      ⟨zblindK, fun U hU hW2 => ⟨rfl, by rw [hU], by rw [hU]; exact hPw, va_K.moved hW2.alike hK, zNw.warm hW2 hN, (zRid.go hS1 hU hW2 hR1).narrow hA1, zAq.warm hW2 hq⟩⟩ rfl rfl hl.1 rfl (Nat.le_of_ble_eq_true rfl) d2 ⟨hc, hs⟩
  intro T hT Xs
  obtain ⟨v, st₀, t, T', Lc, h0, X', hLc, e1, e2, ⟨⟨w', M', ad', hv, hq', I', hp⟩, hz, hk⟩, st⟩ := hrr T hT Xs
  cases hv
  rw [h0] at hz hk
  have e0 : ad' 0 = q := I'.1 0 (.inl (by decide))
  have h := kk w' M' ad' T'.heap (locs ++ Lc) hq' I'.2.2.2.1 (fun i hi => (I'.1 i (.inr hi)).trans (if_neg (by omega))) (fun i hi => hA1 _ (I'.2.2.1 i hi)) (fun i k x hi hx => by
      rcases hA0 _ (I'.2.2.1 i hi) with g | g
      · rw [g]; exact (hW0 k x hx).2
      · exact fun g2 => absurd (hW0 k x hx).1 (by rw [g2]; exact Nat.not_lt.mpr g)) (by
      rw [e1]
      exact va_P.kept (H := H1) (fun k x hx => hP1 k x (hlo k x hx)) fun k x hx => hk _ (hW0 k x hx).1 (fun g => by
        rcases hA0 _ g with g | g
        · exact (hW0 k x hx).2 g
        · exact absurd (hW0 k x hx).1 (Nat.not_lt.mpr g))) (by rw [e1]; exact hp)
    ⟨Nat.le_trans hS1.1 (by rw [e1]; exact hz), fun x h1 h2 => by rw [e1, hk x (Nat.lt_of_lt_of_le h1 hS1.1) (fun g => h2 (hA1 x g))]; exact hS1.2.1 x h1 h2, fun x hx => by
      rcases List.mem_append.mp hx with h | h
      · exact hS1.2.2 x h
      · exact hA1 _ (hLc x h)⟩
  rw [e0] at h
  obtain ⟨t2, a1, b1⟩ := h T' rfl X'
  exact ⟨t2, st t2 a1, b1⟩
