/-! several cells at once; rows of rows -/
section ZG
variable {R : Room} {mc ms : Nat} {mi : zMI} {n0 : Nat} {Q : List zDesc → zMem → Prop} {k kS pc : Nat} {L : zLv} {S : List Value} {w : List zDesc} {M : zMem}
def zaddL (ad : Nat → Nat) (n m : Nat) (qs : Nat → Nat) : Nat → Nat := fun i => if n ≤ i ∧ i < n + m then qs (i - n) else ad i
theorem zaddL_lo {ad qs : Nat → Nat} {n m i : Nat} (h : i < n) : zaddL ad n m qs i = ad i := if_neg (by omega)
theorem zaddL_hi {ad qs : Nat → Nat} {n m i : Nat} (h : n + m ≤ i) : zaddL ad n m qs i = ad i := if_neg (by omega)
theorem zaddL_at {ad qs : Nat → Nat} {n m j : Nat} (h : j < m) : zaddL ad n m qs (n + j) = qs j := (if_pos (by omega)).trans (congrArg qs (Nat.add_sub_cancel_left n j))
theorem zWs_pushL {ad : Nat → Nat} {cA : Nat → ClassId} {ds : List zDesc} {qs : Nat → Nat} (hc : zCls w M) : zWs (w ++ ds) (zaddL ad w.length ds.length qs) cA M = zWs w ad cA M ++ ds.mapIdx (fun j d => (qs j, zE (zaddL ad w.length ds.length qs) cA d (M (w.length + j)))) := by
  apply List.ext_getElem?
  intro j
  rcases Nat.lt_or_ge j w.length with h | h
  · have hj : w[j]? = some w[j] := List.getElem?_eq_getElem h
    have hj2 : (w ++ ds)[j]? = some w[j] := by rw [List.getElem?_append_left h]; exact hj
    rw [zWs_at hj2, List.getElem?_append_left (by rw [zWs_len]; exact h), zWs_at hj, zaddL_lo h, zE_ext (ad := ad) (ad' := zaddL ad w.length ds.length qs) (hc j _ hj) (fun i hi => zaddL_lo hi)]
  · rw [List.getElem?_append_right (by rw [zWs_len]; exact h), zWs_len, List.getElem?_mapIdx]
    cases hx : ds[j - w.length]? with
    | none =>
      have h2 := List.getElem?_eq_none_iff.mp hx
      exact List.getElem?_eq_none (by rw [zWs_len, List.length_append]; omega)
    | some x =>
      have h2 := (List.getElem?_eq_some_iff.mp hx).1
      have hj2 : (w ++ ds)[j]? = some x := by rw [List.getElem?_append_right h]; exact hx
      have e := zaddL_at (ad := ad) (qs := qs) (n := w.length) h2
      rw [show w.length + (j - w.length) = j by omega] at e
      rw [zWs_at hj2, e]
      show _ = some (qs (j - w.length), zE _ cA x (M (w.length + (j - w.length))))
      rw [show w.length + (j - w.length) = j by omega]
theorem zgrowL {p : Program} {s : State} {m : MethodId} {args : Array Value} {meth : Method} {c : Code} {dC : Nat → ClassId} {dI : Nat → Nat → Nat} {ad0 : Nat → Nat} {cA : Nat → ClassId} {A : Nat → Prop} (C : zGx mi p s m args meth c dC dI n0 ad0 cA A) {ad : Nat → Nat} (I : zIn n0 ad0 A s.heap.size w M ad) {ds : List zDesc} {qs : Nat → Nat} {ES : va_W} {H1 : Heap} (he : ES = ds.mapIdx (fun j d => (qs j, zE (zaddL ad w.length ds.length qs) cA d (fun _ => 0)))) (hd : ∀ d ∈ ds, zCk (w.length + ds.length) d (fun _ => 0)) (hl : w.length + ds.length ≤ 1000)
    (hP : va_P (dC, dI) vwCl (zWs w ad cA M ++ ES) H1) (hD : va_D A (zWs w ad cA M ++ ES)) : zIn n0 ad0 A s.heap.size (w ++ ds) M (zaddL ad w.length ds.length qs) ∧ va_P (dC, dI) vwCl (zWs (w ++ ds) (zaddL ad w.length ds.length qs) cA M) H1 := by
  obtain ⟨i1, i2, i3, i4, i5, i6, i7, i8⟩ := I
  have len : (w ++ ds).length = w.length + ds.length := List.length_append
  have hlo : ∀ j (h : j < w.length), (zWs w ad cA M ++ ES)[j]? = some (ad j, zE ad cA w[j] (M j)) := fun j h => by
    rw [List.getElem?_append_left (by rw [zWs_len]; exact h), zWs_at (List.getElem?_eq_getElem h)]
  have hhi : ∀ j (h : j < ds.length), (zWs w ad cA M ++ ES)[w.length + j]? = some (qs j, zE (zaddL ad w.length ds.length qs) cA ds[j] (fun _ => 0)) := fun j h => by
    rw [List.getElem?_append_right (by rw [zWs_len]; omega), zWs_len, Nat.add_sub_cancel_left, he, List.getElem?_mapIdx, List.getElem?_eq_getElem h]
    rfl
  have hne : ∀ i j, i < w.length → j < ds.length → ad i ≠ qs j := fun i j h1 h2 g => absurd (hD.1 i (w.length + j) _ _ (hlo i h1) (hhi j h2) g) (by omega)
  have hqq : ∀ i j, i < ds.length → j < ds.length → qs i = qs j → i = j := fun i j h1 h2 g => by
    have := hD.1 (w.length + i) (w.length + j) _ _ (hhi i h1) (hhi j h2) g
    omega
  have hA : ∀ j, j < ds.length → A (qs j) := fun j h => hD.2 _ _ (hhi j h)
  have sp : ∀ i, i < w.length + ds.length → i < w.length ∨ ∃ j, j < ds.length ∧ i = w.length + j := fun i hi => by
    rcases Nat.lt_or_ge i w.length with h | h
    · exact .inl h
    · exact .inr ⟨i - w.length, by omega, by omega⟩
  refine ⟨⟨fun i hi => ?_, fun i h1 h2 => ?_, fun i hi => ?_, fun i j hi hj g => ?_, by rw [len]; exact hl, fun i hi => i6 i (by rw [len] at hi; omega), fun i d' hi => ?_, by rw [len]; omega⟩, ?_⟩
  · rw [← i1 i hi]
    rcases hi with h | h
    · exact zaddL_lo (by omega)
    · exact zaddL_hi (by omega)
  · rw [len] at h2
    rcases sp i h2 with h | ⟨j, h, rfl⟩
    · rw [zaddL_lo h]; exact i2 i h1 h
    · rw [zaddL_at h]
      rcases C.2.2.2.2.2.2.2.2.2.2.2.2.2 _ (hA j h) with ⟨a, ha, e⟩ | g
      · exact absurd (i1 a (.inl ha)) (fun e2 => hne a j (Nat.lt_of_lt_of_le ha i8) h (e2.trans e.symm))
      · exact g
  · rw [len] at hi
    rcases sp i hi with h | ⟨j, h, rfl⟩
    · rw [zaddL_lo h]; exact i3 i h
    · rw [zaddL_at h]; exact hA j h
  · rw [len] at hi hj
    rcases sp i hi with h | ⟨a, h, rfl⟩ <;> rcases sp j hj with h' | ⟨b, h', rfl⟩
    · rw [zaddL_lo h, zaddL_lo h'] at g; exact i4 i j h h' g
    · rw [zaddL_lo h, zaddL_at h'] at g; exact absurd g (hne i b h h')
    · rw [zaddL_at h, zaddL_lo h'] at g; exact absurd g.symm (hne j a h' h)
    · rw [zaddL_at h, zaddL_at h'] at g; rw [hqq a b h h' g]
  · rw [len]
    rcases Nat.lt_or_ge i w.length with h | h
    · rw [List.getElem?_append_left h] at hi
      exact zCk_up (i7 i d' hi) (Nat.le_add_right _ _)
    · rw [List.getElem?_append_right h] at hi
      rw [i6 i h]
      exact hd d' (List.mem_of_getElem? hi)
  · rw [zWs_pushL i7]
    have e : (ds.mapIdx fun j d => (qs j, zE (zaddL ad w.length ds.length qs) cA d (M (w.length + j)))) = ES := by
      rw [he]
      apply List.ext_getElem?
      intro j
      rw [List.getElem?_mapIdx, List.getElem?_mapIdx]
      cases hx : ds[j]? with
      | none => rfl
      | some x => rw [i6 (w.length + j) (Nat.le_add_right _ _)]
    rw [e]; exact hP
/-- new long[4][40] -/
theorem zg_mna {index : Nat} (h1 : Cond.classLink mi.1.cls index "[[J" ∈ zTw) (harr : Cond.arrayClass .long ∈ zTw) (dg : decode mi.2.1 pc = .ok (.multianewarray index 2, 4)) (hc : k + 5 ≤ R.cells) (hs : kS + (4 + 160) ≤ R.slots) (hL : ∀ v ∈ L, zLow w.length v.2) (hS0 : ∀ v ∈ S, zLow w.length v) (hl1 : w.length + 5 ≤ 1000)
    (kk : zGn R mc ms mi n0 Q (k + 5) (kS + 164) (pc + 4) L (.ref w.length :: S) (w ++ [.inr (.inl (4, [w.length + 1, w.length + 2, w.length + 3, w.length + 4])), .inl (1, 40), .inl (1, 40), .inl (1, 40), .inl (1, 40)]) M) : zGn R mc ms mi n0 Q k kS pc L (.int (nI 40) :: .int (nI 4) :: S) w M := by
  intro p l e s m args below meth c dC dI cA A ad0 C ad H locs ls I hP hS hl
  have hK := C.2.2.2.2.2.2.2.1
  have hW := C.2.2.2.2.2.1
  have hD := zDA cA M I.2.2.2.1 I.2.2.1
  have hcy : s.vm.findClass (FieldType.array .long).toString = some (cA 1) := (hK.2 1 (cA 1, .long) rfl).2
  refine va_mna (ty := .long) (cy := cA 1) (X := zWs w ad cA M) (L := []) (f := fun _ => .inl (0, 0, .inl (fun _ => 0))) (N' := 4) (K' := 40) (z := (40, .inr (.inl (fun _ => 0)))) C.1 C.2.1 C.2.2.2.2.1 (hW _ h1) C.2.2.2.2.2.2.2.2.2.2.1.2.1 (hW _ harr) hcy hK (by rw [show va_pl [] (fun _ => (.inl (0, 0, .inl (fun _ => 0)) : va_E)) = [] from rfl, List.append_nil]; exact hP) (by rw [show va_pl [] (fun _ => (.inl (0, 0, .inl (fun _ => 0)) : va_E)) = [] from rfl, List.append_nil]; exact hD) hS C.2.2.2.2.2.2.2.2.2.2.2.1 (by decide) (by decide) (by decide) (by decide) (by decide) (by decide) (by decide) rfl rfl (by omega) (by omega) (fun c => ?_) dg ?_
  · rw [vp_cell_l, ← arrV_new]; rfl
  · intro q r cB H1 hrr hrn hK1 hP1 hD1 hS1
    have ec : cB = cA 4 := Option.some.inj (((hK1.2 5 (cB, .array .long) rfl).2 : s.vm.findClass _ = some cB).symm.trans ((hK.2 4 (cA 4, .array .long) rfl).2 : s.vm.findClass _ = some (cA 4)))
    subst ec
    have eR : (zWs w ad cA M ++ [(q, (.inl (cA 4, 4, .inr (.inr (.inr (.inr (fun i => if i < 4 then some (r i) else none))))) : va_E))]) ++ va_pl ([] ++ (List.range 4).map r) (vr_up (fun _ => (.inl (0, 0, .inl (fun _ => 0)) : va_E)) ((List.range 4).map r) (.inl (cA 1, (40, .inr (.inl (fun _ => 0)))))) = zWs w ad cA M ++ [(q, (.inl (cA 4, 4, .inr (.inr (.inr (.inr (fun i => if i < 4 then some (r i) else none))))) : va_E)), (r 0, .inl (cA 1, (40, .inr (.inl (fun _ => 0))))), (r 1, .inl (cA 1, (40, .inr (.inl (fun _ => 0))))), (r 2, .inl (cA 1, (40, .inr (.inl (fun _ => 0))))), (r 3, .inl (cA 1, (40, .inr (.inl (fun _ => 0)))))] := by
      have hm : ∀ i, i < 4 → r i ∈ (List.range 4).map r := fun i hi => List.mem_map_of_mem (List.mem_range.mpr hi)
      rw [List.append_assoc]
      refine congrArg (zWs w ad cA M ++ ·) ?_
      show _ :: [(r 0, vr_up _ _ _ (r 0)), (r 1, vr_up _ _ _ (r 1)), (r 2, vr_up _ _ _ (r 2)), (r 3, vr_up _ _ _ (r 3))] = _
      rw [vr_up_in (hm 0 (by decide)), vr_up_in (hm 1 (by decide)), vr_up_in (hm 2 (by decide)), vr_up_in (hm 3 (by decide))]
    rw [eR] at hP1 hD1
    obtain ⟨I2, hP2⟩ := zgrowL C I (ds := [.inr (.inl (4, [w.length + 1, w.length + 2, w.length + 3, w.length + 4])), .inl (1, 40), .inl (1, 40), .inl (1, 40), .inl (1, 40)]) (qs := fun j => if j = 0 then q else r (j - 1)) (by
        have hz := I.2.2.2.2.1
        have g : ∀ j, j < 4 → zrf (zaddL ad w.length 5 (fun j => if j = 0 then q else r (j - 1))) (w.length + (j + 1)) = some (r j) := fun j hj => by
          unfold zrf
          rw [if_pos (by omega), zaddL_at (by omega), if_neg (by omega)]
          rfl
        have e3 : (fun j => (([w.length + 1, w.length + 2, w.length + 3, w.length + 4] : List Nat)[j]?).bind (zrf (zaddL ad w.length 5 (fun j => if j = 0 then q else r (j - 1))))) = fun i => if i < 4 then some (r i) else none := funext fun (j : Nat) => by
          match j with
          | 0 => exact g 0 (by decide)
          | 1 => exact g 1 (by decide)
          | 2 => exact g 2 (by decide)
          | 3 => exact g 3 (by decide)
          | j + 4 => exact (if_neg (by omega)).symm
        rw [← e3]
        rfl) (fun d hd => by
        simp only [List.mem_cons, List.not_mem_nil, or_false] at hd
        rcases hd with rfl | rfl | rfl | rfl | rfl
        · intro t ht
          simp only [List.mem_cons, List.not_mem_nil, or_false] at ht
          exact .inl (by show t < w.length + 5; omega)
        all_goals trivial) hl1 hP1 hD1
    have h := kk p l e s m args below meth c dC dI cA A ad0 C _ H1 locs ls I2 hP2 hS1 (by
      rw [show zL (zaddL ad w.length _ _) L = zL ad L from List.map_congr_left fun v hv => by
        rw [show zT (zaddL ad w.length _ _) v.2 = zT ad v.2 from by
          have hv2 := hL v hv
          cases hx : v.2 with
          | ref i => exact congrArg Value.ref (zaddL_lo (hv2 i hx))
          | _ => rfl]]
      exact hl)
    have eS : S.map (zT (zaddL ad w.length 5 (fun j => if j = 0 then q else r (j - 1)))) = S.map (zT ad) := List.map_congr_left fun v hv => by
      have hv2 := hS0 v hv
      cases hx : v with
      | ref i => exact congrArg Value.ref (zaddL_lo (hv2 i hx))
      | _ => rfl
    have e1 : zT (zaddL ad w.length 5 (fun j => if j = 0 then q else r (j - 1))) (.ref w.length) = .ref q := congrArg Value.ref (zaddL_at (j := 0) (by decide))
    have h2 : W p l e R s m args below meth c H1 locs (k + 5) (kS + 164) (MQ below (zKQ n0 dC dI ad0 cA s.heap.size A Q) args s mc ms A) (F0 m (pc + 4) ls ((Value.ref w.length :: S).map (zT (zaddL ad w.length 5 (fun j => if j = 0 then q else r (j - 1)))))) := h
    rw [List.map_cons, eS, e1] at h2
    exact h2
end ZG
/-! the world with cell b become ds, news behind it -/
def zNF (w : List zDesc) (b : Nat) (ds : zDesc) (news : List zDesc) : List zDesc := (w ++ news).set b ds
theorem zNF_len (w : List zDesc) (b : Nat) (ds : zDesc) (news : List zDesc) : (zNF w b ds news).length = w.length + news.length := by
  unfold zNF
  rw [List.length_set, List.length_append]
theorem zNF_b {w : List zDesc} {b : Nat} {ds : zDesc} {news : List zDesc} (hb : b < w.length) : (zNF w b ds news)[b]? = some ds :=
  List.getElem?_set_self (by rw [List.length_append]; omega)
theorem zNF_n {w : List zDesc} {b j : Nat} {ds x : zDesc} {news : List zDesc} (hb : b < w.length) (h : news[j]? = some x) : (zNF w b ds news)[w.length + j]? = some x := by
  unfold zNF
  rw [List.getElem?_set_ne (by omega), List.getElem?_append_right (by omega), Nat.add_sub_cancel_left]
  exact h
theorem zNF_app {w : List zDesc} {b : Nat} {ds : zDesc} {news t : List zDesc} (hb : b < w.length) : zNF w b ds news ++ t = zNF w b ds (news ++ t) := by
  show (w ++ news).set b ds ++ t = (w ++ (news ++ t)).set b ds
  rw [← List.append_assoc w news t]
  exact (List.set_append_left b ds (show b < (w ++ news).length by rw [List.length_append]; omega)).symm
theorem zNF_setb {w : List zDesc} {b : Nat} {ds d' : zDesc} {news : List zDesc} : (zNF w b ds news).set b d' = zNF w b d' news := by
  unfold zNF
  rw [List.set_set]
theorem zNF_setn {w : List zDesc} {b j : Nat} {ds d' : zDesc} {news : List zDesc} (hb : b < w.length) : (zNF w b ds news).set (w.length + j) d' = zNF w b ds (news.set j d') := by
  unfold zNF
  rw [List.set_comm _ _ (by omega), List.set_append_right _ _ (by omega), Nat.add_sub_cancel_left]
theorem zNF_sub {w : List zDesc} {b j : Nat} {ds d' : zDesc} {news news2 : List zDesc} (hb : b < w.length) : zNF (zNF w b ds news) (w.length + j) d' news2 = zNF w b ds ((news ++ news2).set j d') := by
  rw [show zNF (zNF w b ds news) (w.length + j) d' news2 = (zNF w b ds news ++ news2).set (w.length + j) d' from rfl, zNF_app hb, zNF_setn hb]
theorem zNF_0 {w : List zDesc} {b : Nat} {d : zDesc} (h : w[b]? = some d) : w = zNF w b d [] := by
  unfold zNF
  rw [List.append_nil]
  apply List.ext_getElem?
  intro j
  by_cases hj : j = b
  · subst hj
    rw [List.getElem?_set_self (List.getElem?_eq_some_iff.mp h).1, h]
  · rw [List.getElem?_set_ne (fun q => hj q.symm)]
