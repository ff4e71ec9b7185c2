/-! the law's walk: class and reference in one heap -/
abbrev zPar : Type := Program × Launch × Env × State × MethodId × List Frame × Method × Code × Nat × Nat × (Nat → Int32) × (Nat → Nat) × (Nat → Nat) × (Nat → ClassId) × (Nat → ClassId) × (Nat → Nat → Nat) × Nat × Nat
abbrev zPar.p (P : zPar) : Program := P.1
abbrev zPar.l (P : zPar) : Launch := P.2.1
abbrev zPar.e (P : zPar) : Env := P.2.2.1
abbrev zPar.s (P : zPar) : State := P.2.2.2.1
abbrev zPar.m (P : zPar) : MethodId := P.2.2.2.2.1
abbrev zPar.below (P : zPar) : List Frame := P.2.2.2.2.2.1
abbrev zPar.meth (P : zPar) : Method := P.2.2.2.2.2.2.1
abbrev zPar.c (P : zPar) : Code := P.2.2.2.2.2.2.2.1
abbrev zPar.b (P : zPar) : Nat := P.2.2.2.2.2.2.2.2.1
abbrev zPar.L (P : zPar) : Nat := P.2.2.2.2.2.2.2.2.2.1
abbrev zPar.xs (P : zPar) : (Nat → Int32) := P.2.2.2.2.2.2.2.2.2.2.1
abbrev zPar.ad0 (P : zPar) : (Nat → Nat) := P.2.2.2.2.2.2.2.2.2.2.2.1
abbrev zPar.ad1 (P : zPar) : (Nat → Nat) := P.2.2.2.2.2.2.2.2.2.2.2.2.1
abbrev zPar.cA (P : zPar) : (Nat → ClassId) := P.2.2.2.2.2.2.2.2.2.2.2.2.2.1
abbrev zPar.dC (P : zPar) : (Nat → ClassId) := P.2.2.2.2.2.2.2.2.2.2.2.2.2.2.1
abbrev zPar.dI (P : zPar) : (Nat → Nat → Nat) := P.2.2.2.2.2.2.2.2.2.2.2.2.2.2.2.1
abbrev zPar.k (P : zPar) : Nat := P.2.2.2.2.2.2.2.2.2.2.2.2.2.2.2.2.1
abbrev zPar.kS (P : zPar) : Nat := P.2.2.2.2.2.2.2.2.2.2.2.2.2.2.2.2.2
def zLA (s : State) : Nat → Prop := fun q => s.heap.size ≤ q
def zLx (P : zPar) : Prop := lw_At P.p P.s P.m P.meth P.c P.b P.L P.xs ∧ va_K (P.dC, P.dI) vwCl (zTy P.cA) P.s ∧ zNw P.s ∧ zRid P.ad0 (zLA P.s) P.s ∧ zRid P.ad1 (zLA P.s) P.s ∧ zInj zw0 P.ad0 ∧ zInj zw1 P.ad1 ∧ (∀ i, i < zw0.length → P.s.heap.size ≤ P.ad0 i) ∧ (∀ i, i < zw1.length → P.s.heap.size ≤ P.ad1 i) ∧ (∀ i j, i < zw0.length → j < zw1.length → P.ad0 i ≠ P.ad1 j) ∧ P.k ≤ 600000 ∧ P.kS ≤ 7302249 ∧ P.L ≤ 2560
def zLl (P : zPar) (i : Nat) : zLv := [(3, .int (nI i)), (2, .ref (P.ad1 0)), (1, .ref (P.ad0 0)), (0, .ref P.b)]
/-- from place pc of the law, the loop's variable being i, it comes to its end with true -/
def zLn (P : zPar) (pc : Nat) (S : List Value) (i : Nat) (M N : zMem) : Prop :=
  ∀ (H : Heap) (locs : List Loc) (ls : Array Slot), va_P (P.dC, P.dI) vwCl (zWs zw0 P.ad0 P.cA M) H → va_P (P.dC, P.dI) vwCl (zWs zw1 P.ad1 P.cA N) H → va_S (zLA P.s) P.s.heap H locs → lv_has ls 4 (zLl P i) →
    W P.p P.l P.e room_1 P.s P.m #[Value.ref P.b] P.below P.meth P.c H locs P.k P.kS (lw_Z P.below #[Value.ref P.b] P.s) (F0 P.m pc ls S)
section ZLAW
variable {P : zPar} {pc i : Nat} {S : List Value} {M N : zMem}
theorem zLx.tw (X : zLx P) : ∀ v ∈ zTw, v.before #[Value.ref P.b] P.s = true := fun v hv => X.1.2.2.2.2.2.1 v (zTw_in v hv)
theorem zl_x (X : zLx P) (dg : decode code pc = .ok (.aload_n 1, 1)) (kk : zLn P (pc + 1) (.ref (P.ad0 0) :: S) i M N) : zLn P pc S i M N := by
  intro H locs ls h0 h1 hS hl
  exact lv_aload_n X.1.1 X.1.2.1 dg (i := 1) rfl (lv_at hl 2 rfl) (kk H locs ls h0 h1 hS hl)
theorem zl_m (X : zLx P) (dg : decode code pc = .ok (.aload_n 2, 1)) (kk : zLn P (pc + 1) (.ref (P.ad1 0) :: S) i M N) : zLn P pc S i M N := by
  intro H locs ls h0 h1 hS hl
  exact lv_aload_n X.1.1 X.1.2.1 dg (i := 2) rfl (lv_at hl 1 rfl) (kk H locs ls h0 h1 hS hl)
/-- script[i + j] -/
theorem zl_arg (X : zLx P) {j : Nat} {n : Int} (hj : Int32.ofInt n = nI j) (hL : i + j < P.L) (d0 : decode code pc = .ok (.aload_n 0, 1)) (d1 : decode code (pc + 1) = .ok (.iload_n 3, 1)) (d2 : decode code (pc + 2) = .ok (.iconst n, 1)) (d3 : decode code (pc + 3) = .ok (.iadd, 1)) (d4 : decode code (pc + 4) = .ok (.iaload, 1)) (kk : zLn P (pc + 5) (.int (P.xs (i + j)) :: S) i M N) : zLn P pc S i M N := by
  intro H locs ls h0 h1 hS hl
  have hx := X.1.1
  have hb := X.1.2.1
  have hLL := X.2.2.2.2.2.2.2.2.2.2.2.2
  have kk2 := kk H locs ls h0 h1 hS hl
  refine lv_aload_n hx hb d0 (i := 0) rfl (lv_at hl 3 rfl) ?_
  refine lv_iload_n hx hb d1 (i := 3) rfl (lv_at hl 0 rfl) ?_
  refine lv_iconst (v := nI j) hx hb d2 hj ?_
  refine lv_iadd hx hb d3 ?_
  rw [nI_add]
  refine va_sld hx hb X.1.2.2.2.2.2.2.1 X.1.2.2.2.2.2.2.2.1 (Nat.not_le.mpr X.1.2.2.2.2.2.2.2.1) hS (vp_in_nI hL (by omega)) d4 ?_
  rw [nI_clamp (by omega)]
  exact kk2
/-- script[i] -/
theorem zl_arg0 (X : zLx P) (hL : i < P.L) (d0 : decode code pc = .ok (.aload_n 0, 1)) (d1 : decode code (pc + 1) = .ok (.iload_n 3, 1)) (d4 : decode code (pc + 2) = .ok (.iaload, 1)) (kk : zLn P (pc + 3) (.int (P.xs i) :: S) i M N) : zLn P pc S i M N := by
  intro H locs ls h0 h1 hS hl
  have hx := X.1.1
  have hb := X.1.2.1
  have hLL := X.2.2.2.2.2.2.2.2.2.2.2.2
  have kk2 := kk H locs ls h0 h1 hS hl
  refine lv_aload_n hx hb d0 (i := 0) rfl (lv_at hl 3 rfl) ?_
  refine lv_iload_n hx hb d1 (i := 3) rfl (lv_at hl 0 rfl) ?_
  refine va_sld hx hb X.1.2.2.2.2.2.2.1 X.1.2.2.2.2.2.2.2.1 (Nat.not_le.mpr X.1.2.2.2.2.2.2.2.1) hS (vp_in_nI hL (by omega)) d4 ?_
  rw [nI_clamp (by omega)]
  exact kk2
theorem zl_i2l (X : zLx P) {x : Int32} (dg : decode code pc = .ok (.i2l, 1)) (kk : zLn P (pc + 1) (.long x.toInt64 :: S) i M N) : zLn P pc (.int x :: S) i M N := fun H locs ls h0 h1 hS hl => lv_i2l X.1.1 X.1.2.1 dg rfl (kk H locs ls h0 h1 hS hl)
theorem zl_bipush (X : zLx P) {n : Int} {v : Int32} (dg : decode code pc = .ok (.bipush n, 2)) (hv : (Int8.ofInt n).toInt32 = v) (kk : zLn P (pc + 2) (.int v :: S) i M N) : zLn P pc S i M N := fun H locs ls h0 h1 hS hl => lv_bipush X.1.1 X.1.2.1 dg hv (kk H locs ls h0 h1 hS hl)
theorem zl_iand (X : zLx P) {x y : Int32} (dg : decode code pc = .ok (.iand, 1)) (kk : zLn P (pc + 1) (.int (x &&& y) :: S) i M N) : zLn P pc (.int y :: .int x :: S) i M N := fun H locs ls h0 h1 hS hl => lv_iand X.1.1 X.1.2.1 dg (kk H locs ls h0 h1 hS hl)
theorem zl_lshl (X : zLx P) {x v : Int64} {y : Int32} (dg : decode code pc = .ok (.lshl, 1)) (hv : x <<< (y.toInt64 &&& 63) = v) (kk : zLn P (pc + 1) (.long v :: S) i M N) : zLn P pc (.int y :: .long x :: S) i M N := fun H locs ls h0 h1 hS hl => lv_lshl X.1.1 X.1.2.1 dg hv (kk H locs ls h0 h1 hS hl)
theorem zl_land (X : zLx P) {x y : Int64} (dg : decode code pc = .ok (.land, 1)) (kk : zLn P (pc + 1) (.long (x &&& y) :: S) i M N) : zLn P pc (.long y :: .long x :: S) i M N := fun H locs ls h0 h1 hS hl => lv_land X.1.1 X.1.2.1 dg (kk H locs ls h0 h1 hS hl)
theorem zl_lor (X : zLx P) {x y : Int64} (dg : decode code pc = .ok (.lor, 1)) (kk : zLn P (pc + 1) (.long (x ||| y) :: S) i M N) : zLn P pc (.long y :: .long x :: S) i M N := fun H locs ls h0 h1 hS hl => lv_lor X.1.1 X.1.2.1 dg (kk H locs ls h0 h1 hS hl)
theorem zl_ldc2 (X : zLx P) {ix : Nat} {v : Int64} (dg : decode code pc = .ok (.ldc2_w ix, 3)) (hc : Cond.constantLong R_law ix v ∈ zTw) (kk : zLn P (pc + 3) (.long v :: S) i M N) : zLn P pc S i M N := fun H locs ls h0 h1 hS hl => lv_ldc2 X.1.1 X.1.2.1 X.1.2.2.2.2.1 (X.tw _ hc) dg (kk H locs ls h0 h1 hS hl)
theorem zl_eq (X : zLx P) {x : Int32} {off : Int} {tgt : Nat} (dg : decode code pc = .ok (.if_icmp .eq off, 3)) (ht : (pc : Int) + off = (tgt : Int)) (kk : zLn P tgt S i M N) : zLn P pc (.int x :: .int x :: S) i M N := fun H locs ls h0 h1 hS hl => lv_icmp_eq X.1.1 X.1.2.1 dg ht (fun _ => kk H locs ls h0 h1 hS hl) (fun q => absurd rfl q)
theorem zl_room {mj : zMI} (h : mj.2.2.1 ≤ 21) : (zR 40).frames + 1 ≤ room_1.frames ∧ 8 + (mj.2.2.1 + 11) + (zR 40).locals ≤ room_1.locals := by
  refine ⟨by decide, Nat.le_trans (m := 8 + (21 + 11) + (zR 40).locals) (by omega) (by decide)⟩
/-- a call of one of the two, of world w at ad -/
theorem zl_call {w : List zDesc} {ad : Nat → Nat} {ci n index : Nat} {ks : List Nat} {qC : vw_C} {mj : zMI} {as rest : List Value} {Mw : zMem} {r : Int32} {P0 : zMem → Prop} {H : Heap} {locs : List Loc} {ls : Array Slot} {Z : State → Prop} (X : zLx P) (hi : zInj w ad) (hr : zRid ad (zLA P.s) P.s) (hlo : ∀ i, i < w.length → P.s.heap.size ≤ ad i) (lk : zLkV R_law index mj) (ce : zCe mj n) (hw : w[0]? = some (.inr (.inr (ci, ks)))) (hc : vwCl[ci]? = some qC) (hcl : mj.1.cls = qC.1) (dg : decode code pc = .ok (.invokevirtual index, 3)) (hn : as.length = n) (hT : as.map (zT ad) = as) (hcat : (rest.map fun v => v.category).sum ≤ 8)
    (ok : zOkJ w 40 mj (.ref 0 :: as) Mw (fun x M' => x = r ∧ P0 M')) (hP : va_P (P.dC, P.dI) vwCl (zWs w ad P.cA Mw) H) (hS : va_S (zLA P.s) P.s.heap H locs) (hsz : ls.size = 4)
    (kk : ∀ (M' : zMem) (H1 : Heap) (locs1 : List Loc), P0 M' → va_P (P.dC, P.dI) vwCl (zWs w ad P.cA M') H1 → (∀ q, q < H.size → ¬ zA w ad q → H1[q]? = H[q]?) → va_S (zLA P.s) P.s.heap H1 locs1 → W P.p P.l P.e room_1 P.s P.m #[Value.ref P.b] P.below P.meth P.c H1 locs1 P.k P.kS Z (F0 P.m (pc + 3) ls (.int r :: rest))) :
    W P.p P.l P.e room_1 P.s P.m #[Value.ref P.b] P.below P.meth P.c H locs P.k P.kS Z (F0 P.m pc ls (as.reverse ++ (.ref (ad 0) :: rest))) := by
  obtain ⟨k1, k2, k3, k4⟩ := lk
  have hW := X.tw
  have hA0 : ∀ q, zA w ad q → zLA P.s q := fun q h => by
    obtain ⟨i, hi, rfl⟩ := h
    exact hlo i hi
  have hrr := va_runV (l := P.l) (e := P.e) (R := room_1) (below := P.below) (locs := locs) (cells := P.k) (slots := P.kS) (meth := P.meth) (rest := rest) (g := F0 P.m pc ls (as.reverse ++ (.ref (ad 0) :: rest))) (As := as) (b := ad 0) (C := mj.1.cls) (ws := zWd mj) (rm := zR 40) (nL := 4) ⟨X.1.1, X.1.2.1, X.1.2.2.2.1, X.1.2.2.2.2.1, hW⟩ (ok P.l P.dC P.dI ad P.cA hi) (cwV n hW (zGcons k1 (zGcons k2 (zGcons k3 (zGcons k4 (zGwd ce.1))))) rfl rfl rfl ⟨rfl, ce.2.2⟩ (zl_room ce.2.1))
    ⟨zblind, by rw [hcl]; exact va_recv X.2.1 hP hc (zWs_at hw), fun U hU hW2 => ⟨by show _ = (List.map (zT ad) (.ref 0 :: as)).toArray; rw [List.map_cons, hT]; rfl, by rw [hU]; exact hP, va_K.moved hW2.alike X.2.1, zNw.warm hW2 X.2.2.1, (zRid.go hS hU hW2 hr).narrow hA0⟩⟩ rfl hn hsz rfl (by show 2 * 0 + _ ≤ 8; omega) dg ⟨X.2.2.2.2.2.2.2.2.2.2.1, X.2.2.2.2.2.2.2.2.2.2.2.1⟩
  intro T hT2 Xs
  obtain ⟨v, st₀, t, T', Lc, e0, X', hLc, e1, e2, ⟨⟨r', M', hv, ⟨x, hq1, hq2, hq3⟩, hp⟩, hz, hk⟩, st⟩ := hrr T hT2 Xs
  cases hv
  subst hq1; subst hq2
  rw [e0] at hz hk
  obtain ⟨t2, a1, b1⟩ := kk M' T'.heap (locs ++ Lc) hq3 (by rw [e1]; exact hp) (fun q h1 h2 => by rw [e1]; exact hk q h1 h2)
    ⟨Nat.le_trans hS.1 (by rw [e1]; exact hz), fun q h1 h2 => by rw [e1, hk q (Nat.lt_of_lt_of_le h1 hS.1) (fun g => h2 (hA0 q g))]; exact hS.2.1 q h1 h2, fun q hq => by
      rcases List.mem_append.mp hq with h | h
      · exact hS.2.2 q h
      · exact hA0 _ (hLc q h)⟩ T' rfl X'
  exact ⟨t2, st t2 a1, b1⟩
theorem zl_call0 {n index : Nat} {mj : zMI} {as rest : List Value} {r : Int32} {P0 : zMem → Prop} {S0 : List Value} (X : zLx P) (lk : zLkV R_law index mj) (ce : zCe mj n) (hcl : mj.1.cls = RX11) (dg : decode code pc = .ok (.invokevirtual index, 3)) (hn : as.length = n) (hS0 : as.reverse ++ (.ref (P.ad0 0) :: rest) = S0) (hT : ∀ ad : Nat → Nat, as.map (zT ad) = as) (hcat : (rest.map fun v => v.category).sum ≤ 8) (ok : zOkJ zw0 40 mj (.ref 0 :: as) M (fun x M' => x = r ∧ P0 M'))
    (kk : ∀ M', P0 M' → zLn P (pc + 3) (.int r :: rest) i M' N) : zLn P pc S0 i M N := by
  subst hS0
  intro H locs ls h0 h1 hS hl
  refine zl_call X X.2.2.2.2.2.1 X.2.2.2.1 X.2.2.2.2.2.2.2.1 lk ce (w := zw0) rfl (hc := rfl) hcl dg hn (hT _) hcat ok h0 hS hl.1 ?_
  intro M' H1 locs1 hq hP1 hk hS1
  exact kk M' hq H1 locs1 ls hP1 (h1.kept fun k q hq => by
    have hlt := (h1 k q hq).lt
    have hkl : k < zw1.length := by rw [← zWs_len zw1 P.ad1 P.cA N]; exact (List.getElem?_eq_some_iff.mp hq).1
    rw [zWs_at (List.getElem?_eq_getElem hkl)] at hq
    cases hq
    refine hk _ hlt ?_
    rintro ⟨j, hj, e⟩
    exact X.2.2.2.2.2.2.2.2.2.1 j k hj hkl e.symm) hS1 hl
theorem zl_call1 {n index : Nat} {mj : zMI} {as rest : List Value} {r : Int32} {P1 : zMem → Prop} {S0 : List Value} (X : zLx P) (lk : zLkV R_law index mj) (ce : zCe mj n) (hcl : mj.1.cls = RX12) (dg : decode code pc = .ok (.invokevirtual index, 3)) (hn : as.length = n) (hS0 : as.reverse ++ (.ref (P.ad1 0) :: rest) = S0) (hT : ∀ ad : Nat → Nat, as.map (zT ad) = as) (hcat : (rest.map fun v => v.category).sum ≤ 8) (ok : zOkJ zw1 40 mj (.ref 0 :: as) N (fun x N' => x = r ∧ P1 N'))
    (kk : ∀ N', P1 N' → zLn P (pc + 3) (.int r :: rest) i M N') : zLn P pc S0 i M N := by
  subst hS0
  intro H locs ls h0 h1 hS hl
  refine zl_call X X.2.2.2.2.2.2.1 X.2.2.2.2.1 X.2.2.2.2.2.2.2.2.1 lk ce (w := zw1) rfl (hc := rfl) hcl dg hn (hT _) hcat ok h1 hS hl.1 ?_
  intro N' H1 locs1 hq hP1 hk hS1
  exact kk N' hq H1 locs1 ls (h0.kept fun k q hq => by
    have hlt := (h0 k q hq).lt
    have hkl : k < zw0.length := by rw [← zWs_len zw0 P.ad0 P.cA M]; exact (List.getElem?_eq_some_iff.mp hq).1
    rw [zWs_at (List.getElem?_eq_getElem hkl)] at hq
    cases hq
    refine hk _ hlt ?_
    rintro ⟨j, hj, e⟩
    exact X.2.2.2.2.2.2.2.2.2.1 k j hkl hj e) hP1 hS1 hl
end ZLAW
