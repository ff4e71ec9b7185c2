/-! class and reference side by side: what holds between two acts -/
def zSide (σ : Nat → Nat) (R : List gRl) : Prop := qOk σ ∧ gWF R ∧ qSr σ R ∧ qRuOk σ ∧ qRpOk σ ∧ σ 7 = R.length ∧ ∀ j, 322 ≤ j → σ j = 0
def zNow (M N : zMem) : Prop := ∃ σ R, zSide σ R ∧ zVa 14 M σ R ∧ zS (N 1) σ ∧ M 14 16 = N 1 2 ∧ M 14 17 = N 1 5
def zKpt (M N : zMem) : Prop := (M 0 4 = nI 0 ∧ N 0 3 = nI 0 ∧ ∀ j, 322 ≤ j → N 2 j = nI 0) ∨ (M 0 4 = nI 1 ∧ N 0 3 = nI 1 ∧ ∃ σ R, zSide σ R ∧ zVa 60 M σ R ∧ zS (N 2) σ ∧ M 60 16 = N 2 2 ∧ M 60 17 = N 2 5)
def zTap (M N : zMem) : Prop := ∃ β u, zTq β u M ∧ zTp β u N
def zRws (M N : zMem) : Prop := ∃ q, q ≤ 4 ∧ M 0 8 = nI q ∧ N 0 29 = nI q ∧ ∀ j, j < 3 * q → M 98 j = N 14 j
def zShs (M N : zMem) : Prop := ∃ so sz, zSc so sz M ∧ zSh so sz N ∧ ∀ a j, a < 4 → j < 40 → M (100 + a) j = N 17 (40 * a + j)
def zShf (M N : zMem) : Prop := ∀ a, a < 4 → (M 106 a = nI 0 ∧ N 18 a = nI 0 ∧ ∃ h, h ≤ 5 ∧ M 107 a = nI h ∧ N 19 a = nI h) ∨ (M 106 a = nI 1 ∧ ∃ s z, s ≤ 4 ∧ z ≤ 40 ∧ M 107 a = nI z ∧ M 108 a = nI s ∧ N 18 a = nI (10 + s) ∧ N 19 a = nI z) ∨ (M 106 a = nI 2 ∧ N 18 a = -1)
def zTrs (M N : zMem) : Prop := (M 0 15 = 0 ∧ N 0 36 = nI 0) ∨ ∃ (b : Nat) (T : List Int32), (b = 2 ∨ b = 4 ∨ b = 6 ∨ b = 8 ∨ b = 10 ∨ b = 12) ∧ T.length ≤ 30 ∧ M 0 15 = nI b ∧ M b 3 = nI T.length ∧ (∀ i, i < T.length → M (b + 1) i = T.getD i 0) ∧ N 0 36 = nI T.length ∧ ∀ i, i < T.length → N 20 i = T.getD i 0
def zRst (M N : zMem) : Prop := zKpt M N ∧ zTap M N ∧ zLt N ∧ zRws M N ∧ zShs M N ∧ zShf M N ∧ zTrs M N
def zInv (M N : zMem) : Prop := zNow M N ∧ zRst M N
/-- the class's cells outside the village that count are kept -/
def zKc (M M' : zMem) : Prop := (∀ j, j ≤ 15 → M' 0 j = M 0 j) ∧ (∀ j, j ≤ 4 → M' 83 j = M 83 j) ∧ ∀ a, (1 ≤ a ∧ a ≤ 13) ∨ (60 ≤ a ∧ a ≤ 82) ∨ a = 84 ∨ (98 ≤ a ∧ a ≤ 108) → M' a = M a
def zKr (N N' : zMem) : Prop := (∀ j, j ≤ 8 ∨ (28 ≤ j ∧ j ≤ 36) → N' 0 j = N 0 j) ∧ ∀ a, a = 2 ∨ a = 5 ∨ a = 6 ∨ (14 ≤ a ∧ a ≤ 20) → N' a = N a
def zKv (M M' : zMem) : Prop := (∀ a, 14 ≤ a → a ≤ 35 → a ≠ 30 → a ≠ 31 → M' a = M a) ∧ M' 31 4 = M 31 4
theorem zKc_rf (M : zMem) : zKc M M := ⟨fun _ _ => rfl, fun _ _ => rfl, fun _ _ => rfl⟩
theorem zKr_rf (N : zMem) : zKr N N := ⟨fun _ _ => rfl, fun _ _ => rfl⟩
theorem zKv_rf (M : zMem) : zKv M M := ⟨fun _ _ _ _ _ => rfl, rfl⟩
theorem zKc_fi {lo hi : Nat} {M M' : zMem} (h : zFi lo hi M M') (h1 : 14 ≤ lo) (h2 : hi ≤ 59) : zKc M M' :=
  ⟨fun j _ => by rw [h 0 (by omega)], fun j _ => by rw [h 83 (by omega)], fun a ha => h a (by omega)⟩
theorem zKc_fr {cs : List Nat} {M M' : zMem} (h : zFr cs M M') (hc : ∀ a ∈ cs, 14 ≤ a ∧ a ≤ 59) : zKc M M' :=
  ⟨fun j _ => by rw [h 0 (fun q => by have := hc _ q; omega)], fun j _ => by rw [h 83 (fun q => by have := hc _ q; omega)], fun a ha => h a (fun q => by have := hc _ q; omega)⟩
theorem zKc_fq {M M' : zMem} (h : zFq M M') : zKc M M' :=
  ⟨fun j _ => by rw [h 0 (by omega) (by omega)], fun j _ => by rw [h 83 (by omega) (by omega)], fun a ha => h a (by omega) (by omega)⟩
theorem zKv_fi {lo hi : Nat} {M M' : zMem} (h : zFi lo hi M M') (h1 : 36 ≤ lo) : zKv M M' :=
  ⟨fun a _ _ _ _ => h a (by omega), by rw [h 31 (by omega)]⟩
theorem zKv_fq {M M' : zMem} (h : zFq M M') : zKv M M' :=
  ⟨fun a _ _ _ _ => h a (by omega) (by omega), by rw [h 31 (by omega) (by omega)]⟩
theorem zKv_30 {M M' : zMem} (h : zFr [30] M M') : zKv M M' :=
  ⟨fun a _ _ h3 _ => h a (by simpa using h3), by rw [h 31 (by decide)]⟩
theorem zKv_31 {M M' : zMem} (h : zFr [31, 36] M M') (h4 : M' 31 4 = M 31 4) : zKv M M' :=
  ⟨fun a _ h2 _ h3 => h a (by simp; omega), h4⟩
theorem zKr_fr {cs : List Nat} {N N' : zMem} (h : zFr cs N N') (hc : ∀ a ∈ cs, a = 1 ∨ a = 3 ∨ a = 4 ∨ (7 ≤ a ∧ a ≤ 13)) : zKr N N' :=
  ⟨fun j _ => by rw [h 0 (fun q => by have := hc _ q; omega)], fun a ha => h a (fun q => by have := hc _ q; omega)⟩
theorem zVa_q {M M' : zMem} {σ : Nat → Nat} {R : List gRl} (h : zVa 14 M σ R) (q : zKv M M') : zVa 14 M' σ R := by
  refine ⟨zV_of h.1 (fun j _ _ => by rw [q.1 14 (by decide) (by decide) (by decide) (by decide)]) (fun a h1 h2 => q.1 a (by omega) (by omega) (by omega) (by omega)), zRC_of h.2.1 (fun a h1 h2 => q.1 a (by omega) (by omega) (by omega) (by omega)), ?_⟩
  refine ⟨q.2.trans h.2.2.1, fun r hr => ?_⟩
  rw [q.1 (14 + 17 + 1) (by decide) (by decide) (by decide) (by decide), q.1 (14 + 17 + 2) (by decide) (by decide) (by decide) (by decide), q.1 (14 + 17 + 3) (by decide) (by decide) (by decide) (by decide), q.1 (14 + 17 + 4) (by decide) (by decide) (by decide) (by decide)]
  exact h.2.2.2 r hr
theorem zNow.go {M M' N N' : zMem} (h : zNow M N) (q : zKv M M') (e : N' 1 = N 1) : zNow M' N' := by
  obtain ⟨σ, R, h1, h2, h3, h4, h5⟩ := h
  have e14 := q.1 14 (by decide) (by decide) (by decide) (by decide)
  exact ⟨σ, R, h1, zVa_q h2 q, e ▸ h3, by rw [e14, e]; exact h4, by rw [e14, e]; exact h5⟩
theorem zKpt.go {M M' N N' : zMem} (h : zKpt M N) (e1 : M' 0 4 = M 0 4) (e2 : ∀ a, 60 ≤ a → a ≤ 82 → M' a = M a) (e3 : N' 0 3 = N 0 3) (e4 : N' 2 = N 2) : zKpt M' N' := by
  rcases h with ⟨h1, h2, h3⟩ | ⟨h1, h2, σ, R, g1, g2, g3, g4, g5⟩
  · exact .inl ⟨e1.trans h1, e3.trans h2, e4 ▸ h3⟩
  · have e60 := e2 60 (by decide) (by decide)
    exact .inr ⟨e1.trans h1, e3.trans h2, σ, R, g1, ⟨zV_of g2.1 (fun j _ _ => by rw [e60]) (fun a _ _ => e2 a (by omega) (by omega)), zRC_of g2.2.1 (fun a _ _ => e2 a (by omega) (by omega)), zRp_of g2.2.2 (fun a _ _ => e2 a (by omega) (by omega))⟩, e4 ▸ g3, by rw [e60, e4]; exact g4, by rw [e60, e4]; exact g5⟩
theorem zTap.go {M M' N N' : zMem} (h : zTap M N) (e1 : M' 83 1 = M 83 1) (e2 : M' 84 = M 84) (e3 : N' 0 6 = N 0 6) (e4 : N' 5 = N 5) : zTap M' N' := by
  obtain ⟨β, u, h1, h2⟩ := h
  exact ⟨β, u, ⟨e1.trans h1.1, h1.2.1, e2 ▸ h1.2.2.1, h1.2.2.2⟩, ⟨e3.trans h2.1, h2.2.1, e4 ▸ h2.2.2.1, h2.2.2.2⟩⟩
theorem zRws.go {M M' N N' : zMem} (h : zRws M N) (e1 : M' 0 8 = M 0 8) (e2 : M' 98 = M 98) (e3 : N' 0 29 = N 0 29) (e4 : N' 14 = N 14) : zRws M' N' := by
  obtain ⟨q, h1, h2, h3, h4⟩ := h
  exact ⟨q, h1, e1.trans h2, e3.trans h3, by rw [e2, e4]; exact h4⟩
theorem zShs.go {M M' N N' : zMem} (h : zShs M N) (e : ∀ a, 100 ≤ a → a ≤ 105 → M' a = M a) (e1 : N' 15 = N 15) (e2 : N' 16 = N 16) (e3 : N' 17 = N 17) : zShs M' N' := by
  obtain ⟨so, sz, h1, h2, h3⟩ := h
  refine ⟨so, sz, zSc_of h1 (e 104 (by decide) (by decide)) (e 105 (by decide) (by decide)), fun i hi => by rw [e1, e2]; exact h2 i hi, fun a j ha hj => ?_⟩
  rw [e (100 + a) (by omega) (by omega), e3]
  exact h3 a j ha hj
theorem zShf.go {M M' N N' : zMem} (h : zShf M N) (e1 : M' 106 = M 106) (e2 : M' 107 = M 107) (e3 : M' 108 = M 108) (e4 : N' 18 = N 18) (e5 : N' 19 = N 19) : zShf M' N' := by
  intro a ha
  rw [e1, e2, e3, e4, e5]
  exact h a ha
theorem zTrs.go {M M' N N' : zMem} (h : zTrs M N) (e1 : M' 0 15 = M 0 15) (e2 : ∀ a, 2 ≤ a → a ≤ 13 → M' a = M a) (e3 : N' 0 36 = N 0 36) (e4 : N' 20 = N 20) : zTrs M' N' := by
  rcases h with ⟨h1, h2⟩ | ⟨b, T, h1, h2, h3, h4, h5, h6, h7⟩
  · exact .inl ⟨e1.trans h1, e3.trans h2⟩
  · refine .inr ⟨b, T, h1, h2, e1.trans h3, ?_, ?_, e3.trans h6, e4 ▸ h7⟩
    · rw [e2 b (by omega) (by omega)]; exact h4
    · rw [e2 (b + 1) (by omega) (by omega)]; exact h5
theorem zRst.go {M M' N N' : zMem} (h : zRst M N) (q : zKc M M') (r : zKr N N') : zRst M' N' := by
  obtain ⟨k, t, l, w, s, f, c⟩ := h
  obtain ⟨q0, q8, qa⟩ := q
  obtain ⟨r0, ra⟩ := r
  exact ⟨k.go (q0 4 (by decide)) (fun a _ _ => qa a (by omega)) (r0 3 (by decide)) (ra 2 (by decide)), t.go (q8 1 (by decide)) (qa 84 (by decide)) (r0 6 (by decide)) (ra 5 (by decide)), fun i hi => by rw [ra 6 (by decide)]; exact l i hi,
    w.go (q0 8 (by decide)) (qa 98 (by decide)) (r0 29 (by decide)) (ra 14 (by decide)), s.go (fun a _ _ => qa a (by omega)) (ra 15 (by decide)) (ra 16 (by decide)) (ra 17 (by decide)),
    f.go (qa 106 (by decide)) (qa 107 (by decide)) (qa 108 (by decide)) (ra 18 (by decide)) (ra 19 (by decide)), c.go (q0 15 (by decide)) (fun a _ _ => qa a (by omega)) (r0 36 (by decide)) (ra 20 (by decide))⟩
/-- one act, asked of both: the same answer, and behind it all holds again -/
def zStp (m0 m1 : zMI) (as : List Value) (M N : zMem) : Prop := ∃ (r : Int32) (P0 P1 : zMem → Prop), zOkJ zw0 40 m0 (.ref 0 :: as) M (fun x M' => x = r ∧ P0 M') ∧ zOkJ zw1 40 m1 (.ref 0 :: as) N (fun x N' => x = r ∧ P1 N') ∧ ∀ M' N', P0 M' → P1 N' → zInv M' N'
theorem zStp_I {m0 m1 : zMI} {as : List Value} {M N : zMem} {d0 d1 : Nat} {r r' : Int32} (hv : zInv M N) (h0 : zOkI zw0 d0 m0 (.ref 0 :: as) M r) (h1 : zOkI zw1 d1 m1 (.ref 0 :: as) N r') (e : r = r') (l0 : d0 ≤ 40) (l1 : d1 ≤ 40) : zStp m0 m1 as M N :=
  ⟨r, fun M' => M' = M, fun N' => N' = N, zOk_up (zOkI_J h0) l0, zOk_up (zOkI_J (e ▸ h1)) l1, fun _ _ a b => by rw [a, b]; exact hv⟩
theorem zStp_J {m0 m1 : zMI} {as : List Value} {M N : zMem} {d0 d1 : Nat} {Q0 Q1 : Int32 → zMem → Prop} (r : Int32) (P0 P1 : zMem → Prop) (h0 : zOkJ zw0 d0 m0 (.ref 0 :: as) M Q0) (h1 : zOkJ zw1 d1 m1 (.ref 0 :: as) N Q1) (l0 : d0 ≤ 40) (l1 : d1 ≤ 40)
    (e0 : ∀ x M', Q0 x M' → x = r ∧ P0 M') (e1 : ∀ x N', Q1 x N' → x = r ∧ P1 N') (k : ∀ M' N', P0 M' → P1 N' → zInv M' N') : zStp m0 m1 as M N :=
  ⟨r, P0, P1, zOk_up (zOkJ_mono h0 e0) l0, zOk_up (zOkJ_mono h1 e1) l1, k⟩
/-- asked, not changed -/
theorem zStp_Q {m0 m1 : zMI} {as : List Value} {M N : zMem} {d0 d1 : Nat} {Q0 Q1 : Int32 → zMem → Prop} (hv : zInv M N) (r : Int32) (h0 : zOkJ zw0 d0 m0 (.ref 0 :: as) M Q0) (h1 : zOkJ zw1 d1 m1 (.ref 0 :: as) N Q1) (l0 : d0 ≤ 40) (l1 : d1 ≤ 40)
    (e0 : ∀ x M', Q0 x M' → x = r ∧ zKc M M' ∧ zKv M M') (e1 : ∀ x N', Q1 x N' → x = r ∧ zKr N N' ∧ N' 1 = N 1) : zStp m0 m1 as M N :=
  zStp_J r (fun M' => zKc M M' ∧ zKv M M') (fun N' => zKr N N' ∧ N' 1 = N 1) h0 h1 l0 l1 e0 e1 fun _ _ a b => ⟨hv.1.go a.2 b.2, hv.2.go a.1 b.1⟩
/-- the village changed, all else as it was -/
theorem zStp_V {m0 m1 : zMI} {as : List Value} {M N : zMem} {d0 d1 : Nat} {Q0 Q1 : Int32 → zMem → Prop} (hv : zInv M N) (r : Int32) (σ' : Nat → Nat) (R' : List gRl) (x2 x5 : Int32) (h0 : zOkJ zw0 d0 m0 (.ref 0 :: as) M Q0) (h1 : zOkJ zw1 d1 m1 (.ref 0 :: as) N Q1) (l0 : d0 ≤ 40) (l1 : d1 ≤ 40) (hs : zSide σ' R')
    (e0 : ∀ x M', Q0 x M' → x = r ∧ zVa 14 M' σ' R' ∧ M' 14 16 = x2 ∧ M' 14 17 = x5 ∧ zKc M M') (e1 : ∀ x N', Q1 x N' → x = r ∧ zS (N' 1) σ' ∧ N' 1 2 = x2 ∧ N' 1 5 = x5 ∧ zKr N N') : zStp m0 m1 as M N :=
  zStp_J r (fun M' => zVa 14 M' σ' R' ∧ M' 14 16 = x2 ∧ M' 14 17 = x5 ∧ zKc M M') (fun N' => zS (N' 1) σ' ∧ N' 1 2 = x2 ∧ N' 1 5 = x5 ∧ zKr N N') h0 h1 l0 l1 e0 e1 fun _ _ a b =>
    ⟨⟨σ', R', hs, a.1, b.1, a.2.1.trans b.2.1.symm, a.2.2.1.trans b.2.2.1.symm⟩, hv.2.go a.2.2.2 b.2.2.2⟩
/-- the usual shape of a change: class by zNs, reference by zPo -/
theorem zStp_N {m0 m1 : zMI} {as : List Value} {M N : zMem} {d0 d1 : Nat} {r r' : Int32} {σ' : Nat → Nat} {R' : List gRl} {x2 x5 y2 y5 : Int32} {cs : List Nat} (hv : zInv M N) (h0 : zOkJ zw0 d0 m0 (.ref 0 :: as) M (fun x M' => x = r ∧ zNs M σ' R' x2 x5 M')) (h1 : zOkJ zw1 d1 m1 (.ref 0 :: as) N (fun x N' => x = r' ∧ zPo cs N σ' y2 y5 N')) (l0 : d0 ≤ 40) (l1 : d1 ≤ 40) (hs : zSide σ' R') (e : r' = r) (e2 : y2 = x2) (e5 : y5 = x5) (hc : ∀ a ∈ cs, a = 1 ∨ a = 3 ∨ a = 4 ∨ (7 ≤ a ∧ a ≤ 13)) : zStp m0 m1 as M N :=
  zStp_V hv r σ' R' x2 x5 h0 h1 l0 l1 hs (fun x M' q => ⟨q.1, q.2.1, q.2.2.1, q.2.2.2.1, zKc_fi q.2.2.2.2 (by decide) (by decide)⟩) (fun x N' q => ⟨q.1.trans e, q.2.1, q.2.2.1.trans e2, q.2.2.2.1.trans e5, zKr_fr q.2.2.2.2 hc⟩)
theorem zSide_up {σ σ' : Nat → Nat} {R : List gRl} (h : zSide σ R) (hk : qOk σ') (he : ∀ j, j = 7 ∨ 98 ≤ j → σ' j = σ j) (hp : qRpOk σ') : zSide σ' R :=
  ⟨hk, h.2.1, qSr_up h.2.2.1 he, qRuOk_up h.2.2.2.1 he, hp, (he 7 (by decide)).trans h.2.2.2.2.2.1, fun j hj => (he j (by omega)).trans (h.2.2.2.2.2.2 j hj)⟩
theorem zSide_lo {σ σ' : Nat → Nat} {R : List gRl} (h : zSide σ R) (hk : qOk σ') (he : ∀ j, j = 7 ∨ j = 8 ∨ 74 ≤ j → σ' j = σ j) : zSide σ' R :=
  zSide_up h hk (fun j hj => he j (by omega)) fun r hr => by
    rw [he 8 (by decide)] at hr
    rw [he _ (by omega)]
    exact h.2.2.2.2.1 r hr
theorem zSide_1 {σ : Nat → Nat} {R : List gRl} (h : zSide σ R) {j v : Nat} (hk : qOk (zun σ j v)) (hj : j ≠ 7) (hj8 : j ≠ 8) (h74 : j < 74) : zSide (zun σ j v) R :=
  zSide_lo h hk fun i hi => zun_other _ _ (by omega)
/-- a number within bounds -/
theorem zin_n {x : Int32} {lo hi : Nat} (hl : lo ≤ hi) (hh : hi + 1 < 2 ^ 31) (h : zin x (nI lo) (nI hi) = true) : ∃ a, x = nI a ∧ lo ≤ a ∧ a ≤ hi := by
  rcases pk_ix x (n := hi + 1) hh with q | q | ⟨j, hj, rfl⟩
  · rcases Nat.eq_zero_or_pos lo with rfl | hp
    · rw [zin_f1 (by rw [nI_0]; exact q)] at h; exact Bool.noConfusion h
    · have h2 : nI 0 < nI lo := nI_lt hp (by omega)
      rw [nI_0] at h2
      rw [zin_f1 (Int32.lt_trans q h2)] at h; exact Bool.noConfusion h
  · rw [zin_f2 (Int32.lt_of_lt_of_le (nI_lt (Nat.lt_succ_self hi) hh) q)] at h; exact Bool.noConfusion h
  · rw [zin_nat (by omega) (by omega) (by omega), Bool.and_eq_true, decide_eq_true_eq, decide_eq_true_eq] at h
    exact ⟨j, rfl, h.1, h.2⟩
theorem zin_0 {x : Int32} {hi : Nat} (hh : hi + 1 < 2 ^ 31) (h : zin x (nI 0) (nI hi) = true) : ∃ a, x = nI a ∧ a ≤ hi := by
  rcases zin_cases x hh with q | ⟨a, ha, e⟩
  · rw [q] at h; exact absurd h (by decide)
  · exact ⟨a, e, ha⟩
theorem qIs_n {n : Nat} {x : Int32} (hn : n ≤ 6) (h : qIs n x = true) : ∃ a, x = nI a ∧ a < n := by
  unfold qIs at h
  rcases Nat.eq_zero_or_pos n with rfl | hp
  · rw [show nI 0 - nI 1 = -1 from by decide, zin_nm] at h; exact Bool.noConfusion h
  · rw [pk_sub hp] at h
    obtain ⟨a, e, ha⟩ := zin_0 (by omega) h
    exact ⟨a, e, by omega⟩
theorem bnd {a b : Bool} (h : (a && b) = true) : a = true ∧ b = true := by cases a <;> cases b <;> first | exact ⟨rfl, rfl⟩ | exact Bool.noConfusion h
