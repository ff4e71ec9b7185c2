/-! kin: the reference's way and the class's come to the same set -/
theorem sub_ones : ∀ s, s < 64 → ∀ t, t < 64 → s &&& t = s → s ≠ t → qOnes s + 1 ≤ qOnes t := by decide +kernel
theorem ones_le : ∀ n, n < 7 → ∀ t, t < 2 ^ n → qOnes t ≤ n := by decide +kernel
theorem ones_ge : ∀ n, n < 6 → ∀ t, t < 64 → t.testBit n = true → 1 ≤ qOnes t := by decide +kernel
def zsub (s t : Nat) : Prop := ∀ i, s.testBit i = true → t.testBit i = true
theorem zsub_and {s t : Nat} (h : zsub s t) : s &&& t = s := by
  apply Nat.eq_of_testBit_eq
  intro i
  rw [Nat.testBit_and]
  cases e : s.testBit i with
  | false => rfl
  | true => rw [h i e]; rfl
theorem zsub_anti {s t : Nat} (h : zsub s t) (h2 : zsub t s) : s = t := by
  apply Nat.eq_of_testBit_eq
  intro i
  cases e : s.testBit i with
  | false => cases e2 : t.testBit i with
    | false => rfl
    | true => rw [h2 i e2] at e; exact absurd e (by decide)
  | true => rw [h i e]
theorem zsub_rf (s : Nat) : zsub s s := fun _ h => h
theorem zsub_tr {s t u : Nat} (h : zsub s t) (h2 : zsub t u) : zsub s u := fun i q => h2 i (h i q)
theorem zsub_or (s t : Nat) : zsub s (s ||| t) := fun i h => by rw [Nat.testBit_or, h]; rfl
theorem lt64 {n s : Nat} (hn : n ≤ 6) (h : s < 2 ^ n) : s < 64 := Nat.lt_of_lt_of_le h (Nat.pow_le_pow_right (by decide) hn : 2 ^ n ≤ 2 ^ 6)
theorem zit_ok {f : Nat → Nat} {n : Nat} (hf : ∀ s, s < 2 ^ n → f s < 2 ^ n ∧ zsub s (f s)) : ∀ c s, s < 2 ^ n → zit f c s < 2 ^ n ∧ zsub s (zit f c s)
  | 0, s, h => ⟨h, zsub_rf s⟩
  | c + 1, s, h => by
    have h1 := hf s h
    have h2 := zit_ok hf c (f s) h1.1
    exact ⟨h2.1, zsub_tr h1.2 h2.2⟩
theorem zit_same {f : Nat → Nat} {s : Nat} (h : f s = s) : ∀ c, zit f c s = s
  | 0 => rfl
  | c + 1 => by show zit f c (f s) = s; rw [h]; exact zit_same h c
theorem zit_grow {f : Nat → Nat} {n : Nat} (hn : n ≤ 6) (hf : ∀ s, s < 2 ^ n → f s < 2 ^ n ∧ zsub s (f s)) : ∀ c s, s < 2 ^ n → f (zit f c s) = zit f c s ∨ qOnes s + c ≤ qOnes (zit f c s)
  | 0, _, _ => Or.inr (Nat.le_refl _)
  | c + 1, s, h => by
    by_cases e : f s = s
    · left
      rw [zit_same e]; exact e
    · have h1 := hf s h
      have h2 := sub_ones s (lt64 hn h) (f s) (lt64 hn h1.1) (zsub_and h1.2) (fun q => e q.symm)
      rcases zit_grow hn hf c (f s) h1.1 with q | q
      · exact Or.inl q
      · right
        show qOnes s + (c + 1) ≤ qOnes (zit f c (f s))
        omega
theorem zit_fix {f : Nat → Nat} {n k : Nat} (hn : n ≤ 6) (hk : k < n) (hf : ∀ s, s < 2 ^ n → f s < 2 ^ n ∧ zsub s (f s)) : f (zit f n (2 ^ k)) = zit f n (2 ^ k) := by
  have h0 : 2 ^ k < 2 ^ n := Nat.pow_lt_pow_right (by decide) hk
  rcases zit_grow hn hf n (2 ^ k) h0 with q | q
  · exact q
  · have h1 := (zit_ok hf n (2 ^ k) h0).1
    have h2 := ones_le n (by omega) _ h1
    have h3 := ones_ge k (by omega) (2 ^ k) (lt64 hn h0) Nat.testBit_two_pow_self
    omega
theorem qKt_zit (σ : Nat → Nat) : ∀ c s, qKt σ c s = zit (qKa σ (σ 6) 0) c s
  | 0, _ => rfl
  | c + 1, s => qKt_zit σ c _
theorem or_lt {s b n : Nat} (hs : s < 2 ^ n) (hb : b < n) : s ||| 2 ^ b < 2 ^ n := Nat.or_lt_two_pow hs (Nat.pow_lt_pow_right (by decide) hb)
theorem qClose_iff {σ : Nat → Nat} {a b : Nat} : qClose σ a b = true ↔ σ (38 + 6 * a + 5) = 0 ∧ σ (38 + 6 * b + 5) = 0 ∧ cNear σ a b = true := by
  unfold qClose cNear
  rw [decide_eq_true_eq, decide_eq_true_eq]
theorem cNear_sym {σ : Nat → Nat} {a b : Nat} : cNear σ a b = cNear σ b a := decide_eq_decide.mpr (by omega)
theorem qClose_sym {σ : Nat → Nat} {a b : Nat} (h : qClose σ a b = true) : qClose σ b a = true := by
  rw [qClose_iff] at h ⊢
  exact ⟨h.2.1, h.1, by rw [cNear_sym]; exact h.2.2⟩
/-- what is closed under being close, of the houses -/
def zCl (σ : Nat → Nat) (C : Nat → Prop) : Prop := ∀ a b, a < σ 6 → b < σ 6 → C a → qClose σ a b = true → C b
def isKin (σ : Nat → Nat) (k K : Nat) : Prop := K < 2 ^ σ 6 ∧ K.testBit k = true ∧ zCl σ (fun i => K.testBit i = true) ∧ ∀ C : Nat → Prop, C k → zCl σ C → ∀ i, K.testBit i = true → C i
theorem isKin_un {σ : Nat → Nat} {k K K2 : Nat} (h : isKin σ k K) (h2 : isKin σ k K2) : K = K2 := zsub_anti (h.2.2.2 _ h2.2.1 h2.2.2.1) (h2.2.2.2 _ h.2.1 h.2.2.1)
/-! the reference's -/
theorem qKs_ok {σ : Nat → Nat} {n s a b : Nat} (hs : s < 2 ^ n) (hb : b < n) : qKs σ s a b < 2 ^ n ∧ zsub s (qKs σ s a b) := by
  unfold qKs
  split
  · exact ⟨or_lt hs hb, zsub_or _ _⟩
  · exact ⟨hs, zsub_rf _⟩
theorem qKb_ok {σ : Nat → Nat} {n a : Nat} : ∀ c b s, s < 2 ^ n → b + c ≤ n → qKb σ a c b s < 2 ^ n ∧ zsub s (qKb σ a c b s)
  | 0, _, s, h, _ => ⟨h, zsub_rf s⟩
  | c + 1, b, s, h, hb => by
    have h1 := qKs_ok (σ := σ) (a := a) h (show b < n by omega)
    have h2 := qKb_ok (σ := σ) (a := a) c (b + 1) _ h1.1 (by omega)
    exact ⟨h2.1, zsub_tr h1.2 h2.2⟩
theorem qKa_ok {σ : Nat → Nat} : ∀ c a s, s < 2 ^ σ 6 → qKa σ c a s < 2 ^ σ 6 ∧ zsub s (qKa σ c a s)
  | 0, _, s, h => ⟨h, zsub_rf s⟩
  | c + 1, a, s, h => by
    have h1 := qKb_ok (σ := σ) (a := a) (σ 6) 0 s h (by omega)
    have h2 := qKa_ok (σ := σ) c (a + 1) _ h1.1
    exact ⟨h2.1, zsub_tr h1.2 h2.2⟩
theorem qKb_eq {σ : Nat → Nat} {n a : Nat} : ∀ c b s, s < 2 ^ n → b + c ≤ n → qKb σ a c b s = s → ∀ j, b ≤ j → j < b + c → qKs σ s a j = s
  | 0, _, _, _, _, _ => fun j h1 h2 => absurd h2 (by omega)
  | c + 1, b, s, h, hb, he => fun j h1 h2 => by
    have p1 := qKs_ok (σ := σ) (a := a) h (show b < n by omega)
    have p2 := qKb_ok (σ := σ) (a := a) c (b + 1) _ p1.1 (by omega)
    have he2 : qKb σ a c (b + 1) (qKs σ s a b) = s := he
    have e : qKs σ s a b = s := zsub_anti (by rw [he2] at p2; exact p2.2) p1.2
    by_cases q : j = b
    · rw [q]; exact e
    · rw [e] at he2
      exact qKb_eq c (b + 1) s h (by omega) he2 j (by omega) (by omega)
theorem qKa_eq {σ : Nat → Nat} : ∀ c a s, s < 2 ^ σ 6 → qKa σ c a s = s → ∀ i, a ≤ i → i < a + c → ∀ j, j < σ 6 → qKs σ s i j = s
  | 0, _, _, _, _ => fun i h1 h2 => absurd h2 (by omega)
  | c + 1, a, s, h, he => fun i h1 h2 j hj => by
    have p1 := qKb_ok (σ := σ) (a := a) (σ 6) 0 s h (by omega)
    have p2 := qKa_ok (σ := σ) c (a + 1) _ p1.1
    have he2 : qKa σ c (a + 1) (qKb σ a (σ 6) 0 s) = s := he
    have e : qKb σ a (σ 6) 0 s = s := zsub_anti (by rw [he2] at p2; exact p2.2) p1.2
    by_cases q : i = a
    · rw [q]; exact qKb_eq (σ 6) 0 s h (by omega) e j (Nat.zero_le _) (by omega)
    · rw [e] at he2
      exact qKa_eq c (a + 1) s h he2 i (by omega) (by omega) j hj
theorem or_bit {s b : Nat} (h : s ||| 2 ^ b = s) : s.testBit b = true := by
  rw [← h, Nat.testBit_or, Nat.testBit_two_pow_self, Bool.or_true]
theorem or_cases {s b i : Nat} (h : (s ||| 2 ^ b).testBit i = true) : s.testBit i = true ∨ i = b := by
  rw [Nat.testBit_or, Bool.or_eq_true] at h
  rcases h with h | h
  · exact Or.inl h
  · rw [Nat.testBit_two_pow] at h; exact Or.inr (of_decide_eq_true h).symm
theorem qKs_snd {σ : Nat → Nat} {C : Nat → Prop} (hC : zCl σ C) {s a b : Nat} (ha : a < σ 6) (hb : b < σ 6) (h : ∀ i, s.testBit i = true → C i) : ∀ i, (qKs σ s a b).testBit i = true → C i := by
  intro i hi
  unfold qKs at hi
  by_cases e : (s.testBit a && qClose σ a b) = true
  · rw [if_pos e] at hi
    rw [Bool.and_eq_true] at e
    rcases or_cases hi with q | q
    · exact h i q
    · rw [q]; exact hC a b ha hb (h a e.1) e.2
  · rw [if_neg e] at hi; exact h i hi
theorem qKb_snd {σ : Nat → Nat} {C : Nat → Prop} (hC : zCl σ C) {a : Nat} (ha : a < σ 6) : ∀ c b s, b + c ≤ σ 6 → (∀ i, s.testBit i = true → C i) → ∀ i, (qKb σ a c b s).testBit i = true → C i
  | 0, _, _, _, h => h
  | c + 1, b, s, hb, h => qKb_snd hC ha c (b + 1) _ (by omega) (qKs_snd hC ha (by omega) h)
theorem qKa_snd {σ : Nat → Nat} {C : Nat → Prop} (hC : zCl σ C) : ∀ c a s, a + c ≤ σ 6 → (∀ i, s.testBit i = true → C i) → ∀ i, (qKa σ c a s).testBit i = true → C i
  | 0, _, _, _, h => h
  | c + 1, a, s, ha, h => qKa_snd hC c (a + 1) _ (by omega) (qKb_snd hC (by omega) (σ 6) 0 s (by omega) h)
theorem zit_snd {f : Nat → Nat} {P : Nat → Prop} (hf : ∀ s, P s → P (f s)) : ∀ c s, P s → P (zit f c s)
  | 0, _, h => h
  | c + 1, s, h => zit_snd hf c _ (hf s h)
theorem pow_bit {k i : Nat} (h : (2 ^ k).testBit i = true) : i = k := by rw [Nat.testBit_two_pow] at h; exact (of_decide_eq_true h).symm
theorem isKin_ref {σ : Nat → Nat} (h6 : σ 6 ≤ 6) {k : Nat} (hk : k < σ 6) : isKin σ k (qKt σ (σ 6) (2 ^ k)) := by
  rw [qKt_zit]
  have hf : ∀ s, s < 2 ^ σ 6 → qKa σ (σ 6) 0 s < 2 ^ σ 6 ∧ zsub s (qKa σ (σ 6) 0 s) := fun s hs => qKa_ok _ _ s hs
  have h0 : 2 ^ k < 2 ^ σ 6 := Nat.pow_lt_pow_right (by decide) hk
  have h1 := zit_ok hf (σ 6) (2 ^ k) h0
  have h2 := zit_fix h6 hk hf
  refine ⟨h1.1, h1.2 k Nat.testBit_two_pow_self, fun a b ha hb hab hc => ?_, fun C hCk hC => ?_⟩
  · have h3 := qKa_eq (σ := σ) (σ 6) 0 _ h1.1 h2 a (Nat.zero_le _) (by omega) b hb
    unfold qKs at h3
    rw [if_pos (by rw [hab, hc]; rfl)] at h3
    exact or_bit h3
  · exact zit_snd (P := fun s => ∀ i, s.testBit i = true → C i) (fun s hs => qKa_snd hC (σ 6) 0 s (by omega) hs) (σ 6) (2 ^ k) (fun i hi => by rw [pow_bit hi]; exact hCk)
/-! the class's -/
theorem cAny_iff {σ : Nat → Nat} {o s : Nat} : ∀ c k, cAny σ o s c k = true ↔ ∃ j, k ≤ j ∧ j < k + c ∧ s.testBit j = true ∧ cNear σ j o = true
  | 0, k => ⟨fun h => absurd h (by unfold cAny; decide), fun ⟨j, h1, h2, _⟩ => absurd h2 (by omega)⟩
  | c + 1, k => by
    unfold cAny
    by_cases e : (s.testBit k && cNear σ k o) = true
    · rw [if_pos e]
      rw [Bool.and_eq_true] at e
      exact ⟨fun _ => ⟨k, Nat.le_refl _, by omega, e.1, e.2⟩, fun _ => rfl⟩
    · rw [if_neg e, cAny_iff c (k + 1)]
      constructor
      · rintro ⟨j, h1, h2, h3⟩
        exact ⟨j, by omega, by omega, h3⟩
      · rintro ⟨j, h1, h2, h3, h4⟩
        refine ⟨j, ?_, by omega, h3, h4⟩
        by_cases q : j = k
        · rw [q] at h3 h4; rw [h3, h4] at e; exact absurd rfl e
        · omega
theorem cKs_ok {σ : Nat → Nat} {n s o : Nat} (hs : s < 2 ^ n) (ho : o < n) : cKs σ s o < 2 ^ n ∧ zsub s (cKs σ s o) := by
  unfold cKs
  split
  · exact ⟨or_lt hs ho, zsub_or _ _⟩
  · exact ⟨hs, zsub_rf _⟩
theorem cKb_ok {σ : Nat → Nat} {n : Nat} : ∀ c o s, s < 2 ^ n → o + c ≤ n → cKb σ c o s < 2 ^ n ∧ zsub s (cKb σ c o s)
  | 0, _, s, h, _ => ⟨h, zsub_rf s⟩
  | c + 1, o, s, h, ho => by
    have h1 := cKs_ok (σ := σ) h (show o < n by omega)
    have h2 := cKb_ok (σ := σ) c (o + 1) _ h1.1 (by omega)
    exact ⟨h2.1, zsub_tr h1.2 h2.2⟩
theorem cKb_eq {σ : Nat → Nat} {n : Nat} : ∀ c o s, s < 2 ^ n → o + c ≤ n → cKb σ c o s = s → ∀ j, o ≤ j → j < o + c → cKs σ s j = s
  | 0, _, _, _, _, _ => fun j h1 h2 => absurd h2 (by omega)
  | c + 1, o, s, h, ho, he => fun j h1 h2 => by
    have p1 := cKs_ok (σ := σ) h (show o < n by omega)
    have p2 := cKb_ok (σ := σ) c (o + 1) _ p1.1 (by omega)
    have he2 : cKb σ c (o + 1) (cKs σ s o) = s := he
    have e : cKs σ s o = s := zsub_anti (by rw [he2] at p2; exact p2.2) p1.2
    by_cases q : j = o
    · rw [q]; exact e
    · rw [e] at he2
      exact cKb_eq c (o + 1) s h (by omega) he2 j (by omega) (by omega)
theorem cKs_snd {σ : Nat → Nat} {C : Nat → Prop} (hC : zCl σ C) {s o : Nat} (ho : o < σ 6) (h : ∀ i, s.testBit i = true → C i ∧ σ (38 + 6 * i + 5) = 0 ∧ i < σ 6) : ∀ i, (cKs σ s o).testBit i = true → C i ∧ σ (38 + 6 * i + 5) = 0 ∧ i < σ 6 := by
  intro i hi
  unfold cKs at hi
  by_cases e : σ (38 + 6 * o + 5) = 0 ∧ cAny σ o s (σ 6) 0 = true
  · rw [if_pos e] at hi
    rcases or_cases hi with q | q
    · exact h i q
    · obtain ⟨j, _, _, h3, h4⟩ := (cAny_iff _ _).mp e.2
      obtain ⟨c1, c2, c3⟩ := h j h3
      rw [q]
      exact ⟨hC j o c3 ho c1 (qClose_iff.mpr ⟨c2, e.1, h4⟩), e.1, ho⟩
  · rw [if_neg e] at hi; exact h i hi
theorem cKb_snd {σ : Nat → Nat} {C : Nat → Prop} (hC : zCl σ C) : ∀ c o s, o + c ≤ σ 6 → (∀ i, s.testBit i = true → C i ∧ σ (38 + 6 * i + 5) = 0 ∧ i < σ 6) → ∀ i, (cKb σ c o s).testBit i = true → C i ∧ σ (38 + 6 * i + 5) = 0 ∧ i < σ 6
  | 0, _, _, _, h => h
  | c + 1, o, s, ho, h => cKb_snd hC c (o + 1) _ (by omega) (cKs_snd hC (by omega) h)
theorem isKin_cls {σ : Nat → Nat} (h6 : σ 6 ≤ 6) {k : Nat} (hk : k < σ 6) (hu : σ (38 + 6 * k + 5) = 0) : isKin σ k (cKin σ k) := by
  unfold cKin
  have hf : ∀ s, s < 2 ^ σ 6 → cKb σ (σ 6) 0 s < 2 ^ σ 6 ∧ zsub s (cKb σ (σ 6) 0 s) := fun s hs => cKb_ok _ _ s hs (by omega)
  have h0 : 2 ^ k < 2 ^ σ 6 := Nat.pow_lt_pow_right (by decide) hk
  have h1 := zit_ok hf (σ 6) (2 ^ k) h0
  have h2 := zit_fix h6 hk hf
  have hs : ∀ C : Nat → Prop, C k → zCl σ C → ∀ i, (zit (cKb σ (σ 6) 0) (σ 6) (2 ^ k)).testBit i = true → C i ∧ σ (38 + 6 * i + 5) = 0 ∧ i < σ 6 := fun C hCk hC =>
    zit_snd (P := fun s => ∀ i, s.testBit i = true → C i ∧ σ (38 + 6 * i + 5) = 0 ∧ i < σ 6) (fun s hs => cKb_snd hC (σ 6) 0 s (by omega) hs) (σ 6) (2 ^ k) (fun i hi => by rw [pow_bit hi]; exact ⟨hCk, hu, hk⟩)
  refine ⟨h1.1, h1.2 k Nat.testBit_two_pow_self, fun a b ha hb hab hc => ?_, fun C hCk hC i hi => (hs C hCk hC i hi).1⟩
  have h3 := cKb_eq (σ := σ) (n := σ 6) (σ 6) 0 _ h1.1 (by omega) h2 b (Nat.zero_le _) (by omega)
  unfold cKs at h3
  have hq := qClose_iff.mp hc
  rw [if_pos ⟨hq.2.1, (cAny_iff _ _).mpr ⟨a, Nat.zero_le _, by omega, hab, hq.2.2⟩⟩] at h3
  exact or_bit h3
theorem kin_same {σ : Nat → Nat} (h6 : σ 6 ≤ 6) {k : Nat} (hk : k < σ 6) (hu : σ (38 + 6 * k + 5) = 0) : cKin σ k = qKt σ (σ 6) (2 ^ k) := isKin_un (isKin_cls h6 hk hu) (isKin_ref h6 hk)
theorem kin_eq {σ : Nat → Nat} (hk : qOk σ) {a : Nat} (ha : a < σ 6) : (if 0 < σ (38 + 6 * a + 5) then 0 else cKin σ a) = qKin σ a := by
  have h1 := qOk_called hk (a := a) (Nat.lt_of_lt_of_le ha hk.2.1)
  unfold qKin
  by_cases e : 0 < σ (38 + 6 * a + 5)
  · rw [if_pos e, if_pos (by omega)]
  · rw [if_neg e, if_neg (by omega), kin_same hk.2.1 ha (by omega)]
/-! how many kins there are -/
theorem kin_sym {σ : Nat → Nat} {k m K L : Nat} (h : isKin σ k K) (h2 : isKin σ m L) (hm : K.testBit m = true) : L.testBit k = true := by
  cases e : L.testBit k with
  | true => rfl
  | false =>
    have q := h.2.2.2 (fun i => ¬ L.testBit i = true) (by show ¬ L.testBit k = true; rw [e]; decide) (fun a b ha hb ca hc cb => ca (h2.2.2.1 b a hb ha cb (qClose_sym hc))) m hm
    exact absurd h2.2.1 q
theorem kin_unc {σ : Nat → Nat} {k K : Nat} (h : isKin σ k K) (hu : σ (38 + 6 * k + 5) = 0) (hk : k < σ 6) {i : Nat} (hi : K.testBit i = true) : σ (38 + 6 * i + 5) = 0 ∧ i < σ 6 := h.2.2.2 (fun i => σ (38 + 6 * i + 5) = 0 ∧ i < σ 6) ⟨hu, hk⟩ (fun a b ha hb _ hc => ⟨(qClose_iff.mp hc).2.1, hb⟩) i hi
theorem mod_zero {x k : Nat} : x % 2 ^ k = 0 ↔ ∀ j, j < k → x.testBit j = false := by
  constructor
  · intro h j hj
    have h2 := Nat.testBit_mod_two_pow x k j
    rw [h, Nat.zero_testBit, decide_eq_true hj, Bool.true_and] at h2
    exact h2.symm
  · intro h
    apply Nat.eq_of_testBit_eq
    intro i
    rw [Nat.testBit_mod_two_pow, Nat.zero_testBit]
    by_cases hi : i < k
    · rw [h i hi, Bool.and_false]
    · rw [decide_eq_false hi, Bool.false_and]
theorem kin_cnt {σ : Nat → Nat} (hk : qOk σ) : ∀ c k s, k + c = σ 6 → (∀ i, i < σ 6 → (s.testBit i = true ↔ (0 < σ (38 + 6 * i + 5) ∨ ∃ j, j < k ∧ σ (38 + 6 * j + 5) = 0 ∧ (cKin σ j).testBit i = true))) → cCnt σ c k s = qKinN σ c k
  | 0, _, _, _, _ => rfl
  | c + 1, k, s, hc, hs => by
    have h6 := hk.2.1
    have hkn : k < σ 6 := by omega
    have hsk := hs k hkn
    have hqk := (kin_eq hk hkn).symm
    unfold cCnt qKinN
    by_cases hu : 0 < σ (38 + 6 * k + 5)
    · rw [if_pos hu] at hqk
      rw [if_pos (hsk.mpr (Or.inl hu)), if_neg (by rw [hqk]; simp), Nat.zero_add]
      refine kin_cnt hk c (k + 1) s (by omega) fun i hi => (hs i hi).trans (or_congr_right ⟨fun ⟨j, h1, h2, h3⟩ => ⟨j, by omega, h2, h3⟩, fun ⟨j, h1, h2, h3⟩ => ⟨j, ?_, h2, h3⟩⟩)
      by_cases e : j = k
      · rw [e] at h2; omega
      · omega
    · rw [if_neg hu] at hqk
      have hK := isKin_cls h6 hkn (by omega : σ (38 + 6 * k + 5) = 0)
      by_cases hb : s.testBit k = true
      · rcases hsk.mp hb with q | ⟨j, hj, hju, hjk⟩
        · exact absurd q hu
        · have hJ := isKin_cls h6 (show j < σ 6 by omega) hju
          rw [if_pos hb, if_neg, Nat.zero_add]
          · refine kin_cnt hk c (k + 1) s (by omega) fun i hi => (hs i hi).trans (or_congr_right ⟨fun ⟨j, h1, h2, h3⟩ => ⟨j, by omega, h2, h3⟩, fun ⟨j2, h1, h2, h3⟩ => ?_⟩)
            by_cases e : j2 = k
            · rw [e] at h3
              exact ⟨j, hj, hju, hK.2.2.2 (fun i => (cKin σ j).testBit i = true) hjk hJ.2.2.1 i h3⟩
            · exact ⟨j2, by omega, h2, h3⟩
          · rw [hqk]
            rintro ⟨-, hm⟩
            have h1 := mod_zero.mp hm j hj
            rw [kin_sym hJ hK hjk] at h1
            exact absurd h1 (by decide)
      · have hnj : ∀ j, j < k → (cKin σ k).testBit j = false := fun j hj => by
          cases e : (cKin σ k).testBit j with
          | false => rfl
          | true =>
            have hju := kin_unc hK (by omega) hkn e
            exact absurd (hsk.mpr (Or.inr ⟨j, hj, hju.1, kin_sym hK (isKin_cls h6 hju.2 hju.1) e⟩)) hb
        rw [if_neg hb, if_pos]
        · rw [Nat.add_comm]
          congr 1
          refine kin_cnt hk c (k + 1) _ (by omega) fun i hi => ?_
          rw [Nat.testBit_or, Bool.or_eq_true, hs i hi]
          constructor
          · rintro ((h | ⟨j, h1, h2, h3⟩) | h)
            · exact Or.inl h
            · exact Or.inr ⟨j, by omega, h2, h3⟩
            · exact Or.inr ⟨k, by omega, by omega, h⟩
          · rintro (h | ⟨j, h1, h2, h3⟩)
            · exact Or.inl (Or.inl h)
            · by_cases e : j = k
              · rw [e] at h3; exact Or.inr h3
              · exact Or.inl (Or.inr ⟨j, by omega, h2, h3⟩)
        · rw [hqk]
          refine ⟨fun z => ?_, mod_zero.mpr hnj⟩
          have := hK.2.1
          rw [z, Nat.zero_testBit] at this
          exact absurd this (by decide)
theorem kin_all {σ : Nat → Nat} (hk : qOk σ) : cCnt σ (σ 6) 0 (qCalled σ) = qKinN σ (σ 6) 0 := kin_cnt hk (σ 6) 0 _ (Nat.zero_add _) fun i hi => by
  rw [qCalled_tb, decide_eq_true hi, Bool.true_and, decide_eq_true_eq]
  exact ⟨fun h => Or.inl h, fun h => h.resolve_right fun ⟨j, h1, _⟩ => absurd h1 (Nat.not_lt_zero j)⟩
