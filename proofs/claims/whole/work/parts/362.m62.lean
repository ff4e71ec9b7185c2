/-! the class's rules: steps that put truths on one another -/
theorem zand2 (a b : Nat) : nI a &&& nI b = nI (a &&& b) := Int32.toBitVec_inj.mp (by show BitVec.ofNat 32 a &&& BitVec.ofNat 32 b = BitVec.ofNat 32 (a &&& b); rw [BitVec.ofNat_and])
theorem zor2 (a b : Nat) : nI a ||| nI b = nI (a ||| b) := Int32.toBitVec_inj.mp (by show BitVec.ofNat 32 a ||| BitVec.ofNat 32 b = BitVec.ofNat 32 (a ||| b); rw [BitVec.ofNat_or])
theorem zxor2 (a b : Nat) : nI a ^^^ nI b = nI (a ^^^ b) := Int32.toBitVec_inj.mp (by show BitVec.ofNat 32 a ^^^ BitVec.ofNat 32 b = BitVec.ofNat 32 (a ^^^ b); rw [BitVec.ofNat_xor])
def bN (b : Bool) : Nat := if b then 1 else 0
theorem bN_lt (b : Bool) : bN b < 2 := by cases b <;> decide
theorem nbit0 (s : Nat) (b : Bool) : (2 * s + bN b).testBit 0 = b := by
  rw [Nat.testBit_zero]
  cases b
  · exact decide_eq_false (by show ¬ (2 * s + 0) % 2 = 1; omega)
  · exact decide_eq_true (by show (2 * s + 1) % 2 = 1; omega)
theorem nbitS (s : Nat) (b : Bool) (i : Nat) : (2 * s + bN b).testBit (i + 1) = s.testBit i := by
  have := bN_lt b
  rw [Nat.testBit_succ, show (2 * s + bN b) / 2 = s by omega]
theorem nbN0 (b : Bool) : (bN b).testBit 0 = b := by have h := nbit0 0 b; rw [Nat.mul_zero, Nat.zero_add] at h; exact h
theorem nbNS (b : Bool) (i : Nat) : (bN b).testBit (i + 1) = false := by have h := nbitS 0 b i; rw [Nat.mul_zero, Nat.zero_add, Nat.zero_testBit] at h; exact h
theorem nat2_or (s : Nat) (b c : Bool) : (2 * s + bN b) ||| bN c = 2 * s + bN (b || c) := by
  apply Nat.eq_of_testBit_eq
  intro i
  rw [Nat.testBit_or]
  cases i with
  | zero => rw [nbit0, nbit0, nbN0]
  | succ i => rw [nbitS, nbitS, nbNS, Bool.or_false]
theorem nat2_xor (s : Nat) (b : Bool) : (2 * s + bN b) ^^^ 1 = 2 * s + bN (!b) := by
  apply Nat.eq_of_testBit_eq
  intro i
  rw [show (1 : Nat) = bN true from rfl, Nat.testBit_xor]
  cases i with
  | zero => rw [nbit0, nbit0, nbN0]; cases b <;> rfl
  | succ i => rw [nbitS, nbitS, nbNS]; cases s.testBit i <;> rfl
theorem nat2_m2 {t : Nat} (h : t < 2 ^ 31) : t &&& 4294967294 = 2 * (t / 2) + bN false := by
  apply Nat.eq_of_testBit_eq
  intro i
  rw [Nat.testBit_and]
  cases i with
  | zero => rw [nbit0]; simp [Nat.testBit_zero]
  | succ i =>
    rw [nbitS, Nat.testBit_succ, Nat.testBit_succ, show 4294967294 / 2 = 2 ^ 31 - 1 from rfl, Nat.testBit_two_pow_sub_one]
    by_cases hi : i < 31
    · rw [decide_eq_true hi, Bool.and_true]
    · rw [decide_eq_false hi, Bool.and_false, Nat.testBit_lt_two_pow]
      exact Nat.lt_of_lt_of_le (show t / 2 < 2 ^ 31 by omega) (Nat.pow_le_pow_right (by decide) (by omega))
/-- the truths as a number: the latest lowest, a 1 ahead of all -/
def qTr : List Bool → Nat
  | [] => 1
  | b :: B => 2 * qTr B + bN b
theorem qTr_lt : ∀ B : List Bool, qTr B < 2 ^ (B.length + 1)
  | [] => by decide
  | b :: B => by
    have h := qTr_lt B
    have h2 := bN_lt b
    show 2 * qTr B + bN b < 2 ^ (B.length + 1 + 1)
    rw [Nat.pow_succ]
    omega
theorem qTr_b {B : List Bool} (h : B.length ≤ 25) : qTr B < 2 ^ 26 := Nat.lt_of_lt_of_le (qTr_lt B) (Nat.pow_le_pow_right (by decide) (by omega))
def cTop : List Bool → Bool
  | [] => true
  | b :: _ => b
theorem qTr_top (B : List Bool) : nI (qTr B) &&& nI 1 = nI (bN (cTop B)) := by
  rw [zand2, Nat.and_one_is_mod]
  congr 1
  cases B with
  | nil => rfl
  | cons b B => have := bN_lt b; show (2 * qTr B + bN b) % 2 = bN b; omega
theorem qTr_half {B : List Bool} (h : B.length ≤ 25) : nI (qTr B) >>> (nI 1 &&& 31) = nI (qTr B / 2) := pk_shrN (Nat.lt_trans (qTr_b h) (by decide)) _ 1 (by decide)
theorem qTr_tl (b : Bool) (B : List Bool) : qTr (b :: B) / 2 = qTr B := by have := bN_lt b; show (2 * qTr B + bN b) / 2 = qTr B; omega
theorem qTr_not (b : Bool) (B : List Bool) : nI (qTr (b :: B)) ^^^ nI 1 = nI (qTr ((!b) :: B)) := by rw [zxor2]; exact congrArg nI (nat2_xor (qTr B) b)
theorem qTr_or (b c : Bool) (B : List Bool) : nI (qTr (c :: B)) ||| nI (bN b) = nI (qTr ((c || b) :: B)) := by rw [zor2]; exact congrArg nI (nat2_or (qTr B) c b)
theorem qTr_m2 {c : Bool} {B : List Bool} (h : B.length ≤ 24) : nI (qTr (c :: B)) &&& (-2) = nI (qTr (false :: B)) := by
  rw [show (-2 : Int32) = nI 4294967294 from rfl, zand2, nat2_m2 (Nat.lt_trans (qTr_b (show (c :: B).length ≤ 25 by rw [List.length_cons]; omega)) (by decide)), qTr_tl]
  rfl
theorem qTr_push (b : Bool) {B : List Bool} : nI (2 * qTr B) ||| nI (bN b) = nI (qTr (b :: B)) := by
  rw [zor2]
  have h := nat2_or (qTr B) false b
  rw [show 2 * qTr B + bN false = 2 * qTr B from rfl, Bool.false_or] at h
  exact congrArg nI h
/-- a side as the class has it: below 0 a fact -/
def cSd (c : Nat) : Int32 := if c < 10000 then nI c else -1 - nI (c - 10000)
def gVal (kn : Nat → Nat) (c : Nat) : Nat := if c < 10000 then c else kn (c - 10000)
def gCmpB (op a b : Nat) : Bool := if op = 4 then decide (a < b) else if op = 5 then decide (a = b) else decide (b < a)
def cOne (kn : Nat → Nat) (t : Nat × Nat × Nat) (B : List Bool) : Option (List Bool) :=
  if t.1 = 1 then (match B with | b :: B => some ((!b) :: B) | [] => none)
  else if t.1 = 2 then (match B with | b :: c :: B => some ((c && b) :: B) | _ => none)
  else if t.1 = 3 then (match B with | b :: c :: B => some ((c || b) :: B) | _ => none)
  else if B.length < 25 ∧ 4 ≤ t.1 ∧ t.1 ≤ 6 ∧ t.2.1 < 10005 ∧ t.2.2 < 10005 then some (gCmpB t.1 (gVal kn t.2.1) (gVal kn t.2.2) :: B) else none
def cRunF (kn : Nat → Nat) (T : Nat → Nat × Nat × Nat) : Nat → Nat → List Bool → Option (List Bool)
  | 0, _, B => some B
  | c + 1, i, B => (cOne kn (T i) B).bind (cRunF kn T c (i + 1))
theorem cOne_1 {kn : Nat → Nat} {t : Nat × Nat × Nat} {B F : List Bool} {f : List Bool → Option (List Bool)} (h : t.1 = 1) (hb : (cOne kn t B).bind f = some F) : ∃ b B1, B = b :: B1 ∧ f ((!b) :: B1) = some F := by
  unfold cOne at hb
  rw [if_pos h] at hb
  cases B with
  | nil => cases hb
  | cons b B1 => exact ⟨b, B1, rfl, hb⟩
theorem cOne_2 {kn : Nat → Nat} {t : Nat × Nat × Nat} {B F : List Bool} {f : List Bool → Option (List Bool)} (h : t.1 = 2) (hb : (cOne kn t B).bind f = some F) : ∃ b c B1, B = b :: c :: B1 ∧ f ((c && b) :: B1) = some F := by
  unfold cOne at hb
  rw [if_neg (by omega), if_pos h] at hb
  cases B with
  | nil => cases hb
  | cons b B1 => cases B1 with
    | nil => cases hb
    | cons c B2 => exact ⟨b, c, B2, rfl, hb⟩
theorem cOne_3 {kn : Nat → Nat} {t : Nat × Nat × Nat} {B F : List Bool} {f : List Bool → Option (List Bool)} (h : t.1 = 3) (hb : (cOne kn t B).bind f = some F) : ∃ b c B1, B = b :: c :: B1 ∧ f ((c || b) :: B1) = some F := by
  unfold cOne at hb
  rw [if_neg (by omega), if_neg (by omega), if_pos h] at hb
  cases B with
  | nil => cases hb
  | cons b B1 => cases B1 with
    | nil => cases hb
    | cons c B2 => exact ⟨b, c, B2, rfl, hb⟩
theorem cOne_4 {kn : Nat → Nat} {t : Nat × Nat × Nat} {B F : List Bool} {f : List Bool → Option (List Bool)} (h1 : ¬ t.1 = 1) (h2 : ¬ t.1 = 2) (h3 : ¬ t.1 = 3) (hb : (cOne kn t B).bind f = some F) : B.length < 25 ∧ 4 ≤ t.1 ∧ t.1 ≤ 6 ∧ t.2.1 < 10005 ∧ t.2.2 < 10005 ∧ f (gCmpB t.1 (gVal kn t.2.1) (gVal kn t.2.2) :: B) = some F := by
  unfold cOne at hb
  rw [if_neg h1, if_neg h2, if_neg h3] at hb
  by_cases h : B.length < 25 ∧ 4 ≤ t.1 ∧ t.1 ≤ 6 ∧ t.2.1 < 10005 ∧ t.2.2 < 10005
  · rw [if_pos h] at hb; exact ⟨h.1, h.2.1, h.2.2.1, h.2.2.2.1, h.2.2.2.2, hb⟩
  · rw [if_neg h] at hb; cases hb
theorem zfact (f : Nat) : (-1 : Int32) - (-1 - nI f) = nI f := by
  apply Int32.toBitVec_inj.mp
  show (-1#32) - ((-1#32) - BitVec.ofNat 32 f) = BitVec.ofNat 32 f
  bv_omega
theorem zfact1 (f : Nat) : (-1 : Int32) - nI f = nI 0 - nI (f + 1) := by
  apply Int32.toBitVec_inj.mp
  show (-1#32) - BitVec.ofNat 32 f = 0#32 - BitVec.ofNat 32 (f + 1)
  bv_omega
theorem zfneg {f : Nat} (h : f < 1000) : ¬ ¬ (-1 : Int32) - nI f < 0 := fun c => c (by
  rw [zfact1, Int32.lt_iff_toInt_lt, pk_sub_toInt (a := 0) (b := f + 1) (by decide) (by omega), Int32.toInt_zero]
  omega)
set_option maxRecDepth 100000 in
set_option maxHeartbeats 4000000 in
theorem ok_X7_isTrue {M : zMem} {a b e : Nat} (h4 : 4 ≤ a) (h6 : a ≤ 6) (hb : b < 100000) (he : e < 100000) : zOkI zw0 0 mX7_isTrue [.int (nI a), .int (nI b), .int (nI e)] M (zb (gCmpB a b e)) := by
  refine zOk_of (by decide +kernel) (fun _ => Nat.le_of_ble_eq_true rfl) (L := [(0, .int (nI a)), (1, .int (nI b)), (2, .int (nI e))]) rfl ?_
  refine zi_iload_n dX7_isTrue_0 (i := 0) rfl 0 rfl ?_
  refine zi_iconst (v := nI 4) dX7_isTrue_1 (by decide) ?_
  refine zi_icmpN_ne (by  omega) (by decide) (tgt := 18) dX7_isTrue_2 (by decide) (fun c2 => ?_) (fun c2 => ?_)
  · refine zi_iload_n dX7_isTrue_18 (i := 0) rfl 0 rfl ?_
    refine zi_iconst (v := nI 5) dX7_isTrue_19 (by decide) ?_
    refine zi_icmpN_ne (by  omega) (by decide) (tgt := 36) dX7_isTrue_20 (by decide) (fun c20 => ?_) (fun c20 => ?_)
    · refine zi_iload_n dX7_isTrue_36 (i := 1) rfl 1 rfl ?_
      refine zi_iload_n dX7_isTrue_37 (i := 2) rfl 2 rfl ?_
      refine zi_icmpN_le (by  omega) (by  omega) (tgt := 45) dX7_isTrue_38 (by decide) (fun c38 => ?_) (fun c38 => ?_)
      · refine zi_iconst (v := nI 0) dX7_isTrue_45 (by decide) ?_
        refine zi_retI rfl rfl dX7_isTrue_46 ?_
        unfold gCmpB
        refine zb_eq0 ?_
        (repeat' split) <;> first | exact decide_eq_true (by omega) | exact decide_eq_false (by omega) | omega
      · refine zi_iconst (v := nI 1) dX7_isTrue_41 (by decide) ?_
        refine zi_goto (tgt := 46) dX7_isTrue_42 (by decide) ?_
        refine zi_retI rfl rfl dX7_isTrue_46 ?_
        unfold gCmpB
        refine zb_eq1 ?_
        (repeat' split) <;> first | exact decide_eq_true (by omega) | exact decide_eq_false (by omega) | omega
    · refine zi_iload_n dX7_isTrue_23 (i := 1) rfl 1 rfl ?_
      refine zi_iload_n dX7_isTrue_24 (i := 2) rfl 2 rfl ?_
      refine zi_icmpN_ne (by  omega) (by  omega) (tgt := 32) dX7_isTrue_25 (by decide) (fun c25 => ?_) (fun c25 => ?_)
      · refine zi_iconst (v := nI 0) dX7_isTrue_32 (by decide) ?_
        refine zi_goto (tgt := 46) dX7_isTrue_33 (by decide) ?_
        refine zi_retI rfl rfl dX7_isTrue_46 ?_
        unfold gCmpB
        refine zb_eq0 ?_
        (repeat' split) <;> first | exact decide_eq_true (by omega) | exact decide_eq_false (by omega) | omega
      · refine zi_iconst (v := nI 1) dX7_isTrue_28 (by decide) ?_
        refine zi_goto (tgt := 46) dX7_isTrue_29 (by decide) ?_
        refine zi_retI rfl rfl dX7_isTrue_46 ?_
        unfold gCmpB
        refine zb_eq1 ?_
        (repeat' split) <;> first | exact decide_eq_true (by omega) | exact decide_eq_false (by omega) | omega
  · refine zi_iload_n dX7_isTrue_5 (i := 1) rfl 1 rfl ?_
    refine zi_iload_n dX7_isTrue_6 (i := 2) rfl 2 rfl ?_
    refine zi_icmpN_ge (by  omega) (by  omega) (tgt := 14) dX7_isTrue_7 (by decide) (fun c7 => ?_) (fun c7 => ?_)
    · refine zi_iconst (v := nI 0) dX7_isTrue_14 (by decide) ?_
      refine zi_goto (tgt := 46) dX7_isTrue_15 (by decide) ?_
      refine zi_retI rfl rfl dX7_isTrue_46 ?_
      unfold gCmpB
      refine zb_eq0 ?_
      (repeat' split) <;> first | exact decide_eq_true (by omega) | exact decide_eq_false (by omega) | omega
    · refine zi_iconst (v := nI 1) dX7_isTrue_10 (by decide) ?_
      refine zi_goto (tgt := 46) dX7_isTrue_11 (by decide) ?_
      refine zi_retI rfl rfl dX7_isTrue_46 ?_
      unfold gCmpB
      refine zb_eq1 ?_
      (repeat' split) <;> first | exact decide_eq_true (by omega) | exact decide_eq_false (by omega) | omega
theorem gVal_lt {kn : Nat → Nat} {c : Nat} (h : ∀ f, f < 5 → kn f < 100000) (hc : c < 10005) : gVal kn c < 100000 := by
  unfold gVal
  split
  · omega
  · exact h _ (by omega)
set_option maxRecDepth 100000 in
set_option maxHeartbeats 4000000 in
theorem num_X7_side_23 {M : zMem} {c : Nat} (hc : c < 10000) : zOkI zw0 0 mX7_side [.ref 23, .int (nI c)] M (nI c) := by
  refine zOk_of (by decide +kernel) (fun _ => Nat.le_of_ble_eq_true rfl) (L := [(0, .ref 23), (1, .int (nI c))]) rfl ?_
  refine zi_iload_n dX7_side_0 (i := 1) rfl 1 rfl ?_
  refine zi_ifN_lt (by  omega) (tgt := 8) dX7_side_1 (by decide) (fun c1 => False.elim (by exact absurd c1 (Nat.not_lt_zero _))) (fun c1 => ?_)
  refine zi_iload_n dX7_side_4 (i := 1) rfl 1 rfl ?_
  refine zi_goto (tgt := 16) dX7_side_5 (by decide) ?_
  refine zi_retI rfl rfl dX7_side_16 ?_
  rfl
set_option maxRecDepth 100000 in
set_option maxHeartbeats 4000000 in
theorem fact_X7_side_23 {M : zMem} {kn : Nat → Nat} {f : Nat} (hf : ∀ f, f < 5 → M 30 f = nI (kn f)) (hc : f < 5) : zOkI zw0 0 mX7_side [.ref 23, .int (-1 - nI f)] M (nI (kn f)) := by
  refine zOk_of (by decide +kernel) (fun _ => Nat.le_of_ble_eq_true rfl) (L := [(0, .ref 23), (1, .int (-1 - nI f))]) rfl ?_
  refine zi_iload_n dX7_side_0 (i := 1) rfl 1 rfl ?_
  refine zi_if_lt (tgt := 8) dX7_side_1 (by decide) (fun c1 => ?_) (fun c1 => False.elim (by exact absurd c1 (zfneg (by omega))))
  refine zi_aload_n dX7_side_8 (i := 0) rfl 0 rfl ?_
  refine zi_getR fd_X7_30_X7 rfl cw0_23 rfl dX7_side_9 ?_
  refine zi_iconst (v := (-1)) dX7_side_12 (by decide) ?_
  refine zi_iload_n dX7_side_13 (i := 1) rfl 1 rfl ?_
  refine zi_isub dX7_side_14 ?_
  refine zi_top (y := nI f) (zfact f) ?_
  refine zi_ialdN cw0_30 (by omega) (by decide) dX7_side_15 ?_
  refine zi_top (y := nI (kn f)) ((hf _ (by omega))) ?_
  refine zi_retI rfl rfl dX7_side_16 ?_
  rfl
theorem ok_X7_side_23 {M : zMem} {kn : Nat → Nat} {c : Nat} (hf : ∀ f, f < 5 → M 30 f = nI (kn f)) (hc : c < 10005) : zOkI zw0 0 mX7_side [.ref 23, .int (cSd c)] M (nI (gVal kn c)) := by
  unfold cSd gVal
  by_cases h : c < 10000
  · rw [if_pos h, if_pos h]; exact num_X7_side_23 h
  · rw [if_neg h, if_neg h]; exact fact_X7_side_23 hf (by omega)
set_option maxRecDepth 100000 in
set_option maxHeartbeats 4000000 in
theorem ok_X7_holds_23 {M : zMem} {kn : Nat → Nat} {T : Nat → Nat × Nat × Nat} {p q : Nat} {F : List Bool} (hf : ∀ f, f < 5 → M 30 f = nI (kn f)) (hkn : ∀ f, f < 5 → kn f < 100000) (hTb : ∀ i, (T i).1 < 100000) (hpq : p ≤ q) (hq : q ≤ 100) (hT : ∀ i, p ≤ i → i < q → M 27 i = nI (T i).1 ∧ M 28 i = cSd (T i).2.1 ∧ M 29 i = cSd (T i).2.2) (hrun : cRunF kn T (q - p) p [] = some F) : zOkI zw0 1 mX7_holds [.ref 23, .int (nI p), .int (nI q)] M (zb (cTop F)) := by
  refine zOk_of (by decide +kernel) (fun _ => Nat.le_of_ble_eq_true rfl) (L := [(0, .ref 23), (1, .int (nI p)), (2, .int (nI q))]) rfl ?_
  refine zi_iconst (v := nI 1) dX7_holds_0 (by decide) ?_
  refine zi_istore_n (L' := [(3, .int (nI 1)), (0, .ref 23), (1, .int (nI p)), (2, .int (nI q))]) dX7_holds_1 (i := 3) rfl (by decide) rfl ?_
  refine zi_iload_n dX7_holds_2 (i := 1) rfl 2 rfl ?_
  refine zi_istore (L' := [(4, .int (nI p)), (3, .int (nI 1)), (0, .ref 23), (1, .int (nI p)), (2, .int (nI q))]) dX7_holds_3 (by decide) rfl ?_
  have lp : ∀ (n c i : Nat) (B : List Bool), c < n → i + c = q → p ≤ i → B.length ≤ 25 → cRunF kn T c i B = some F → zRn zw0 1 mX7_holds (zQI M (zb (cTop F))) 5 [(0, .ref 23), (2, .int (nI q)), (3, .int (nI (qTr B))), (4, .int (nI i))] [] M := by
    intro n
    induction n with
    | zero => intro c i B h1; omega
    | succ n ih =>
      intro c i B h1 h2 h3 h5 h4
      have hqb := qTr_b h5
      have hti := hTb i
      refine zi_iload dX7_holds_5 3 rfl ?_
      refine zi_iload_n dX7_holds_7 (i := 2) rfl 1 rfl ?_
      refine zi_icmpN_ge (by  (first | omega | (have := bN_lt b; omega) | (have := bN_lt (cTop B); omega))) (by  (first | omega | (have := bN_lt b; omega) | (have := bN_lt (cTop B); omega))) (tgt := 137) dX7_holds_8 (by decide) (fun c8 => ?_) (fun c8 => ?_)
      · refine zi_iload_n dX7_holds_137 (i := 3) rfl 2 rfl ?_
        refine zi_iconst (v := nI 1) dX7_holds_138 (by decide) ?_
        refine zi_iand dX7_holds_139 ?_
        refine zi_top (y := nI (bN (cTop B))) (qTr_top B) ?_
        refine zi_iconst (v := nI 1) dX7_holds_140 (by decide) ?_
        refine zi_icmpN_ne (by  (first | omega | (have := bN_lt b; omega) | (have := bN_lt (cTop B); omega))) (by decide) (tgt := 148) dX7_holds_141 (by decide) (fun c141 => ?_) (fun c141 => ?_)
        · refine zi_iconst (v := nI 0) dX7_holds_148 (by decide) ?_
          refine zi_retI rfl rfl dX7_holds_149 ?_
          have ec : c = 0 := by omega
          rw [ec] at h4
          have eB : B = F := Option.some.inj h4
          rw [← eB]
          refine zb_eq0 ?_
          cases hc : cTop B with
          | false => rfl
          | true => rw [hc] at c141; exact absurd rfl c141
        · refine zi_iconst (v := nI 1) dX7_holds_144 (by decide) ?_
          refine zi_goto (tgt := 149) dX7_holds_145 (by decide) ?_
          refine zi_retI rfl rfl dX7_holds_149 ?_
          have ec : c = 0 := by omega
          rw [ec] at h4
          have eB : B = F := Option.some.inj h4
          rw [← eB]
          refine zb_eq1 ?_
          cases hc : cTop B with
          | true => rfl
          | false => rw [hc] at c141; exact absurd c141 (by decide)
      · obtain ⟨c', rfl⟩ : ∃ c', c = c' + 1 := ⟨c - 1, by omega⟩
        refine zi_iload_n dX7_holds_11 (i := 3) rfl 2 rfl ?_
        refine zi_iconst (v := nI 1) dX7_holds_12 (by decide) ?_
        refine zi_ishr dX7_holds_13 ?_
        refine zi_top (y := nI (qTr B / 2)) (qTr_half h5) ?_
        refine zi_istore (L' := [(5, .int (nI (qTr B / 2))), (0, .ref 23), (2, .int (nI q)), (3, .int (nI (qTr B))), (4, .int (nI i))]) dX7_holds_14 (by decide) rfl ?_
        refine zi_aload_n dX7_holds_16 (i := 0) rfl 1 rfl ?_
        refine zi_getR fd_X7_21_X7 rfl cw0_23 rfl dX7_holds_17 ?_
        refine zi_iload dX7_holds_20 4 rfl ?_
        refine zi_ialdN cw0_27 (by omega) (by decide) dX7_holds_22 ?_
        refine zi_top (y := nI ((T i).1)) (((hT i (by omega) (by omega)).1)) ?_
        by_cases e23_1 : (T i).1 = 1
        · refine zi_top (y := nI 1) (congrArg nI e23_1) ?_
          refine zi_tableIn (off := 25) (tgt := 48) dX7_holds_23 (by decide) (by decide) (by decide) (by decide) ?_
          obtain ⟨b, B1, hBe, hB⟩ := cOne_1 e23_1 h4
          refine zi_iload_n dX7_holds_48 (i := 3) rfl 3 rfl ?_
          refine zi_iconst (v := nI 1) dX7_holds_49 (by decide) ?_
          refine zi_ixor dX7_holds_50 ?_
          refine zi_top (y := nI (qTr ((!b) :: B1))) (by rw [hBe]; exact qTr_not b B1) ?_
          refine zi_istore_n (L' := [(3, .int (nI (qTr ((!b) :: B1)))), (5, .int (nI (qTr B / 2))), (0, .ref 23), (2, .int (nI q)), (4, .int (nI i))]) dX7_holds_51 (i := 3) rfl (by decide) rfl ?_
          refine zi_goto (tgt := 131) dX7_holds_52 (by decide) ?_
          refine zi_iincN (L' := [(4, .int (nI (i + 1))), (3, .int (nI (qTr ((!b) :: B1)))), (5, .int (nI (qTr B / 2))), (0, .ref 23), (2, .int (nI q))]) dX7_holds_131 4 rfl (k := 1) (by decide) (by decide) rfl ?_
          refine zi_goto (tgt := 5) dX7_holds_134 (by decide) ?_
          refine zi_sub [3, 4, 1, 0] rfl ?_
          exact ih c' (i + 1) ((!b) :: B1) (by omega) (by omega) (by omega) (by rw [hBe] at h5; simp only [List.length_cons] at h5 ⊢; omega) hB
        · skip
          by_cases e23_2 : (T i).1 = 2
          · refine zi_top (y := nI 2) (congrArg nI e23_2) ?_
            refine zi_tableIn (off := 32) (tgt := 55) dX7_holds_23 (by decide) (by decide) (by decide) (by decide) ?_
            obtain ⟨b, c1, B1, hBe, hB⟩ := cOne_2 e23_2 h4
            refine zi_iload_n dX7_holds_55 (i := 3) rfl 3 rfl ?_
            refine zi_iconst (v := nI 1) dX7_holds_56 (by decide) ?_
            refine zi_iand dX7_holds_57 ?_
            refine zi_top (y := nI (bN b)) (by rw [hBe]; exact qTr_top _) ?_
            refine zi_iconst (v := nI 1) dX7_holds_58 (by decide) ?_
            refine zi_icmpN_ne (by  (first | omega | (have := bN_lt b; omega) | (have := bN_lt (cTop B); omega))) (by decide) (tgt := 67) dX7_holds_59 (by decide) (fun c59 => ?_) (fun c59 => ?_)
            · have hbt : b = false := by cases b with | false => rfl | true => exact absurd rfl c59
              refine zi_iload dX7_holds_67 0 rfl ?_
              refine zi_bipush (v := (-2)) dX7_holds_69 (by decide) ?_
              refine zi_iand dX7_holds_71 ?_
              refine zi_top (y := nI (qTr ((c1 && b) :: B1))) (by rw [hBe, qTr_tl, hbt, Bool.and_false]; exact qTr_m2 (by rw [hBe] at h5; simp only [List.length_cons] at h5; omega)) ?_
              refine zi_istore_n (L' := [(3, .int (nI (qTr ((c1 && b) :: B1)))), (5, .int (nI (qTr B / 2))), (0, .ref 23), (2, .int (nI q)), (4, .int (nI i))]) dX7_holds_72 (i := 3) rfl (by decide) rfl ?_
              refine zi_goto (tgt := 131) dX7_holds_73 (by decide) ?_
              refine zi_iincN (L' := [(4, .int (nI (i + 1))), (3, .int (nI (qTr ((c1 && b) :: B1)))), (5, .int (nI (qTr B / 2))), (0, .ref 23), (2, .int (nI q))]) dX7_holds_131 4 rfl (k := 1) (by decide) (by decide) rfl ?_
              refine zi_goto (tgt := 5) dX7_holds_134 (by decide) ?_
              refine zi_sub [3, 4, 1, 0] rfl ?_
              exact ih c' (i + 1) ((c1 && b) :: B1) (by omega) (by omega) (by omega) (by rw [hBe] at h5; simp only [List.length_cons] at h5 ⊢; omega) hB
            · have hbt : b = true := by cases b with | true => rfl | false => exact absurd c59 (by decide)
              refine zi_iload dX7_holds_62 0 rfl ?_
              refine zi_top (y := nI (qTr ((c1 && b) :: B1))) (by rw [hBe, qTr_tl, hbt, Bool.and_true]) ?_
              refine zi_goto (tgt := 72) dX7_holds_64 (by decide) ?_
              refine zi_istore_n (L' := [(3, .int (nI (qTr ((c1 && b) :: B1)))), (5, .int (nI (qTr B / 2))), (0, .ref 23), (2, .int (nI q)), (4, .int (nI i))]) dX7_holds_72 (i := 3) rfl (by decide) rfl ?_
              refine zi_goto (tgt := 131) dX7_holds_73 (by decide) ?_
              refine zi_iincN (L' := [(4, .int (nI (i + 1))), (3, .int (nI (qTr ((c1 && b) :: B1)))), (5, .int (nI (qTr B / 2))), (0, .ref 23), (2, .int (nI q))]) dX7_holds_131 4 rfl (k := 1) (by decide) (by decide) rfl ?_
              refine zi_goto (tgt := 5) dX7_holds_134 (by decide) ?_
              refine zi_sub [3, 4, 1, 0] rfl ?_
              exact ih c' (i + 1) ((c1 && b) :: B1) (by omega) (by omega) (by omega) (by rw [hBe] at h5; simp only [List.length_cons] at h5 ⊢; omega) hB
          · skip
            by_cases e23_3 : (T i).1 = 3
            · refine zi_top (y := nI 3) (congrArg nI e23_3) ?_
              refine zi_tableIn (off := 53) (tgt := 76) dX7_holds_23 (by decide) (by decide) (by decide) (by decide) ?_
              obtain ⟨b, c1, B1, hBe, hB⟩ := cOne_3 e23_3 h4
              refine zi_iload dX7_holds_76 0 rfl ?_
              refine zi_iload_n dX7_holds_78 (i := 3) rfl 3 rfl ?_
              refine zi_iconst (v := nI 1) dX7_holds_79 (by decide) ?_
              refine zi_iand dX7_holds_80 ?_
              refine zi_top (y := nI (bN b)) (by rw [hBe]; exact qTr_top _) ?_
              refine zi_ior dX7_holds_81 ?_
              refine zi_top (y := nI (qTr ((c1 || b) :: B1))) (by rw [hBe, qTr_tl]; exact qTr_or b c1 B1) ?_
              refine zi_istore_n (L' := [(3, .int (nI (qTr ((c1 || b) :: B1)))), (5, .int (nI (qTr B / 2))), (0, .ref 23), (2, .int (nI q)), (4, .int (nI i))]) dX7_holds_82 (i := 3) rfl (by decide) rfl ?_
              refine zi_goto (tgt := 131) dX7_holds_83 (by decide) ?_
              refine zi_iincN (L' := [(4, .int (nI (i + 1))), (3, .int (nI (qTr ((c1 || b) :: B1)))), (5, .int (nI (qTr B / 2))), (0, .ref 23), (2, .int (nI q))]) dX7_holds_131 4 rfl (k := 1) (by decide) (by decide) rfl ?_
              refine zi_goto (tgt := 5) dX7_holds_134 (by decide) ?_
              refine zi_sub [3, 4, 1, 0] rfl ?_
              exact ih c' (i + 1) ((c1 || b) :: B1) (by omega) (by omega) (by omega) (by rw [hBe] at h5; simp only [List.length_cons] at h5 ⊢; omega) hB
            · skip
              refine zi_tableOut (tgt := 86) dX7_holds_23 (by  rw [nI_toInt (by (first | omega | (have := bN_lt b; omega) | (have := bN_lt (cTop B); omega)))]; omega) (by decide) ?_
              obtain ⟨hlen, hop1, hop2, hs1, hs2, hB⟩ := cOne_4 e23_1 e23_2 e23_3 h4
              refine zi_iload_n dX7_holds_86 (i := 3) rfl 3 rfl ?_
              refine zi_iconst (v := nI 1) dX7_holds_87 (by decide) ?_
              refine zi_ishl dX7_holds_88 ?_
              refine zi_top (y := nI (2 * qTr B)) ((pk_shlN _ 1 (by decide) (by omega)).trans (congrArg nI (Nat.mul_comm _ _))) ?_
              refine zi_aload_n dX7_holds_89 (i := 0) rfl 1 rfl ?_
              refine zi_getR fd_X7_21_X7 rfl cw0_23 rfl dX7_holds_90 ?_
              refine zi_iload dX7_holds_93 4 rfl ?_
              refine zi_ialdN cw0_27 (by omega) (by decide) dX7_holds_95 ?_
              refine zi_top (y := nI ((T i).1)) (((hT i (by omega) (by omega)).1)) ?_
              refine zi_aload_n dX7_holds_96 (i := 0) rfl 1 rfl ?_
              refine zi_aload_n dX7_holds_97 (i := 0) rfl 1 rfl ?_
              refine zi_getR fd_X7_24_X7 rfl cw0_23 rfl dX7_holds_98 ?_
              refine zi_iload dX7_holds_101 4 rfl ?_
              refine zi_ialdN cw0_28 (by omega) (by decide) dX7_holds_103 ?_
              refine zi_top (y := cSd (T i).2.1) (((hT i (by omega) (by omega)).2.1)) ?_
              refine zcI (zc_V (as := [.int (cSd (T i).2.1)]) lk_X7_53 ce_X7_side cw0_23 rfl rfl dX7_holds_104 (by decide) rfl rfl (Nat.le_of_ble_eq_true rfl)) (ok_X7_side_23 hf hs1) ?_
              refine zi_aload_n dX7_holds_107 (i := 0) rfl 1 rfl ?_
              refine zi_aload_n dX7_holds_108 (i := 0) rfl 1 rfl ?_
              refine zi_getR fd_X7_27_X7 rfl cw0_23 rfl dX7_holds_109 ?_
              refine zi_iload dX7_holds_112 4 rfl ?_
              refine zi_ialdN cw0_29 (by omega) (by decide) dX7_holds_114 ?_
              refine zi_top (y := cSd (T i).2.2) (((hT i (by omega) (by omega)).2.2)) ?_
              refine zcI (zc_V (as := [.int (cSd (T i).2.2)]) lk_X7_53 ce_X7_side cw0_23 rfl rfl dX7_holds_115 (by decide) rfl rfl (Nat.le_of_ble_eq_true rfl)) (ok_X7_side_23 hf hs2) ?_
              refine zcI (zc_S (as := [.int (nI ((T i).1)), .int (nI (gVal kn (T i).2.1)), .int (nI (gVal kn (T i).2.2))]) lk_X7_57 ce_X7_isTrue dX7_holds_118 (by decide) rfl rfl (Nat.le_of_ble_eq_true rfl)) (ok_X7_isTrue hop1 hop2 (gVal_lt hkn hs1) (gVal_lt hkn hs2)) ?_
              refine zi_ifB_eq (tgt := 128) dX7_holds_121 (by decide) (fun c121 => ?_) (fun c121 => ?_)
              · refine zi_iconst (v := nI 0) dX7_holds_128 (by decide) ?_
                refine zi_ior dX7_holds_129 ?_
                refine zi_top (y := nI (qTr (gCmpB (T i).1 (gVal kn (T i).2.1) (gVal kn (T i).2.2) :: B))) (by first | (rw [c121]; exact qTr_push true) | (rw [c121]; exact qTr_push false)) ?_
                refine zi_istore_n (L' := [(3, .int (nI (qTr (gCmpB (T i).1 (gVal kn (T i).2.1) (gVal kn (T i).2.2) :: B)))), (5, .int (nI (qTr B / 2))), (0, .ref 23), (2, .int (nI q)), (4, .int (nI i))]) dX7_holds_130 (i := 3) rfl (by decide) rfl ?_
                refine zi_iincN (L' := [(4, .int (nI (i + 1))), (3, .int (nI (qTr (gCmpB (T i).1 (gVal kn (T i).2.1) (gVal kn (T i).2.2) :: B)))), (5, .int (nI (qTr B / 2))), (0, .ref 23), (2, .int (nI q))]) dX7_holds_131 4 rfl (k := 1) (by decide) (by decide) rfl ?_
                refine zi_goto (tgt := 5) dX7_holds_134 (by decide) ?_
                refine zi_sub [3, 4, 1, 0] rfl ?_
                exact ih c' (i + 1) (gCmpB (T i).1 (gVal kn (T i).2.1) (gVal kn (T i).2.2) :: B) (by omega) (by omega) (by omega) (by simp only [List.length_cons]; omega) hB
              · refine zi_iconst (v := nI 1) dX7_holds_124 (by decide) ?_
                refine zi_goto (tgt := 129) dX7_holds_125 (by decide) ?_
                refine zi_ior dX7_holds_129 ?_
                refine zi_top (y := nI (qTr (gCmpB (T i).1 (gVal kn (T i).2.1) (gVal kn (T i).2.2) :: B))) (by first | (rw [c121]; exact qTr_push true) | (rw [c121]; exact qTr_push false)) ?_
                refine zi_istore_n (L' := [(3, .int (nI (qTr (gCmpB (T i).1 (gVal kn (T i).2.1) (gVal kn (T i).2.2) :: B)))), (5, .int (nI (qTr B / 2))), (0, .ref 23), (2, .int (nI q)), (4, .int (nI i))]) dX7_holds_130 (i := 3) rfl (by decide) rfl ?_
                refine zi_iincN (L' := [(4, .int (nI (i + 1))), (3, .int (nI (qTr (gCmpB (T i).1 (gVal kn (T i).2.1) (gVal kn (T i).2.2) :: B)))), (5, .int (nI (qTr B / 2))), (0, .ref 23), (2, .int (nI q))]) dX7_holds_131 4 rfl (k := 1) (by decide) (by decide) rfl ?_
                refine zi_goto (tgt := 5) dX7_holds_134 (by decide) ?_
                refine zi_sub [3, 4, 1, 0] rfl ?_
                exact ih c' (i + 1) (gCmpB (T i).1 (gVal kn (T i).2.1) (gVal kn (T i).2.2) :: B) (by omega) (by omega) (by omega) (by simp only [List.length_cons]; omega) hB
  refine zi_sub [2, 4, 1, 0] rfl ?_
  exact lp (q - p + 1) (q - p) p [] (by omega) (by omega) (by omega) (by decide) hrun
set_option maxRecDepth 100000 in
set_option maxHeartbeats 4000000 in
theorem num_X7_side_46 {M : zMem} {c : Nat} (hc : c < 10000) : zOkI zw0 0 mX7_side [.ref 46, .int (nI c)] M (nI c) := by
  refine zOk_of (by decide +kernel) (fun _ => Nat.le_of_ble_eq_true rfl) (L := [(0, .ref 46), (1, .int (nI c))]) rfl ?_
  refine zi_iload_n dX7_side_0 (i := 1) rfl 1 rfl ?_
  refine zi_ifN_lt (by  omega) (tgt := 8) dX7_side_1 (by decide) (fun c1 => False.elim (by exact absurd c1 (Nat.not_lt_zero _))) (fun c1 => ?_)
  refine zi_iload_n dX7_side_4 (i := 1) rfl 1 rfl ?_
  refine zi_goto (tgt := 16) dX7_side_5 (by decide) ?_
  refine zi_retI rfl rfl dX7_side_16 ?_
  rfl
set_option maxRecDepth 100000 in
set_option maxHeartbeats 4000000 in
theorem fact_X7_side_46 {M : zMem} {kn : Nat → Nat} {f : Nat} (hf : ∀ f, f < 5 → M 53 f = nI (kn f)) (hc : f < 5) : zOkI zw0 0 mX7_side [.ref 46, .int (-1 - nI f)] M (nI (kn f)) := by
  refine zOk_of (by decide +kernel) (fun _ => Nat.le_of_ble_eq_true rfl) (L := [(0, .ref 46), (1, .int (-1 - nI f))]) rfl ?_
  refine zi_iload_n dX7_side_0 (i := 1) rfl 1 rfl ?_
  refine zi_if_lt (tgt := 8) dX7_side_1 (by decide) (fun c1 => ?_) (fun c1 => False.elim (by exact absurd c1 (zfneg (by omega))))
  refine zi_aload_n dX7_side_8 (i := 0) rfl 0 rfl ?_
  refine zi_getR fd_X7_30_X7 rfl cw0_46 rfl dX7_side_9 ?_
  refine zi_iconst (v := (-1)) dX7_side_12 (by decide) ?_
  refine zi_iload_n dX7_side_13 (i := 1) rfl 1 rfl ?_
  refine zi_isub dX7_side_14 ?_
  refine zi_top (y := nI f) (zfact f) ?_
  refine zi_ialdN cw0_53 (by omega) (by decide) dX7_side_15 ?_
  refine zi_top (y := nI (kn f)) ((hf _ (by omega))) ?_
  refine zi_retI rfl rfl dX7_side_16 ?_
  rfl
theorem ok_X7_side_46 {M : zMem} {kn : Nat → Nat} {c : Nat} (hf : ∀ f, f < 5 → M 53 f = nI (kn f)) (hc : c < 10005) : zOkI zw0 0 mX7_side [.ref 46, .int (cSd c)] M (nI (gVal kn c)) := by
  unfold cSd gVal
  by_cases h : c < 10000
  · rw [if_pos h, if_pos h]; exact num_X7_side_46 h
  · rw [if_neg h, if_neg h]; exact fact_X7_side_46 hf (by omega)
set_option maxRecDepth 100000 in
set_option maxHeartbeats 4000000 in
theorem ok_X7_holds_46 {M : zMem} {kn : Nat → Nat} {T : Nat → Nat × Nat × Nat} {p q : Nat} {F : List Bool} (hf : ∀ f, f < 5 → M 53 f = nI (kn f)) (hkn : ∀ f, f < 5 → kn f < 100000) (hTb : ∀ i, (T i).1 < 100000) (hpq : p ≤ q) (hq : q ≤ 100) (hT : ∀ i, p ≤ i → i < q → M 50 i = nI (T i).1 ∧ M 51 i = cSd (T i).2.1 ∧ M 52 i = cSd (T i).2.2) (hrun : cRunF kn T (q - p) p [] = some F) : zOkI zw0 1 mX7_holds [.ref 46, .int (nI p), .int (nI q)] M (zb (cTop F)) := by
  refine zOk_of (by decide +kernel) (fun _ => Nat.le_of_ble_eq_true rfl) (L := [(0, .ref 46), (1, .int (nI p)), (2, .int (nI q))]) rfl ?_
  refine zi_iconst (v := nI 1) dX7_holds_0 (by decide) ?_
  refine zi_istore_n (L' := [(3, .int (nI 1)), (0, .ref 46), (1, .int (nI p)), (2, .int (nI q))]) dX7_holds_1 (i := 3) rfl (by decide) rfl ?_
  refine zi_iload_n dX7_holds_2 (i := 1) rfl 2 rfl ?_
  refine zi_istore (L' := [(4, .int (nI p)), (3, .int (nI 1)), (0, .ref 46), (1, .int (nI p)), (2, .int (nI q))]) dX7_holds_3 (by decide) rfl ?_
  have lp : ∀ (n c i : Nat) (B : List Bool), c < n → i + c = q → p ≤ i → B.length ≤ 25 → cRunF kn T c i B = some F → zRn zw0 1 mX7_holds (zQI M (zb (cTop F))) 5 [(0, .ref 46), (2, .int (nI q)), (3, .int (nI (qTr B))), (4, .int (nI i))] [] M := by
    intro n
    induction n with
    | zero => intro c i B h1; omega
    | succ n ih =>
      intro c i B h1 h2 h3 h5 h4
      have hqb := qTr_b h5
      have hti := hTb i
      refine zi_iload dX7_holds_5 3 rfl ?_
      refine zi_iload_n dX7_holds_7 (i := 2) rfl 1 rfl ?_
      refine zi_icmpN_ge (by  (first | omega | (have := bN_lt b; omega) | (have := bN_lt (cTop B); omega))) (by  (first | omega | (have := bN_lt b; omega) | (have := bN_lt (cTop B); omega))) (tgt := 137) dX7_holds_8 (by decide) (fun c8 => ?_) (fun c8 => ?_)
      · refine zi_iload_n dX7_holds_137 (i := 3) rfl 2 rfl ?_
        refine zi_iconst (v := nI 1) dX7_holds_138 (by decide) ?_
        refine zi_iand dX7_holds_139 ?_
        refine zi_top (y := nI (bN (cTop B))) (qTr_top B) ?_
        refine zi_iconst (v := nI 1) dX7_holds_140 (by decide) ?_
        refine zi_icmpN_ne (by  (first | omega | (have := bN_lt b; omega) | (have := bN_lt (cTop B); omega))) (by decide) (tgt := 148) dX7_holds_141 (by decide) (fun c141 => ?_) (fun c141 => ?_)
        · refine zi_iconst (v := nI 0) dX7_holds_148 (by decide) ?_
          refine zi_retI rfl rfl dX7_holds_149 ?_
          have ec : c = 0 := by omega
          rw [ec] at h4
          have eB : B = F := Option.some.inj h4
          rw [← eB]
          refine zb_eq0 ?_
          cases hc : cTop B with
          | false => rfl
          | true => rw [hc] at c141; exact absurd rfl c141
        · refine zi_iconst (v := nI 1) dX7_holds_144 (by decide) ?_
          refine zi_goto (tgt := 149) dX7_holds_145 (by decide) ?_
          refine zi_retI rfl rfl dX7_holds_149 ?_
          have ec : c = 0 := by omega
          rw [ec] at h4
          have eB : B = F := Option.some.inj h4
          rw [← eB]
          refine zb_eq1 ?_
          cases hc : cTop B with
          | true => rfl
          | false => rw [hc] at c141; exact absurd c141 (by decide)
      · obtain ⟨c', rfl⟩ : ∃ c', c = c' + 1 := ⟨c - 1, by omega⟩
        refine zi_iload_n dX7_holds_11 (i := 3) rfl 2 rfl ?_
        refine zi_iconst (v := nI 1) dX7_holds_12 (by decide) ?_
        refine zi_ishr dX7_holds_13 ?_
        refine zi_top (y := nI (qTr B / 2)) (qTr_half h5) ?_
        refine zi_istore (L' := [(5, .int (nI (qTr B / 2))), (0, .ref 46), (2, .int (nI q)), (3, .int (nI (qTr B))), (4, .int (nI i))]) dX7_holds_14 (by decide) rfl ?_
        refine zi_aload_n dX7_holds_16 (i := 0) rfl 1 rfl ?_
        refine zi_getR fd_X7_21_X7 rfl cw0_46 rfl dX7_holds_17 ?_
        refine zi_iload dX7_holds_20 4 rfl ?_
        refine zi_ialdN cw0_50 (by omega) (by decide) dX7_holds_22 ?_
        refine zi_top (y := nI ((T i).1)) (((hT i (by omega) (by omega)).1)) ?_
        by_cases e23_1 : (T i).1 = 1
        · refine zi_top (y := nI 1) (congrArg nI e23_1) ?_
          refine zi_tableIn (off := 25) (tgt := 48) dX7_holds_23 (by decide) (by decide) (by decide) (by decide) ?_
          obtain ⟨b, B1, hBe, hB⟩ := cOne_1 e23_1 h4
          refine zi_iload_n dX7_holds_48 (i := 3) rfl 3 rfl ?_
          refine zi_iconst (v := nI 1) dX7_holds_49 (by decide) ?_
          refine zi_ixor dX7_holds_50 ?_
          refine zi_top (y := nI (qTr ((!b) :: B1))) (by rw [hBe]; exact qTr_not b B1) ?_
          refine zi_istore_n (L' := [(3, .int (nI (qTr ((!b) :: B1)))), (5, .int (nI (qTr B / 2))), (0, .ref 46), (2, .int (nI q)), (4, .int (nI i))]) dX7_holds_51 (i := 3) rfl (by decide) rfl ?_
          refine zi_goto (tgt := 131) dX7_holds_52 (by decide) ?_
          refine zi_iincN (L' := [(4, .int (nI (i + 1))), (3, .int (nI (qTr ((!b) :: B1)))), (5, .int (nI (qTr B / 2))), (0, .ref 46), (2, .int (nI q))]) dX7_holds_131 4 rfl (k := 1) (by decide) (by decide) rfl ?_
          refine zi_goto (tgt := 5) dX7_holds_134 (by decide) ?_
          refine zi_sub [3, 4, 1, 0] rfl ?_
          exact ih c' (i + 1) ((!b) :: B1) (by omega) (by omega) (by omega) (by rw [hBe] at h5; simp only [List.length_cons] at h5 ⊢; omega) hB
        · skip
          by_cases e23_2 : (T i).1 = 2
          · refine zi_top (y := nI 2) (congrArg nI e23_2) ?_
            refine zi_tableIn (off := 32) (tgt := 55) dX7_holds_23 (by decide) (by decide) (by decide) (by decide) ?_
            obtain ⟨b, c1, B1, hBe, hB⟩ := cOne_2 e23_2 h4
            refine zi_iload_n dX7_holds_55 (i := 3) rfl 3 rfl ?_
            refine zi_iconst (v := nI 1) dX7_holds_56 (by decide) ?_
            refine zi_iand dX7_holds_57 ?_
            refine zi_top (y := nI (bN b)) (by rw [hBe]; exact qTr_top _) ?_
            refine zi_iconst (v := nI 1) dX7_holds_58 (by decide) ?_
            refine zi_icmpN_ne (by  (first | omega | (have := bN_lt b; omega) | (have := bN_lt (cTop B); omega))) (by decide) (tgt := 67) dX7_holds_59 (by decide) (fun c59 => ?_) (fun c59 => ?_)
            · have hbt : b = false := by cases b with | false => rfl | true => exact absurd rfl c59
              refine zi_iload dX7_holds_67 0 rfl ?_
              refine zi_bipush (v := (-2)) dX7_holds_69 (by decide) ?_
              refine zi_iand dX7_holds_71 ?_
              refine zi_top (y := nI (qTr ((c1 && b) :: B1))) (by rw [hBe, qTr_tl, hbt, Bool.and_false]; exact qTr_m2 (by rw [hBe] at h5; simp only [List.length_cons] at h5; omega)) ?_
              refine zi_istore_n (L' := [(3, .int (nI (qTr ((c1 && b) :: B1)))), (5, .int (nI (qTr B / 2))), (0, .ref 46), (2, .int (nI q)), (4, .int (nI i))]) dX7_holds_72 (i := 3) rfl (by decide) rfl ?_
              refine zi_goto (tgt := 131) dX7_holds_73 (by decide) ?_
              refine zi_iincN (L' := [(4, .int (nI (i + 1))), (3, .int (nI (qTr ((c1 && b) :: B1)))), (5, .int (nI (qTr B / 2))), (0, .ref 46), (2, .int (nI q))]) dX7_holds_131 4 rfl (k := 1) (by decide) (by decide) rfl ?_
              refine zi_goto (tgt := 5) dX7_holds_134 (by decide) ?_
              refine zi_sub [3, 4, 1, 0] rfl ?_
              exact ih c' (i + 1) ((c1 && b) :: B1) (by omega) (by omega) (by omega) (by rw [hBe] at h5; simp only [List.length_cons] at h5 ⊢; omega) hB
            · have hbt : b = true := by cases b with | true => rfl | false => exact absurd c59 (by decide)
              refine zi_iload dX7_holds_62 0 rfl ?_
              refine zi_top (y := nI (qTr ((c1 && b) :: B1))) (by rw [hBe, qTr_tl, hbt, Bool.and_true]) ?_
              refine zi_goto (tgt := 72) dX7_holds_64 (by decide) ?_
              refine zi_istore_n (L' := [(3, .int (nI (qTr ((c1 && b) :: B1)))), (5, .int (nI (qTr B / 2))), (0, .ref 46), (2, .int (nI q)), (4, .int (nI i))]) dX7_holds_72 (i := 3) rfl (by decide) rfl ?_
              refine zi_goto (tgt := 131) dX7_holds_73 (by decide) ?_
              refine zi_iincN (L' := [(4, .int (nI (i + 1))), (3, .int (nI (qTr ((c1 && b) :: B1)))), (5, .int (nI (qTr B / 2))), (0, .ref 46), (2, .int (nI q))]) dX7_holds_131 4 rfl (k := 1) (by decide) (by decide) rfl ?_
              refine zi_goto (tgt := 5) dX7_holds_134 (by decide) ?_
              refine zi_sub [3, 4, 1, 0] rfl ?_
              exact ih c' (i + 1) ((c1 && b) :: B1) (by omega) (by omega) (by omega) (by rw [hBe] at h5; simp only [List.length_cons] at h5 ⊢; omega) hB
          · skip
            by_cases e23_3 : (T i).1 = 3
            · refine zi_top (y := nI 3) (congrArg nI e23_3) ?_
              refine zi_tableIn (off := 53) (tgt := 76) dX7_holds_23 (by decide) (by decide) (by decide) (by decide) ?_
              obtain ⟨b, c1, B1, hBe, hB⟩ := cOne_3 e23_3 h4
              refine zi_iload dX7_holds_76 0 rfl ?_
              refine zi_iload_n dX7_holds_78 (i := 3) rfl 3 rfl ?_
              refine zi_iconst (v := nI 1) dX7_holds_79 (by decide) ?_
              refine zi_iand dX7_holds_80 ?_
              refine zi_top (y := nI (bN b)) (by rw [hBe]; exact qTr_top _) ?_
              refine zi_ior dX7_holds_81 ?_
              refine zi_top (y := nI (qTr ((c1 || b) :: B1))) (by rw [hBe, qTr_tl]; exact qTr_or b c1 B1) ?_
              refine zi_istore_n (L' := [(3, .int (nI (qTr ((c1 || b) :: B1)))), (5, .int (nI (qTr B / 2))), (0, .ref 46), (2, .int (nI q)), (4, .int (nI i))]) dX7_holds_82 (i := 3) rfl (by decide) rfl ?_
              refine zi_goto (tgt := 131) dX7_holds_83 (by decide) ?_
              refine zi_iincN (L' := [(4, .int (nI (i + 1))), (3, .int (nI (qTr ((c1 || b) :: B1)))), (5, .int (nI (qTr B / 2))), (0, .ref 46), (2, .int (nI q))]) dX7_holds_131 4 rfl (k := 1) (by decide) (by decide) rfl ?_
              refine zi_goto (tgt := 5) dX7_holds_134 (by decide) ?_
              refine zi_sub [3, 4, 1, 0] rfl ?_
              exact ih c' (i + 1) ((c1 || b) :: B1) (by omega) (by omega) (by omega) (by rw [hBe] at h5; simp only [List.length_cons] at h5 ⊢; omega) hB
            · skip
              refine zi_tableOut (tgt := 86) dX7_holds_23 (by  rw [nI_toInt (by (first | omega | (have := bN_lt b; omega) | (have := bN_lt (cTop B); omega)))]; omega) (by decide) ?_
              obtain ⟨hlen, hop1, hop2, hs1, hs2, hB⟩ := cOne_4 e23_1 e23_2 e23_3 h4
              refine zi_iload_n dX7_holds_86 (i := 3) rfl 3 rfl ?_
              refine zi_iconst (v := nI 1) dX7_holds_87 (by decide) ?_
              refine zi_ishl dX7_holds_88 ?_
              refine zi_top (y := nI (2 * qTr B)) ((pk_shlN _ 1 (by decide) (by omega)).trans (congrArg nI (Nat.mul_comm _ _))) ?_
              refine zi_aload_n dX7_holds_89 (i := 0) rfl 1 rfl ?_
              refine zi_getR fd_X7_21_X7 rfl cw0_46 rfl dX7_holds_90 ?_
              refine zi_iload dX7_holds_93 4 rfl ?_
              refine zi_ialdN cw0_50 (by omega) (by decide) dX7_holds_95 ?_
              refine zi_top (y := nI ((T i).1)) (((hT i (by omega) (by omega)).1)) ?_
              refine zi_aload_n dX7_holds_96 (i := 0) rfl 1 rfl ?_
              refine zi_aload_n dX7_holds_97 (i := 0) rfl 1 rfl ?_
              refine zi_getR fd_X7_24_X7 rfl cw0_46 rfl dX7_holds_98 ?_
              refine zi_iload dX7_holds_101 4 rfl ?_
              refine zi_ialdN cw0_51 (by omega) (by decide) dX7_holds_103 ?_
              refine zi_top (y := cSd (T i).2.1) (((hT i (by omega) (by omega)).2.1)) ?_
              refine zcI (zc_V (as := [.int (cSd (T i).2.1)]) lk_X7_53 ce_X7_side cw0_46 rfl rfl dX7_holds_104 (by decide) rfl rfl (Nat.le_of_ble_eq_true rfl)) (ok_X7_side_46 hf hs1) ?_
              refine zi_aload_n dX7_holds_107 (i := 0) rfl 1 rfl ?_
              refine zi_aload_n dX7_holds_108 (i := 0) rfl 1 rfl ?_
              refine zi_getR fd_X7_27_X7 rfl cw0_46 rfl dX7_holds_109 ?_
              refine zi_iload dX7_holds_112 4 rfl ?_
              refine zi_ialdN cw0_52 (by omega) (by decide) dX7_holds_114 ?_
              refine zi_top (y := cSd (T i).2.2) (((hT i (by omega) (by omega)).2.2)) ?_
              refine zcI (zc_V (as := [.int (cSd (T i).2.2)]) lk_X7_53 ce_X7_side cw0_46 rfl rfl dX7_holds_115 (by decide) rfl rfl (Nat.le_of_ble_eq_true rfl)) (ok_X7_side_46 hf hs2) ?_
              refine zcI (zc_S (as := [.int (nI ((T i).1)), .int (nI (gVal kn (T i).2.1)), .int (nI (gVal kn (T i).2.2))]) lk_X7_57 ce_X7_isTrue dX7_holds_118 (by decide) rfl rfl (Nat.le_of_ble_eq_true rfl)) (ok_X7_isTrue hop1 hop2 (gVal_lt hkn hs1) (gVal_lt hkn hs2)) ?_
              refine zi_ifB_eq (tgt := 128) dX7_holds_121 (by decide) (fun c121 => ?_) (fun c121 => ?_)
              · refine zi_iconst (v := nI 0) dX7_holds_128 (by decide) ?_
                refine zi_ior dX7_holds_129 ?_
                refine zi_top (y := nI (qTr (gCmpB (T i).1 (gVal kn (T i).2.1) (gVal kn (T i).2.2) :: B))) (by first | (rw [c121]; exact qTr_push true) | (rw [c121]; exact qTr_push false)) ?_
                refine zi_istore_n (L' := [(3, .int (nI (qTr (gCmpB (T i).1 (gVal kn (T i).2.1) (gVal kn (T i).2.2) :: B)))), (5, .int (nI (qTr B / 2))), (0, .ref 46), (2, .int (nI q)), (4, .int (nI i))]) dX7_holds_130 (i := 3) rfl (by decide) rfl ?_
                refine zi_iincN (L' := [(4, .int (nI (i + 1))), (3, .int (nI (qTr (gCmpB (T i).1 (gVal kn (T i).2.1) (gVal kn (T i).2.2) :: B)))), (5, .int (nI (qTr B / 2))), (0, .ref 46), (2, .int (nI q))]) dX7_holds_131 4 rfl (k := 1) (by decide) (by decide) rfl ?_
                refine zi_goto (tgt := 5) dX7_holds_134 (by decide) ?_
                refine zi_sub [3, 4, 1, 0] rfl ?_
                exact ih c' (i + 1) (gCmpB (T i).1 (gVal kn (T i).2.1) (gVal kn (T i).2.2) :: B) (by omega) (by omega) (by omega) (by simp only [List.length_cons]; omega) hB
              · refine zi_iconst (v := nI 1) dX7_holds_124 (by decide) ?_
                refine zi_goto (tgt := 129) dX7_holds_125 (by decide) ?_
                refine zi_ior dX7_holds_129 ?_
                refine zi_top (y := nI (qTr (gCmpB (T i).1 (gVal kn (T i).2.1) (gVal kn (T i).2.2) :: B))) (by first | (rw [c121]; exact qTr_push true) | (rw [c121]; exact qTr_push false)) ?_
                refine zi_istore_n (L' := [(3, .int (nI (qTr (gCmpB (T i).1 (gVal kn (T i).2.1) (gVal kn (T i).2.2) :: B)))), (5, .int (nI (qTr B / 2))), (0, .ref 46), (2, .int (nI q)), (4, .int (nI i))]) dX7_holds_130 (i := 3) rfl (by decide) rfl ?_
                refine zi_iincN (L' := [(4, .int (nI (i + 1))), (3, .int (nI (qTr (gCmpB (T i).1 (gVal kn (T i).2.1) (gVal kn (T i).2.2) :: B)))), (5, .int (nI (qTr B / 2))), (0, .ref 46), (2, .int (nI q))]) dX7_holds_131 4 rfl (k := 1) (by decide) (by decide) rfl ?_
                refine zi_goto (tgt := 5) dX7_holds_134 (by decide) ?_
                refine zi_sub [3, 4, 1, 0] rfl ?_
                exact ih c' (i + 1) (gCmpB (T i).1 (gVal kn (T i).2.1) (gVal kn (T i).2.2) :: B) (by omega) (by omega) (by omega) (by simp only [List.length_cons]; omega) hB
  refine zi_sub [2, 4, 1, 0] rfl ?_
  exact lp (q - p + 1) (q - p) p [] (by omega) (by omega) (by omega) (by decide) hrun
