/-- the table's word on the class of an array of arrays -/
def va_AOA (t : FieldType) (U : State) : Prop := (Cond.arrayOver (.array t)).before #[] U = true
theorem va_AOA.use {t : FieldType} {A : Array Value} {U : State} (h : va_AOA t U) : (Cond.arrayOver (.array t)).before A U = true := h
theorem va_AOA.of {t : FieldType} {A : Array Value} {U : State} (h : (Cond.arrayOver (.array t)).before A U = true) : va_AOA t U := h
/-! ===== BEGIN words of one list among another's, by their places ===== -/
theorem goodIn_r {big : List Cond} (ws : List Cond) (ps : List Nat) (hp : ws = ps.filterMap (fun i => big[i]?)) (h : ws.all goodWord = true) : GoodIn big ws := by
  intro w hw
  have h1 := List.all_eq_true.mp h w hw
  rw [hp] at hw
  obtain ⟨i, -, hi⟩ := List.mem_filterMap.mp hw
  have hm : w ∈ big := by first | exact List.mem_of_getElem? hi | exact List.getElem?_mem hi
  exact ⟨hm, good_of_word h1⟩
theorem goodIn_app {big a b : List Cond} (ha : GoodIn big a) (hb : GoodIn big b) : GoodIn big (a ++ b) := fun w h => (List.mem_append.mp h).elim (ha w) (hb w)
theorem goodIn_ca {big a b : List Cond} {c : Cond} (ha : GoodIn big (c :: a)) (hb : GoodIn big b) : GoodIn big (c :: (a ++ b)) := fun w h => (List.mem_cons.mp h).elim (fun e => ha w (List.mem_cons.mpr (Or.inl e))) (fun h => (List.mem_append.mp h).elim (fun h => ha w (List.mem_cons.mpr (Or.inr h))) (hb w))
theorem goodIn_sub {big ws : List Cond} (hm : ∀ w ∈ ws, w ∈ big) (h : ws.all goodWord = true) : GoodIn big ws := fun w hw => ⟨hm w hw, good_of_word (List.all_eq_true.mp h w hw)⟩
/-! ===== END ===== -/

/-! ===== BEGIN new T[n][m]: the outer array a place, the inner ones among the pooled ===== -/
/-- f, but v at every address of l -/
def vr_up {α : Type} (f : Nat → α) (l : List Nat) (v : α) : Nat → α := fun a => if a ∈ l then v else f a
theorem vr_up_in {α : Type} {f : Nat → α} {l : List Nat} {v : α} {a : Nat} (h : a ∈ l) : vr_up f l v a = v := if_pos h
theorem vr_up_ne {α : Type} {f : Nat → α} {l : List Nat} {v : α} {a : Nat} (h : a ∉ l) : vr_up f l v a = f a := if_neg h
theorem vr_rows {L l : List Nat} {f : Nat → va_E} {e : va_E} (h : ∀ a, a ∈ l → a ∉ L) : va_pl L f ++ l.map (fun a => (a, e)) = va_pl (L ++ l) (vr_up f l e) := by
  unfold va_pl
  rw [List.map_append]
  congr 1
  · apply List.map_congr_left
    intro a ha
    rw [vr_up_ne (fun q => h a q ha)]
  · apply List.map_congr_left
    intro a ha
    rw [vr_up_in ha]
theorem vr_lay {X rows : va_W} {x : Nat × va_E} {pl : va_W} {D : va_G} {cl : List vw_C} {H : Heap} (hP : va_P D cl (((X ++ pl) ++ [x]) ++ rows) H) : va_P D cl ((X ++ [x]) ++ (pl ++ rows)) H := by
  rw [List.append_assoc (X ++ pl)] at hP
  have h := va_P.swap hP
  rw [← List.append_assoc X] at h
  have h2 := va_P.swap h
  rw [List.append_assoc (X ++ [x])] at h2
  exact h2
theorem vr_layD {X rows : va_W} {x : Nat × va_E} {pl : va_W} {A : Nat → Prop} (hD : va_D A (((X ++ pl) ++ [x]) ++ rows)) : va_D A ((X ++ [x]) ++ (pl ++ rows)) := by
  rw [List.append_assoc (X ++ pl)] at hD
  have h := va_D.swap hD
  rw [← List.append_assoc X] at h
  have h2 := va_D.swap h
  rw [List.append_assoc (X ++ [x])] at h2
  exact h2
theorem vr_outer (c : ClassId) (N h0 : Nat) : ∀ i : Nat, Jvm.Free.Multi.outerC c N h0 i = arrV c N (fun j => va_rf (if j < i then some (h0 + 1 + j) else none))
  | 0 => by
    show ({ cls := c, slots := Array.replicate N .null, vm := .none } : Cell) = _
    rw [arrV_new]
    refine congrArg (arrV c N) (funext fun j => ?_)
    simp [va_rf]
  | i + 1 => by
    show (Jvm.Free.Multi.outerC c N h0 i).setSlot i (.ref (h0 + 1 + i)) = _
    rw [vr_outer c N h0 i, arrV_store]
    refine congrArg (arrV c N) (funext fun j => ?_)
    by_cases e : j = i
    · subst e
      simp [updV, va_rf]
    · by_cases h : j < i
      · simp [updV, e, h, Nat.lt_succ_of_lt h]
      · simp [updV, e, h, show ¬ j < i + 1 by omega]
section VGM
variable {p : Program} {l : Launch} {e : Env} {R : Room} {s : State} {m : MethodId} {args : Array Value} {below : List Frame} {meth : Method} {c : Code} {H : Heap} {locs : List Loc} {cells slots : Nat} {Q : State → Prop}
variable {cc : ByteArray} {pc : Nat} {ls : Array Slot} {rest : List Value} {D : va_G} {cl : List vw_C} {A : Nat → Prop} {a : Nat} {tys : List (ClassId × FieldType)} {ws : va_W} {H0 : Heap}
theorem va_mna {X : va_W} {L : List Nat} {f : Nat → va_E} {cc : ByteArray} (hexec : p.tables.exec = Jvm.exec) (hb : c.code = cc) {own : String} {index : Nat} {ty : FieldType} {cy : ClassId} (hown : s.vm.findClass own = some m.cls) (hclink : (Cond.classLink own index ("[" ++ (FieldType.array ty).toString)).before args s = true) (hover : va_AOA ty s) (harr : (Cond.arrayClass ty).before args s = true) (hcy : s.vm.findClass (FieldType.array ty).toString = some cy)
    (hK : va_K D cl tys s) (hP : va_P D cl (X ++ va_pl L f) H) (hD : va_D A (X ++ va_pl L f)) (hS : va_S A H0 H locs) (hA : ∀ q, H0.size ≤ q → A q) {n k : Int32} {N' K' : Nat} {z : vp_A} (hn : ¬ n < 0) (hk : ¬ k < 0) (hN : n.toNatClampNeg = N') (hM : k.toNatClampNeg = K')
    (hb1 : N' * 4 ≤ 536870912) (hb2 : K' * componentBytes ty ≤ 536870912) (hb3 : K' ≤ 536870912) (hdf : fits ty (defaultValue ty) = true) (hdd : (defaultValue ty).isDefault = true) (hcells : cells + (1 + N') ≤ R.cells) (hslots : slots + (N' + N' * K') ≤ R.slots) (hz : ∀ c : ClassId, Jvm.Free.Multi.innerC c K' (defaultValue ty) = vp_cell c z) (hdg : decode cc pc = .ok (.multianewarray index 2, 4))
    (kk : ∀ (q : Nat) (r : Nat → Nat) (cA : ClassId) (H1 : Heap), (∀ i j : Nat, i < N' → j < N' → r i = r j → i = j) → (∀ i : Nat, i < N' → r i ∉ L) → va_K D cl (tys ++ [(cA, .array ty)]) s →
      va_P D cl ((X ++ [(q, .inl (cA, N', .inr (.inr (.inr (.inr (fun i => if i < N' then some (r i) else none))))))]) ++ va_pl (L ++ (List.range N').map r) (vr_up f ((List.range N').map r) (.inl (cy, z)))) H1 → va_D A ((X ++ [(q, .inl (cA, N', .inr (.inr (.inr (.inr (fun i => if i < N' then some (r i) else none))))))]) ++ va_pl (L ++ (List.range N').map r) (vr_up f ((List.range N').map r) (.inl (cy, z)))) → va_S A H0 H1 locs →
      W p l e R s m args below meth c H1 locs (cells + 1 + N') (slots + N' + N' * K') Q (F0 m (pc + 4) ls (.ref q :: rest))) : W p l e R s m args below meth c H locs cells slots Q (F0 m pc ls (.int k :: .int n :: rest)) := by
  subst hN
  subst hM
  intro T hT Xs
  obtain ⟨vm₁, cA, comp, -, fA, fC, hO, -, X', step⟩ := Xs.multianewarray2F hexec hown hclink (va_AOA.use hover) harr (g := F0 m pc ls (.int k :: .int n :: rest)) rfl (by rw [hb]; exact hdg) rfl hn hk hb1 hb2 hb3 hdf hdd hcells hslots
  have ec : some cy = some comp := hcy.symm.trans fC
  cases ec
  generalize hF : Jvm.Free.Multi.fill (T.setVm vm₁) cA cy n.toNatClampNeg k.toNatClampNeg (defaultValue ty) n.toNatClampNeg = F at X' step
  have hTh : (T.setVm vm₁).heap = H := hT
  obtain ⟨f1, f2, -, -⟩ := Jvm.Free.Multi.fill_facts (T.setVm vm₁) cA cy n.toNatClampNeg k.toNatClampNeg (defaultValue ty) n.toNatClampNeg
  rw [hF, hTh] at f1 f2
  have hold : ∀ x : Nat, x < H.size → F.heap[x]? = H[x]? := fun x hx => by
    have := Jvm.Free.Multi.fill_old (T.setVm vm₁) cA cy n.toNatClampNeg k.toNatClampNeg (defaultValue ty) (a := x) (by rw [hTh]; exact hx) n.toNatClampNeg
    rw [hF, hTh] at this
    exact this
  have hrow : ∀ j : Nat, j < n.toNatClampNeg → F.heap[H.size + 1 + j]? = some (vp_cell cy z) := fun j hj => by
    have := Jvm.Free.Multi.fill_inner (T.setVm vm₁) cA cy n.toNatClampNeg k.toNatClampNeg (defaultValue ty) n.toNatClampNeg j hj
    rw [hF, hTh, hz] at this
    exact this
  have hout : Jvm.Free.Multi.outerC cA n.toNatClampNeg H.size n.toNatClampNeg = vp_cell cA (n.toNatClampNeg, .inr (.inr (.inr (.inr (fun i => if i < n.toNatClampNeg then some (H.size + 1 + i) else none))))) := by
    rw [vp_cell_q]
    exact vr_outer cA n.toNatClampNeg H.size n.toNatClampNeg
  rw [hout] at f2
  have hlt : ∀ a, a ∈ L → a < H.size := fun a ha => by
    obtain ⟨k9, hk9⟩ := va_pl_get (X := X) (f := f) ha
    exact (hP k9 _ hk9).lt
  have hnl : ∀ i : Nat, i < n.toNatClampNeg → H.size + 1 + i ∉ L := fun i _ h => by
    have := hlt _ h
    omega
  have hnm : ∀ a, a ∈ (List.range n.toNatClampNeg).map (fun i => H.size + 1 + i) → a ∉ L := fun a ha h => by
    obtain ⟨i, -, rfl⟩ := List.mem_map.mp ha
    have := hlt _ h
    omega
  have hP0 : va_P D cl (X ++ va_pl L f) F.heap := hP.kept (fun k9 x hx => hold x.1 ((hP k9 x hx).lt))
  have hP1 : va_P D cl ((X ++ va_pl L f) ++ [(H.size, .inl (cA, n.toNatClampNeg, .inr (.inr (.inr (.inr (fun i => if i < n.toNatClampNeg then some (H.size + 1 + i) else none))))))]) F.heap := hP0.app (fun k9 x hx => by
    have h0 : k9 < 1 := (List.getElem?_eq_some_iff.mp hx).1
    rw [show k9 = 0 by omega] at hx
    cases hx
    exact f2)
  have hP2 : va_P D cl (((X ++ va_pl L f) ++ [(H.size, .inl (cA, n.toNatClampNeg, .inr (.inr (.inr (.inr (fun i => if i < n.toNatClampNeg then some (H.size + 1 + i) else none))))))]) ++ ((List.range n.toNatClampNeg).map (fun i => H.size + 1 + i)).map (fun a => (a, .inl (cy, z)))) F.heap := hP1.app (fun k9 x hx => by
    obtain ⟨a, ha, rfl⟩ := List.mem_map.mp (List.mem_of_getElem? hx)
    obtain ⟨i, hi, rfl⟩ := List.mem_map.mp ha
    exact hrow i (List.mem_range.mp hi))
  have hD2 : va_D A (((X ++ va_pl L f) ++ [(H.size, .inl (cA, n.toNatClampNeg, .inr (.inr (.inr (.inr (fun i => if i < n.toNatClampNeg then some (H.size + 1 + i) else none))))))]) ++ ((List.range n.toNatClampNeg).map (fun i => H.size + 1 + i)).map (fun a => (a, .inl (cy, z)))) := by
    have hD1 := hD.push (e := .inl (cA, n.toNatClampNeg, .inr (.inr (.inr (.inr (fun i => if i < n.toNatClampNeg then some (H.size + 1 + i) else none)))))) hP rfl (hA _ hS.1)
    generalize hW1 : (X ++ va_pl L f) ++ [(H.size, .inl (cA, n.toNatClampNeg, .inr (.inr (.inr (.inr (fun i => if i < n.toNatClampNeg then some (H.size + 1 + i) else none))))))] = W1 at hD1 hP1 ⊢
    have hle : ∀ (k9 : Nat) (x : Nat × va_E), W1[k9]? = some x → x.1 ≤ H.size := fun k9 x hx => by
      rw [← hW1] at hx
      by_cases hl : k9 < (X ++ va_pl L f).length
      · rw [List.getElem?_append_left hl] at hx
        exact Nat.le_of_lt ((hP k9 x hx).lt)
      · rw [List.getElem?_append_right (by omega)] at hx
        have h0 : k9 - (X ++ va_pl L f).length < 1 := (List.getElem?_eq_some_iff.mp hx).1
        rw [show k9 - (X ++ va_pl L f).length = 0 by omega] at hx
        cases hx
        exact Nat.le_refl _
    have hr : ∀ (k9 : Nat) (x : Nat × va_E), (((List.range n.toNatClampNeg).map (fun i => H.size + 1 + i)).map (fun a => ((a, .inl (cy, z)) : Nat × va_E)))[k9]? = some x → x.1 = H.size + 1 + k9 := fun k9 x hx => by
      rw [List.getElem?_map, List.getElem?_map] at hx
      by_cases h9 : k9 < n.toNatClampNeg
      · rw [List.getElem?_range h9] at hx
        cases hx
        rfl
      · have hn0 : (List.range n.toNatClampNeg)[k9]? = none := List.getElem?_eq_none (by rw [List.length_range]; omega)
        rw [hn0] at hx
        cases hx
    refine ⟨fun i j x y hi hj hxy => ?_, fun k9 x hx => ?_⟩
    · by_cases h1 : i < W1.length <;> by_cases h2 : j < W1.length
      · rw [List.getElem?_append_left h1] at hi
        rw [List.getElem?_append_left h2] at hj
        exact hD1.1 i j x y hi hj hxy
      · rw [List.getElem?_append_left h1] at hi
        rw [List.getElem?_append_right (by omega)] at hj
        have := hle _ _ hi
        have := hr _ _ hj
        omega
      · rw [List.getElem?_append_right (by omega)] at hi
        rw [List.getElem?_append_left h2] at hj
        have := hle _ _ hj
        have := hr _ _ hi
        omega
      · rw [List.getElem?_append_right (by omega)] at hi hj
        have := hr _ _ hi
        have := hr _ _ hj
        omega
    · by_cases h1 : k9 < W1.length
      · rw [List.getElem?_append_left h1] at hx
        exact hD1.2 k9 x hx
      · rw [List.getElem?_append_right (by omega)] at hx
        have := hr _ _ hx
        exact hA _ (by have := hS.1; omega)
  have hAr : ArrOfT s cA (.array ty) := fun N9 z9 => by
    obtain ⟨-, k9, hk9, cm9, hkk9⟩ := (hO 0 0 0).1
    exact ⟨(fun q hq => by cases hq), k9, hk9, cm9, hkk9⟩
  have hK2 : va_K D cl (tys ++ [(cA, .array ty)]) s := ⟨hK.1, fun k9 x hx => by
    by_cases hl : k9 < tys.length
    · rw [List.getElem?_append_left hl] at hx
      exact hK.2 k9 x hx
    · rw [List.getElem?_append_right (by omega)] at hx
      have h0 : k9 - tys.length < 1 := (List.getElem?_eq_some_iff.mp hx).1
      rw [show k9 - tys.length = 0 by omega] at hx
      cases hx
      exact ⟨hAr, fA⟩⟩
  obtain ⟨t, a1, b1⟩ := kk H.size (fun i => H.size + 1 + i) cA F.heap (fun i j _ _ h => by have h9 : H.size + 1 + i = H.size + 1 + j := h; omega) hnl hK2 (by rw [← vr_rows hnm]; exact vr_lay hP2) (by rw [← vr_rows hnm]; exact vr_layD hD2) ⟨by rw [f1]; have := hS.1; omega, fun x h1 h2 => (hold x (Nat.lt_of_lt_of_le h1 hS.1)).trans (hS.2.1 x h1 h2), hS.2.2⟩ F rfl X'
  refine ⟨t, step t ?_, b1⟩
  have e : T.heap.size = H.size := by rw [hT]
  rw [e]
  exact a1
end VGM
/-! ===== END ===== -/

/-! ===== BEGIN printed: names, fields, word lists, decode rows ===== -/
def RX0 : String := "ThirteenthBun$Bride"
def TX0 : u_T := fun k => match k with
  | 0 => ("ThirteenthBun$House", "number", "I", false)
  | 1 => ("ThirteenthBun$House", "lane", "I", false)
  | 2 => ("ThirteenthBun$House", "bodies", "[I", true)
  | 3 => ("ThirteenthBun$House", "bodyCount", "I", false)
  | _ => ("ThirteenthBun$House", "isParted", "Z", false)
def tyX0 : Nat → FieldType := fun k => match k with
  | 0 => .int
  | 1 => .int
  | 2 => .array .int
  | 3 => .int
  | _ => .boolean
abbrev wsX00 : List Cond := u_ws RX0 TX0 5
theorem nmX0 : ∀ a, a < 5 → ∀ b, b < 5 → a ≠ b → (TX0 a).2.1 ≠ (TX0 b).2.1 := by decide +kernel
theorem tyX0_ok : ∀ k, k < 5 → parseFieldDescriptor (TX0 k).2.2.1 = some (tyX0 k) := by decide +kernel
abbrev cX0_init : ByteArray := prog_2_method_1_code
def yX0_init : MethodName := ⟨RX0, "<init>", "()V"⟩
abbrev cX0_knocks : ByteArray := prog_2_method_2_code
def yX0_knocks : MethodName := ⟨RX0, "knocks", "(I)I"⟩
def RX1 : String := "ThirteenthBun$Farm"
def TX1 : u_T := fun k => match k with
  | 0 => ("ThirteenthBun$House", "number", "I", false)
  | 1 => ("ThirteenthBun$House", "lane", "I", false)
  | 2 => ("ThirteenthBun$House", "bodies", "[I", true)
  | 3 => ("ThirteenthBun$House", "bodyCount", "I", false)
  | _ => ("ThirteenthBun$House", "isParted", "Z", false)
def tyX1 : Nat → FieldType := fun k => match k with
  | 0 => .int
  | 1 => .int
  | 2 => .array .int
  | 3 => .int
  | _ => .boolean
abbrev wsX10 : List Cond := u_ws RX1 TX1 5
theorem nmX1 : ∀ a, a < 5 → ∀ b, b < 5 → a ≠ b → (TX1 a).2.1 ≠ (TX1 b).2.1 := by decide +kernel
theorem tyX1_ok : ∀ k, k < 5 → parseFieldDescriptor (TX1 k).2.2.1 = some (tyX1 k) := by decide +kernel
abbrev cX1_init : ByteArray := prog_3_method_1_code
def yX1_init : MethodName := ⟨RX1, "<init>", "()V"⟩
abbrev cX1_counts : ByteArray := prog_3_method_2_code
def yX1_counts : MethodName := ⟨RX1, "counts", "(I)I"⟩
def RX2 : String := "ThirteenthBun$House"
def TX2 : u_T := fun k => match k with
  | 0 => ("ThirteenthBun$House", "number", "I", false)
  | 1 => ("ThirteenthBun$House", "lane", "I", false)
  | 2 => ("ThirteenthBun$House", "bodies", "[I", true)
  | 3 => ("ThirteenthBun$House", "bodyCount", "I", false)
  | _ => ("ThirteenthBun$House", "isParted", "Z", false)
def tyX2 : Nat → FieldType := fun k => match k with
  | 0 => .int
  | 1 => .int
  | 2 => .array .int
  | 3 => .int
  | _ => .boolean
abbrev wsX20 : List Cond := u_ws RX2 TX2 5
theorem nmX2 : ∀ a, a < 5 → ∀ b, b < 5 → a ≠ b → (TX2 a).2.1 ≠ (TX2 b).2.1 := by decide +kernel
theorem tyX2_ok : ∀ k, k < 5 → parseFieldDescriptor (TX2 k).2.2.1 = some (tyX2 k) := by decide +kernel
abbrev cX2_init : ByteArray := prog_4_method_1_code
def yX2_init : MethodName := ⟨RX2, "<init>", "()V"⟩
abbrev cX2_become : ByteArray := prog_4_method_2_code
def yX2_become : MethodName := ⟨RX2, "become", "(II)V"⟩
abbrev cX2_begin : ByteArray := prog_4_method_3_code
def yX2_begin : MethodName := ⟨RX2, "begin", "(I)V"⟩
abbrev cX2_knocks : ByteArray := prog_4_method_4_code
def yX2_knocks : MethodName := ⟨RX2, "knocks", "(I)I"⟩
abbrev cX2_waits : ByteArray := prog_4_method_5_code
def yX2_waits : MethodName := ⟨RX2, "waits", "(I)I"⟩
abbrev cX2_counts : ByteArray := prog_4_method_6_code
def yX2_counts : MethodName := ⟨RX2, "counts", "(I)I"⟩
abbrev cX2_sits : ByteArray := prog_4_method_7_code
def yX2_sits : MethodName := ⟨RX2, "sits", "(I)I"⟩
def RX3 : String := "ThirteenthBun$Lovell"
def TX3 : u_T := fun k => match k with
  | 0 => ("ThirteenthBun$House", "number", "I", false)
  | 1 => ("ThirteenthBun$House", "lane", "I", false)
  | 2 => ("ThirteenthBun$House", "bodies", "[I", true)
  | 3 => ("ThirteenthBun$House", "bodyCount", "I", false)
  | _ => ("ThirteenthBun$House", "isParted", "Z", false)
def tyX3 : Nat → FieldType := fun k => match k with
  | 0 => .int
  | 1 => .int
  | 2 => .array .int
  | 3 => .int
  | _ => .boolean
abbrev wsX30 : List Cond := u_ws RX3 TX3 5
theorem nmX3 : ∀ a, a < 5 → ∀ b, b < 5 → a ≠ b → (TX3 a).2.1 ≠ (TX3 b).2.1 := by decide +kernel
theorem tyX3_ok : ∀ k, k < 5 → parseFieldDescriptor (TX3 k).2.2.1 = some (tyX3 k) := by decide +kernel
abbrev cX3_init : ByteArray := prog_5_method_1_code
def yX3_init : MethodName := ⟨RX3, "<init>", "()V"⟩
abbrev cX3_waits : ByteArray := prog_5_method_2_code
def yX3_waits : MethodName := ⟨RX3, "waits", "(I)I"⟩
abbrev cX3_counts : ByteArray := prog_5_method_3_code
def yX3_counts : MethodName := ⟨RX3, "counts", "(I)I"⟩
def RX4 : String := "ThirteenthBun$Plans"
def TX4 : u_T := fun k => match k with
  | 0 => ("ThirteenthBun$Plans", "most", "I", false)
  | 1 => ("ThirteenthBun$Plans", "bestCount", "I", false)
  | 2 => ("ThirteenthBun$Plans", "length", "I", false)
  | 3 => ("ThirteenthBun$Plans", "fewest", "I", false)
  | 4 => ("ThirteenthBun$Plans", "reached", "I", false)
  | 5 => ("ThirteenthBun$Plans", "opening", "I", false)
  | 6 => ("ThirteenthBun$Plans", "first", "[I", true)
  | 7 => ("ThirteenthBun$Plans", "path", "[I", true)
  | _ => ("ThirteenthBun$Plans", "wanted", "I", false)
def tyX4 : Nat → FieldType := fun k => match k with
  | 0 => .int
  | 1 => .int
  | 2 => .int
  | 3 => .int
  | 4 => .int
  | 5 => .int
  | 6 => .array .int
  | 7 => .array .int
  | _ => .int
abbrev wsX40 : List Cond := u_ws RX4 TX4 9
theorem nmX4 : ∀ a, a < 9 → ∀ b, b < 9 → a ≠ b → (TX4 a).2.1 ≠ (TX4 b).2.1 := by decide +kernel
theorem tyX4_ok : ∀ k, k < 9 → parseFieldDescriptor (TX4 k).2.2.1 = some (tyX4 k) := by decide +kernel
abbrev cX4_init : ByteArray := prog_6_method_1_code
def yX4_init : MethodName := ⟨RX4, "<init>", "()V"⟩
abbrev cX4_lookAll : ByteArray := prog_6_method_2_code
def yX4_lookAll : MethodName := ⟨RX4, "lookAll", "(LThirteenthBun$Village;II)V"⟩
abbrev cX4_look : ByteArray := prog_6_method_3_code
def yX4_look : MethodName := ⟨RX4, "look", "(LThirteenthBun$Plans;LThirteenthBun$Village;III)V"⟩
abbrev cX4_takeIn : ByteArray := prog_6_method_4_code
def yX4_takeIn : MethodName := ⟨RX4, "takeIn", "(III)V"⟩
abbrev cX4_playOut : ByteArray := prog_6_method_5_code
def yX4_playOut : MethodName := ⟨RX4, "playOut", "(LThirteenthBun$Village;I)I"⟩
abbrev cX4_playOn : ByteArray := prog_6_method_6_code
def yX4_playOn : MethodName := ⟨RX4, "playOn", "(LThirteenthBun$Plans;LThirteenthBun$Village;IZ)I"⟩
def RX5 : String := "ThirteenthBun$Reports"
def TX5 : u_T := fun k => match k with
  | 0 => ("ThirteenthBun$Reports", "behind", "[I", true)
  | 1 => ("ThirteenthBun$Reports", "asked", "[I", true)
  | 2 => ("ThirteenthBun$Reports", "least", "[I", true)
  | 3 => ("ThirteenthBun$Reports", "most", "[I", true)
  | 4 => ("ThirteenthBun$Reports", "count", "I", false)
  | 5 => ("ThirteenthBun$Reports", "fits", "I", false)
  | 6 => ("ThirteenthBun$Reports", "first", "[I", true)
  | _ => ("ThirteenthBun$Reports", "alone", "I", false)
def tyX5 : Nat → FieldType := fun k => match k with
  | 0 => .array .int
  | 1 => .array .int
  | 2 => .array .int
  | 3 => .array .int
  | 4 => .int
  | 5 => .int
  | 6 => .array .int
  | _ => .int
abbrev wsX50 : List Cond := u_ws RX5 TX5 8
theorem nmX5 : ∀ a, a < 8 → ∀ b, b < 8 → a ≠ b → (TX5 a).2.1 ≠ (TX5 b).2.1 := by decide +kernel
theorem tyX5_ok : ∀ k, k < 8 → parseFieldDescriptor (TX5 k).2.2.1 = some (tyX5 k) := by decide +kernel
abbrev cX5_init : ByteArray := prog_7_method_1_code
def yX5_init : MethodName := ⟨RX5, "<init>", "()V"⟩
abbrev cX5_become : ByteArray := prog_7_method_2_code
def yX5_become : MethodName := ⟨RX5, "become", "(LThirteenthBun$Reports;)V"⟩
abbrev cX5_add : ByteArray := prog_7_method_3_code
def yX5_add : MethodName := ⟨RX5, "add", "(IIII)I"⟩
abbrev cX5_lookAll : ByteArray := prog_7_method_4_code
def yX5_lookAll : MethodName := ⟨RX5, "lookAll", "([I)V"⟩
abbrev cX5_takeIn : ByteArray := prog_7_method_5_code
def yX5_takeIn : MethodName := ⟨RX5, "takeIn", "(IIII)V"⟩
abbrev cX5_wrongBy : ByteArray := prog_7_method_6_code
def yX5_wrongBy : MethodName := ⟨RX5, "wrongBy", "(III[I)I"⟩
abbrev cX5_wrongBehind : ByteArray := prog_7_method_7_code
def yX5_wrongBehind : MethodName := ⟨RX5, "wrongBehind", "(III)I"⟩
def RX6 : String := "ThirteenthBun$RuleText"
def TX6 : u_T := fun k => match k with
  | 0 => ("ThirteenthBun$RuleText", "bytes", "[I", true)
  | 1 => ("ThirteenthBun$RuleText", "count", "I", false)
  | 2 => ("ThirteenthBun$RuleText", "part", "[I", true)
  | 3 => ("ThirteenthBun$RuleText", "place", "[I", true)
  | 4 => ("ThirteenthBun$RuleText", "draft", "LThirteenthBun$Rules;", true)
  | 5 => ("ThirteenthBun$RuleText", "at", "I", false)
  | _ => ("ThirteenthBun$RuleText", "fault", "I", false)
def tyX6 : Nat → FieldType := fun k => match k with
  | 0 => .array .int
  | 1 => .int
  | 2 => .array .int
  | 3 => .array .int
  | 4 => .object "ThirteenthBun$Rules"
  | 5 => .int
  | _ => .int
abbrev wsX60 : List Cond := u_ws RX6 TX6 7
theorem nmX6 : ∀ a, a < 7 → ∀ b, b < 7 → a ≠ b → (TX6 a).2.1 ≠ (TX6 b).2.1 := by decide +kernel
theorem tyX6_ok : ∀ k, k < 7 → parseFieldDescriptor (TX6 k).2.2.1 = some (tyX6 k) := by decide +kernel
abbrev cX6_init : ByteArray := prog_8_method_1_code
def yX6_init : MethodName := ⟨RX6, "<init>", "()V"⟩
abbrev cX6_takes : ByteArray := prog_8_method_2_code
def yX6_takes : MethodName := ⟨RX6, "takes", "(JI)Z"⟩
abbrev cX6_tell : ByteArray := prog_8_method_3_code
def yX6_tell : MethodName := ⟨RX6, "tell", "(LThirteenthBun$Rules;)I"⟩
abbrev cX6_divide : ByteArray := prog_8_method_4_code
def yX6_divide : MethodName := ⟨RX6, "divide", "()V"⟩
abbrev cX6_sortAt : ByteArray := prog_8_method_5_code
def yX6_sortAt : MethodName := ⟨RX6, "sortAt", "(I)I"⟩
abbrev cX6_wordAt : ByteArray := prog_8_method_6_code
def yX6_wordAt : MethodName := ⟨RX6, "wordAt", "(I)I"⟩
abbrev cX6_numberAt : ByteArray := prog_8_method_7_code
def yX6_numberAt : MethodName := ⟨RX6, "numberAt", "(I)I"⟩
abbrev cX6_isNext : ByteArray := prog_8_method_8_code
def yX6_isNext : MethodName := ⟨RX6, "isNext", "(II)Z"⟩
abbrev cX6_pass : ByteArray := prog_8_method_9_code
def yX6_pass : MethodName := ⟨RX6, "pass", "(II)I"⟩
abbrev cX6_readRule : ByteArray := prog_8_method_10_code
def yX6_readRule : MethodName := ⟨RX6, "readRule", "()V"⟩
abbrev cX6_readAny : ByteArray := prog_8_method_11_code
def yX6_readAny : MethodName := ⟨RX6, "readAny", "(I)V"⟩
abbrev cX6_readAll : ByteArray := prog_8_method_12_code
def yX6_readAll : MethodName := ⟨RX6, "readAll", "(I)V"⟩
abbrev cX6_readOne : ByteArray := prog_8_method_13_code
def yX6_readOne : MethodName := ⟨RX6, "readOne", "(I)V"⟩
abbrev cX6_readSide : ByteArray := prog_8_method_14_code
def yX6_readSide : MethodName := ⟨RX6, "readSide", "()I"⟩
def RX7 : String := "ThirteenthBun$Rules"
def TX7 : u_T := fun k => match k with
  | 0 => ("ThirteenthBun$Rules", "kind", "[I", true)
  | 1 => ("ThirteenthBun$Rules", "deed", "[I", true)
  | 2 => ("ThirteenthBun$Rules", "stepsTill", "[I", true)
  | 3 => ("ThirteenthBun$Rules", "step", "[I", true)
  | 4 => ("ThirteenthBun$Rules", "left", "[I", true)
  | 5 => ("ThirteenthBun$Rules", "right", "[I", true)
  | 6 => ("ThirteenthBun$Rules", "facts", "[I", true)
  | 7 => ("ThirteenthBun$Rules", "count", "I", false)
  | _ => ("ThirteenthBun$Rules", "stepCount", "I", false)
def tyX7 : Nat → FieldType := fun k => match k with
  | 0 => .array .int
  | 1 => .array .int
  | 2 => .array .int
  | 3 => .array .int
  | 4 => .array .int
  | 5 => .array .int
  | 6 => .array .int
  | 7 => .int
  | _ => .int
abbrev wsX70 : List Cond := u_ws RX7 TX7 9
theorem nmX7 : ∀ a, a < 9 → ∀ b, b < 9 → a ≠ b → (TX7 a).2.1 ≠ (TX7 b).2.1 := by decide +kernel
theorem tyX7_ok : ∀ k, k < 9 → parseFieldDescriptor (TX7 k).2.2.1 = some (tyX7 k) := by decide +kernel
abbrev cX7_init : ByteArray := prog_9_method_1_code
def yX7_init : MethodName := ⟨RX7, "<init>", "()V"⟩
abbrev cX7_become : ByteArray := prog_9_method_2_code
def yX7_become : MethodName := ⟨RX7, "become", "(LThirteenthBun$Rules;)V"⟩
abbrev cX7_addStep : ByteArray := prog_9_method_3_code
def yX7_addStep : MethodName := ⟨RX7, "addStep", "(III)V"⟩
abbrev cX7_addRule : ByteArray := prog_9_method_4_code
def yX7_addRule : MethodName := ⟨RX7, "addRule", "(II)V"⟩
abbrev cX7_willOf : ByteArray := prog_9_method_5_code
def yX7_willOf : MethodName := ⟨RX7, "willOf", "(IIIIII)I"⟩
abbrev cX7_holds : ByteArray := prog_9_method_6_code
def yX7_holds : MethodName := ⟨RX7, "holds", "(II)Z"⟩
abbrev cX7_side : ByteArray := prog_9_method_7_code
def yX7_side : MethodName := ⟨RX7, "side", "(I)I"⟩
abbrev cX7_isTrue : ByteArray := prog_9_method_8_code
def yX7_isTrue : MethodName := ⟨RX7, "isTrue", "(III)Z"⟩
def RX8 : String := "ThirteenthBun$Sad"
def TX8 : u_T := fun k => match k with
  | 0 => ("ThirteenthBun$House", "number", "I", false)
  | 1 => ("ThirteenthBun$House", "lane", "I", false)
  | 2 => ("ThirteenthBun$House", "bodies", "[I", true)
  | 3 => ("ThirteenthBun$House", "bodyCount", "I", false)
  | _ => ("ThirteenthBun$House", "isParted", "Z", false)
def tyX8 : Nat → FieldType := fun k => match k with
  | 0 => .int
  | 1 => .int
  | 2 => .array .int
  | 3 => .int
  | _ => .boolean
abbrev wsX80 : List Cond := u_ws RX8 TX8 5
theorem nmX8 : ∀ a, a < 5 → ∀ b, b < 5 → a ≠ b → (TX8 a).2.1 ≠ (TX8 b).2.1 := by decide +kernel
theorem tyX8_ok : ∀ k, k < 5 → parseFieldDescriptor (TX8 k).2.2.1 = some (tyX8 k) := by decide +kernel
abbrev cX8_init : ByteArray := prog_10_method_1_code
def yX8_init : MethodName := ⟨RX8, "<init>", "()V"⟩
abbrev cX8_waits : ByteArray := prog_10_method_2_code
def yX8_waits : MethodName := ⟨RX8, "waits", "(I)I"⟩
def RX9 : String := "ThirteenthBun$Trouble"
def TX9 : u_T := fun k => match k with
  | 0 => ("ThirteenthBun$House", "number", "I", false)
  | 1 => ("ThirteenthBun$House", "lane", "I", false)
  | 2 => ("ThirteenthBun$House", "bodies", "[I", true)
  | 3 => ("ThirteenthBun$House", "bodyCount", "I", false)
  | _ => ("ThirteenthBun$House", "isParted", "Z", false)
def tyX9 : Nat → FieldType := fun k => match k with
  | 0 => .int
  | 1 => .int
  | 2 => .array .int
  | 3 => .int
  | _ => .boolean
abbrev wsX90 : List Cond := u_ws RX9 TX9 5
theorem nmX9 : ∀ a, a < 5 → ∀ b, b < 5 → a ≠ b → (TX9 a).2.1 ≠ (TX9 b).2.1 := by decide +kernel
theorem tyX9_ok : ∀ k, k < 5 → parseFieldDescriptor (TX9 k).2.2.1 = some (tyX9 k) := by decide +kernel
abbrev cX9_init : ByteArray := prog_11_method_1_code
def yX9_init : MethodName := ⟨RX9, "<init>", "()V"⟩
abbrev cX9_knocks : ByteArray := prog_11_method_2_code
def yX9_knocks : MethodName := ⟨RX9, "knocks", "(I)I"⟩
abbrev cX9_sits : ByteArray := prog_11_method_3_code
def yX9_sits : MethodName := ⟨RX9, "sits", "(I)I"⟩
def RX10 : String := "ThirteenthBun$Village"
def TX10 : u_T := fun k => match k with
  | 0 => ("ThirteenthBun$Village", "kind", "[I", true)
  | 1 => ("ThirteenthBun$Village", "rank", "[I", true)
  | 2 => ("ThirteenthBun$Village", "grief", "[I", true)
  | 3 => ("ThirteenthBun$Village", "lane", "[I", true)
  | 4 => ("ThirteenthBun$Village", "buns", "[I", true)
  | 5 => ("ThirteenthBun$Village", "lamps", "[I", true)
  | 6 => ("ThirteenthBun$Village", "dry", "[I", true)
  | 7 => ("ThirteenthBun$Village", "dusk", "[I", true)
  | 8 => ("ThirteenthBun$Village", "rules", "LThirteenthBun$Rules;", true)
  | 9 => ("ThirteenthBun$Village", "reports", "LThirteenthBun$Reports;", true)
  | 10 => ("ThirteenthBun$Village", "houses", "I", false)
  | 11 => ("ThirteenthBun$Village", "called", "I", false)
  | 12 => ("ThirteenthBun$Village", "night", "I", false)
  | 13 => ("ThirteenthBun$Village", "end", "I", false)
  | 14 => ("ThirteenthBun$Village", "rain", "I", false)
  | 15 => ("ThirteenthBun$Village", "tray", "I", false)
  | 16 => ("ThirteenthBun$Village", "score", "I", false)
  | _ => ("ThirteenthBun$Village", "z", "I", false)
def tyX10 : Nat → FieldType := fun k => match k with
  | 0 => .array .int
  | 1 => .array .int
  | 2 => .array .int
  | 3 => .array .int
  | 4 => .array .int
  | 5 => .array .int
  | 6 => .array .int
  | 7 => .array .int
  | 8 => .object "ThirteenthBun$Rules"
  | 9 => .object "ThirteenthBun$Reports"
  | 10 => .int
  | 11 => .int
  | 12 => .int
  | 13 => .int
  | 14 => .int
  | 15 => .int
  | 16 => .int
  | _ => .int
abbrev wsX100 : List Cond := u_ws RX10 TX10 18
theorem nmX10 : ∀ a, a < 18 → ∀ b, b < 18 → a ≠ b → (TX10 a).2.1 ≠ (TX10 b).2.1 := by decide +kernel
theorem tyX10_ok : ∀ k, k < 18 → parseFieldDescriptor (TX10 k).2.2.1 = some (tyX10 k) := by decide +kernel
abbrev cX10_init : ByteArray := prog_12_method_1_code
def yX10_init : MethodName := ⟨RX10, "<init>", "()V"⟩
abbrev cX10_become : ByteArray := prog_12_method_2_code
def yX10_become : MethodName := ⟨RX10, "become", "(LThirteenthBun$Village;)V"⟩
abbrev cX10_startAnew : ByteArray := prog_12_method_3_code
def yX10_startAnew : MethodName := ⟨RX10, "startAnew", "()V"⟩
abbrev cX10_add : ByteArray := prog_12_method_4_code
def yX10_add : MethodName := ⟨RX10, "add", "(IIII)I"⟩
abbrev cX10_has : ByteArray := prog_12_method_5_code
def yX10_has : MethodName := ⟨RX10, "has", "(I)Z"⟩
abbrev cX10_isAct : ByteArray := prog_12_method_6_code
def yX10_isAct : MethodName := ⟨RX10, "isAct", "(I)Z"⟩
abbrev cX10_all : ByteArray := prog_12_method_7_code
def yX10_all : MethodName := ⟨RX10, "all", "()I"⟩
abbrev cX10_isOver : ByteArray := prog_12_method_8_code
def yX10_isOver : MethodName := ⟨RX10, "isOver", "()Z"⟩
abbrev cX10_isCalled : ByteArray := prog_12_method_9_code
def yX10_isCalled : MethodName := ⟨RX10, "isCalled", "(I)Z"⟩
abbrev cX10_withBuns : ByteArray := prog_12_method_10_code
def yX10_withBuns : MethodName := ⟨RX10, "withBuns", "()I"⟩
abbrev cX10_duskNow : ByteArray := prog_12_method_11_code
def yX10_duskNow : MethodName := ⟨RX10, "duskNow", "()I"⟩
abbrev cX10_get : ByteArray := prog_12_method_12_code
def yX10_get : MethodName := ⟨RX10, "get", "(II)I"⟩
abbrev cX10_put : ByteArray := prog_12_method_13_code
def yX10_put : MethodName := ⟨RX10, "put", "(III)V"⟩
abbrev cX10_asked : ByteArray := prog_12_method_14_code
def yX10_asked : MethodName := ⟨RX10, "asked", "(I)I"⟩
abbrev cX10_drawn : ByteArray := prog_12_method_15_code
def yX10_drawn : MethodName := ⟨RX10, "drawn", "(I)I"⟩
abbrev cX10_isServed : ByteArray := prog_12_method_16_code
def yX10_isServed : MethodName := ⟨RX10, "isServed", "(I)Z"⟩
abbrev cX10_will : ByteArray := prog_12_method_17_code
def yX10_will : MethodName := ⟨RX10, "will", "(I)I"⟩
abbrev cX10_goBy : ByteArray := prog_12_method_18_code
def yX10_goBy : MethodName := ⟨RX10, "goBy", "(I)I"⟩
abbrev cX10_goRest : ByteArray := prog_12_method_19_code
def yX10_goRest : MethodName := ⟨RX10, "goRest", "(I)I"⟩
abbrev cX10_toldInRest : ByteArray := prog_12_method_20_code
def yX10_toldInRest : MethodName := ⟨RX10, "toldInRest", "()I"⟩
abbrev cX10_worthOf : ByteArray := prog_12_method_21_code
def yX10_worthOf : MethodName := ⟨RX10, "worthOf", "(II)I"⟩
abbrev cX10_takeBack : ByteArray := prog_12_method_22_code
def yX10_takeBack : MethodName := ⟨RX10, "takeBack", "(IIIII)V"⟩
abbrev cX10_bunsFor : ByteArray := prog_12_method_23_code
def yX10_bunsFor : MethodName := ⟨RX10, "bunsFor", "(I)I"⟩
abbrev cX10_drawLot : ByteArray := prog_12_method_24_code
def yX10_drawLot : MethodName := ⟨RX10, "drawLot", "()I"⟩
abbrev cX10_kinOf : ByteArray := prog_12_method_25_code
def yX10_kinOf : MethodName := ⟨RX10, "kinOf", "(I)I"⟩
abbrev cX10_isCloseToOne : ByteArray := prog_12_method_26_code
def yX10_isCloseToOne : MethodName := ⟨RX10, "isCloseToOne", "(II)Z"⟩
def RX11 : String := "ThirteenthBun"
def TX11 : u_T := fun k => match k with
  | 0 => ("ThirteenthBun", "kinds", "[LThirteenthBun$House;", true)
  | 1 => ("ThirteenthBun", "now", "LThirteenthBun$Village;", true)
  | 2 => ("ThirteenthBun", "trial", "LThirteenthBun$Village;", true)
  | 3 => ("ThirteenthBun", "kept", "LThirteenthBun$Village;", true)
  | 4 => ("ThirteenthBun", "isKept", "Z", false)
  | 5 => ("ThirteenthBun", "tape", "LThirteenthBun$RuleText;", true)
  | 6 => ("ThirteenthBun", "plans", "LThirteenthBun$Plans;", true)
  | 7 => ("ThirteenthBun", "rows", "[I", true)
  | 8 => ("ThirteenthBun", "rowCount", "I", false)
  | 9 => ("ThirteenthBun", "items", "[[J", true)
  | 10 => ("ThirteenthBun", "sorts", "[I", true)
  | 11 => ("ThirteenthBun", "sizes", "[I", true)
  | 12 => ("ThirteenthBun", "shelfHolds", "[I", true)
  | 13 => ("ThirteenthBun", "shelfNumber", "[I", true)
  | 14 => ("ThirteenthBun", "shelfSort", "[I", true)
  | _ => ("ThirteenthBun", "acted", "LThirteenthBun$House;", false)
def tyX11 : Nat → FieldType := fun k => match k with
  | 0 => .array (.object "ThirteenthBun$House")
  | 1 => .object "ThirteenthBun$Village"
  | 2 => .object "ThirteenthBun$Village"
  | 3 => .object "ThirteenthBun$Village"
  | 4 => .boolean
  | 5 => .object "ThirteenthBun$RuleText"
  | 6 => .object "ThirteenthBun$Plans"
  | 7 => .array .int
  | 8 => .int
  | 9 => .array (.array .long)
  | 10 => .array .int
  | 11 => .array .int
  | 12 => .array .int
  | 13 => .array .int
  | 14 => .array .int
  | _ => .object "ThirteenthBun$House"
abbrev wsX110 : List Cond := u_ws RX11 TX11 16
theorem nmX11 : ∀ a, a < 16 → ∀ b, b < 16 → a ≠ b → (TX11 a).2.1 ≠ (TX11 b).2.1 := by decide +kernel
theorem tyX11_ok : ∀ k, k < 16 → parseFieldDescriptor (TX11 k).2.2.1 = some (tyX11 k) := by decide +kernel
abbrev cX11_init : ByteArray := prog_1_method_1_code
def yX11_init : MethodName := ⟨RX11, "<init>", "()V"⟩
abbrev cX11_house : ByteArray := prog_1_method_2_code
def yX11_house : MethodName := ⟨RX11, "house", "(IIII)I"⟩
abbrev cX11_houseOf : ByteArray := prog_1_method_3_code
def yX11_houseOf : MethodName := ⟨RX11, "houseOf", "(II)I"⟩
abbrev cX11_change : ByteArray := prog_1_method_4_code
def yX11_change : MethodName := ⟨RX11, "change", "(III)I"⟩
abbrev cX11_remake : ByteArray := prog_1_method_5_code
def yX11_remake : MethodName := ⟨RX11, "remake", "(II)I"⟩
abbrev cX11_dusk : ByteArray := prog_1_method_6_code
def yX11_dusk : MethodName := ⟨RX11, "dusk", "(II)I"⟩
abbrev cX11_lane : ByteArray := prog_1_method_7_code
def yX11_lane : MethodName := ⟨RX11, "lane", "(III)I"⟩
abbrev cX11_laneOf : ByteArray := prog_1_method_8_code
def yX11_laneOf : MethodName := ⟨RX11, "laneOf", "(II)I"⟩
abbrev cX11_shop : ByteArray := prog_1_method_9_code
def yX11_shop : MethodName := ⟨RX11, "shop", "(II)I"⟩
abbrev cX11_ends : ByteArray := prog_1_method_10_code
def yX11_ends : MethodName := ⟨RX11, "ends", "(I)I"⟩
abbrev cX11_anew : ByteArray := prog_1_method_11_code
def yX11_anew : MethodName := ⟨RX11, "anew", "()I"⟩
abbrev cX11_state : ByteArray := prog_1_method_12_code
def yX11_state : MethodName := ⟨RX11, "state", "(I)I"⟩
abbrev cX11_feed : ByteArray := prog_1_method_13_code
def yX11_feed : MethodName := ⟨RX11, "feed", "(JI)I"⟩
abbrev cX11_rules : ByteArray := prog_1_method_14_code
def yX11_rules : MethodName := ⟨RX11, "rules", "()I"⟩
abbrev cX11_night : ByteArray := prog_1_method_15_code
def yX11_night : MethodName := ⟨RX11, "night", "()I"⟩
abbrev cX11_on : ByteArray := prog_1_method_16_code
def yX11_on : MethodName := ⟨RX11, "on", "(I)I"⟩
abbrev cX11_when : ByteArray := prog_1_method_17_code
def yX11_when : MethodName := ⟨RX11, "when", "(I)I"⟩
abbrev cX11_griefFor : ByteArray := prog_1_method_18_code
def yX11_griefFor : MethodName := ⟨RX11, "griefFor", "(I)I"⟩
abbrev cX11_laneFor : ByteArray := prog_1_method_19_code
def yX11_laneFor : MethodName := ⟨RX11, "laneFor", "(I)I"⟩
abbrev cX11_worthMost : ByteArray := prog_1_method_20_code
def yX11_worthMost : MethodName := ⟨RX11, "worthMost", "(II)I"⟩
abbrev cX11_full : ByteArray := prog_1_method_21_code
def yX11_full : MethodName := ⟨RX11, "full", "(I)I"⟩
abbrev cX11_bare : ByteArray := prog_1_method_22_code
def yX11_bare : MethodName := ⟨RX11, "bare", "(I)I"⟩
abbrev cX11_kin : ByteArray := prog_1_method_23_code
def yX11_kin : MethodName := ⟨RX11, "kin", "(I)I"⟩
abbrev cX11_countKin : ByteArray := prog_1_method_24_code
def yX11_countKin : MethodName := ⟨RX11, "countKin", "()I"⟩
abbrev cX11_walk : ByteArray := prog_1_method_25_code
def yX11_walk : MethodName := ⟨RX11, "walk", "(II)I"⟩
abbrev cX11_walkOver : ByteArray := prog_1_method_26_code
def yX11_walkOver : MethodName := ⟨RX11, "walkOver", "(LThirteenthBun$Village;III)I"⟩
abbrev cX11_walkBy : ByteArray := prog_1_method_27_code
def yX11_walkBy : MethodName := ⟨RX11, "walkBy", "(LThirteenthBun$Village;IIII)I"⟩
abbrev cX11_best : ByteArray := prog_1_method_28_code
def yX11_best : MethodName := ⟨RX11, "best", "(I)I"⟩
abbrev cX11_ith : ByteArray := prog_1_method_29_code
def yX11_ith : MethodName := ⟨RX11, "ith", "(II)I"⟩
abbrev cX11_ways : ByteArray := prog_1_method_30_code
def yX11_ways : MethodName := ⟨RX11, "ways", "(I)I"⟩
abbrev cX11_round : ByteArray := prog_1_method_31_code
def yX11_round : MethodName := ⟨RX11, "round", "(II)I"⟩
abbrev cX11_bars : ByteArray := prog_1_method_32_code
def yX11_bars : MethodName := ⟨RX11, "bars", "(II)I"⟩
abbrev cX11_game : ByteArray := prog_1_method_33_code
def yX11_game : MethodName := ⟨RX11, "game", "(I)I"⟩
abbrev cX11_play : ByteArray := prog_1_method_34_code
def yX11_play : MethodName := ⟨RX11, "play", "(I)I"⟩
abbrev cX11_report : ByteArray := prog_1_method_35_code
def yX11_report : MethodName := ⟨RX11, "report", "(IIII)I"⟩
abbrev cX11_forget : ByteArray := prog_1_method_36_code
def yX11_forget : MethodName := ⟨RX11, "forget", "()I"⟩
abbrev cX11_stories : ByteArray := prog_1_method_37_code
def yX11_stories : MethodName := ⟨RX11, "stories", "(I)I"⟩
abbrev cX11_liar : ByteArray := prog_1_method_38_code
def yX11_liar : MethodName := ⟨RX11, "liar", "()I"⟩
abbrev cX11_seed : ByteArray := prog_1_method_39_code
def yX11_seed : MethodName := ⟨RX11, "seed", "(I)I"⟩
abbrev cX11_lot : ByteArray := prog_1_method_40_code
def yX11_lot : MethodName := ⟨RX11, "lot", "()I"⟩
abbrev cX11_times : ByteArray := prog_1_method_41_code
def yX11_times : MethodName := ⟨RX11, "times", "(II)I"⟩
abbrev cX11_prove : ByteArray := prog_1_method_42_code
def yX11_prove : MethodName := ⟨RX11, "prove", "(I)I"⟩
abbrev cX11_row : ByteArray := prog_1_method_43_code
def yX11_row : MethodName := ⟨RX11, "row", "(II)I"⟩
abbrev cX11_alterRow : ByteArray := prog_1_method_44_code
def yX11_alterRow : MethodName := ⟨RX11, "alterRow", "(III)I"⟩
abbrev cX11_isInRow : ByteArray := prog_1_method_45_code
def yX11_isInRow : MethodName := ⟨RX11, "isInRow", "(II)Z"⟩
abbrev cX11_judge : ByteArray := prog_1_method_46_code
def yX11_judge : MethodName := ⟨RX11, "judge", "()I"⟩
abbrev cX11_sheet : ByteArray := prog_1_method_47_code
def yX11_sheet : MethodName := ⟨RX11, "sheet", "(III)I"⟩
abbrev cX11_write : ByteArray := prog_1_method_48_code
def yX11_write : MethodName := ⟨RX11, "write", "(III)I"⟩
abbrev cX11_narrowed : ByteArray := prog_1_method_49_code
def yX11_narrowed : MethodName := ⟨RX11, "narrowed", "(II)I"⟩
abbrev cX11_item : ByteArray := prog_1_method_50_code
def yX11_item : MethodName := ⟨RX11, "item", "(III)I"⟩
abbrev cX11_goAll : ByteArray := prog_1_method_51_code
def yX11_goAll : MethodName := ⟨RX11, "goAll", "(III)I"⟩
abbrev cX11_wouldBe : ByteArray := prog_1_method_52_code
def yX11_wouldBe : MethodName := ⟨RX11, "wouldBe", "(III)I"⟩
abbrev cX11_shelf : ByteArray := prog_1_method_53_code
def yX11_shelf : MethodName := ⟨RX11, "shelf", "(III)I"⟩
abbrev cX11_taken : ByteArray := prog_1_method_54_code
def yX11_taken : MethodName := ⟨RX11, "taken", "(II)I"⟩
abbrev cX11_act : ByteArray := prog_1_method_55_code
def yX11_act : MethodName := ⟨RX11, "act", "(III)I"⟩
abbrev cX11_trace : ByteArray := prog_1_method_56_code
def yX11_trace : MethodName := ⟨RX11, "trace", "(I)I"⟩
abbrev cX11_many : ByteArray := prog_1_method_57_code
def yX11_many : MethodName := ⟨RX11, "many", "(I)I"⟩
abbrev cX11_isSheet : ByteArray := prog_1_method_58_code
def yX11_isSheet : MethodName := ⟨RX11, "isSheet", "(I)Z"⟩
abbrev cX11_isShelf : ByteArray := prog_1_method_59_code
def yX11_isShelf : MethodName := ⟨RX11, "isShelf", "(I)Z"⟩
abbrev cX11_hasItem : ByteArray := prog_1_method_60_code
def yX11_hasItem : MethodName := ⟨RX11, "hasItem", "(II)Z"⟩
abbrev cX11_takenFor : ByteArray := prog_1_method_61_code
def yX11_takenFor : MethodName := ⟨RX11, "takenFor", "(II)I"⟩
abbrev cX11_houseOn : ByteArray := prog_1_method_62_code
def yX11_houseOn : MethodName := ⟨RX11, "houseOn", "(I)I"⟩
abbrev cX11_keep : ByteArray := prog_1_method_63_code
def yX11_keep : MethodName := ⟨RX11, "keep", "()I"⟩
abbrev cX11_again : ByteArray := prog_1_method_64_code
def yX11_again : MethodName := ⟨RX11, "again", "()I"⟩
abbrev cX11_freshTrial : ByteArray := prog_1_method_65_code
def yX11_freshTrial : MethodName := ⟨RX11, "freshTrial", "()LThirteenthBun$Village;"⟩
abbrev cX11_isFrom0To : ByteArray := prog_1_method_66_code
def yX11_isFrom0To : MethodName := ⟨RX11, "isFrom0To", "(II)Z"⟩
abbrev cX11_mostOf : ByteArray := prog_1_method_67_code
def yX11_mostOf : MethodName := ⟨RX11, "mostOf", "(I)I"⟩
abbrev cX11_leastOf : ByteArray := prog_1_method_68_code
def yX11_leastOf : MethodName := ⟨RX11, "leastOf", "(I)I"⟩
abbrev cX11_isKind : ByteArray := prog_1_method_69_code
def yX11_isKind : MethodName := ⟨RX11, "isKind", "(I)Z"⟩
abbrev cX11_isUnder : ByteArray := prog_1_method_70_code
def yX11_isUnder : MethodName := ⟨RX11, "isUnder", "(II)Z"⟩
abbrev cX11_asks : ByteArray := prog_1_method_71_code
def yX11_asks : MethodName := ⟨RX11, "asks", "(III)I"⟩
abbrev cX11_draws : ByteArray := prog_1_method_72_code
def yX11_draws : MethodName := ⟨RX11, "draws", "(IIII)I"⟩
abbrev cX11_rainBehind : ByteArray := prog_1_method_73_code
def yX11_rainBehind : MethodName := ⟨RX11, "rainBehind", "(II)I"⟩
abbrev cX11_trayBehind : ByteArray := prog_1_method_74_code
def yX11_trayBehind : MethodName := ⟨RX11, "trayBehind", "(II)I"⟩
def RX12 : String := "ThirteenthBunModel"
def TX12 : u_T := fun k => match k with
  | 0 => ("ThirteenthBunModel", "s", "[I", true)
  | 1 => ("ThirteenthBunModel", "kept", "[I", true)
  | 2 => ("ThirteenthBunModel", "laid", "[I", true)
  | 3 => ("ThirteenthBunModel", "isKept", "Z", false)
  | 4 => ("ThirteenthBunModel", "pile", "[I", true)
  | 5 => ("ThirteenthBunModel", "tape", "[I", true)
  | 6 => ("ThirteenthBunModel", "taped", "I", false)
  | 7 => ("ThirteenthBunModel", "letters", "[C", true)
  | 8 => ("ThirteenthBunModel", "at", "I", false)
  | 9 => ("ThirteenthBunModel", "begun", "I", false)
  | 10 => ("ThirteenthBunModel", "token", "I", false)
  | 11 => ("ThirteenthBunModel", "value", "I", false)
  | 12 => ("ThirteenthBunModel", "opened", "I", false)
  | 13 => ("ThirteenthBunModel", "steps", "I", false)
  | 14 => ("ThirteenthBunModel", "step", "[I", true)
  | 15 => ("ThirteenthBunModel", "read", "[I", true)
  | 16 => ("ThirteenthBunModel", "leastLanes", "I", false)
  | 17 => ("ThirteenthBunModel", "firstGone", "I", false)
  | 18 => ("ThirteenthBunModel", "saved", "[I", true)
  | 19 => ("ThirteenthBunModel", "plan", "[I", true)
  | 20 => ("ThirteenthBunModel", "bestPlan", "[I", true)
  | 21 => ("ThirteenthBunModel", "most", "I", false)
  | 22 => ("ThirteenthBunModel", "many", "I", false)
  | 23 => ("ThirteenthBunModel", "few", "I", false)
  | 24 => ("ThirteenthBunModel", "everCalled", "I", false)
  | 25 => ("ThirteenthBunModel", "trayThen", "[I", true)
  | 26 => ("ThirteenthBunModel", "rainThen", "[I", true)
  | 27 => ("ThirteenthBunModel", "firstFit", "I", false)
  | 28 => ("ThirteenthBunModel", "rows", "[I", true)
  | 29 => ("ThirteenthBunModel", "rowMany", "I", false)
  | 30 => ("ThirteenthBunModel", "sorts", "[I", true)
  | 31 => ("ThirteenthBunModel", "sizes", "[I", true)
  | 32 => ("ThirteenthBunModel", "number", "[I", true)
  | 33 => ("ThirteenthBunModel", "holds", "[I", true)
  | 34 => ("ThirteenthBunModel", "heldOne", "[I", true)
  | 35 => ("ThirteenthBunModel", "trace", "[I", true)
  | 36 => ("ThirteenthBunModel", "traced", "I", false)
  | 37 => ("ThirteenthBunModel", "own", "I", false)
  | _ => ("ThirteenthBunModel", "isParted", "Z", false)
def tyX12 : Nat → FieldType := fun k => match k with
  | 0 => .array .int
  | 1 => .array .int
  | 2 => .array .int
  | 3 => .boolean
  | 4 => .array .int
  | 5 => .array .int
  | 6 => .int
  | 7 => .array .char
  | 8 => .int
  | 9 => .int
  | 10 => .int
  | 11 => .int
  | 12 => .int
  | 13 => .int
  | 14 => .array .int
  | 15 => .array .int
  | 16 => .int
  | 17 => .int
  | 18 => .array .int
  | 19 => .array .int
  | 20 => .array .int
  | 21 => .int
  | 22 => .int
  | 23 => .int
  | 24 => .int
  | 25 => .array .int
  | 26 => .array .int
  | 27 => .int
  | 28 => .array .int
  | 29 => .int
  | 30 => .array .int
  | 31 => .array .int
  | 32 => .array .int
  | 33 => .array .int
  | 34 => .array .int
  | 35 => .array .int
  | 36 => .int
  | 37 => .int
  | _ => .boolean
abbrev wsX120 : List Cond := u_ws RX12 TX12 39
theorem nmX12 : ∀ a, a < 39 → ∀ b, b < 39 → a ≠ b → (TX12 a).2.1 ≠ (TX12 b).2.1 := by decide +kernel
theorem tyX12_ok : ∀ k, k < 39 → parseFieldDescriptor (TX12 k).2.2.1 = some (tyX12 k) := by decide +kernel
abbrev cX12_init : ByteArray := prog_14_method_1_code
def yX12_init : MethodName := ⟨RX12, "<init>", "()V"⟩
abbrev cX12_in1 : ByteArray := prog_14_method_2_code
def yX12_in1 : MethodName := ⟨RX12, "in1", "(III)Z"⟩
abbrev cX12_held : ByteArray := prog_14_method_3_code
def yX12_held : MethodName := ⟨RX12, "held", "(II)I"⟩
abbrev cX12_layDown : ByteArray := prog_14_method_4_code
def yX12_layDown : MethodName := ⟨RX12, "layDown", "()V"⟩
abbrev cX12_layBack : ByteArray := prog_14_method_5_code
def yX12_layBack : MethodName := ⟨RX12, "layBack", "()V"⟩
abbrev cX12_get : ByteArray := prog_14_method_6_code
def yX12_get : MethodName := ⟨RX12, "get", "(II)I"⟩
abbrev cX12_puts : ByteArray := prog_14_method_7_code
def yX12_puts : MethodName := ⟨RX12, "puts", "(III)V"⟩
abbrev cX12_isHouse : ByteArray := prog_14_method_8_code
def yX12_isHouse : MethodName := ⟨RX12, "isHouse", "(I)Z"⟩
abbrev cX12_isAct : ByteArray := prog_14_method_9_code
def yX12_isAct : MethodName := ⟨RX12, "isAct", "(I)Z"⟩
abbrev cX12_isOver : ByteArray := prog_14_method_10_code
def yX12_isOver : MethodName := ⟨RX12, "isOver", "()Z"⟩
abbrev cX12_becomes : ByteArray := prog_14_method_11_code
def yX12_becomes : MethodName := ⟨RX12, "becomes", "(II)I"⟩
abbrev cX12_above : ByteArray := prog_14_method_12_code
def yX12_above : MethodName := ⟨RX12, "above", "(I)I"⟩
abbrev cX12_isUnder : ByteArray := prog_14_method_13_code
def yX12_isUnder : MethodName := ⟨RX12, "isUnder", "(II)Z"⟩
abbrev cX12_drawsBy : ByteArray := prog_14_method_14_code
def yX12_drawsBy : MethodName := ⟨RX12, "drawsBy", "(IIII)I"⟩
abbrev cX12_drawsOf : ByteArray := prog_14_method_15_code
def yX12_drawsOf : MethodName := ⟨RX12, "drawsOf", "(I)I"⟩
abbrev cX12_asksBy : ByteArray := prog_14_method_16_code
def yX12_asksBy : MethodName := ⟨RX12, "asksBy", "(III)I"⟩
abbrev cX12_asksOf : ByteArray := prog_14_method_17_code
def yX12_asksOf : MethodName := ⟨RX12, "asksOf", "(I)I"⟩
abbrev cX12_isServed : ByteArray := prog_14_method_18_code
def yX12_isServed : MethodName := ⟨RX12, "isServed", "(I)Z"⟩
abbrev cX12_wouldCall : ByteArray := prog_14_method_19_code
def yX12_wouldCall : MethodName := ⟨RX12, "wouldCall", "(I)Z"⟩
abbrev cX12_knownOf : ByteArray := prog_14_method_20_code
def yX12_knownOf : MethodName := ⟨RX12, "knownOf", "(II)I"⟩
abbrev cX12_joined : ByteArray := prog_14_method_21_code
def yX12_joined : MethodName := ⟨RX12, "joined", "(III)I"⟩
abbrev cX12_ruleOf : ByteArray := prog_14_method_22_code
def yX12_ruleOf : MethodName := ⟨RX12, "ruleOf", "(II)I"⟩
abbrev cX12_holdsFor : ByteArray := prog_14_method_23_code
def yX12_holdsFor : MethodName := ⟨RX12, "holdsFor", "(II)Z"⟩
abbrev cX12_willOf : ByteArray := prog_14_method_24_code
def yX12_willOf : MethodName := ⟨RX12, "willOf", "(I)I"⟩
abbrev cX12_byteAt : ByteArray := prog_14_method_25_code
def yX12_byteAt : MethodName := ⟨RX12, "byteAt", "(I)I"⟩
abbrev cX12_isNameOf : ByteArray := prog_14_method_26_code
def yX12_isNameOf : MethodName := ⟨RX12, "isNameOf", "(I)Z"⟩
abbrev cX12_readsName : ByteArray := prog_14_method_27_code
def yX12_readsName : MethodName := ⟨RX12, "readsName", "()V"⟩
abbrev cX12_readsNumber : ByteArray := prog_14_method_28_code
def yX12_readsNumber : MethodName := ⟨RX12, "readsNumber", "()V"⟩
abbrev cX12_next : ByteArray := prog_14_method_29_code
def yX12_next : MethodName := ⟨RX12, "next", "()V"⟩
abbrev cX12_takes : ByteArray := prog_14_method_30_code
def yX12_takes : MethodName := ⟨RX12, "takes", "(I)Z"⟩
abbrev cX12_lays : ByteArray := prog_14_method_31_code
def yX12_lays : MethodName := ⟨RX12, "lays", "(I)V"⟩
abbrev cX12_readsValue : ByteArray := prog_14_method_32_code
def yX12_readsValue : MethodName := ⟨RX12, "readsValue", "()Z"⟩
abbrev cX12_readsLike : ByteArray := prog_14_method_33_code
def yX12_readsLike : MethodName := ⟨RX12, "readsLike", "()Z"⟩
abbrev cX12_readsWithin : ByteArray := prog_14_method_34_code
def yX12_readsWithin : MethodName := ⟨RX12, "readsWithin", "()Z"⟩
abbrev cX12_readsOne : ByteArray := prog_14_method_35_code
def yX12_readsOne : MethodName := ⟨RX12, "readsOne", "()Z"⟩
abbrev cX12_readsAll : ByteArray := prog_14_method_36_code
def yX12_readsAll : MethodName := ⟨RX12, "readsAll", "()Z"⟩
abbrev cX12_readsCondition : ByteArray := prog_14_method_37_code
def yX12_readsCondition : MethodName := ⟨RX12, "readsCondition", "()Z"⟩
abbrev cX12_readsRule : ByteArray := prog_14_method_38_code
def yX12_readsRule : MethodName := ⟨RX12, "readsRule", "(I)Z"⟩
abbrev cX12_feed : ByteArray := prog_14_method_39_code
def yX12_feed : MethodName := ⟨RX12, "feed", "(JI)I"⟩
abbrev cX12_rules : ByteArray := prog_14_method_40_code
def yX12_rules : MethodName := ⟨RX12, "rules", "()I"⟩
abbrev cX12_rainBy : ByteArray := prog_14_method_41_code
def yX12_rainBy : MethodName := ⟨RX12, "rainBy", "(II)I"⟩
abbrev cX12_given : ByteArray := prog_14_method_42_code
def yX12_given : MethodName := ⟨RX12, "given", "(I)I"⟩
abbrev cX12_meets : ByteArray := prog_14_method_43_code
def yX12_meets : MethodName := ⟨RX12, "meets", "(I)I"⟩
abbrev cX12_restOne : ByteArray := prog_14_method_44_code
def yX12_restOne : MethodName := ⟨RX12, "restOne", "()I"⟩
abbrev cX12_goesBy : ByteArray := prog_14_method_45_code
def yX12_goesBy : MethodName := ⟨RX12, "goesBy", "(I)I"⟩
abbrev cX12_isRank : ByteArray := prog_14_method_46_code
def yX12_isRank : MethodName := ⟨RX12, "isRank", "(I)Z"⟩
abbrev cX12_isDigit : ByteArray := prog_14_method_47_code
def yX12_isDigit : MethodName := ⟨RX12, "isDigit", "(I)Z"⟩
abbrev cX12_isLane : ByteArray := prog_14_method_48_code
def yX12_isLane : MethodName := ⟨RX12, "isLane", "(I)Z"⟩
abbrev cX12_house : ByteArray := prog_14_method_49_code
def yX12_house : MethodName := ⟨RX12, "house", "(IIII)I"⟩
abbrev cX12_houseOf : ByteArray := prog_14_method_50_code
def yX12_houseOf : MethodName := ⟨RX12, "houseOf", "(II)I"⟩
abbrev cX12_change : ByteArray := prog_14_method_51_code
def yX12_change : MethodName := ⟨RX12, "change", "(III)I"⟩
abbrev cX12_remake : ByteArray := prog_14_method_52_code
def yX12_remake : MethodName := ⟨RX12, "remake", "(II)I"⟩
abbrev cX12_dusk : ByteArray := prog_14_method_53_code
def yX12_dusk : MethodName := ⟨RX12, "dusk", "(II)I"⟩
abbrev cX12_lane : ByteArray := prog_14_method_54_code
def yX12_lane : MethodName := ⟨RX12, "lane", "(III)I"⟩
abbrev cX12_laneOf : ByteArray := prog_14_method_55_code
def yX12_laneOf : MethodName := ⟨RX12, "laneOf", "(II)I"⟩
abbrev cX12_shop : ByteArray := prog_14_method_56_code
def yX12_shop : MethodName := ⟨RX12, "shop", "(II)I"⟩
abbrev cX12_ends : ByteArray := prog_14_method_57_code
def yX12_ends : MethodName := ⟨RX12, "ends", "(I)I"⟩
abbrev cX12_anew : ByteArray := prog_14_method_58_code
def yX12_anew : MethodName := ⟨RX12, "anew", "()I"⟩
abbrev cX12_those : ByteArray := prog_14_method_59_code
def yX12_those : MethodName := ⟨RX12, "those", "(I)I"⟩
abbrev cX12_state : ByteArray := prog_14_method_60_code
def yX12_state : MethodName := ⟨RX12, "state", "(I)I"⟩
abbrev cX12_night : ByteArray := prog_14_method_61_code
def yX12_night : MethodName := ⟨RX12, "night", "()I"⟩
abbrev cX12_restOf : ByteArray := prog_14_method_62_code
def yX12_restOf : MethodName := ⟨RX12, "restOf", "(I)I"⟩
abbrev cX12_on : ByteArray := prog_14_method_63_code
def yX12_on : MethodName := ⟨RX12, "on", "(I)I"⟩
abbrev cX12_when : ByteArray := prog_14_method_64_code
def yX12_when : MethodName := ⟨RX12, "when", "(I)I"⟩
abbrev cX12_bestFor : ByteArray := prog_14_method_65_code
def yX12_bestFor : MethodName := ⟨RX12, "bestFor", "(III)I"⟩
abbrev cX12_griefFor : ByteArray := prog_14_method_66_code
def yX12_griefFor : MethodName := ⟨RX12, "griefFor", "(I)I"⟩
abbrev cX12_laneFor : ByteArray := prog_14_method_67_code
def yX12_laneFor : MethodName := ⟨RX12, "laneFor", "(I)I"⟩
abbrev cX12_full : ByteArray := prog_14_method_68_code
def yX12_full : MethodName := ⟨RX12, "full", "(I)I"⟩
abbrev cX12_bare : ByteArray := prog_14_method_69_code
def yX12_bare : MethodName := ⟨RX12, "bare", "(I)I"⟩
abbrev cX12_areClose : ByteArray := prog_14_method_70_code
def yX12_areClose : MethodName := ⟨RX12, "areClose", "(II)Z"⟩
abbrev cX12_kinOf : ByteArray := prog_14_method_71_code
def yX12_kinOf : MethodName := ⟨RX12, "kinOf", "(I)I"⟩
abbrev cX12_kin : ByteArray := prog_14_method_72_code
def yX12_kin : MethodName := ⟨RX12, "kin", "(I)I"⟩
abbrev cX12_goesRound : ByteArray := prog_14_method_73_code
def yX12_goesRound : MethodName := ⟨RX12, "goesRound", "(IIII)V"⟩
abbrev cX12_walk : ByteArray := prog_14_method_74_code
def yX12_walk : MethodName := ⟨RX12, "walk", "(II)I"⟩
abbrev cX12_saves : ByteArray := prog_14_method_75_code
def yX12_saves : MethodName := ⟨RX12, "saves", "(I)V"⟩
abbrev cX12_restores : ByteArray := prog_14_method_76_code
def yX12_restores : MethodName := ⟨RX12, "restores", "(I)V"⟩
abbrev cX12_daysOf : ByteArray := prog_14_method_77_code
def yX12_daysOf : MethodName := ⟨RX12, "daysOf", "(I)I"⟩
abbrev cX12_endsPlan : ByteArray := prog_14_method_78_code
def yX12_endsPlan : MethodName := ⟨RX12, "endsPlan", "(IIII)V"⟩
abbrev cX12_goesPlans : ByteArray := prog_14_method_79_code
def yX12_goesPlans : MethodName := ⟨RX12, "goesPlans", "(IIIII)V"⟩
abbrev cX12_triesAll : ByteArray := prog_14_method_80_code
def yX12_triesAll : MethodName := ⟨RX12, "triesAll", "(II)V"⟩
abbrev cX12_isPlan : ByteArray := prog_14_method_81_code
def yX12_isPlan : MethodName := ⟨RX12, "isPlan", "(I)Z"⟩
abbrev cX12_best : ByteArray := prog_14_method_82_code
def yX12_best : MethodName := ⟨RX12, "best", "(I)I"⟩
abbrev cX12_ith : ByteArray := prog_14_method_83_code
def yX12_ith : MethodName := ⟨RX12, "ith", "(II)I"⟩
abbrev cX12_ways : ByteArray := prog_14_method_84_code
def yX12_ways : MethodName := ⟨RX12, "ways", "(I)I"⟩
abbrev cX12_isSet : ByteArray := prog_14_method_85_code
def yX12_isSet : MethodName := ⟨RX12, "isSet", "(I)Z"⟩
abbrev cX12_round : ByteArray := prog_14_method_86_code
def yX12_round : MethodName := ⟨RX12, "round", "(II)I"⟩
abbrev cX12_bars : ByteArray := prog_14_method_87_code
def yX12_bars : MethodName := ⟨RX12, "bars", "(II)I"⟩
abbrev cX12_playedFrom : ByteArray := prog_14_method_88_code
def yX12_playedFrom : MethodName := ⟨RX12, "playedFrom", "(II)I"⟩
abbrev cX12_game : ByteArray := prog_14_method_89_code
def yX12_game : MethodName := ⟨RX12, "game", "(I)I"⟩
abbrev cX12_play : ByteArray := prog_14_method_90_code
def yX12_play : MethodName := ⟨RX12, "play", "(I)I"⟩
abbrev cX12_report : ByteArray := prog_14_method_91_code
def yX12_report : MethodName := ⟨RX12, "report", "(IIII)I"⟩
abbrev cX12_forget : ByteArray := prog_14_method_92_code
def yX12_forget : MethodName := ⟨RX12, "forget", "()I"⟩
abbrev cX12_tellsStranger : ByteArray := prog_14_method_93_code
def yX12_tellsStranger : MethodName := ⟨RX12, "tellsStranger", "(III)V"⟩
abbrev cX12_isSo : ByteArray := prog_14_method_94_code
def yX12_isSo : MethodName := ⟨RX12, "isSo", "(I)Z"⟩
abbrev cX12_fitting : ByteArray := prog_14_method_95_code
def yX12_fitting : MethodName := ⟨RX12, "fitting", "(I)I"⟩
abbrev cX12_stories : ByteArray := prog_14_method_96_code
def yX12_stories : MethodName := ⟨RX12, "stories", "(I)I"⟩
abbrev cX12_liar : ByteArray := prog_14_method_97_code
def yX12_liar : MethodName := ⟨RX12, "liar", "()I"⟩
abbrev cX12_seed : ByteArray := prog_14_method_98_code
def yX12_seed : MethodName := ⟨RX12, "seed", "(I)I"⟩
abbrev cX12_byLot : ByteArray := prog_14_method_99_code
def yX12_byLot : MethodName := ⟨RX12, "byLot", "()I"⟩
abbrev cX12_lot : ByteArray := prog_14_method_100_code
def yX12_lot : MethodName := ⟨RX12, "lot", "()I"⟩
abbrev cX12_times : ByteArray := prog_14_method_101_code
def yX12_times : MethodName := ⟨RX12, "times", "(II)I"⟩
abbrev cX12_prove : ByteArray := prog_14_method_102_code
def yX12_prove : MethodName := ⟨RX12, "prove", "(I)I"⟩
abbrev cX12_isRow : ByteArray := prog_14_method_103_code
def yX12_isRow : MethodName := ⟨RX12, "isRow", "(II)Z"⟩
abbrev cX12_row : ByteArray := prog_14_method_104_code
def yX12_row : MethodName := ⟨RX12, "row", "(II)I"⟩
abbrev cX12_alterRow : ByteArray := prog_14_method_105_code
def yX12_alterRow : MethodName := ⟨RX12, "alterRow", "(III)I"⟩
abbrev cX12_judge : ByteArray := prog_14_method_106_code
def yX12_judge : MethodName := ⟨RX12, "judge", "()I"⟩
abbrev cX12_isSheet : ByteArray := prog_14_method_107_code
def yX12_isSheet : MethodName := ⟨RX12, "isSheet", "(I)Z"⟩
abbrev cX12_sheet : ByteArray := prog_14_method_108_code
def yX12_sheet : MethodName := ⟨RX12, "sheet", "(III)I"⟩
abbrev cX12_narrowed : ByteArray := prog_14_method_109_code
def yX12_narrowed : MethodName := ⟨RX12, "narrowed", "(II)I"⟩
abbrev cX12_write : ByteArray := prog_14_method_110_code
def yX12_write : MethodName := ⟨RX12, "write", "(III)I"⟩
abbrev cX12_lacks : ByteArray := prog_14_method_111_code
def yX12_lacks : MethodName := ⟨RX12, "lacks", "(II)I"⟩
abbrev cX12_item : ByteArray := prog_14_method_112_code
def yX12_item : MethodName := ⟨RX12, "item", "(III)I"⟩
abbrev cX12_isItem : ByteArray := prog_14_method_113_code
def yX12_isItem : MethodName := ⟨RX12, "isItem", "(III)Z"⟩
abbrev cX12_goAll : ByteArray := prog_14_method_114_code
def yX12_goAll : MethodName := ⟨RX12, "goAll", "(III)I"⟩
abbrev cX12_wouldBe : ByteArray := prog_14_method_115_code
def yX12_wouldBe : MethodName := ⟨RX12, "wouldBe", "(III)I"⟩
abbrev cX12_shelf : ByteArray := prog_14_method_116_code
def yX12_shelf : MethodName := ⟨RX12, "shelf", "(III)I"⟩
abbrev cX12_heldOn : ByteArray := prog_14_method_117_code
def yX12_heldOn : MethodName := ⟨RX12, "heldOn", "(I)I"⟩
abbrev cX12_taken : ByteArray := prog_14_method_118_code
def yX12_taken : MethodName := ⟨RX12, "taken", "(II)I"⟩
abbrev cX12_starts : ByteArray := prog_14_method_119_code
def yX12_starts : MethodName := ⟨RX12, "starts", "(I)V"⟩
abbrev cX12_knocksAs : ByteArray := prog_14_method_120_code
def yX12_knocksAs : MethodName := ⟨RX12, "knocksAs", "(II)I"⟩
abbrev cX12_waitsAs : ByteArray := prog_14_method_121_code
def yX12_waitsAs : MethodName := ⟨RX12, "waitsAs", "(II)I"⟩
abbrev cX12_countsAs : ByteArray := prog_14_method_122_code
def yX12_countsAs : MethodName := ⟨RX12, "countsAs", "(II)I"⟩
abbrev cX12_sitsAs : ByteArray := prog_14_method_123_code
def yX12_sitsAs : MethodName := ⟨RX12, "sitsAs", "(II)I"⟩
abbrev cX12_act : ByteArray := prog_14_method_124_code
def yX12_act : MethodName := ⟨RX12, "act", "(III)I"⟩
abbrev cX12_trace : ByteArray := prog_14_method_125_code
def yX12_trace : MethodName := ⟨RX12, "trace", "(I)I"⟩
abbrev cX12_ones : ByteArray := prog_14_method_126_code
def yX12_ones : MethodName := ⟨RX12, "ones", "(I)I"⟩
abbrev cX12_many : ByteArray := prog_14_method_127_code
def yX12_many : MethodName := ⟨RX12, "many", "(I)I"⟩
abbrev cX12_keep : ByteArray := prog_14_method_128_code
def yX12_keep : MethodName := ⟨RX12, "keep", "()I"⟩
abbrev cX12_again : ByteArray := prog_14_method_129_code
def yX12_again : MethodName := ⟨RX12, "again", "()I"⟩
def RJx145de : String := "java/io/Serializable"
def TJx145de : u_T := fun k => match k with
  | _ => ("", "", "", false)
def tyJx145de : Nat → FieldType := fun k => match k with
  | _ => .int
abbrev wsJx145de0 : List Cond := u_ws RJx145de TJx145de 0
theorem nmJx145de : ∀ a, a < 0 → ∀ b, b < 0 → a ≠ b → (TJx145de a).2.1 ≠ (TJx145de b).2.1 := by decide +kernel
theorem tyJx145de_ok : ∀ k, k < 0 → parseFieldDescriptor (TJx145de k).2.2.1 = some (tyJx145de k) := by decide +kernel
def RJx9f9b0 : String := "java/lang/CharSequence"
def TJx9f9b0 : u_T := fun k => match k with
  | _ => ("", "", "", false)
def tyJx9f9b0 : Nat → FieldType := fun k => match k with
  | _ => .int
abbrev wsJx9f9b00 : List Cond := u_ws RJx9f9b0 TJx9f9b0 0
theorem nmJx9f9b0 : ∀ a, a < 0 → ∀ b, b < 0 → a ≠ b → (TJx9f9b0 a).2.1 ≠ (TJx9f9b0 b).2.1 := by decide +kernel
theorem tyJx9f9b0_ok : ∀ k, k < 0 → parseFieldDescriptor (TJx9f9b0 k).2.2.1 = some (tyJx9f9b0 k) := by decide +kernel
def RJxb160c : String := "java/lang/Comparable"
def TJxb160c : u_T := fun k => match k with
  | _ => ("", "", "", false)
def tyJxb160c : Nat → FieldType := fun k => match k with
  | _ => .int
abbrev wsJxb160c0 : List Cond := u_ws RJxb160c TJxb160c 0
theorem nmJxb160c : ∀ a, a < 0 → ∀ b, b < 0 → a ≠ b → (TJxb160c a).2.1 ≠ (TJxb160c b).2.1 := by decide +kernel
theorem tyJxb160c_ok : ∀ k, k < 0 → parseFieldDescriptor (TJxb160c k).2.2.1 = some (tyJxb160c k) := by decide +kernel
def RJ6 : String := "java/lang/Integer"
def TJ6 : u_T := fun k => match k with
  | _ => ("", "", "", false)
def tyJ6 : Nat → FieldType := fun k => match k with
  | _ => .int
abbrev wsJ60 : List Cond := u_ws RJ6 TJ6 0
theorem nmJ6 : ∀ a, a < 0 → ∀ b, b < 0 → a ≠ b → (TJ6 a).2.1 ≠ (TJ6 b).2.1 := by decide +kernel
theorem tyJ6_ok : ∀ k, k < 0 → parseFieldDescriptor (TJ6 k).2.2.1 = some (tyJ6 k) := by decide +kernel
abbrev cJ6_bitCount_0f7a4 : ByteArray := prog_15_method_49_code
def yJ6_bitCount_0f7a4 : MethodName := ⟨RJ6, "bitCount", "(I)I"⟩
def RJ9 : String := "java/lang/Math"
def TJ9 : u_T := fun k => match k with
  | _ => ("", "", "", false)
def tyJ9 : Nat → FieldType := fun k => match k with
  | _ => .int
abbrev wsJ90 : List Cond := u_ws RJ9 TJ9 0
theorem nmJ9 : ∀ a, a < 0 → ∀ b, b < 0 → a ≠ b → (TJ9 a).2.1 ≠ (TJ9 b).2.1 := by decide +kernel
theorem tyJ9_ok : ∀ k, k < 0 → parseFieldDescriptor (TJ9 k).2.2.1 = some (tyJ9 k) := by decide +kernel
abbrev cJ9_abs_0f7a4 : ByteArray := prog_16_method_59_code
def yJ9_abs_0f7a4 : MethodName := ⟨RJ9, "abs", "(I)I"⟩
abbrev cJ9_max_7cf53 : ByteArray := prog_16_method_65_code
def yJ9_max_7cf53 : MethodName := ⟨RJ9, "max", "(II)I"⟩
abbrev cJ9_min_7cf53 : ByteArray := prog_16_method_69_code
def yJ9_min_7cf53 : MethodName := ⟨RJ9, "min", "(II)I"⟩
def RJ0 : String := "java/lang/String"
def TJ0 : u_T := fun k => match k with
  | _ => ("", "", "", false)
def tyJ0 : Nat → FieldType := fun k => match k with
  | _ => .int
abbrev wsJ00 : List Cond := u_ws RJ0 TJ0 0
theorem nmJ0 : ∀ a, a < 0 → ∀ b, b < 0 → a ≠ b → (TJ0 a).2.1 ≠ (TJ0 b).2.1 := by decide +kernel
theorem tyJ0_ok : ∀ k, k < 0 → parseFieldDescriptor (TJ0 k).2.2.1 = some (tyJ0 k) := by decide +kernel
abbrev cJ0_length_8abf5 : ByteArray := prog_17_method_54_code
def yJ0_length_8abf5 : MethodName := ⟨RJ0, "length", "()I"⟩
abbrev cJ0_charAt_5068e : ByteArray := prog_17_method_56_code
def yJ0_charAt_5068e : MethodName := ⟨RJ0, "charAt", "(I)C"⟩
abbrev cJ0_coder_7d493 : ByteArray := prog_17_method_152_code
def yJ0_coder_7d493 : MethodName := ⟨RJ0, "coder", "()B"⟩
abbrev cJ0_isLatin1_aae02 : ByteArray := prog_17_method_154_code
def yJ0_isLatin1_aae02 : MethodName := ⟨RJ0, "isLatin1", "()Z"⟩
abbrev cJ0_checkIndex_df160 : ByteArray := prog_17_method_155_code
def yJ0_checkIndex_df160 : MethodName := ⟨RJ0, "checkIndex", "(II)V"⟩
def RJ1 : String := "java/lang/StringLatin1"
def TJ1 : u_T := fun k => match k with
  | _ => ("", "", "", false)
def tyJ1 : Nat → FieldType := fun k => match k with
  | _ => .int
abbrev wsJ10 : List Cond := u_ws RJ1 TJ1 0
theorem nmJ1 : ∀ a, a < 0 → ∀ b, b < 0 → a ≠ b → (TJ1 a).2.1 ≠ (TJ1 b).2.1 := by decide +kernel
theorem tyJ1_ok : ∀ k, k < 0 → parseFieldDescriptor (TJ1 k).2.2.1 = some (tyJ1 k) := by decide +kernel
abbrev cJ1_charAt_3b067 : ByteArray := prog_18_method_2_code
def yJ1_charAt_3b067 : MethodName := ⟨RJ1, "charAt", "([BI)C"⟩
def RJ2 : String := "java/lang/StringUTF16"
def TJ2 : u_T := fun k => match k with
  | _ => ("", "", "", false)
def tyJ2 : Nat → FieldType := fun k => match k with
  | _ => .int
abbrev wsJ20 : List Cond := u_ws RJ2 TJ2 0
theorem nmJ2 : ∀ a, a < 0 → ∀ b, b < 0 → a ≠ b → (TJ2 a).2.1 ≠ (TJ2 b).2.1 := by decide +kernel
theorem tyJ2_ok : ∀ k, k < 0 → parseFieldDescriptor (TJ2 k).2.2.1 = some (tyJ2 k) := by decide +kernel
abbrev cJ2_getChar_3b067 : ByteArray := prog_19_method_5_code
def yJ2_getChar_3b067 : MethodName := ⟨RJ2, "getChar", "([BI)C"⟩
abbrev cJ2_length_9d52b : ByteArray := prog_19_method_6_code
def yJ2_length_9d52b : MethodName := ⟨RJ2, "length", "([B)I"⟩
abbrev cJ2_charAt_3b067 : ByteArray := prog_19_method_83_code
def yJ2_charAt_3b067 : MethodName := ⟨RJ2, "charAt", "([BI)C"⟩
abbrev cJ2_checkIndex_2214a : ByteArray := prog_19_method_91_code
def yJ2_checkIndex_2214a : MethodName := ⟨RJ2, "checkIndex", "(I[B)V"⟩
def RJ10 : String := "java/lang/System"
def TJ10 : u_T := fun k => match k with
  | _ => ("", "", "", false)
def tyJ10 : Nat → FieldType := fun k => match k with
  | _ => .int
abbrev wsJ100 : List Cond := u_ws RJ10 TJ10 0
theorem nmJ10 : ∀ a, a < 0 → ∀ b, b < 0 → a ≠ b → (TJ10 a).2.1 ≠ (TJ10 b).2.1 := by decide +kernel
theorem tyJ10_ok : ∀ k, k < 0 → parseFieldDescriptor (TJ10 k).2.2.1 = some (tyJ10 k) := by decide +kernel
def RJxfd54e : String := "java/lang/constant/Constable"
def TJxfd54e : u_T := fun k => match k with
  | _ => ("", "", "", false)
def tyJxfd54e : Nat → FieldType := fun k => match k with
  | _ => .int
abbrev wsJxfd54e0 : List Cond := u_ws RJxfd54e TJxfd54e 0
theorem nmJxfd54e : ∀ a, a < 0 → ∀ b, b < 0 → a ≠ b → (TJxfd54e a).2.1 ≠ (TJxfd54e b).2.1 := by decide +kernel
theorem tyJxfd54e_ok : ∀ k, k < 0 → parseFieldDescriptor (TJxfd54e k).2.2.1 = some (tyJxfd54e k) := by decide +kernel
def RJx3cf43 : String := "java/lang/constant/ConstantDesc"
def TJx3cf43 : u_T := fun k => match k with
  | _ => ("", "", "", false)
def tyJx3cf43 : Nat → FieldType := fun k => match k with
  | _ => .int
abbrev wsJx3cf430 : List Cond := u_ws RJx3cf43 TJx3cf43 0
theorem nmJx3cf43 : ∀ a, a < 0 → ∀ b, b < 0 → a ≠ b → (TJx3cf43 a).2.1 ≠ (TJx3cf43 b).2.1 := by decide +kernel
theorem tyJx3cf43_ok : ∀ k, k < 0 → parseFieldDescriptor (TJx3cf43 k).2.2.1 = some (tyJx3cf43 k) := by decide +kernel
def RJ7 : String := "java/util/Arrays"
def TJ7 : u_T := fun k => match k with
  | _ => ("", "", "", false)
def tyJ7 : Nat → FieldType := fun k => match k with
  | _ => .int
abbrev wsJ70 : List Cond := u_ws RJ7 TJ7 0
theorem nmJ7 : ∀ a, a < 0 → ∀ b, b < 0 → a ≠ b → (TJ7 a).2.1 ≠ (TJ7 b).2.1 := by decide +kernel
theorem tyJ7_ok : ∀ k, k < 0 → parseFieldDescriptor (TJ7 k).2.2.1 = some (tyJ7 k) := by decide +kernel
abbrev cJ7_fill_d0a16 : ByteArray := prog_21_method_101_code
def yJ7_fill_d0a16 : MethodName := ⟨RJ7, "fill", "([JJ)V"⟩
abbrev cJ7_fill_53178 : ByteArray := prog_21_method_103_code
def yJ7_fill_53178 : MethodName := ⟨RJ7, "fill", "([II)V"⟩
def RJ3 : String := "jdk/internal/util/Preconditions"
def TJ3 : u_T := fun k => match k with
  | _ => ("", "", "", false)
def tyJ3 : Nat → FieldType := fun k => match k with
  | _ => .int
abbrev wsJ30 : List Cond := u_ws RJ3 TJ3 0
theorem nmJ3 : ∀ a, a < 0 → ∀ b, b < 0 → a ≠ b → (TJ3 a).2.1 ≠ (TJ3 b).2.1 := by decide +kernel
theorem tyJ3_ok : ∀ k, k < 0 → parseFieldDescriptor (TJ3 k).2.2.1 = some (tyJ3 k) := by decide +kernel
abbrev cJ3_checkIndex_8e157 : ByteArray := prog_22_method_11_code
def yJ3_checkIndex_8e157 : MethodName := ⟨RJ3, "checkIndex", "(IILjava/util/function/BiFunction;)I"⟩
def RL : String := "ThirteenthBunLaw"
abbrev cL_law : ByteArray := code
def yL_law : MethodName := ⟨RL, "law", "([I)Z"⟩
abbrev vwCl : List vw_C := [(RX0, TX0, 5), (RX1, TX1, 5), (RX2, TX2, 5), (RX3, TX3, 5), (RX4, TX4, 9), (RX5, TX5, 8), (RX6, TX6, 7), (RX7, TX7, 9), (RX8, TX8, 5), (RX9, TX9, 5), (RX10, TX10, 18), (RX11, TX11, 16), (RX12, TX12, 39)]
