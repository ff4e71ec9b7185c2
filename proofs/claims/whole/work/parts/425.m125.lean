/-! constructors: rows in normal form -/
section ZG
variable {R : Room} {mc ms : Nat} {mi : zMI} {n0 : Nat} {Q : List zDesc → zMem → Prop} {k kS pc : Nat} {L : zLv} {S : List Value} {w : List zDesc} {M : zMem}
variable {b j : Nat} {ds : zDesc} {news : List zDesc}
theorem zg_w {w' : List zDesc} (e : w = w') (kk : zGn R mc ms mi n0 Q k kS pc L S w' M) : zGn R mc ms mi n0 Q k kS pc L S w M := e ▸ kk
theorem gm_newaI {n : Int32} {N' : Nat} (hb : b < w.length) (hj : news.length = j) (harr : Cond.arrayClass .int ∈ zTw) (dg : decode mi.2.1 pc = .ok (.newarray .int, 2)) (hn : ¬ n < 0) (hN : n.toNatClampNeg = N') (hb1 : N' * 4 ≤ 536870912) (hc : k + 1 ≤ R.cells) (hs : kS + N' ≤ R.slots) (hL : ∀ v ∈ L, zLow (w.length + j) v.2) (hS0 : ∀ v ∈ S, zLow (w.length + j) v) (hl1 : w.length + j + 1 ≤ 1000)
    (kk : zGn R mc ms mi n0 Q (k + 1) (kS + N') (pc + 2) L (.ref (w.length + j) :: S) (zNF w b ds (news ++ [.inl (0, N')])) M) : zGn R mc ms mi n0 Q k kS pc L (.int n :: S) (zNF w b ds news) M := by
  subst hj
  refine zg_newaI harr dg hn hN hb1 hc hs (by rw [zNF_len]; exact hL) (by rw [zNF_len]; exact hS0) (by rw [zNF_len]; exact hl1) ?_
  rw [zNF_len, zNF_app hb]; exact kk
theorem gm_newaC {n : Int32} {N' : Nat} (hb : b < w.length) (hj : news.length = j) (harr : Cond.arrayClass .char ∈ zTw) (dg : decode mi.2.1 pc = .ok (.newarray .char, 2)) (hn : ¬ n < 0) (hN : n.toNatClampNeg = N') (hb1 : N' * 2 ≤ 536870912) (hc : k + 1 ≤ R.cells) (hs : kS + N' ≤ R.slots) (hL : ∀ v ∈ L, zLow (w.length + j) v.2) (hS0 : ∀ v ∈ S, zLow (w.length + j) v) (hl1 : w.length + j + 1 ≤ 1000)
    (kk : zGn R mc ms mi n0 Q (k + 1) (kS + N') (pc + 2) L (.ref (w.length + j) :: S) (zNF w b ds (news ++ [.inl (2, N')])) M) : zGn R mc ms mi n0 Q k kS pc L (.int n :: S) (zNF w b ds news) M := by
  subst hj
  refine zg_newaC harr dg hn hN hb1 hc hs (by rw [zNF_len]; exact hL) (by rw [zNF_len]; exact hS0) (by rw [zNF_len]; exact hl1) ?_
  rw [zNF_len, zNF_app hb]; exact kk
theorem gm_newq {n : Int32} {N' index : Nat} (hb : b < w.length) (hj : news.length = j) (h1 : Cond.classLink mi.1.cls index "ThirteenthBun$House" ∈ zTw) (dg : decode mi.2.1 pc = .ok (.anewarray index, 3)) (hn : ¬ n < 0) (hN : n.toNatClampNeg = N') (hb1 : N' * 4 ≤ 536870912) (hc : k + 1 ≤ R.cells) (hs : kS + N' ≤ R.slots) (hL : ∀ v ∈ L, zLow (w.length + j) v.2) (hS0 : ∀ v ∈ S, zLow (w.length + j) v) (hl1 : w.length + j + 1 ≤ 1000)
    (kk : zGn R mc ms mi n0 Q (k + 1) (kS + N') (pc + 3) L (.ref (w.length + j) :: S) (zNF w b ds (news ++ [.inr (.inl (3, List.replicate N' 2000))])) M) : zGn R mc ms mi n0 Q k kS pc L (.int n :: S) (zNF w b ds news) M := by
  subst hj
  refine zg_newq h1 dg hn hN hb1 hc hs (by rw [zNF_len]; exact hL) (by rw [zNF_len]; exact hS0) (by rw [zNF_len]; exact hl1) ?_
  rw [zNF_len, zNF_app hb]; exact kk
theorem gm_mna {index : Nat} (hb : b < w.length) (hj : news.length = j) (h1 : Cond.classLink mi.1.cls index "[[J" ∈ zTw) (harr : Cond.arrayClass .long ∈ zTw) (dg : decode mi.2.1 pc = .ok (.multianewarray index 2, 4)) (hc : k + 5 ≤ R.cells) (hs : kS + (4 + 160) ≤ R.slots) (hL : ∀ v ∈ L, zLow (w.length + j) v.2) (hS0 : ∀ v ∈ S, zLow (w.length + j) v) (hl1 : w.length + j + 5 ≤ 1000)
    (kk : zGn R mc ms mi n0 Q (k + 5) (kS + 164) (pc + 4) L (.ref (w.length + j) :: S) (zNF w b ds (news ++ [.inr (.inl (4, [w.length + j + 1, w.length + j + 2, w.length + j + 3, w.length + j + 4])), .inl (1, 40), .inl (1, 40), .inl (1, 40), .inl (1, 40)])) M) : zGn R mc ms mi n0 Q k kS pc L (.int (nI 40) :: .int (nI 4) :: S) (zNF w b ds news) M := by
  subst hj
  refine zg_mna h1 harr dg hc hs (by rw [zNF_len]; exact hL) (by rw [zNF_len]; exact hS0) (by rw [zNF_len]; exact hl1) ?_
  rw [zNF_len, zNF_app hb]; exact kk
theorem gm_new {index ci N : Nat} {C' : String} {T : u_T} {ty : Nat → FieldType} {ks : List Nat} (hb : b < w.length) (hj : news.length = j) (ok : zNewOk mi.1.cls index ci N C' T ty ks) (dg : decode mi.2.1 pc = .ok (.new index, 3)) (hc : k + 1 ≤ R.cells) (hs : kS + N ≤ R.slots) (hL : ∀ v ∈ L, zLow (w.length + j) v.2) (hS0 : ∀ v ∈ S, zLow (w.length + j) v) (hl1 : w.length + j + 1 ≤ 1000)
    (kk : zGn R mc ms mi n0 Q (k + 1) (kS + N) (pc + 3) L (.ref (w.length + j) :: S) (zNF w b ds (news ++ [.inr (.inr (ci, ks))])) M) : zGn R mc ms mi n0 Q k kS pc L S (zNF w b ds news) M := by
  subst hj
  refine zg_new ok dg hc hs (by rw [zNF_len]; exact hL) (by rw [zNF_len]; exact hS0) (by rw [zNF_len]; exact hl1) ?_
  rw [zNF_len, zNF_app hb]; exact kk
theorem gm_putF {own C' ref : String} {index ci kf N t : Nat} {T : u_T} {ty0 : Nat → FieldType} {ks : List Nat} (hb : b < w.length) (hj : news.length = j) (hf : zFd own index ci kf N C' ref T) (hp : (∀ k, k < N → parseFieldDescriptor (T k).2.2.1 = some (ty0 k)) ∧ (∀ a, a < N → ∀ b, b < N → a ≠ b → (T a).2.1 ≠ (T b).2.1)) (hfin : (T kf).2.2.2 = true) (hdecl : (T kf).1 = own) (ho : mi.1.cls = own) (hin : mi.1.name = "<init>")
    (hk : ks[kf]? = some 1) (ht : t < w.length + j) (hty : ∀ a : Nat, narrow (ty0 kf) (.ref a) = .ref a ∧ fits (ty0 kf) (.ref a) = true) (dg : decode mi.2.1 pc = .ok (.putfield index, 3))
    (kk : zGn R mc ms mi n0 Q k kS (pc + 3) L S (zNF w b (.inr (.inr (ci, ks.set kf (t + 2)))) news) M) : zGn R mc ms mi n0 Q k kS pc L (.ref t :: .ref b :: S) (zNF w b (.inr (.inr (ci, ks))) news) M := by
  subst hj
  exact zg_putF hf hp.1 hp.2 hfin hdecl ho hin (zNF_b hb) hk (by rw [zNF_len]; exact ht) hty dg (by rw [zNF_setb]; exact kk)
theorem gm_callI {index mc' ms' : Nat} {R' : Room} {mj : zMI} {d' : zDesc} {news2 : List zDesc} {M2 : zMem} (hb : b < w.length) (hj2 : news.length = j + 1) (lk : zLkI mi.1.cls index mj) (ce : zCe mj 0) (hR : R'.cells = mc' ∧ R'.slots = ms' ∧ R'.frames + 1 ≤ R.frames ∧ 8 + (mj.2.2.1 + 11) + R'.locals ≤ R.locals) (hc : k + mc' ≤ R.cells) (hs : kS + ms' ≤ R.slots) (dg : decode mi.2.1 pc = .ok (.invokespecial index, 3)) (hcat : (S.map fun v => v.category).sum ≤ 8)
    (hL : ∀ v ∈ L, zLow (w.length + (j + 1)) v.2) (hS0 : ∀ v ∈ S, zLow (w.length + (j + 1)) v) (ok : zKo R' mc' ms' mj [.ref (w.length + j)] (zNF w b ds news) M (fun w' M' => w' = zNF (zNF w b ds news) (w.length + j) d' news2 ∧ M' = M2)) (kk : zGn R mc ms mi n0 Q (k + mc') (kS + ms') (pc + 3) L S (zNF w b ds ((news ++ news2).set j d')) M2) : zGn R mc ms mi n0 Q k kS pc L (.ref (w.length + j) :: S) (zNF w b ds news) M := by
  refine zg_callI lk ce hR hc hs dg hcat (by rw [zNF_len, hj2]; exact hL) (by rw [zNF_len, hj2]; exact hS0) ok ?_
  rintro w' M' ⟨rfl, rfl⟩
  rw [zNF_sub hb]; exact kk
/-- super() of the same object -/
theorem gm_callI0 {index mc' ms' : Nat} {R' : Room} {mj : zMI} {d' : zDesc} {news2 : List zDesc} {M2 : zMem} (lk : zLkI mi.1.cls index mj) (ce : zCe mj 0) (hR : R'.cells = mc' ∧ R'.slots = ms' ∧ R'.frames + 1 ≤ R.frames ∧ 8 + (mj.2.2.1 + 11) + R'.locals ≤ R.locals) (hc : k + mc' ≤ R.cells) (hs : kS + ms' ≤ R.slots) (dg : decode mi.2.1 pc = .ok (.invokespecial index, 3)) (hcat : (S.map fun v => v.category).sum ≤ 8)
    (hL : ∀ v ∈ L, zLow w.length v.2) (hS0 : ∀ v ∈ S, zLow w.length v) (ok : zKo R' mc' ms' mj [.ref b] w M (fun w' M' => w' = zNF w b d' news2 ∧ M' = M2)) (kk : zGn R mc ms mi n0 Q (k + mc') (kS + ms') (pc + 3) L S (zNF w b d' news2) M2) : zGn R mc ms mi n0 Q k kS pc L (.ref b :: S) w M := by
  refine zg_callI lk ce hR hc hs dg hcat hL hS0 ok ?_
  rintro w' M' ⟨rfl, rfl⟩
  exact kk
end ZG
theorem zl1 {n b : Nat} (h : b < n) : ∀ v ∈ ([(0, .ref b)] : zLv), zLow n v.2 := fun v hv => by
  rw [List.mem_singleton] at hv; subst hv; exact zLow_r h
theorem zs0 {n : Nat} : ∀ v ∈ ([] : List Value), zLow n v := fun v hv => absurd hv List.not_mem_nil
theorem zsR {n b : Nat} {S : List Value} (h : b < n) (hS : ∀ v ∈ S, zLow n v) : ∀ v ∈ Value.ref b :: S, zLow n v := fun v hv => by
  rcases List.mem_cons.mp hv with rfl | hv
  · exact zLow_r h
  · exact hS v hv
theorem zsI {n : Nat} {x : Int32} {S : List Value} (hS : ∀ v ∈ S, zLow n v) : ∀ v ∈ Value.int x :: S, zLow n v := fun v hv => by
  rcases List.mem_cons.mp hv with rfl | hv
  · exact zLow_i x
  · exact hS v hv
theorem za_int : Cond.arrayClass .int ∈ zTw := zm1 62 rfl rfl
theorem za_long : Cond.arrayClass .long ∈ zTw := zm2 163 rfl rfl
theorem za_char : Cond.arrayClass .char ∈ zTw := zm6 35 rfl rfl
theorem zo_im : Cond.instanceMethod Lib.objectInit ∈ zTw := zm1 28 rfl rfl
theorem zo_code : Cond.code Lib.objectInit ⟨#[0xb1]⟩ 1 none ∈ zTw := zm1 29 rfl rfl
theorem dX2_init_0 : decode cX2_init 0 = .ok (.aload_n 0, 1) := by decide +kernel
theorem dX2_init_1 : decode cX2_init 1 = .ok (.invokespecial 3, 3) := by decide +kernel
theorem dX2_init_4 : decode cX2_init 4 = .ok (.aload_n 0, 1) := by decide +kernel
theorem dX2_init_5 : decode cX2_init 5 = .ok (.bipush 30, 2) := by decide +kernel
theorem dX2_init_7 : decode cX2_init 7 = .ok (.newarray .int, 2) := by decide +kernel
theorem dX2_init_9 : decode cX2_init 9 = .ok (.putfield 9, 3) := by decide +kernel
theorem dX2_init_12 : decode cX2_init 12 = .ok (.return_, 1) := by decide +kernel
theorem dX0_init_0 : decode cX0_init 0 = .ok (.aload_n 0, 1) := by decide +kernel
theorem dX0_init_1 : decode cX0_init 1 = .ok (.invokespecial 1, 3) := by decide +kernel
theorem dX0_init_4 : decode cX0_init 4 = .ok (.return_, 1) := by decide +kernel
theorem dX1_init_0 : decode cX1_init 0 = .ok (.aload_n 0, 1) := by decide +kernel
theorem dX1_init_1 : decode cX1_init 1 = .ok (.invokespecial 1, 3) := by decide +kernel
theorem dX1_init_4 : decode cX1_init 4 = .ok (.return_, 1) := by decide +kernel
theorem dX8_init_0 : decode cX8_init 0 = .ok (.aload_n 0, 1) := by decide +kernel
theorem dX8_init_1 : decode cX8_init 1 = .ok (.invokespecial 1, 3) := by decide +kernel
theorem dX8_init_4 : decode cX8_init 4 = .ok (.return_, 1) := by decide +kernel
theorem dX9_init_0 : decode cX9_init 0 = .ok (.aload_n 0, 1) := by decide +kernel
theorem dX9_init_1 : decode cX9_init 1 = .ok (.invokespecial 1, 3) := by decide +kernel
theorem dX9_init_4 : decode cX9_init 4 = .ok (.return_, 1) := by decide +kernel
theorem dX3_init_0 : decode cX3_init 0 = .ok (.aload_n 0, 1) := by decide +kernel
theorem dX3_init_1 : decode cX3_init 1 = .ok (.invokespecial 1, 3) := by decide +kernel
theorem dX3_init_4 : decode cX3_init 4 = .ok (.return_, 1) := by decide +kernel
theorem dX4_init_0 : decode cX4_init 0 = .ok (.aload_n 0, 1) := by decide +kernel
theorem dX4_init_1 : decode cX4_init 1 = .ok (.invokespecial 3, 3) := by decide +kernel
theorem dX4_init_4 : decode cX4_init 4 = .ok (.aload_n 0, 1) := by decide +kernel
theorem dX4_init_5 : decode cX4_init 5 = .ok (.iconst 4, 1) := by decide +kernel
theorem dX4_init_6 : decode cX4_init 6 = .ok (.newarray .int, 2) := by decide +kernel
theorem dX4_init_8 : decode cX4_init 8 = .ok (.putfield 9, 3) := by decide +kernel
theorem dX4_init_11 : decode cX4_init 11 = .ok (.aload_n 0, 1) := by decide +kernel
theorem dX4_init_12 : decode cX4_init 12 = .ok (.iconst 4, 1) := by decide +kernel
theorem dX4_init_13 : decode cX4_init 13 = .ok (.newarray .int, 2) := by decide +kernel
theorem dX4_init_15 : decode cX4_init 15 = .ok (.putfield 15, 3) := by decide +kernel
theorem dX4_init_18 : decode cX4_init 18 = .ok (.return_, 1) := by decide +kernel
theorem dX5_init_0 : decode cX5_init 0 = .ok (.aload_n 0, 1) := by decide +kernel
theorem dX5_init_1 : decode cX5_init 1 = .ok (.invokespecial 3, 3) := by decide +kernel
theorem dX5_init_4 : decode cX5_init 4 = .ok (.aload_n 0, 1) := by decide +kernel
theorem dX5_init_5 : decode cX5_init 5 = .ok (.bipush 6, 2) := by decide +kernel
theorem dX5_init_7 : decode cX5_init 7 = .ok (.newarray .int, 2) := by decide +kernel
theorem dX5_init_9 : decode cX5_init 9 = .ok (.putfield 9, 3) := by decide +kernel
theorem dX5_init_12 : decode cX5_init 12 = .ok (.aload_n 0, 1) := by decide +kernel
theorem dX5_init_13 : decode cX5_init 13 = .ok (.bipush 6, 2) := by decide +kernel
theorem dX5_init_15 : decode cX5_init 15 = .ok (.newarray .int, 2) := by decide +kernel
theorem dX5_init_17 : decode cX5_init 17 = .ok (.putfield 15, 3) := by decide +kernel
theorem dX5_init_20 : decode cX5_init 20 = .ok (.aload_n 0, 1) := by decide +kernel
theorem dX5_init_21 : decode cX5_init 21 = .ok (.bipush 6, 2) := by decide +kernel
theorem dX5_init_23 : decode cX5_init 23 = .ok (.newarray .int, 2) := by decide +kernel
theorem dX5_init_25 : decode cX5_init 25 = .ok (.putfield 18, 3) := by decide +kernel
theorem dX5_init_28 : decode cX5_init 28 = .ok (.aload_n 0, 1) := by decide +kernel
theorem dX5_init_29 : decode cX5_init 29 = .ok (.bipush 6, 2) := by decide +kernel
theorem dX5_init_31 : decode cX5_init 31 = .ok (.newarray .int, 2) := by decide +kernel
theorem dX5_init_33 : decode cX5_init 33 = .ok (.putfield 21, 3) := by decide +kernel
theorem dX5_init_36 : decode cX5_init 36 = .ok (.aload_n 0, 1) := by decide +kernel
theorem dX5_init_37 : decode cX5_init 37 = .ok (.iconst 3, 1) := by decide +kernel
theorem dX5_init_38 : decode cX5_init 38 = .ok (.newarray .int, 2) := by decide +kernel
theorem dX5_init_40 : decode cX5_init 40 = .ok (.putfield 24, 3) := by decide +kernel
theorem dX5_init_43 : decode cX5_init 43 = .ok (.return_, 1) := by decide +kernel
theorem dX6_init_0 : decode cX6_init 0 = .ok (.aload_n 0, 1) := by decide +kernel
theorem dX6_init_1 : decode cX6_init 1 = .ok (.invokespecial 5, 3) := by decide +kernel
theorem dX6_init_4 : decode cX6_init 4 = .ok (.aload_n 0, 1) := by decide +kernel
theorem dX6_init_5 : decode cX6_init 5 = .ok (.sipush 200, 3) := by decide +kernel
theorem dX6_init_8 : decode cX6_init 8 = .ok (.newarray .int, 2) := by decide +kernel
theorem dX6_init_10 : decode cX6_init 10 = .ok (.putfield 11, 3) := by decide +kernel
theorem dX6_init_13 : decode cX6_init 13 = .ok (.aload_n 0, 1) := by decide +kernel
theorem dX6_init_14 : decode cX6_init 14 = .ok (.sipush 201, 3) := by decide +kernel
theorem dX6_init_17 : decode cX6_init 17 = .ok (.newarray .int, 2) := by decide +kernel
theorem dX6_init_19 : decode cX6_init 19 = .ok (.putfield 15, 3) := by decide +kernel
theorem dX6_init_22 : decode cX6_init 22 = .ok (.aload_n 0, 1) := by decide +kernel
theorem dX6_init_23 : decode cX6_init 23 = .ok (.sipush 201, 3) := by decide +kernel
theorem dX6_init_26 : decode cX6_init 26 = .ok (.newarray .int, 2) := by decide +kernel
theorem dX6_init_28 : decode cX6_init 28 = .ok (.putfield 18, 3) := by decide +kernel
theorem dX6_init_31 : decode cX6_init 31 = .ok (.aload_n 0, 1) := by decide +kernel
theorem dX6_init_32 : decode cX6_init 32 = .ok (.new 21, 3) := by decide +kernel
theorem dX6_init_35 : decode cX6_init 35 = .ok (.dup, 1) := by decide +kernel
theorem dX6_init_36 : decode cX6_init 36 = .ok (.invokespecial 23, 3) := by decide +kernel
theorem dX6_init_39 : decode cX6_init 39 = .ok (.putfield 24, 3) := by decide +kernel
theorem dX6_init_42 : decode cX6_init 42 = .ok (.return_, 1) := by decide +kernel
theorem dX7_init_0 : decode cX7_init 0 = .ok (.aload_n 0, 1) := by decide +kernel
theorem dX7_init_1 : decode cX7_init 1 = .ok (.invokespecial 3, 3) := by decide +kernel
theorem dX7_init_4 : decode cX7_init 4 = .ok (.aload_n 0, 1) := by decide +kernel
theorem dX7_init_5 : decode cX7_init 5 = .ok (.bipush 8, 2) := by decide +kernel
theorem dX7_init_7 : decode cX7_init 7 = .ok (.newarray .int, 2) := by decide +kernel
theorem dX7_init_9 : decode cX7_init 9 = .ok (.putfield 9, 3) := by decide +kernel
theorem dX7_init_12 : decode cX7_init 12 = .ok (.aload_n 0, 1) := by decide +kernel
theorem dX7_init_13 : decode cX7_init 13 = .ok (.bipush 8, 2) := by decide +kernel
theorem dX7_init_15 : decode cX7_init 15 = .ok (.newarray .int, 2) := by decide +kernel
theorem dX7_init_17 : decode cX7_init 17 = .ok (.putfield 15, 3) := by decide +kernel
theorem dX7_init_20 : decode cX7_init 20 = .ok (.aload_n 0, 1) := by decide +kernel
theorem dX7_init_21 : decode cX7_init 21 = .ok (.bipush 8, 2) := by decide +kernel
theorem dX7_init_23 : decode cX7_init 23 = .ok (.newarray .int, 2) := by decide +kernel
theorem dX7_init_25 : decode cX7_init 25 = .ok (.putfield 18, 3) := by decide +kernel
theorem dX7_init_28 : decode cX7_init 28 = .ok (.aload_n 0, 1) := by decide +kernel
theorem dX7_init_29 : decode cX7_init 29 = .ok (.bipush 100, 2) := by decide +kernel
theorem dX7_init_31 : decode cX7_init 31 = .ok (.newarray .int, 2) := by decide +kernel
theorem dX7_init_33 : decode cX7_init 33 = .ok (.putfield 21, 3) := by decide +kernel
theorem dX7_init_36 : decode cX7_init 36 = .ok (.aload_n 0, 1) := by decide +kernel
theorem dX7_init_37 : decode cX7_init 37 = .ok (.bipush 100, 2) := by decide +kernel
theorem dX7_init_39 : decode cX7_init 39 = .ok (.newarray .int, 2) := by decide +kernel
theorem dX7_init_41 : decode cX7_init 41 = .ok (.putfield 24, 3) := by decide +kernel
theorem dX7_init_44 : decode cX7_init 44 = .ok (.aload_n 0, 1) := by decide +kernel
theorem dX7_init_45 : decode cX7_init 45 = .ok (.bipush 100, 2) := by decide +kernel
theorem dX7_init_47 : decode cX7_init 47 = .ok (.newarray .int, 2) := by decide +kernel
theorem dX7_init_49 : decode cX7_init 49 = .ok (.putfield 27, 3) := by decide +kernel
theorem dX7_init_52 : decode cX7_init 52 = .ok (.aload_n 0, 1) := by decide +kernel
theorem dX7_init_53 : decode cX7_init 53 = .ok (.iconst 5, 1) := by decide +kernel
theorem dX7_init_54 : decode cX7_init 54 = .ok (.newarray .int, 2) := by decide +kernel
theorem dX7_init_56 : decode cX7_init 56 = .ok (.putfield 30, 3) := by decide +kernel
theorem dX7_init_59 : decode cX7_init 59 = .ok (.return_, 1) := by decide +kernel
theorem dX10_init_0 : decode cX10_init 0 = .ok (.aload_n 0, 1) := by decide +kernel
theorem dX10_init_1 : decode cX10_init 1 = .ok (.invokespecial 3, 3) := by decide +kernel
theorem dX10_init_4 : decode cX10_init 4 = .ok (.aload_n 0, 1) := by decide +kernel
theorem dX10_init_5 : decode cX10_init 5 = .ok (.bipush 6, 2) := by decide +kernel
theorem dX10_init_7 : decode cX10_init 7 = .ok (.newarray .int, 2) := by decide +kernel
theorem dX10_init_9 : decode cX10_init 9 = .ok (.putfield 9, 3) := by decide +kernel
theorem dX10_init_12 : decode cX10_init 12 = .ok (.aload_n 0, 1) := by decide +kernel
theorem dX10_init_13 : decode cX10_init 13 = .ok (.bipush 6, 2) := by decide +kernel
theorem dX10_init_15 : decode cX10_init 15 = .ok (.newarray .int, 2) := by decide +kernel
theorem dX10_init_17 : decode cX10_init 17 = .ok (.putfield 15, 3) := by decide +kernel
theorem dX10_init_20 : decode cX10_init 20 = .ok (.aload_n 0, 1) := by decide +kernel
theorem dX10_init_21 : decode cX10_init 21 = .ok (.bipush 6, 2) := by decide +kernel
theorem dX10_init_23 : decode cX10_init 23 = .ok (.newarray .int, 2) := by decide +kernel
theorem dX10_init_25 : decode cX10_init 25 = .ok (.putfield 18, 3) := by decide +kernel
theorem dX10_init_28 : decode cX10_init 28 = .ok (.aload_n 0, 1) := by decide +kernel
theorem dX10_init_29 : decode cX10_init 29 = .ok (.bipush 6, 2) := by decide +kernel
theorem dX10_init_31 : decode cX10_init 31 = .ok (.newarray .int, 2) := by decide +kernel
theorem dX10_init_33 : decode cX10_init 33 = .ok (.putfield 21, 3) := by decide +kernel
theorem dX10_init_36 : decode cX10_init 36 = .ok (.aload_n 0, 1) := by decide +kernel
theorem dX10_init_37 : decode cX10_init 37 = .ok (.bipush 6, 2) := by decide +kernel
theorem dX10_init_39 : decode cX10_init 39 = .ok (.newarray .int, 2) := by decide +kernel
theorem dX10_init_41 : decode cX10_init 41 = .ok (.putfield 24, 3) := by decide +kernel
theorem dX10_init_44 : decode cX10_init 44 = .ok (.aload_n 0, 1) := by decide +kernel
theorem dX10_init_45 : decode cX10_init 45 = .ok (.bipush 6, 2) := by decide +kernel
theorem dX10_init_47 : decode cX10_init 47 = .ok (.newarray .int, 2) := by decide +kernel
theorem dX10_init_49 : decode cX10_init 49 = .ok (.putfield 27, 3) := by decide +kernel
theorem dX10_init_52 : decode cX10_init 52 = .ok (.aload_n 0, 1) := by decide +kernel
theorem dX10_init_53 : decode cX10_init 53 = .ok (.bipush 6, 2) := by decide +kernel
theorem dX10_init_55 : decode cX10_init 55 = .ok (.newarray .int, 2) := by decide +kernel
theorem dX10_init_57 : decode cX10_init 57 = .ok (.dup, 1) := by decide +kernel
theorem dX10_init_58 : decode cX10_init 58 = .ok (.iconst 0, 1) := by decide +kernel
theorem dX10_init_59 : decode cX10_init 59 = .ok (.bipush 6, 2) := by decide +kernel
theorem dX10_init_61 : decode cX10_init 61 = .ok (.iastore, 1) := by decide +kernel
theorem dX10_init_62 : decode cX10_init 62 = .ok (.dup, 1) := by decide +kernel
theorem dX10_init_63 : decode cX10_init 63 = .ok (.iconst 1, 1) := by decide +kernel
theorem dX10_init_64 : decode cX10_init 64 = .ok (.bipush 6, 2) := by decide +kernel
theorem dX10_init_66 : decode cX10_init 66 = .ok (.iastore, 1) := by decide +kernel
theorem dX10_init_67 : decode cX10_init 67 = .ok (.dup, 1) := by decide +kernel
theorem dX10_init_68 : decode cX10_init 68 = .ok (.iconst 2, 1) := by decide +kernel
theorem dX10_init_69 : decode cX10_init 69 = .ok (.bipush 6, 2) := by decide +kernel
theorem dX10_init_71 : decode cX10_init 71 = .ok (.iastore, 1) := by decide +kernel
theorem dX10_init_72 : decode cX10_init 72 = .ok (.dup, 1) := by decide +kernel
theorem dX10_init_73 : decode cX10_init 73 = .ok (.iconst 3, 1) := by decide +kernel
theorem dX10_init_74 : decode cX10_init 74 = .ok (.bipush 6, 2) := by decide +kernel
theorem dX10_init_76 : decode cX10_init 76 = .ok (.iastore, 1) := by decide +kernel
theorem dX10_init_77 : decode cX10_init 77 = .ok (.dup, 1) := by decide +kernel
theorem dX10_init_78 : decode cX10_init 78 = .ok (.iconst 4, 1) := by decide +kernel
theorem dX10_init_79 : decode cX10_init 79 = .ok (.bipush 6, 2) := by decide +kernel
theorem dX10_init_81 : decode cX10_init 81 = .ok (.iastore, 1) := by decide +kernel
theorem dX10_init_82 : decode cX10_init 82 = .ok (.dup, 1) := by decide +kernel
theorem dX10_init_83 : decode cX10_init 83 = .ok (.iconst 5, 1) := by decide +kernel
theorem dX10_init_84 : decode cX10_init 84 = .ok (.bipush 6, 2) := by decide +kernel
theorem dX10_init_86 : decode cX10_init 86 = .ok (.iastore, 1) := by decide +kernel
theorem dX10_init_87 : decode cX10_init 87 = .ok (.putfield 30, 3) := by decide +kernel
theorem dX10_init_90 : decode cX10_init 90 = .ok (.aload_n 0, 1) := by decide +kernel
theorem dX10_init_91 : decode cX10_init 91 = .ok (.bipush 16, 2) := by decide +kernel
theorem dX10_init_93 : decode cX10_init 93 = .ok (.newarray .int, 2) := by decide +kernel
theorem dX10_init_95 : decode cX10_init 95 = .ok (.putfield 33, 3) := by decide +kernel
theorem dX10_init_98 : decode cX10_init 98 = .ok (.aload_n 0, 1) := by decide +kernel
theorem dX10_init_99 : decode cX10_init 99 = .ok (.new 36, 3) := by decide +kernel
theorem dX10_init_102 : decode cX10_init 102 = .ok (.dup, 1) := by decide +kernel
theorem dX10_init_103 : decode cX10_init 103 = .ok (.invokespecial 38, 3) := by decide +kernel
theorem dX10_init_106 : decode cX10_init 106 = .ok (.putfield 39, 3) := by decide +kernel
theorem dX10_init_109 : decode cX10_init 109 = .ok (.aload_n 0, 1) := by decide +kernel
theorem dX10_init_110 : decode cX10_init 110 = .ok (.new 43, 3) := by decide +kernel
theorem dX10_init_113 : decode cX10_init 113 = .ok (.dup, 1) := by decide +kernel
theorem dX10_init_114 : decode cX10_init 114 = .ok (.invokespecial 45, 3) := by decide +kernel
theorem dX10_init_117 : decode cX10_init 117 = .ok (.putfield 46, 3) := by decide +kernel
theorem dX10_init_120 : decode cX10_init 120 = .ok (.aload_n 0, 1) := by decide +kernel
theorem dX10_init_121 : decode cX10_init 121 = .ok (.bipush 12, 2) := by decide +kernel
theorem dX10_init_123 : decode cX10_init 123 = .ok (.putfield 50, 3) := by decide +kernel
theorem dX10_init_126 : decode cX10_init 126 = .ok (.aload_n 0, 1) := by decide +kernel
theorem dX10_init_127 : decode cX10_init 127 = .ok (.bipush 26, 2) := by decide +kernel
theorem dX10_init_129 : decode cX10_init 129 = .ok (.putfield 54, 3) := by decide +kernel
theorem dX10_init_132 : decode cX10_init 132 = .ok (.aload_n 0, 1) := by decide +kernel
theorem dX10_init_133 : decode cX10_init 133 = .ok (.iconst 1, 1) := by decide +kernel
theorem dX10_init_134 : decode cX10_init 134 = .ok (.putfield 57, 3) := by decide +kernel
theorem dX10_init_137 : decode cX10_init 137 = .ok (.aload_n 0, 1) := by decide +kernel
theorem dX10_init_138 : decode cX10_init 138 = .ok (.getfield 33, 3) := by decide +kernel
theorem dX10_init_141 : decode cX10_init 141 = .ok (.iconst 4, 1) := by decide +kernel
theorem dX10_init_142 : decode cX10_init 142 = .ok (.invokestatic 60, 3) := by decide +kernel
theorem dX10_init_145 : decode cX10_init 145 = .ok (.return_, 1) := by decide +kernel
abbrev mX2_init : zMI := (yX2_init, cX2_init, 1, none)
theorem ce_X2_init : zCe mX2_init 0 := ⟨zm1 35 rfl rfl, by decide, by decide +kernel, by decide +kernel, by decide +kernel⟩
abbrev mX0_init : zMI := (yX0_init, cX0_init, 1, none)
theorem ce_X0_init : zCe mX0_init 0 := ⟨zm1 67 rfl rfl, by decide, by decide +kernel, by decide +kernel, by decide +kernel⟩
abbrev mX1_init : zMI := (yX1_init, cX1_init, 1, none)
theorem ce_X1_init : zCe mX1_init 0 := ⟨zm1 103 rfl rfl, by decide, by decide +kernel, by decide +kernel, by decide +kernel⟩
abbrev mX8_init : zMI := (yX8_init, cX8_init, 1, none)
theorem ce_X8_init : zCe mX8_init 0 := ⟨zm1 79 rfl rfl, by decide, by decide +kernel, by decide +kernel, by decide +kernel⟩
abbrev mX9_init : zMI := (yX9_init, cX9_init, 1, none)
theorem ce_X9_init : zCe mX9_init 0 := ⟨zm1 91 rfl rfl, by decide, by decide +kernel, by decide +kernel, by decide +kernel⟩
abbrev mX3_init : zMI := (yX3_init, cX3_init, 1, none)
theorem ce_X3_init : zCe mX3_init 0 := ⟨zm1 115 rfl rfl, by decide, by decide +kernel, by decide +kernel, by decide +kernel⟩
abbrev mX4_init : zMI := (yX4_init, cX4_init, 1, none)
theorem ce_X4_init : zCe mX4_init 0 := ⟨zm2 75 rfl rfl, by decide, by decide +kernel, by decide +kernel, by decide +kernel⟩
abbrev mX5_init : zMI := (yX5_init, cX5_init, 1, none)
theorem ce_X5_init : zCe mX5_init 0 := ⟨zm1 170 rfl rfl, by decide, by decide +kernel, by decide +kernel, by decide +kernel⟩
abbrev mX6_init : zMI := (yX6_init, cX6_init, 1, none)
theorem ce_X6_init : zCe mX6_init 0 := ⟨zm2 44 rfl rfl, by decide, by decide +kernel, by decide +kernel, by decide +kernel⟩
abbrev mX7_init : zMI := (yX7_init, cX7_init, 1, none)
theorem ce_X7_init : zCe mX7_init 0 := ⟨zm1 133 rfl rfl, by decide, by decide +kernel, by decide +kernel, by decide +kernel⟩
abbrev mX10_init : zMI := (yX10_init, cX10_init, 1, none)
theorem ce_X10_init : zCe mX10_init 0 := ⟨zm1 127 rfl rfl, by decide, by decide +kernel, by decide +kernel, by decide +kernel⟩
theorem lo_X2_3 : Cond.methodLink RX2 3 Lib.objectInit ∈ zTw := zm1 36 rfl rfl
theorem lo_X10_3 : Cond.methodLink RX10 3 Lib.objectInit ∈ zTw := zm1 128 rfl rfl
theorem lo_X7_3 : Cond.methodLink RX7 3 Lib.objectInit ∈ zTw := zm1 134 rfl rfl
theorem lo_X5_3 : Cond.methodLink RX5 3 Lib.objectInit ∈ zTw := zm1 171 rfl rfl
theorem lo_X6_5 : Cond.methodLink RX6 5 Lib.objectInit ∈ zTw := zm2 45 rfl rfl
theorem lo_X4_3 : Cond.methodLink RX4 3 Lib.objectInit ∈ zTw := zm2 76 rfl rfl
theorem li_X0_1 : zLkI RX0 1 mX2_init := ⟨.inr ⟨_, List.mem_of_getElem? (i := 2) rfl⟩, zm1 34 rfl rfl, zm1 2 rfl rfl, rfl, rfl⟩
theorem li_X8_1 : zLkI RX8 1 mX2_init := ⟨.inr ⟨_, List.mem_of_getElem? (i := 4) rfl⟩, zm1 34 rfl rfl, zm1 2 rfl rfl, rfl, rfl⟩
theorem li_X1_1 : zLkI RX1 1 mX2_init := ⟨.inr ⟨_, List.mem_of_getElem? (i := 8) rfl⟩, zm1 34 rfl rfl, zm1 2 rfl rfl, rfl, rfl⟩
theorem li_X9_1 : zLkI RX9 1 mX8_init := ⟨.inr ⟨_, List.mem_of_getElem? (i := 6) rfl⟩, zm1 78 rfl rfl, zm1 4 rfl rfl, rfl, rfl⟩
theorem li_X3_1 : zLkI RX3 1 mX1_init := ⟨.inr ⟨_, List.mem_of_getElem? (i := 10) rfl⟩, zm1 102 rfl rfl, zm1 6 rfl rfl, rfl, rfl⟩
theorem li_X6_23 : zLkI RX6 23 mX7_init := ⟨.inr ⟨_, List.mem_of_getElem? (i := 14) rfl⟩, zm1 132 rfl rfl, zm1 9 rfl rfl, rfl, rfl⟩
theorem li_X10_38 : zLkI RX10 38 mX7_init := ⟨.inr ⟨_, List.mem_of_getElem? (i := 11) rfl⟩, zm1 132 rfl rfl, zm1 9 rfl rfl, rfl, rfl⟩
theorem li_X10_45 : zLkI RX10 45 mX5_init := ⟨.inr ⟨_, List.mem_of_getElem? (i := 12) rfl⟩, zm1 169 rfl rfl, zm1 10 rfl rfl, rfl, rfl⟩
theorem nk_X6_21 : zNewOk RX6 21 7 9 RX7 TX7 tyX7 [1, 1, 1, 1, 1, 1, 1, 0, 0] := ⟨rfl, uw_X7, fpq_X7.1, zm2 46 rfl rfl, zm1 130 rfl rfl, zm1 9 rfl rfl, by decide +kernel, by decide⟩
theorem nk_X10_36 : zNewOk RX10 36 7 9 RX7 TX7 tyX7 [1, 1, 1, 1, 1, 1, 1, 0, 0] := ⟨rfl, uw_X7, fpq_X7.1, zm1 129 rfl rfl, zm1 130 rfl rfl, zm1 9 rfl rfl, by decide +kernel, by decide⟩
theorem nk_X10_43 : zNewOk RX10 43 5 8 RX5 TX5 tyX5 [1, 1, 1, 1, 0, 0, 1, 0] := ⟨rfl, uw_X5, fpq_X5.1, zm1 166 rfl rfl, zm1 167 rfl rfl, zm1 10 rfl rfl, by decide +kernel, by decide⟩
theorem zfil_0 {M : zMem} {c : Nat} : True := trivial
def zfil (M : zMem) (c x : Nat) : zMem := zsetF M c (fun j => if j < 16 then nI x else M c j)
set_option maxRecDepth 100000 in
set_option maxHeartbeats 4000000 in
theorem ok_fillg {w : List zDesc} {c : Nat} {M : zMem} {x : Int32} (hw : w[c]? = some (.inl (0, 16))) : zOkV w 0 mJ7_fill_53178 [.ref c, .int x] M (fun M' => M' = zsetF M c (fun j => if j < 16 then x else M c j)) := by
  refine zOk_of (by decide +kernel) (fun _ => Nat.le_of_ble_eq_true rfl) (L := [(0, .ref c), (1, .int x)]) rfl ?_
  refine zi_iconst (v := nI 0) dJ7_fill_53178_0 (by decide) ?_
  refine zi_istore_n (L' := [(2, .int (nI 0)), (0, .ref c), (1, .int x)]) dJ7_fill_53178_1 (i := 2) rfl (by decide) rfl ?_
  refine zi_aload_n dJ7_fill_53178_2 (i := 0) rfl 1 rfl ?_
  refine zi_alen hw (by decide) dJ7_fill_53178_3 ?_
  refine zi_istore_n (L' := [(3, .int (nI 16)), (2, .int (nI 0)), (0, .ref c), (1, .int x)]) dJ7_fill_53178_4 (i := 3) rfl (by decide) rfl ?_
  have lp : ∀ (n i : Nat) (M2 : zMem), 16 - i < n → i ≤ 16 → M2 = zsetF M c (fun j => if j < i then x else M c j) → zRn w 0 mJ7_fill_53178 (zQV (fun M' => M' = zsetF M c (fun j => if j < 16 then x else M c j))) 5 [(0, .ref c), (1, .int x), (2, .int (nI i)), (3, .int (nI 16))] [] M2 := by
    intro n
    induction n with
    | zero => intro i M2 h1; omega
    | succ n ih =>
      intro i M2 h1 h2 h3
      refine zi_iload_n dJ7_fill_53178_5 (i := 2) rfl 2 rfl ?_
      refine zi_iload_n dJ7_fill_53178_6 (i := 3) rfl 3 rfl ?_
      refine zi_icmpN_ge (by  omega) (by decide) (tgt := 20) dJ7_fill_53178_7 (by decide) (fun c7 => ?_) (fun c7 => ?_)
      · refine zi_retV rfl dJ7_fill_53178_20 ?_
        have ei : i = 16 := by omega
        rw [ei] at h3
        exact h3
      · refine zi_aload_n dJ7_fill_53178_10 (i := 0) rfl 0 rfl ?_
        refine zi_iload_n dJ7_fill_53178_11 (i := 2) rfl 2 rfl ?_
        refine zi_iload_n dJ7_fill_53178_12 (i := 1) rfl 1 rfl ?_
        refine zi_iastN hw (by omega) (by decide) dJ7_fill_53178_13 ?_
        refine zi_iincN (L' := [(2, .int (nI (i + 1))), (0, .ref c), (1, .int x), (3, .int (nI 16))]) dJ7_fill_53178_14 2 rfl (k := 1) (by decide) (by decide) rfl ?_
        refine zi_goto (tgt := 5) dJ7_fill_53178_17 (by decide) ?_
        refine zi_sub [1, 2, 0, 3] rfl ?_
        refine ih (i + 1) _ (by omega) (by omega) ?_
        rw [h3, zup_eq, zsetF_1, zfl_next]
        exact zsetF_2 _ _ _ _
  refine zi_sub [2, 3, 1, 0] rfl ?_
  exact lp 17 0 M (by omega) (by omega) (by rw [zcp_0, zsetF_id])
set_option maxRecDepth 100000 in
set_option maxHeartbeats 4000000 in
theorem ok_X2_init_X2 {w : List zDesc} {b n : Nat} {M : zMem} (hb : w[b]? = some (.inr (.inr (2, [0, 0, 1, 0, 0])))) (hn : w.length = n) (hl : n + 1 ≤ 1000) : zKo (zRk 1 1 30) 1 30 mX2_init [.ref b] w M (fun w' M' => w' = zNF w b (.inr (.inr (2, [0, 0, n + 0 + 2, 0, 0]))) [.inl (0, 30)] ∧ M' = M) := by
  subst hn
  have hbl : b < w.length := (List.getElem?_eq_some_iff.mp hb).1
  refine zKo_of (by decide +kernel) (fun _ => Nat.le_of_ble_eq_true rfl) (L0 := [(0, .ref b)]) rfl ?_
  refine zg_w (zNF_0 hb) ?_
  refine zg_aload_n dX2_init_0 (i := 0) rfl 0 rfl ?_
  refine zg_objInit lo_X2_3 zo_im zo_code dX2_init_1 (by decide) (by decide) ?_
  refine zg_aload_n dX2_init_4 (i := 0) rfl 0 rfl ?_
  refine zg_bipush dX2_init_5 (v := nI 30) (by decide) ?_
  refine gm_newaI (j := 0) (N' := 30) hbl rfl za_int dX2_init_7 (by decide) (by decide) (by decide) (by decide) (by decide) (zl1 (by omega)) (zsR (by omega) zs0) (by omega) ?_
  refine gm_putF (j := 1) hbl rfl fd_X2_9_X2 fpq_X2 rfl rfl rfl rfl rfl (by omega) (fun _ => ⟨rfl, rfl⟩) dX2_init_9 ?_
  exact zg_ret rfl dX2_init_12 (by decide) (by decide) ⟨rfl, rfl⟩
set_option maxRecDepth 100000 in
set_option maxHeartbeats 4000000 in
theorem ok_X2_init_X0 {w : List zDesc} {b n : Nat} {M : zMem} (hb : w[b]? = some (.inr (.inr (0, [0, 0, 1, 0, 0])))) (hn : w.length = n) (hl : n + 1 ≤ 1000) : zKo (zRk 1 1 30) 1 30 mX2_init [.ref b] w M (fun w' M' => w' = zNF w b (.inr (.inr (0, [0, 0, n + 0 + 2, 0, 0]))) [.inl (0, 30)] ∧ M' = M) := by
  subst hn
  have hbl : b < w.length := (List.getElem?_eq_some_iff.mp hb).1
  refine zKo_of (by decide +kernel) (fun _ => Nat.le_of_ble_eq_true rfl) (L0 := [(0, .ref b)]) rfl ?_
  refine zg_w (zNF_0 hb) ?_
  refine zg_aload_n dX2_init_0 (i := 0) rfl 0 rfl ?_
  refine zg_objInit lo_X2_3 zo_im zo_code dX2_init_1 (by decide) (by decide) ?_
  refine zg_aload_n dX2_init_4 (i := 0) rfl 0 rfl ?_
  refine zg_bipush dX2_init_5 (v := nI 30) (by decide) ?_
  refine gm_newaI (j := 0) (N' := 30) hbl rfl za_int dX2_init_7 (by decide) (by decide) (by decide) (by decide) (by decide) (zl1 (by omega)) (zsR (by omega) zs0) (by omega) ?_
  refine gm_putF (j := 1) hbl rfl fd_X2_9_X0 fpq_X0 rfl rfl rfl rfl rfl (by omega) (fun _ => ⟨rfl, rfl⟩) dX2_init_9 ?_
  exact zg_ret rfl dX2_init_12 (by decide) (by decide) ⟨rfl, rfl⟩
set_option maxRecDepth 100000 in
set_option maxHeartbeats 4000000 in
theorem ok_X2_init_X8 {w : List zDesc} {b n : Nat} {M : zMem} (hb : w[b]? = some (.inr (.inr (8, [0, 0, 1, 0, 0])))) (hn : w.length = n) (hl : n + 1 ≤ 1000) : zKo (zRk 1 1 30) 1 30 mX2_init [.ref b] w M (fun w' M' => w' = zNF w b (.inr (.inr (8, [0, 0, n + 0 + 2, 0, 0]))) [.inl (0, 30)] ∧ M' = M) := by
  subst hn
  have hbl : b < w.length := (List.getElem?_eq_some_iff.mp hb).1
  refine zKo_of (by decide +kernel) (fun _ => Nat.le_of_ble_eq_true rfl) (L0 := [(0, .ref b)]) rfl ?_
  refine zg_w (zNF_0 hb) ?_
  refine zg_aload_n dX2_init_0 (i := 0) rfl 0 rfl ?_
  refine zg_objInit lo_X2_3 zo_im zo_code dX2_init_1 (by decide) (by decide) ?_
  refine zg_aload_n dX2_init_4 (i := 0) rfl 0 rfl ?_
  refine zg_bipush dX2_init_5 (v := nI 30) (by decide) ?_
  refine gm_newaI (j := 0) (N' := 30) hbl rfl za_int dX2_init_7 (by decide) (by decide) (by decide) (by decide) (by decide) (zl1 (by omega)) (zsR (by omega) zs0) (by omega) ?_
  refine gm_putF (j := 1) hbl rfl fd_X2_9_X8 fpq_X8 rfl rfl rfl rfl rfl (by omega) (fun _ => ⟨rfl, rfl⟩) dX2_init_9 ?_
  exact zg_ret rfl dX2_init_12 (by decide) (by decide) ⟨rfl, rfl⟩
set_option maxRecDepth 100000 in
set_option maxHeartbeats 4000000 in
theorem ok_X2_init_X9 {w : List zDesc} {b n : Nat} {M : zMem} (hb : w[b]? = some (.inr (.inr (9, [0, 0, 1, 0, 0])))) (hn : w.length = n) (hl : n + 1 ≤ 1000) : zKo (zRk 1 1 30) 1 30 mX2_init [.ref b] w M (fun w' M' => w' = zNF w b (.inr (.inr (9, [0, 0, n + 0 + 2, 0, 0]))) [.inl (0, 30)] ∧ M' = M) := by
  subst hn
  have hbl : b < w.length := (List.getElem?_eq_some_iff.mp hb).1
  refine zKo_of (by decide +kernel) (fun _ => Nat.le_of_ble_eq_true rfl) (L0 := [(0, .ref b)]) rfl ?_
  refine zg_w (zNF_0 hb) ?_
  refine zg_aload_n dX2_init_0 (i := 0) rfl 0 rfl ?_
  refine zg_objInit lo_X2_3 zo_im zo_code dX2_init_1 (by decide) (by decide) ?_
  refine zg_aload_n dX2_init_4 (i := 0) rfl 0 rfl ?_
  refine zg_bipush dX2_init_5 (v := nI 30) (by decide) ?_
  refine gm_newaI (j := 0) (N' := 30) hbl rfl za_int dX2_init_7 (by decide) (by decide) (by decide) (by decide) (by decide) (zl1 (by omega)) (zsR (by omega) zs0) (by omega) ?_
  refine gm_putF (j := 1) hbl rfl fd_X2_9_X9 fpq_X9 rfl rfl rfl rfl rfl (by omega) (fun _ => ⟨rfl, rfl⟩) dX2_init_9 ?_
  exact zg_ret rfl dX2_init_12 (by decide) (by decide) ⟨rfl, rfl⟩
set_option maxRecDepth 100000 in
set_option maxHeartbeats 4000000 in
theorem ok_X2_init_X1 {w : List zDesc} {b n : Nat} {M : zMem} (hb : w[b]? = some (.inr (.inr (1, [0, 0, 1, 0, 0])))) (hn : w.length = n) (hl : n + 1 ≤ 1000) : zKo (zRk 1 1 30) 1 30 mX2_init [.ref b] w M (fun w' M' => w' = zNF w b (.inr (.inr (1, [0, 0, n + 0 + 2, 0, 0]))) [.inl (0, 30)] ∧ M' = M) := by
  subst hn
  have hbl : b < w.length := (List.getElem?_eq_some_iff.mp hb).1
  refine zKo_of (by decide +kernel) (fun _ => Nat.le_of_ble_eq_true rfl) (L0 := [(0, .ref b)]) rfl ?_
  refine zg_w (zNF_0 hb) ?_
  refine zg_aload_n dX2_init_0 (i := 0) rfl 0 rfl ?_
  refine zg_objInit lo_X2_3 zo_im zo_code dX2_init_1 (by decide) (by decide) ?_
  refine zg_aload_n dX2_init_4 (i := 0) rfl 0 rfl ?_
  refine zg_bipush dX2_init_5 (v := nI 30) (by decide) ?_
  refine gm_newaI (j := 0) (N' := 30) hbl rfl za_int dX2_init_7 (by decide) (by decide) (by decide) (by decide) (by decide) (zl1 (by omega)) (zsR (by omega) zs0) (by omega) ?_
  refine gm_putF (j := 1) hbl rfl fd_X2_9_X1 fpq_X1 rfl rfl rfl rfl rfl (by omega) (fun _ => ⟨rfl, rfl⟩) dX2_init_9 ?_
  exact zg_ret rfl dX2_init_12 (by decide) (by decide) ⟨rfl, rfl⟩
set_option maxRecDepth 100000 in
set_option maxHeartbeats 4000000 in
theorem ok_X2_init_X3 {w : List zDesc} {b n : Nat} {M : zMem} (hb : w[b]? = some (.inr (.inr (3, [0, 0, 1, 0, 0])))) (hn : w.length = n) (hl : n + 1 ≤ 1000) : zKo (zRk 1 1 30) 1 30 mX2_init [.ref b] w M (fun w' M' => w' = zNF w b (.inr (.inr (3, [0, 0, n + 0 + 2, 0, 0]))) [.inl (0, 30)] ∧ M' = M) := by
  subst hn
  have hbl : b < w.length := (List.getElem?_eq_some_iff.mp hb).1
  refine zKo_of (by decide +kernel) (fun _ => Nat.le_of_ble_eq_true rfl) (L0 := [(0, .ref b)]) rfl ?_
  refine zg_w (zNF_0 hb) ?_
  refine zg_aload_n dX2_init_0 (i := 0) rfl 0 rfl ?_
  refine zg_objInit lo_X2_3 zo_im zo_code dX2_init_1 (by decide) (by decide) ?_
  refine zg_aload_n dX2_init_4 (i := 0) rfl 0 rfl ?_
  refine zg_bipush dX2_init_5 (v := nI 30) (by decide) ?_
  refine gm_newaI (j := 0) (N' := 30) hbl rfl za_int dX2_init_7 (by decide) (by decide) (by decide) (by decide) (by decide) (zl1 (by omega)) (zsR (by omega) zs0) (by omega) ?_
  refine gm_putF (j := 1) hbl rfl fd_X2_9_X3 fpq_X3 rfl rfl rfl rfl rfl (by omega) (fun _ => ⟨rfl, rfl⟩) dX2_init_9 ?_
  exact zg_ret rfl dX2_init_12 (by decide) (by decide) ⟨rfl, rfl⟩
set_option maxRecDepth 100000 in
set_option maxHeartbeats 4000000 in
theorem ok_X0_init_X0 {w : List zDesc} {b n : Nat} {M : zMem} (hb : w[b]? = some (.inr (.inr (0, [0, 0, 1, 0, 0])))) (hn : w.length = n) (hl : n + 1 ≤ 1000) : zKo (zRk 2 1 30) 1 30 mX0_init [.ref b] w M (fun w' M' => w' = zNF w b (.inr (.inr (0, [0, 0, n + 0 + 2, 0, 0]))) [.inl (0, 30)] ∧ M' = M) := by
  subst hn
  have hbl : b < w.length := (List.getElem?_eq_some_iff.mp hb).1
  refine zKo_of (by decide +kernel) (fun _ => Nat.le_of_ble_eq_true rfl) (L0 := [(0, .ref b)]) rfl ?_
  refine zg_aload_n dX0_init_0 (i := 0) rfl 0 rfl ?_
  refine gm_callI0 li_X0_1 ce_X2_init ⟨rfl, rfl, by decide, by decide⟩ (by decide) (by decide) dX0_init_1 (by decide) (zl1 hbl) zs0 (ok_X2_init_X0 hb rfl (by omega)) ?_
  exact zg_ret rfl dX0_init_4 (by decide) (by decide) ⟨rfl, rfl⟩
set_option maxRecDepth 100000 in
set_option maxHeartbeats 4000000 in
theorem ok_X8_init_X8 {w : List zDesc} {b n : Nat} {M : zMem} (hb : w[b]? = some (.inr (.inr (8, [0, 0, 1, 0, 0])))) (hn : w.length = n) (hl : n + 1 ≤ 1000) : zKo (zRk 2 1 30) 1 30 mX8_init [.ref b] w M (fun w' M' => w' = zNF w b (.inr (.inr (8, [0, 0, n + 0 + 2, 0, 0]))) [.inl (0, 30)] ∧ M' = M) := by
  subst hn
  have hbl : b < w.length := (List.getElem?_eq_some_iff.mp hb).1
  refine zKo_of (by decide +kernel) (fun _ => Nat.le_of_ble_eq_true rfl) (L0 := [(0, .ref b)]) rfl ?_
  refine zg_aload_n dX8_init_0 (i := 0) rfl 0 rfl ?_
  refine gm_callI0 li_X8_1 ce_X2_init ⟨rfl, rfl, by decide, by decide⟩ (by decide) (by decide) dX8_init_1 (by decide) (zl1 hbl) zs0 (ok_X2_init_X8 hb rfl (by omega)) ?_
  exact zg_ret rfl dX8_init_4 (by decide) (by decide) ⟨rfl, rfl⟩
set_option maxRecDepth 100000 in
set_option maxHeartbeats 4000000 in
theorem ok_X1_init_X1 {w : List zDesc} {b n : Nat} {M : zMem} (hb : w[b]? = some (.inr (.inr (1, [0, 0, 1, 0, 0])))) (hn : w.length = n) (hl : n + 1 ≤ 1000) : zKo (zRk 2 1 30) 1 30 mX1_init [.ref b] w M (fun w' M' => w' = zNF w b (.inr (.inr (1, [0, 0, n + 0 + 2, 0, 0]))) [.inl (0, 30)] ∧ M' = M) := by
  subst hn
  have hbl : b < w.length := (List.getElem?_eq_some_iff.mp hb).1
  refine zKo_of (by decide +kernel) (fun _ => Nat.le_of_ble_eq_true rfl) (L0 := [(0, .ref b)]) rfl ?_
  refine zg_aload_n dX1_init_0 (i := 0) rfl 0 rfl ?_
  refine gm_callI0 li_X1_1 ce_X2_init ⟨rfl, rfl, by decide, by decide⟩ (by decide) (by decide) dX1_init_1 (by decide) (zl1 hbl) zs0 (ok_X2_init_X1 hb rfl (by omega)) ?_
  exact zg_ret rfl dX1_init_4 (by decide) (by decide) ⟨rfl, rfl⟩
set_option maxRecDepth 100000 in
set_option maxHeartbeats 4000000 in
theorem ok_X8_init_X9 {w : List zDesc} {b n : Nat} {M : zMem} (hb : w[b]? = some (.inr (.inr (9, [0, 0, 1, 0, 0])))) (hn : w.length = n) (hl : n + 1 ≤ 1000) : zKo (zRk 2 1 30) 1 30 mX8_init [.ref b] w M (fun w' M' => w' = zNF w b (.inr (.inr (9, [0, 0, n + 0 + 2, 0, 0]))) [.inl (0, 30)] ∧ M' = M) := by
  subst hn
  have hbl : b < w.length := (List.getElem?_eq_some_iff.mp hb).1
  refine zKo_of (by decide +kernel) (fun _ => Nat.le_of_ble_eq_true rfl) (L0 := [(0, .ref b)]) rfl ?_
  refine zg_aload_n dX8_init_0 (i := 0) rfl 0 rfl ?_
  refine gm_callI0 li_X8_1 ce_X2_init ⟨rfl, rfl, by decide, by decide⟩ (by decide) (by decide) dX8_init_1 (by decide) (zl1 hbl) zs0 (ok_X2_init_X9 hb rfl (by omega)) ?_
  exact zg_ret rfl dX8_init_4 (by decide) (by decide) ⟨rfl, rfl⟩
set_option maxRecDepth 100000 in
set_option maxHeartbeats 4000000 in
theorem ok_X1_init_X3 {w : List zDesc} {b n : Nat} {M : zMem} (hb : w[b]? = some (.inr (.inr (3, [0, 0, 1, 0, 0])))) (hn : w.length = n) (hl : n + 1 ≤ 1000) : zKo (zRk 2 1 30) 1 30 mX1_init [.ref b] w M (fun w' M' => w' = zNF w b (.inr (.inr (3, [0, 0, n + 0 + 2, 0, 0]))) [.inl (0, 30)] ∧ M' = M) := by
  subst hn
  have hbl : b < w.length := (List.getElem?_eq_some_iff.mp hb).1
  refine zKo_of (by decide +kernel) (fun _ => Nat.le_of_ble_eq_true rfl) (L0 := [(0, .ref b)]) rfl ?_
  refine zg_aload_n dX1_init_0 (i := 0) rfl 0 rfl ?_
  refine gm_callI0 li_X1_1 ce_X2_init ⟨rfl, rfl, by decide, by decide⟩ (by decide) (by decide) dX1_init_1 (by decide) (zl1 hbl) zs0 (ok_X2_init_X3 hb rfl (by omega)) ?_
  exact zg_ret rfl dX1_init_4 (by decide) (by decide) ⟨rfl, rfl⟩
set_option maxRecDepth 100000 in
set_option maxHeartbeats 4000000 in
theorem ok_X9_init_X9 {w : List zDesc} {b n : Nat} {M : zMem} (hb : w[b]? = some (.inr (.inr (9, [0, 0, 1, 0, 0])))) (hn : w.length = n) (hl : n + 1 ≤ 1000) : zKo (zRk 3 1 30) 1 30 mX9_init [.ref b] w M (fun w' M' => w' = zNF w b (.inr (.inr (9, [0, 0, n + 0 + 2, 0, 0]))) [.inl (0, 30)] ∧ M' = M) := by
  subst hn
  have hbl : b < w.length := (List.getElem?_eq_some_iff.mp hb).1
  refine zKo_of (by decide +kernel) (fun _ => Nat.le_of_ble_eq_true rfl) (L0 := [(0, .ref b)]) rfl ?_
  refine zg_aload_n dX9_init_0 (i := 0) rfl 0 rfl ?_
  refine gm_callI0 li_X9_1 ce_X8_init ⟨rfl, rfl, by decide, by decide⟩ (by decide) (by decide) dX9_init_1 (by decide) (zl1 hbl) zs0 (ok_X8_init_X9 hb rfl (by omega)) ?_
  exact zg_ret rfl dX9_init_4 (by decide) (by decide) ⟨rfl, rfl⟩
set_option maxRecDepth 100000 in
set_option maxHeartbeats 4000000 in
theorem ok_X3_init_X3 {w : List zDesc} {b n : Nat} {M : zMem} (hb : w[b]? = some (.inr (.inr (3, [0, 0, 1, 0, 0])))) (hn : w.length = n) (hl : n + 1 ≤ 1000) : zKo (zRk 3 1 30) 1 30 mX3_init [.ref b] w M (fun w' M' => w' = zNF w b (.inr (.inr (3, [0, 0, n + 0 + 2, 0, 0]))) [.inl (0, 30)] ∧ M' = M) := by
  subst hn
  have hbl : b < w.length := (List.getElem?_eq_some_iff.mp hb).1
  refine zKo_of (by decide +kernel) (fun _ => Nat.le_of_ble_eq_true rfl) (L0 := [(0, .ref b)]) rfl ?_
  refine zg_aload_n dX3_init_0 (i := 0) rfl 0 rfl ?_
  refine gm_callI0 li_X3_1 ce_X1_init ⟨rfl, rfl, by decide, by decide⟩ (by decide) (by decide) dX3_init_1 (by decide) (zl1 hbl) zs0 (ok_X1_init_X3 hb rfl (by omega)) ?_
  exact zg_ret rfl dX3_init_4 (by decide) (by decide) ⟨rfl, rfl⟩
set_option maxRecDepth 100000 in
set_option maxHeartbeats 4000000 in
theorem ok_X4_init_X4 {w : List zDesc} {b n : Nat} {M : zMem} (hb : w[b]? = some (.inr (.inr (4, [0, 0, 0, 0, 0, 0, 1, 1, 0])))) (hn : w.length = n) (hl : n + 2 ≤ 1000) : zKo (zRk 1 2 8) 2 8 mX4_init [.ref b] w M (fun w' M' => w' = zNF w b (.inr (.inr (4, [0, 0, 0, 0, 0, 0, n + 0 + 2, n + 1 + 2, 0]))) [.inl (0, 4), .inl (0, 4)] ∧ M' = M) := by
  subst hn
  have hbl : b < w.length := (List.getElem?_eq_some_iff.mp hb).1
  refine zKo_of (by decide +kernel) (fun _ => Nat.le_of_ble_eq_true rfl) (L0 := [(0, .ref b)]) rfl ?_
  refine zg_w (zNF_0 hb) ?_
  refine zg_aload_n dX4_init_0 (i := 0) rfl 0 rfl ?_
  refine zg_objInit lo_X4_3 zo_im zo_code dX4_init_1 (by decide) (by decide) ?_
  refine zg_aload_n dX4_init_4 (i := 0) rfl 0 rfl ?_
  refine zg_iconst dX4_init_5 (v := nI 4) (by decide) ?_
  refine gm_newaI (j := 0) (N' := 4) hbl rfl za_int dX4_init_6 (by decide) (by decide) (by decide) (by decide) (by decide) (zl1 (by omega)) (zsR (by omega) zs0) (by omega) ?_
  refine gm_putF (j := 1) hbl rfl fd_X4_9_X4 fpq_X4 rfl rfl rfl rfl rfl (by omega) (fun _ => ⟨rfl, rfl⟩) dX4_init_8 ?_
  refine zg_aload_n dX4_init_11 (i := 0) rfl 0 rfl ?_
  refine zg_iconst dX4_init_12 (v := nI 4) (by decide) ?_
  refine gm_newaI (j := 1) (N' := 4) hbl rfl za_int dX4_init_13 (by decide) (by decide) (by decide) (by decide) (by decide) (zl1 (by omega)) (zsR (by omega) zs0) (by omega) ?_
  refine gm_putF (j := 2) hbl rfl fd_X4_15_X4 fpq_X4 rfl rfl rfl rfl rfl (by omega) (fun _ => ⟨rfl, rfl⟩) dX4_init_15 ?_
  exact zg_ret rfl dX4_init_18 (by decide) (by decide) ⟨rfl, rfl⟩
set_option maxRecDepth 100000 in
set_option maxHeartbeats 4000000 in
theorem ok_X5_init_X5 {w : List zDesc} {b n : Nat} {M : zMem} (hb : w[b]? = some (.inr (.inr (5, [1, 1, 1, 1, 0, 0, 1, 0])))) (hn : w.length = n) (hl : n + 5 ≤ 1000) : zKo (zRk 1 5 27) 5 27 mX5_init [.ref b] w M (fun w' M' => w' = zNF w b (.inr (.inr (5, [n + 0 + 2, n + 1 + 2, n + 2 + 2, n + 3 + 2, 0, 0, n + 4 + 2, 0]))) [.inl (0, 6), .inl (0, 6), .inl (0, 6), .inl (0, 6), .inl (0, 3)] ∧ M' = M) := by
  subst hn
  have hbl : b < w.length := (List.getElem?_eq_some_iff.mp hb).1
  refine zKo_of (by decide +kernel) (fun _ => Nat.le_of_ble_eq_true rfl) (L0 := [(0, .ref b)]) rfl ?_
  refine zg_w (zNF_0 hb) ?_
  refine zg_aload_n dX5_init_0 (i := 0) rfl 0 rfl ?_
  refine zg_objInit lo_X5_3 zo_im zo_code dX5_init_1 (by decide) (by decide) ?_
  refine zg_aload_n dX5_init_4 (i := 0) rfl 0 rfl ?_
  refine zg_bipush dX5_init_5 (v := nI 6) (by decide) ?_
  refine gm_newaI (j := 0) (N' := 6) hbl rfl za_int dX5_init_7 (by decide) (by decide) (by decide) (by decide) (by decide) (zl1 (by omega)) (zsR (by omega) zs0) (by omega) ?_
  refine gm_putF (j := 1) hbl rfl fd_X5_9_X5 fpq_X5 rfl rfl rfl rfl rfl (by omega) (fun _ => ⟨rfl, rfl⟩) dX5_init_9 ?_
  refine zg_aload_n dX5_init_12 (i := 0) rfl 0 rfl ?_
  refine zg_bipush dX5_init_13 (v := nI 6) (by decide) ?_
  refine gm_newaI (j := 1) (N' := 6) hbl rfl za_int dX5_init_15 (by decide) (by decide) (by decide) (by decide) (by decide) (zl1 (by omega)) (zsR (by omega) zs0) (by omega) ?_
  refine gm_putF (j := 2) hbl rfl fd_X5_15_X5 fpq_X5 rfl rfl rfl rfl rfl (by omega) (fun _ => ⟨rfl, rfl⟩) dX5_init_17 ?_
  refine zg_aload_n dX5_init_20 (i := 0) rfl 0 rfl ?_
  refine zg_bipush dX5_init_21 (v := nI 6) (by decide) ?_
  refine gm_newaI (j := 2) (N' := 6) hbl rfl za_int dX5_init_23 (by decide) (by decide) (by decide) (by decide) (by decide) (zl1 (by omega)) (zsR (by omega) zs0) (by omega) ?_
  refine gm_putF (j := 3) hbl rfl fd_X5_18_X5 fpq_X5 rfl rfl rfl rfl rfl (by omega) (fun _ => ⟨rfl, rfl⟩) dX5_init_25 ?_
  refine zg_aload_n dX5_init_28 (i := 0) rfl 0 rfl ?_
  refine zg_bipush dX5_init_29 (v := nI 6) (by decide) ?_
  refine gm_newaI (j := 3) (N' := 6) hbl rfl za_int dX5_init_31 (by decide) (by decide) (by decide) (by decide) (by decide) (zl1 (by omega)) (zsR (by omega) zs0) (by omega) ?_
  refine gm_putF (j := 4) hbl rfl fd_X5_21_X5 fpq_X5 rfl rfl rfl rfl rfl (by omega) (fun _ => ⟨rfl, rfl⟩) dX5_init_33 ?_
  refine zg_aload_n dX5_init_36 (i := 0) rfl 0 rfl ?_
  refine zg_iconst dX5_init_37 (v := nI 3) (by decide) ?_
  refine gm_newaI (j := 4) (N' := 3) hbl rfl za_int dX5_init_38 (by decide) (by decide) (by decide) (by decide) (by decide) (zl1 (by omega)) (zsR (by omega) zs0) (by omega) ?_
  refine gm_putF (j := 5) hbl rfl fd_X5_24_X5 fpq_X5 rfl rfl rfl rfl rfl (by omega) (fun _ => ⟨rfl, rfl⟩) dX5_init_40 ?_
  exact zg_ret rfl dX5_init_43 (by decide) (by decide) ⟨rfl, rfl⟩
set_option maxRecDepth 100000 in
set_option maxHeartbeats 4000000 in
theorem ok_X7_init_X7 {w : List zDesc} {b n : Nat} {M : zMem} (hb : w[b]? = some (.inr (.inr (7, [1, 1, 1, 1, 1, 1, 1, 0, 0])))) (hn : w.length = n) (hl : n + 7 ≤ 1000) : zKo (zRk 1 7 329) 7 329 mX7_init [.ref b] w M (fun w' M' => w' = zNF w b (.inr (.inr (7, [n + 0 + 2, n + 1 + 2, n + 2 + 2, n + 3 + 2, n + 4 + 2, n + 5 + 2, n + 6 + 2, 0, 0]))) [.inl (0, 8), .inl (0, 8), .inl (0, 8), .inl (0, 100), .inl (0, 100), .inl (0, 100), .inl (0, 5)] ∧ M' = M) := by
  subst hn
  have hbl : b < w.length := (List.getElem?_eq_some_iff.mp hb).1
  refine zKo_of (by decide +kernel) (fun _ => Nat.le_of_ble_eq_true rfl) (L0 := [(0, .ref b)]) rfl ?_
  refine zg_w (zNF_0 hb) ?_
  refine zg_aload_n dX7_init_0 (i := 0) rfl 0 rfl ?_
  refine zg_objInit lo_X7_3 zo_im zo_code dX7_init_1 (by decide) (by decide) ?_
  refine zg_aload_n dX7_init_4 (i := 0) rfl 0 rfl ?_
  refine zg_bipush dX7_init_5 (v := nI 8) (by decide) ?_
  refine gm_newaI (j := 0) (N' := 8) hbl rfl za_int dX7_init_7 (by decide) (by decide) (by decide) (by decide) (by decide) (zl1 (by omega)) (zsR (by omega) zs0) (by omega) ?_
  refine gm_putF (j := 1) hbl rfl fd_X7_9_X7 fpq_X7 rfl rfl rfl rfl rfl (by omega) (fun _ => ⟨rfl, rfl⟩) dX7_init_9 ?_
  refine zg_aload_n dX7_init_12 (i := 0) rfl 0 rfl ?_
  refine zg_bipush dX7_init_13 (v := nI 8) (by decide) ?_
  refine gm_newaI (j := 1) (N' := 8) hbl rfl za_int dX7_init_15 (by decide) (by decide) (by decide) (by decide) (by decide) (zl1 (by omega)) (zsR (by omega) zs0) (by omega) ?_
  refine gm_putF (j := 2) hbl rfl fd_X7_15_X7 fpq_X7 rfl rfl rfl rfl rfl (by omega) (fun _ => ⟨rfl, rfl⟩) dX7_init_17 ?_
  refine zg_aload_n dX7_init_20 (i := 0) rfl 0 rfl ?_
  refine zg_bipush dX7_init_21 (v := nI 8) (by decide) ?_
  refine gm_newaI (j := 2) (N' := 8) hbl rfl za_int dX7_init_23 (by decide) (by decide) (by decide) (by decide) (by decide) (zl1 (by omega)) (zsR (by omega) zs0) (by omega) ?_
  refine gm_putF (j := 3) hbl rfl fd_X7_18_X7 fpq_X7 rfl rfl rfl rfl rfl (by omega) (fun _ => ⟨rfl, rfl⟩) dX7_init_25 ?_
  refine zg_aload_n dX7_init_28 (i := 0) rfl 0 rfl ?_
  refine zg_bipush dX7_init_29 (v := nI 100) (by decide) ?_
  refine gm_newaI (j := 3) (N' := 100) hbl rfl za_int dX7_init_31 (by decide) (by decide) (by decide) (by decide) (by decide) (zl1 (by omega)) (zsR (by omega) zs0) (by omega) ?_
  refine gm_putF (j := 4) hbl rfl fd_X7_21_X7 fpq_X7 rfl rfl rfl rfl rfl (by omega) (fun _ => ⟨rfl, rfl⟩) dX7_init_33 ?_
  refine zg_aload_n dX7_init_36 (i := 0) rfl 0 rfl ?_
  refine zg_bipush dX7_init_37 (v := nI 100) (by decide) ?_
  refine gm_newaI (j := 4) (N' := 100) hbl rfl za_int dX7_init_39 (by decide) (by decide) (by decide) (by decide) (by decide) (zl1 (by omega)) (zsR (by omega) zs0) (by omega) ?_
  refine gm_putF (j := 5) hbl rfl fd_X7_24_X7 fpq_X7 rfl rfl rfl rfl rfl (by omega) (fun _ => ⟨rfl, rfl⟩) dX7_init_41 ?_
  refine zg_aload_n dX7_init_44 (i := 0) rfl 0 rfl ?_
  refine zg_bipush dX7_init_45 (v := nI 100) (by decide) ?_
  refine gm_newaI (j := 5) (N' := 100) hbl rfl za_int dX7_init_47 (by decide) (by decide) (by decide) (by decide) (by decide) (zl1 (by omega)) (zsR (by omega) zs0) (by omega) ?_
  refine gm_putF (j := 6) hbl rfl fd_X7_27_X7 fpq_X7 rfl rfl rfl rfl rfl (by omega) (fun _ => ⟨rfl, rfl⟩) dX7_init_49 ?_
  refine zg_aload_n dX7_init_52 (i := 0) rfl 0 rfl ?_
  refine zg_iconst dX7_init_53 (v := nI 5) (by decide) ?_
  refine gm_newaI (j := 6) (N' := 5) hbl rfl za_int dX7_init_54 (by decide) (by decide) (by decide) (by decide) (by decide) (zl1 (by omega)) (zsR (by omega) zs0) (by omega) ?_
  refine gm_putF (j := 7) hbl rfl fd_X7_30_X7 fpq_X7 rfl rfl rfl rfl rfl (by omega) (fun _ => ⟨rfl, rfl⟩) dX7_init_56 ?_
  exact zg_ret rfl dX7_init_59 (by decide) (by decide) ⟨rfl, rfl⟩
set_option maxRecDepth 100000 in
set_option maxHeartbeats 4000000 in
theorem ok_X6_init_X6 {w : List zDesc} {b n : Nat} {M : zMem} (hb : w[b]? = some (.inr (.inr (6, [1, 0, 1, 1, 1, 0, 0])))) (hn : w.length = n) (hl : n + 11 ≤ 1000) : zKo (zRk 2 11 940) 11 940 mX6_init [.ref b] w M (fun w' M' => w' = zNF w b (.inr (.inr (6, [n + 0 + 2, 0, n + 1 + 2, n + 2 + 2, n + 3 + 2, 0, 0]))) [.inl (0, 200), .inl (0, 201), .inl (0, 201), .inr (.inr (7, [n + 4 + 0 + 2, n + 4 + 1 + 2, n + 4 + 2 + 2, n + 4 + 3 + 2, n + 4 + 4 + 2, n + 4 + 5 + 2, n + 4 + 6 + 2, 0, 0])), .inl (0, 8), .inl (0, 8), .inl (0, 8), .inl (0, 100), .inl (0, 100), .inl (0, 100), .inl (0, 5)] ∧ M' = M) := by
  subst hn
  have hbl : b < w.length := (List.getElem?_eq_some_iff.mp hb).1
  refine zKo_of (by decide +kernel) (fun _ => Nat.le_of_ble_eq_true rfl) (L0 := [(0, .ref b)]) rfl ?_
  refine zg_w (zNF_0 hb) ?_
  refine zg_aload_n dX6_init_0 (i := 0) rfl 0 rfl ?_
  refine zg_objInit lo_X6_5 zo_im zo_code dX6_init_1 (by decide) (by decide) ?_
  refine zg_aload_n dX6_init_4 (i := 0) rfl 0 rfl ?_
  refine zg_sipush dX6_init_5 (v := nI 200) (by decide) ?_
  refine gm_newaI (j := 0) (N' := 200) hbl rfl za_int dX6_init_8 (by decide) (by decide) (by decide) (by decide) (by decide) (zl1 (by omega)) (zsR (by omega) zs0) (by omega) ?_
  refine gm_putF (j := 1) hbl rfl fd_X6_11_X6 fpq_X6 rfl rfl rfl rfl rfl (by omega) (fun _ => ⟨rfl, rfl⟩) dX6_init_10 ?_
  refine zg_aload_n dX6_init_13 (i := 0) rfl 0 rfl ?_
  refine zg_sipush dX6_init_14 (v := nI 201) (by decide) ?_
  refine gm_newaI (j := 1) (N' := 201) hbl rfl za_int dX6_init_17 (by decide) (by decide) (by decide) (by decide) (by decide) (zl1 (by omega)) (zsR (by omega) zs0) (by omega) ?_
  refine gm_putF (j := 2) hbl rfl fd_X6_15_X6 fpq_X6 rfl rfl rfl rfl rfl (by omega) (fun _ => ⟨rfl, rfl⟩) dX6_init_19 ?_
  refine zg_aload_n dX6_init_22 (i := 0) rfl 0 rfl ?_
  refine zg_sipush dX6_init_23 (v := nI 201) (by decide) ?_
  refine gm_newaI (j := 2) (N' := 201) hbl rfl za_int dX6_init_26 (by decide) (by decide) (by decide) (by decide) (by decide) (zl1 (by omega)) (zsR (by omega) zs0) (by omega) ?_
  refine gm_putF (j := 3) hbl rfl fd_X6_18_X6 fpq_X6 rfl rfl rfl rfl rfl (by omega) (fun _ => ⟨rfl, rfl⟩) dX6_init_28 ?_
  refine zg_aload_n dX6_init_31 (i := 0) rfl 0 rfl ?_
  refine gm_new (j := 3) hbl rfl nk_X6_21 dX6_init_32 (by decide) (by decide) (zl1 (by omega)) (zsR (by omega) zs0) (by omega) ?_
  refine zg_dup dX6_init_35 ?_
  refine gm_callI (j := 3) hbl rfl li_X6_23 ce_X7_init ⟨rfl, rfl, by decide, by decide⟩ (by decide) (by decide) dX6_init_36 (Nat.le_of_ble_eq_true rfl) (zl1 (by omega)) (zsR (by omega) (zsR (by omega) zs0)) (ok_X7_init_X7 (n := w.length + 4) (zNF_n (j := 3) hbl rfl) (zNF_len _ _ _ _) (by omega)) ?_
  refine gm_putF (j := 11) hbl rfl fd_X6_24_X6 fpq_X6 rfl rfl rfl rfl rfl (by omega) (fun _ => ⟨rfl, rfl⟩) dX6_init_39 ?_
  exact zg_ret rfl dX6_init_42 (by decide) (by decide) ⟨rfl, rfl⟩
def zVil (M : zMem) (b n : Nat) : zMem := zfil (zup (zup (zup (zup (zup (zup (zup (zup (zup (M) (n + 6) 0 (nI 6)) (n + 6) 1 (nI 6)) (n + 6) 2 (nI 6)) (n + 6) 3 (nI 6)) (n + 6) 4 (nI 6)) (n + 6) 5 (nI 6)) b 13 (nI 12)) b 15 (nI 26)) b 17 (nI 1)) (n + 7) 4
set_option maxRecDepth 100000 in
set_option maxHeartbeats 4000000 in
theorem ok_X10_init_X10 {w : List zDesc} {b n : Nat} {M : zMem} (hb : w[b]? = some (.inr (.inr (10, [1, 1, 1, 1, 1, 1, 1, 1, 1, 1, 0, 0, 0, 0, 0, 0, 0, 0])))) (hn : w.length = n) (hl : n + 22 ≤ 1000) : zKo (zRk 2 22 431) 22 431 mX10_init [.ref b] w M (fun w' M' => w' = zNF w b (.inr (.inr (10, [n + 0 + 2, n + 1 + 2, n + 2 + 2, n + 3 + 2, n + 4 + 2, n + 5 + 2, n + 6 + 2, n + 7 + 2, n + 8 + 2, n + 16 + 2, 0, 0, 0, 0, 0, 0, 0, 0]))) [.inl (0, 6), .inl (0, 6), .inl (0, 6), .inl (0, 6), .inl (0, 6), .inl (0, 6), .inl (0, 6), .inl (0, 16), .inr (.inr (7, [n + 9 + 0 + 2, n + 9 + 1 + 2, n + 9 + 2 + 2, n + 9 + 3 + 2, n + 9 + 4 + 2, n + 9 + 5 + 2, n + 9 + 6 + 2, 0, 0])), .inl (0, 8), .inl (0, 8), .inl (0, 8), .inl (0, 100), .inl (0, 100), .inl (0, 100), .inl (0, 5), .inr (.inr (5, [n + 17 + 0 + 2, n + 17 + 1 + 2, n + 17 + 2 + 2, n + 17 + 3 + 2, 0, 0, n + 17 + 4 + 2, 0])), .inl (0, 6), .inl (0, 6), .inl (0, 6), .inl (0, 6), .inl (0, 3)] ∧ M' = (zVil M b n)) := by
  subst hn
  have hbl : b < w.length := (List.getElem?_eq_some_iff.mp hb).1
  refine zKo_of (by decide +kernel) (fun _ => Nat.le_of_ble_eq_true rfl) (L0 := [(0, .ref b)]) rfl ?_
  refine zg_w (zNF_0 hb) ?_
  refine zg_aload_n dX10_init_0 (i := 0) rfl 0 rfl ?_
  refine zg_objInit lo_X10_3 zo_im zo_code dX10_init_1 (by decide) (by decide) ?_
  refine zg_aload_n dX10_init_4 (i := 0) rfl 0 rfl ?_
  refine zg_bipush dX10_init_5 (v := nI 6) (by decide) ?_
  refine gm_newaI (j := 0) (N' := 6) hbl rfl za_int dX10_init_7 (by decide) (by decide) (by decide) (by decide) (by decide) (zl1 (by omega)) (zsR (by omega) zs0) (by omega) ?_
  refine gm_putF (j := 1) hbl rfl fd_X10_9_X10 fpq_X10 rfl rfl rfl rfl rfl (by omega) (fun _ => ⟨rfl, rfl⟩) dX10_init_9 ?_
  refine zg_aload_n dX10_init_12 (i := 0) rfl 0 rfl ?_
  refine zg_bipush dX10_init_13 (v := nI 6) (by decide) ?_
  refine gm_newaI (j := 1) (N' := 6) hbl rfl za_int dX10_init_15 (by decide) (by decide) (by decide) (by decide) (by decide) (zl1 (by omega)) (zsR (by omega) zs0) (by omega) ?_
  refine gm_putF (j := 2) hbl rfl fd_X10_15_X10 fpq_X10 rfl rfl rfl rfl rfl (by omega) (fun _ => ⟨rfl, rfl⟩) dX10_init_17 ?_
  refine zg_aload_n dX10_init_20 (i := 0) rfl 0 rfl ?_
  refine zg_bipush dX10_init_21 (v := nI 6) (by decide) ?_
  refine gm_newaI (j := 2) (N' := 6) hbl rfl za_int dX10_init_23 (by decide) (by decide) (by decide) (by decide) (by decide) (zl1 (by omega)) (zsR (by omega) zs0) (by omega) ?_
  refine gm_putF (j := 3) hbl rfl fd_X10_18_X10 fpq_X10 rfl rfl rfl rfl rfl (by omega) (fun _ => ⟨rfl, rfl⟩) dX10_init_25 ?_
  refine zg_aload_n dX10_init_28 (i := 0) rfl 0 rfl ?_
  refine zg_bipush dX10_init_29 (v := nI 6) (by decide) ?_
  refine gm_newaI (j := 3) (N' := 6) hbl rfl za_int dX10_init_31 (by decide) (by decide) (by decide) (by decide) (by decide) (zl1 (by omega)) (zsR (by omega) zs0) (by omega) ?_
  refine gm_putF (j := 4) hbl rfl fd_X10_21_X10 fpq_X10 rfl rfl rfl rfl rfl (by omega) (fun _ => ⟨rfl, rfl⟩) dX10_init_33 ?_
  refine zg_aload_n dX10_init_36 (i := 0) rfl 0 rfl ?_
  refine zg_bipush dX10_init_37 (v := nI 6) (by decide) ?_
  refine gm_newaI (j := 4) (N' := 6) hbl rfl za_int dX10_init_39 (by decide) (by decide) (by decide) (by decide) (by decide) (zl1 (by omega)) (zsR (by omega) zs0) (by omega) ?_
  refine gm_putF (j := 5) hbl rfl fd_X10_24_X10 fpq_X10 rfl rfl rfl rfl rfl (by omega) (fun _ => ⟨rfl, rfl⟩) dX10_init_41 ?_
  refine zg_aload_n dX10_init_44 (i := 0) rfl 0 rfl ?_
  refine zg_bipush dX10_init_45 (v := nI 6) (by decide) ?_
  refine gm_newaI (j := 5) (N' := 6) hbl rfl za_int dX10_init_47 (by decide) (by decide) (by decide) (by decide) (by decide) (zl1 (by omega)) (zsR (by omega) zs0) (by omega) ?_
  refine gm_putF (j := 6) hbl rfl fd_X10_27_X10 fpq_X10 rfl rfl rfl rfl rfl (by omega) (fun _ => ⟨rfl, rfl⟩) dX10_init_49 ?_
  refine zg_aload_n dX10_init_52 (i := 0) rfl 0 rfl ?_
  refine zg_bipush dX10_init_53 (v := nI 6) (by decide) ?_
  refine gm_newaI (j := 6) (N' := 6) hbl rfl za_int dX10_init_55 (by decide) (by decide) (by decide) (by decide) (by decide) (zl1 (by omega)) (zsR (by omega) zs0) (by omega) ?_
  refine zg_dup dX10_init_57 ?_
  refine zg_iconst dX10_init_58 (v := nI 0) (by decide) ?_
  refine zg_bipush dX10_init_59 (v := nI 6) (by decide) ?_
  refine zg_iast (j := 0) (zNF_n (j := 6) hbl rfl) (by decide) (vp_in_nI (by decide) (by decide)) dX10_init_61 ?_
  refine zg_dup dX10_init_62 ?_
  refine zg_iconst dX10_init_63 (v := nI 1) (by decide) ?_
  refine zg_bipush dX10_init_64 (v := nI 6) (by decide) ?_
  refine zg_iast (j := 1) (zNF_n (j := 6) hbl rfl) (by decide) (vp_in_nI (by decide) (by decide)) dX10_init_66 ?_
  refine zg_dup dX10_init_67 ?_
  refine zg_iconst dX10_init_68 (v := nI 2) (by decide) ?_
  refine zg_bipush dX10_init_69 (v := nI 6) (by decide) ?_
  refine zg_iast (j := 2) (zNF_n (j := 6) hbl rfl) (by decide) (vp_in_nI (by decide) (by decide)) dX10_init_71 ?_
  refine zg_dup dX10_init_72 ?_
  refine zg_iconst dX10_init_73 (v := nI 3) (by decide) ?_
  refine zg_bipush dX10_init_74 (v := nI 6) (by decide) ?_
  refine zg_iast (j := 3) (zNF_n (j := 6) hbl rfl) (by decide) (vp_in_nI (by decide) (by decide)) dX10_init_76 ?_
  refine zg_dup dX10_init_77 ?_
  refine zg_iconst dX10_init_78 (v := nI 4) (by decide) ?_
  refine zg_bipush dX10_init_79 (v := nI 6) (by decide) ?_
  refine zg_iast (j := 4) (zNF_n (j := 6) hbl rfl) (by decide) (vp_in_nI (by decide) (by decide)) dX10_init_81 ?_
  refine zg_dup dX10_init_82 ?_
  refine zg_iconst dX10_init_83 (v := nI 5) (by decide) ?_
  refine zg_bipush dX10_init_84 (v := nI 6) (by decide) ?_
  refine zg_iast (j := 5) (zNF_n (j := 6) hbl rfl) (by decide) (vp_in_nI (by decide) (by decide)) dX10_init_86 ?_
  refine gm_putF (j := 7) hbl rfl fd_X10_30_X10 fpq_X10 rfl rfl rfl rfl rfl (by omega) (fun _ => ⟨rfl, rfl⟩) dX10_init_87 ?_
  refine zg_aload_n dX10_init_90 (i := 0) rfl 0 rfl ?_
  refine zg_bipush dX10_init_91 (v := nI 16) (by decide) ?_
  refine gm_newaI (j := 7) (N' := 16) hbl rfl za_int dX10_init_93 (by decide) (by decide) (by decide) (by decide) (by decide) (zl1 (by omega)) (zsR (by omega) zs0) (by omega) ?_
  refine gm_putF (j := 8) hbl rfl fd_X10_33_X10 fpq_X10 rfl rfl rfl rfl rfl (by omega) (fun _ => ⟨rfl, rfl⟩) dX10_init_95 ?_
  refine zg_aload_n dX10_init_98 (i := 0) rfl 0 rfl ?_
  refine gm_new (j := 8) hbl rfl nk_X10_36 dX10_init_99 (by decide) (by decide) (zl1 (by omega)) (zsR (by omega) zs0) (by omega) ?_
  refine zg_dup dX10_init_102 ?_
  refine gm_callI (j := 8) hbl rfl li_X10_38 ce_X7_init ⟨rfl, rfl, by decide, by decide⟩ (by decide) (by decide) dX10_init_103 (Nat.le_of_ble_eq_true rfl) (zl1 (by omega)) (zsR (by omega) (zsR (by omega) zs0)) (ok_X7_init_X7 (n := w.length + 9) (zNF_n (j := 8) hbl rfl) (zNF_len _ _ _ _) (by omega)) ?_
  refine gm_putF (j := 16) hbl rfl fd_X10_39_X10 fpq_X10 rfl rfl rfl rfl rfl (by omega) (fun _ => ⟨rfl, rfl⟩) dX10_init_106 ?_
  refine zg_aload_n dX10_init_109 (i := 0) rfl 0 rfl ?_
  refine gm_new (j := 16) hbl rfl nk_X10_43 dX10_init_110 (by decide) (by decide) (zl1 (by omega)) (zsR (by omega) zs0) (by omega) ?_
  refine zg_dup dX10_init_113 ?_
  refine gm_callI (j := 16) hbl rfl li_X10_45 ce_X5_init ⟨rfl, rfl, by decide, by decide⟩ (by decide) (by decide) dX10_init_114 (Nat.le_of_ble_eq_true rfl) (zl1 (by omega)) (zsR (by omega) (zsR (by omega) zs0)) (ok_X5_init_X5 (n := w.length + 17) (zNF_n (j := 16) hbl rfl) (zNF_len _ _ _ _) (by omega)) ?_
  refine gm_putF (j := 22) hbl rfl fd_X10_46_X10 fpq_X10 rfl rfl rfl rfl rfl (by omega) (fun _ => ⟨rfl, rfl⟩) dX10_init_117 ?_
  refine zg_aload_n dX10_init_120 (i := 0) rfl 0 rfl ?_
  refine zg_bipush dX10_init_121 (v := nI 12) (by decide) ?_
  refine zg_putI fd_X10_50_X10 fp_X10_13 rfl (zNF_b hbl) rfl rfl dX10_init_123 ?_
  refine zg_aload_n dX10_init_126 (i := 0) rfl 0 rfl ?_
  refine zg_bipush dX10_init_127 (v := nI 26) (by decide) ?_
  refine zg_putI fd_X10_54_X10 fp_X10_15 rfl (zNF_b hbl) rfl rfl dX10_init_129 ?_
  refine zg_aload_n dX10_init_132 (i := 0) rfl 0 rfl ?_
  refine zg_iconst dX10_init_133 (v := nI 1) (by decide) ?_
  refine zg_putI fd_X10_57_X10 fp_X10_17 rfl (zNF_b hbl) rfl rfl dX10_init_134 ?_
  refine zg_aload_n dX10_init_137 (i := 0) rfl 0 rfl ?_
  refine zg_getR fd_X10_33_X10 rfl (t := w.length + 7) (zNF_b hbl) rfl dX10_init_138 ?_
  refine zg_iconst dX10_init_141 (v := nI 4) (by decide) ?_
  refine zg_callS (as := [.ref (w.length + 7), .int (nI 4)]) (S := []) (d' := 0) (i := w.length + 7) lk_X10_60 ce_J7_fill_53178 dX10_init_142 (by decide) (by decide) (by decide) rfl rfl (by decide) (zNF_n (j := 7) hbl rfl) trivial (ok_fillg (zNF_n (j := 7) hbl rfl)) ?_
  exact zg_ret rfl dX10_init_145 (by decide) (by decide) ⟨rfl, rfl⟩
