/-! THE LAW, from its entry -/
set_option maxHeartbeats 4000000 in
set_option maxRecDepth 100000 in
theorem whole_start {p : Program} {e : Env} {s : State} {m : MethodId} {below : List Frame} {meth : Method} {c : Code} (l : Launch) (hflags : l.flags = flags0) {b L : Nat} {xs : Nat → Int32} (hL : L ≤ 2560) (C0 : lw_At p s m meth c b L xs) : W p l e room_1 s m #[Value.ref b] below meth c s.heap [] 0 0 (lw_Z below #[Value.ref b] s) (entryFrame m ([Value.ref b] : List Value).toArray 4) := by
  obtain ⟨hx, hb, hr, hml, hown, htl, hX, hbl, hlocks, hgv⟩ := id C0
  have hts : ∀ v ∈ zTw, v.before #[Value.ref b] s = true := fun v hv => htl v (zTw_in v hv)
  have hq : zAq s := zAq_start htl
  have hN : zNw s := zNw_start htl
  obtain ⟨dC, dI, cA, hK⟩ := zK_start hts hq
  obtain ⟨adr, hR⟩ := zRid_start hts htl hgv
  have hS : va_S (zLA s) s.heap s.heap [] := va_S.rf
  have hP : va_P (dC, dI) vwCl [] s.heap := fun k q h => by simp at h
  have hD : va_D (zLA s) [] := ⟨fun i j p q h => by simp at h, fun k q h => by simp at h⟩
  have hl := lv_entry ([.ref b]) (n := 4) (Nat.le_of_ble_eq_true rfl)
  rw [lg_entry_eq]
  generalize (lg_sl ([.ref b]) ++ List.replicate (4 - (lg_sl ([.ref b])).length) Slot.unset).toArray = ls at hl ⊢
  have hl : lv_has ls 4 [(0, .ref b)] := hl
  refine zl_make (W0 := []) (S := []) (mc := 108) (ms := 2723) (R' := zRk 4 108 2723) C0 hK hN hq hR hP hD hS hl nk_L_7 li_L_9 ce_X11_init (ok_X11_init_X11 (n := 1) rfl rfl (by decide)) ⟨rfl, rfl, by decide, by decide⟩ (Nat.le_of_ble_eq_true rfl) (Nat.le_of_ble_eq_true rfl) rfl dL_0 dL_3 dL_4 ?_
  intro w0 M0 ad0 H1 locs1 q0 inj0 hi0 lo0 _ _ hP0 hS1
  have ew0 : w0 = zw0 := q0.1.trans (by decide +kernel)
  have em0 : M0 = zB0 := q0.2
  subst ew0
  subst em0
  refine lv_astore_n hx hb dL_7 (i := 1) rfl hl (by decide) (show _ = ([(1, .ref (ad0 0)), (0, .ref b)] : zLv) from rfl) (fun ls hl => ?_)
  have hD0 : va_D (zLA s) (zWs zw0 ad0 cA zB0) := zDA cA zB0 inj0 lo0
  refine zl_make (W0 := zWs zw0 ad0 cA zB0) (S := []) (mc := 20) (ms := 2114) (R' := zRk 1 20 2114) C0 hK hN hq hR hP0 hD0 hS1 hl nk_L_10 li_L_12 ce_X12_init (ok_X12_init_X12 (n := 1) rfl rfl (by decide)) ⟨rfl, rfl, by decide, by decide⟩ (Nat.le_of_ble_eq_true rfl) (Nat.le_of_ble_eq_true rfl) rfl dL_8 dL_11 dL_12 ?_
  intro w1 M1 ad1 H2 locs2 q1 inj1 hi1 lo1 dis hP0' hP1 hS2
  have ew1 : w1 = zw1 := q1.1.trans (by decide +kernel)
  have em1 : M1 = zB1 := q1.2
  subst ew1
  subst em1
  refine lv_astore_n hx hb dL_15 (i := 2) rfl hl (by decide) (show _ = ([(2, .ref (ad1 0)), (1, .ref (ad0 0)), (0, .ref b)] : zLv) from rfl) (fun ls hl => ?_)
  refine lv_iconst (v := nI 0) hx hb dL_16 (by decide) ?_
  refine lv_istore_n hx hb dL_17 (i := 3) rfl hl (by decide) (show _ = ([(3, .int (nI 0)), (2, .ref (ad1 0)), (1, .ref (ad0 0)), (0, .ref b)] : zLv) from rfl) (fun ls hl => ?_)
  have X : zLx (p, l, e, s, m, below, meth, c, b, L, xs, ad0, ad1, cA, dC, dI, 0 + 1 + 108 + 1 + 20, 0 + 16 + 2723 + 39 + 2114) :=
    ⟨C0, hK, hN, hR.ext hi0, hR.ext hi1, inj0, inj1, lo0, lo1, fun i j hi hj g => dis j i _ hj (zWs_at (List.getElem?_eq_getElem hi)) g, Nat.le_of_ble_eq_true rfl, Nat.le_of_ble_eq_true rfl, hL⟩
  exact zl_loop X (L + 1) 0 zB0 zB1 (by show L - 0 < L + 1; omega) (Nat.zero_le _) zB_inv H2 locs2 ls hP0' hP1 hS2 hl
