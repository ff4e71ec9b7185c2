/-! the reference's constructor -/
section ZG
variable {R : Room} {mc ms : Nat} {mi : zMI} {n0 : Nat} {Q : List zDesc → zMem → Prop} {k kS pc : Nat} {L : zLv} {S : List Value} {w : List zDesc} {M : zMem}
theorem zg_istore_n {kf : Fin 4} {i : Nat} {x : Int32} {L' : zLv} (dg : decode mi.2.1 pc = .ok (.istore_n kf, 1)) (hi : (kf : Nat) = i) (hn : i < mi.2.2.1) (hL : (i, .int x) :: L.filter (fun q => !(q.1 == i) && !(q.1 + 1 == i && q.2.category == 2)) = L') (kk : zGn R mc ms mi n0 Q k kS (pc + 1) L' S w M) : zGn R mc ms mi n0 Q k kS pc L (.int x :: S) w M := by
  subst hL
  intro p l e s m args below meth c dC dI cA A ad0 C ad H locs ls I hP hS hl
  exact lv_istore_n C.1 C.2.1 dg hi hl hn (zL_st1 ad i (.int x) L) (fun ls' hl' => kk p l e s m args below meth c dC dI cA A ad0 C ad H locs ls' I hP hS hl')
theorem zg_iload_n {kf : Fin 4} {i : Nat} {x : Int32} (dg : decode mi.2.1 pc = .ok (.iload_n kf, 1)) (hi : (kf : Nat) = i) (q : Nat) (hq : L[q]? = some (i, .int x)) (kk : zGn R mc ms mi n0 Q k kS (pc + 1) L (.int x :: S) w M) : zGn R mc ms mi n0 Q k kS pc L S w M := by
  intro p l e s m args below meth c dC dI cA A ad0 C ad H locs ls I hP hS hl
  exact lv_iload_n C.1 C.2.1 dg hi (lv_at hl q (zL_at hq)) (kk p l e s m args below meth c dC dI cA A ad0 C ad H locs ls I hP hS hl)
theorem zg_iaddN {a b v : Nat} (dg : decode mi.2.1 pc = .ok (.iadd, 1)) (hv : a + b = v) (kk : zGn R mc ms mi n0 Q k kS (pc + 1) L (.int (nI v) :: S) w M) : zGn R mc ms mi n0 Q k kS pc L (.int (nI b) :: .int (nI a) :: S) w M := by
  subst hv
  rw [← nI_add] at kk
  intro p l e s m args below meth c dC dI cA A ad0 C ad H locs ls I hP hS hl
  exact lv_iadd C.1 C.2.1 dg (kk p l e s m args below meth c dC dI cA A ad0 C ad H locs ls I hP hS hl)
theorem zg_iincN {i a v : Nat} {n : Int} {L' : zLv} (dg : decode mi.2.1 pc = .ok (.iinc i n, 3)) (q : Nat) (hq : L[q]? = some (i, .int (nI a))) (hv : nI a + Int32.ofInt n = nI v) (hn : i < mi.2.2.1) (hL : (i, .int (nI v)) :: L.filter (fun q => !(q.1 == i) && !(q.1 + 1 == i && q.2.category == 2)) = L') (kk : zGn R mc ms mi n0 Q k kS (pc + 3) L' S w M) : zGn R mc ms mi n0 Q k kS pc L S w M := by
  subst hL
  intro p l e s m args below meth c dC dI cA A ad0 C ad H locs ls I hP hS hl
  exact lv_iinc C.1 C.2.1 dg hl (zL_at hq) hv hn (zL_st1 ad i (.int (nI v)) L) (fun ls' hl' => kk p l e s m args below meth c dC dI cA A ad0 C ad H locs ls' I hP hS hl')
theorem zg_goto {off : Int} {tgt : Nat} (dg : decode mi.2.1 pc = .ok (.goto off, 3)) (ht : (pc : Int) + off = (tgt : Int)) (kk : zGn R mc ms mi n0 Q k kS tgt L S w M) : zGn R mc ms mi n0 Q k kS pc L S w M := by
  intro p l e s m args below meth c dC dI cA A ad0 C ad H locs ls I hP hS hl
  exact lv_goto C.1 C.2.1 dg ht (kk p l e s m args below meth c dC dI cA A ad0 C ad H locs ls I hP hS hl)
theorem zg_icmpge_t {a b : Nat} {off : Int} {tgt : Nat} (ha : a < 2 ^ 31) (hb : b < 2 ^ 31) (h : b ≤ a) (dg : decode mi.2.1 pc = .ok (.if_icmp .ge off, 3)) (ht : (pc : Int) + off = (tgt : Int)) (kk : zGn R mc ms mi n0 Q k kS tgt L S w M) : zGn R mc ms mi n0 Q k kS pc L (.int (nI b) :: .int (nI a) :: S) w M := by
  intro p l e s m args below meth c dC dI cA A ad0 C ad H locs ls I hP hS hl
  exact lv_icmp_ge C.1 C.2.1 dg ht (fun _ => kk p l e s m args below meth c dC dI cA A ad0 C ad H locs ls I hP hS hl) (fun q => absurd ((nI_leI hb ha).mpr h) q)
theorem zg_icmpge_f {a b : Nat} {off : Int} {tgt : Nat} (ha : a < 2 ^ 31) (hb : b < 2 ^ 31) (h : a < b) (dg : decode mi.2.1 pc = .ok (.if_icmp .ge off, 3)) (ht : (pc : Int) + off = (tgt : Int)) (kk : zGn R mc ms mi n0 Q k kS (pc + 3) L S w M) : zGn R mc ms mi n0 Q k kS pc L (.int (nI b) :: .int (nI a) :: S) w M := by
  intro p l e s m args below meth c dC dI cA A ad0 C ad H locs ls I hP hS hl
  exact lv_icmp_ge C.1 C.2.1 dg ht (fun q => absurd ((nI_leI hb ha).mp q) (Nat.not_le.mpr h)) (fun _ => kk p l e s m args below meth c dC dI cA A ad0 C ad H locs ls I hP hS hl)
end ZG
abbrev mX12_init : zMI := (yX12_init, cX12_init, 2, none)
theorem ce_X12_init : zCe mX12_init 0 := ⟨zm5 155 rfl rfl, by decide, by decide +kernel, by decide +kernel, by decide +kernel⟩
theorem lo_X12_1 : Cond.methodLink RX12 1 Lib.objectInit ∈ zTw := zm5 156 rfl rfl
def zltr0 (M : zMem) (c : Nat) : zMem := zup (zup (zup (zup (zup (zup (zup (zup (zup (zup (zup (zup (zup (zup (zup (zup (zup (zup (zup (zup (zup (zup (zup (zup (M) c 0 (nI 104)) c 1 (nI 111)) c 2 (nI 117)) c 3 (nI 115)) c 4 (nI 101)) c 5 (nI 32)) c 6 (nI 32)) c 7 (nI 32)) c 8 (nI 98)) c 9 (nI 114)) c 10 (nI 105)) c 11 (nI 100)) c 12 (nI 101)) c 13 (nI 32)) c 14 (nI 32)) c 15 (nI 32)) c 16 (nI 115)) c 17 (nI 97)) c 18 (nI 100)) c 19 (nI 32)) c 20 (nI 32)) c 21 (nI 32)) c 22 (nI 32)) c 23 (nI 32)
set_option maxRecDepth 100000 in
set_option maxHeartbeats 4000000 in
theorem x12_l0 {R : Room} {mc ms : Nat} {n0 : Nat} {Q : List zDesc → zMem → Prop} {k kS : Nat} {S : List Value} {w : List zDesc} {M : zMem} {b c : Nat} (hw : w[c]? = some (.inl (2, 144))) (kk : zGn R mc ms mX12_init n0 Q k kS 192 [(0, .ref b)] (.ref c :: S) w (zltr0 M c)) : zGn R mc ms mX12_init n0 Q k kS 54 [(0, .ref b)] (.ref c :: S) w M := by
  refine zg_dup dX12_init_54 ?_
  refine zg_iconst dX12_init_55 (v := nI 0) (by decide) ?_
  refine zg_bipush dX12_init_56 (v := nI 104) (by decide) ?_
  refine zg_cast (j := 0) hw (by decide) (vp_in_nI (by decide) (by decide)) (by decide) dX12_init_58 ?_
  refine zg_dup dX12_init_59 ?_
  refine zg_iconst dX12_init_60 (v := nI 1) (by decide) ?_
  refine zg_bipush dX12_init_61 (v := nI 111) (by decide) ?_
  refine zg_cast (j := 1) hw (by decide) (vp_in_nI (by decide) (by decide)) (by decide) dX12_init_63 ?_
  refine zg_dup dX12_init_64 ?_
  refine zg_iconst dX12_init_65 (v := nI 2) (by decide) ?_
  refine zg_bipush dX12_init_66 (v := nI 117) (by decide) ?_
  refine zg_cast (j := 2) hw (by decide) (vp_in_nI (by decide) (by decide)) (by decide) dX12_init_68 ?_
  refine zg_dup dX12_init_69 ?_
  refine zg_iconst dX12_init_70 (v := nI 3) (by decide) ?_
  refine zg_bipush dX12_init_71 (v := nI 115) (by decide) ?_
  refine zg_cast (j := 3) hw (by decide) (vp_in_nI (by decide) (by decide)) (by decide) dX12_init_73 ?_
  refine zg_dup dX12_init_74 ?_
  refine zg_iconst dX12_init_75 (v := nI 4) (by decide) ?_
  refine zg_bipush dX12_init_76 (v := nI 101) (by decide) ?_
  refine zg_cast (j := 4) hw (by decide) (vp_in_nI (by decide) (by decide)) (by decide) dX12_init_78 ?_
  refine zg_dup dX12_init_79 ?_
  refine zg_iconst dX12_init_80 (v := nI 5) (by decide) ?_
  refine zg_bipush dX12_init_81 (v := nI 32) (by decide) ?_
  refine zg_cast (j := 5) hw (by decide) (vp_in_nI (by decide) (by decide)) (by decide) dX12_init_83 ?_
  refine zg_dup dX12_init_84 ?_
  refine zg_bipush dX12_init_85 (v := nI 6) (by decide) ?_
  refine zg_bipush dX12_init_87 (v := nI 32) (by decide) ?_
  refine zg_cast (j := 6) hw (by decide) (vp_in_nI (by decide) (by decide)) (by decide) dX12_init_89 ?_
  refine zg_dup dX12_init_90 ?_
  refine zg_bipush dX12_init_91 (v := nI 7) (by decide) ?_
  refine zg_bipush dX12_init_93 (v := nI 32) (by decide) ?_
  refine zg_cast (j := 7) hw (by decide) (vp_in_nI (by decide) (by decide)) (by decide) dX12_init_95 ?_
  refine zg_dup dX12_init_96 ?_
  refine zg_bipush dX12_init_97 (v := nI 8) (by decide) ?_
  refine zg_bipush dX12_init_99 (v := nI 98) (by decide) ?_
  refine zg_cast (j := 8) hw (by decide) (vp_in_nI (by decide) (by decide)) (by decide) dX12_init_101 ?_
  refine zg_dup dX12_init_102 ?_
  refine zg_bipush dX12_init_103 (v := nI 9) (by decide) ?_
  refine zg_bipush dX12_init_105 (v := nI 114) (by decide) ?_
  refine zg_cast (j := 9) hw (by decide) (vp_in_nI (by decide) (by decide)) (by decide) dX12_init_107 ?_
  refine zg_dup dX12_init_108 ?_
  refine zg_bipush dX12_init_109 (v := nI 10) (by decide) ?_
  refine zg_bipush dX12_init_111 (v := nI 105) (by decide) ?_
  refine zg_cast (j := 10) hw (by decide) (vp_in_nI (by decide) (by decide)) (by decide) dX12_init_113 ?_
  refine zg_dup dX12_init_114 ?_
  refine zg_bipush dX12_init_115 (v := nI 11) (by decide) ?_
  refine zg_bipush dX12_init_117 (v := nI 100) (by decide) ?_
  refine zg_cast (j := 11) hw (by decide) (vp_in_nI (by decide) (by decide)) (by decide) dX12_init_119 ?_
  refine zg_dup dX12_init_120 ?_
  refine zg_bipush dX12_init_121 (v := nI 12) (by decide) ?_
  refine zg_bipush dX12_init_123 (v := nI 101) (by decide) ?_
  refine zg_cast (j := 12) hw (by decide) (vp_in_nI (by decide) (by decide)) (by decide) dX12_init_125 ?_
  refine zg_dup dX12_init_126 ?_
  refine zg_bipush dX12_init_127 (v := nI 13) (by decide) ?_
  refine zg_bipush dX12_init_129 (v := nI 32) (by decide) ?_
  refine zg_cast (j := 13) hw (by decide) (vp_in_nI (by decide) (by decide)) (by decide) dX12_init_131 ?_
  refine zg_dup dX12_init_132 ?_
  refine zg_bipush dX12_init_133 (v := nI 14) (by decide) ?_
  refine zg_bipush dX12_init_135 (v := nI 32) (by decide) ?_
  refine zg_cast (j := 14) hw (by decide) (vp_in_nI (by decide) (by decide)) (by decide) dX12_init_137 ?_
  refine zg_dup dX12_init_138 ?_
  refine zg_bipush dX12_init_139 (v := nI 15) (by decide) ?_
  refine zg_bipush dX12_init_141 (v := nI 32) (by decide) ?_
  refine zg_cast (j := 15) hw (by decide) (vp_in_nI (by decide) (by decide)) (by decide) dX12_init_143 ?_
  refine zg_dup dX12_init_144 ?_
  refine zg_bipush dX12_init_145 (v := nI 16) (by decide) ?_
  refine zg_bipush dX12_init_147 (v := nI 115) (by decide) ?_
  refine zg_cast (j := 16) hw (by decide) (vp_in_nI (by decide) (by decide)) (by decide) dX12_init_149 ?_
  refine zg_dup dX12_init_150 ?_
  refine zg_bipush dX12_init_151 (v := nI 17) (by decide) ?_
  refine zg_bipush dX12_init_153 (v := nI 97) (by decide) ?_
  refine zg_cast (j := 17) hw (by decide) (vp_in_nI (by decide) (by decide)) (by decide) dX12_init_155 ?_
  refine zg_dup dX12_init_156 ?_
  refine zg_bipush dX12_init_157 (v := nI 18) (by decide) ?_
  refine zg_bipush dX12_init_159 (v := nI 100) (by decide) ?_
  refine zg_cast (j := 18) hw (by decide) (vp_in_nI (by decide) (by decide)) (by decide) dX12_init_161 ?_
  refine zg_dup dX12_init_162 ?_
  refine zg_bipush dX12_init_163 (v := nI 19) (by decide) ?_
  refine zg_bipush dX12_init_165 (v := nI 32) (by decide) ?_
  refine zg_cast (j := 19) hw (by decide) (vp_in_nI (by decide) (by decide)) (by decide) dX12_init_167 ?_
  refine zg_dup dX12_init_168 ?_
  refine zg_bipush dX12_init_169 (v := nI 20) (by decide) ?_
  refine zg_bipush dX12_init_171 (v := nI 32) (by decide) ?_
  refine zg_cast (j := 20) hw (by decide) (vp_in_nI (by decide) (by decide)) (by decide) dX12_init_173 ?_
  refine zg_dup dX12_init_174 ?_
  refine zg_bipush dX12_init_175 (v := nI 21) (by decide) ?_
  refine zg_bipush dX12_init_177 (v := nI 32) (by decide) ?_
  refine zg_cast (j := 21) hw (by decide) (vp_in_nI (by decide) (by decide)) (by decide) dX12_init_179 ?_
  refine zg_dup dX12_init_180 ?_
  refine zg_bipush dX12_init_181 (v := nI 22) (by decide) ?_
  refine zg_bipush dX12_init_183 (v := nI 32) (by decide) ?_
  refine zg_cast (j := 22) hw (by decide) (vp_in_nI (by decide) (by decide)) (by decide) dX12_init_185 ?_
  refine zg_dup dX12_init_186 ?_
  refine zg_bipush dX12_init_187 (v := nI 23) (by decide) ?_
  refine zg_bipush dX12_init_189 (v := nI 32) (by decide) ?_
  refine zg_cast (j := 23) hw (by decide) (vp_in_nI (by decide) (by decide)) (by decide) dX12_init_191 ?_
  exact kk
def zltr1 (M : zMem) (c : Nat) : zMem := zup (zup (zup (zup (zup (zup (zup (zup (zup (zup (zup (zup (zup (zup (zup (zup (zup (zup (zup (zup (zup (zup (zup (zup (M) c 24 (nI 116)) c 25 (nI 114)) c 26 (nI 111)) c 27 (nI 117)) c 28 (nI 98)) c 29 (nI 108)) c 30 (nI 101)) c 31 (nI 32)) c 32 (nI 102)) c 33 (nI 97)) c 34 (nI 114)) c 35 (nI 109)) c 36 (nI 32)) c 37 (nI 32)) c 38 (nI 32)) c 39 (nI 32)) c 40 (nI 108)) c 41 (nI 111)) c 42 (nI 118)) c 43 (nI 101)) c 44 (nI 108)) c 45 (nI 108)) c 46 (nI 32)) c 47 (nI 32)
set_option maxRecDepth 100000 in
set_option maxHeartbeats 4000000 in
theorem x12_l1 {R : Room} {mc ms : Nat} {n0 : Nat} {Q : List zDesc → zMem → Prop} {k kS : Nat} {S : List Value} {w : List zDesc} {M : zMem} {b c : Nat} (hw : w[c]? = some (.inl (2, 144))) (kk : zGn R mc ms mX12_init n0 Q k kS 336 [(0, .ref b)] (.ref c :: S) w (zltr1 M c)) : zGn R mc ms mX12_init n0 Q k kS 192 [(0, .ref b)] (.ref c :: S) w M := by
  refine zg_dup dX12_init_192 ?_
  refine zg_bipush dX12_init_193 (v := nI 24) (by decide) ?_
  refine zg_bipush dX12_init_195 (v := nI 116) (by decide) ?_
  refine zg_cast (j := 24) hw (by decide) (vp_in_nI (by decide) (by decide)) (by decide) dX12_init_197 ?_
  refine zg_dup dX12_init_198 ?_
  refine zg_bipush dX12_init_199 (v := nI 25) (by decide) ?_
  refine zg_bipush dX12_init_201 (v := nI 114) (by decide) ?_
  refine zg_cast (j := 25) hw (by decide) (vp_in_nI (by decide) (by decide)) (by decide) dX12_init_203 ?_
  refine zg_dup dX12_init_204 ?_
  refine zg_bipush dX12_init_205 (v := nI 26) (by decide) ?_
  refine zg_bipush dX12_init_207 (v := nI 111) (by decide) ?_
  refine zg_cast (j := 26) hw (by decide) (vp_in_nI (by decide) (by decide)) (by decide) dX12_init_209 ?_
  refine zg_dup dX12_init_210 ?_
  refine zg_bipush dX12_init_211 (v := nI 27) (by decide) ?_
  refine zg_bipush dX12_init_213 (v := nI 117) (by decide) ?_
  refine zg_cast (j := 27) hw (by decide) (vp_in_nI (by decide) (by decide)) (by decide) dX12_init_215 ?_
  refine zg_dup dX12_init_216 ?_
  refine zg_bipush dX12_init_217 (v := nI 28) (by decide) ?_
  refine zg_bipush dX12_init_219 (v := nI 98) (by decide) ?_
  refine zg_cast (j := 28) hw (by decide) (vp_in_nI (by decide) (by decide)) (by decide) dX12_init_221 ?_
  refine zg_dup dX12_init_222 ?_
  refine zg_bipush dX12_init_223 (v := nI 29) (by decide) ?_
  refine zg_bipush dX12_init_225 (v := nI 108) (by decide) ?_
  refine zg_cast (j := 29) hw (by decide) (vp_in_nI (by decide) (by decide)) (by decide) dX12_init_227 ?_
  refine zg_dup dX12_init_228 ?_
  refine zg_bipush dX12_init_229 (v := nI 30) (by decide) ?_
  refine zg_bipush dX12_init_231 (v := nI 101) (by decide) ?_
  refine zg_cast (j := 30) hw (by decide) (vp_in_nI (by decide) (by decide)) (by decide) dX12_init_233 ?_
  refine zg_dup dX12_init_234 ?_
  refine zg_bipush dX12_init_235 (v := nI 31) (by decide) ?_
  refine zg_bipush dX12_init_237 (v := nI 32) (by decide) ?_
  refine zg_cast (j := 31) hw (by decide) (vp_in_nI (by decide) (by decide)) (by decide) dX12_init_239 ?_
  refine zg_dup dX12_init_240 ?_
  refine zg_bipush dX12_init_241 (v := nI 32) (by decide) ?_
  refine zg_bipush dX12_init_243 (v := nI 102) (by decide) ?_
  refine zg_cast (j := 32) hw (by decide) (vp_in_nI (by decide) (by decide)) (by decide) dX12_init_245 ?_
  refine zg_dup dX12_init_246 ?_
  refine zg_bipush dX12_init_247 (v := nI 33) (by decide) ?_
  refine zg_bipush dX12_init_249 (v := nI 97) (by decide) ?_
  refine zg_cast (j := 33) hw (by decide) (vp_in_nI (by decide) (by decide)) (by decide) dX12_init_251 ?_
  refine zg_dup dX12_init_252 ?_
  refine zg_bipush dX12_init_253 (v := nI 34) (by decide) ?_
  refine zg_bipush dX12_init_255 (v := nI 114) (by decide) ?_
  refine zg_cast (j := 34) hw (by decide) (vp_in_nI (by decide) (by decide)) (by decide) dX12_init_257 ?_
  refine zg_dup dX12_init_258 ?_
  refine zg_bipush dX12_init_259 (v := nI 35) (by decide) ?_
  refine zg_bipush dX12_init_261 (v := nI 109) (by decide) ?_
  refine zg_cast (j := 35) hw (by decide) (vp_in_nI (by decide) (by decide)) (by decide) dX12_init_263 ?_
  refine zg_dup dX12_init_264 ?_
  refine zg_bipush dX12_init_265 (v := nI 36) (by decide) ?_
  refine zg_bipush dX12_init_267 (v := nI 32) (by decide) ?_
  refine zg_cast (j := 36) hw (by decide) (vp_in_nI (by decide) (by decide)) (by decide) dX12_init_269 ?_
  refine zg_dup dX12_init_270 ?_
  refine zg_bipush dX12_init_271 (v := nI 37) (by decide) ?_
  refine zg_bipush dX12_init_273 (v := nI 32) (by decide) ?_
  refine zg_cast (j := 37) hw (by decide) (vp_in_nI (by decide) (by decide)) (by decide) dX12_init_275 ?_
  refine zg_dup dX12_init_276 ?_
  refine zg_bipush dX12_init_277 (v := nI 38) (by decide) ?_
  refine zg_bipush dX12_init_279 (v := nI 32) (by decide) ?_
  refine zg_cast (j := 38) hw (by decide) (vp_in_nI (by decide) (by decide)) (by decide) dX12_init_281 ?_
  refine zg_dup dX12_init_282 ?_
  refine zg_bipush dX12_init_283 (v := nI 39) (by decide) ?_
  refine zg_bipush dX12_init_285 (v := nI 32) (by decide) ?_
  refine zg_cast (j := 39) hw (by decide) (vp_in_nI (by decide) (by decide)) (by decide) dX12_init_287 ?_
  refine zg_dup dX12_init_288 ?_
  refine zg_bipush dX12_init_289 (v := nI 40) (by decide) ?_
  refine zg_bipush dX12_init_291 (v := nI 108) (by decide) ?_
  refine zg_cast (j := 40) hw (by decide) (vp_in_nI (by decide) (by decide)) (by decide) dX12_init_293 ?_
  refine zg_dup dX12_init_294 ?_
  refine zg_bipush dX12_init_295 (v := nI 41) (by decide) ?_
  refine zg_bipush dX12_init_297 (v := nI 111) (by decide) ?_
  refine zg_cast (j := 41) hw (by decide) (vp_in_nI (by decide) (by decide)) (by decide) dX12_init_299 ?_
  refine zg_dup dX12_init_300 ?_
  refine zg_bipush dX12_init_301 (v := nI 42) (by decide) ?_
  refine zg_bipush dX12_init_303 (v := nI 118) (by decide) ?_
  refine zg_cast (j := 42) hw (by decide) (vp_in_nI (by decide) (by decide)) (by decide) dX12_init_305 ?_
  refine zg_dup dX12_init_306 ?_
  refine zg_bipush dX12_init_307 (v := nI 43) (by decide) ?_
  refine zg_bipush dX12_init_309 (v := nI 101) (by decide) ?_
  refine zg_cast (j := 43) hw (by decide) (vp_in_nI (by decide) (by decide)) (by decide) dX12_init_311 ?_
  refine zg_dup dX12_init_312 ?_
  refine zg_bipush dX12_init_313 (v := nI 44) (by decide) ?_
  refine zg_bipush dX12_init_315 (v := nI 108) (by decide) ?_
  refine zg_cast (j := 44) hw (by decide) (vp_in_nI (by decide) (by decide)) (by decide) dX12_init_317 ?_
  refine zg_dup dX12_init_318 ?_
  refine zg_bipush dX12_init_319 (v := nI 45) (by decide) ?_
  refine zg_bipush dX12_init_321 (v := nI 108) (by decide) ?_
  refine zg_cast (j := 45) hw (by decide) (vp_in_nI (by decide) (by decide)) (by decide) dX12_init_323 ?_
  refine zg_dup dX12_init_324 ?_
  refine zg_bipush dX12_init_325 (v := nI 46) (by decide) ?_
  refine zg_bipush dX12_init_327 (v := nI 32) (by decide) ?_
  refine zg_cast (j := 46) hw (by decide) (vp_in_nI (by decide) (by decide)) (by decide) dX12_init_329 ?_
  refine zg_dup dX12_init_330 ?_
  refine zg_bipush dX12_init_331 (v := nI 47) (by decide) ?_
  refine zg_bipush dX12_init_333 (v := nI 32) (by decide) ?_
  refine zg_cast (j := 47) hw (by decide) (vp_in_nI (by decide) (by decide)) (by decide) dX12_init_335 ?_
  exact kk
def zltr2 (M : zMem) (c : Nat) : zMem := zup (zup (zup (zup (zup (zup (zup (zup (zup (zup (zup (zup (zup (zup (zup (zup (zup (zup (zup (zup (zup (zup (zup (zup (M) c 48 (nI 103)) c 49 (nI 105)) c 50 (nI 118)) c 51 (nI 101)) c 52 (nI 32)) c 53 (nI 32)) c 54 (nI 32)) c 55 (nI 32)) c 56 (nI 104)) c 57 (nI 111)) c 58 (nI 108)) c 59 (nI 100)) c 60 (nI 32)) c 61 (nI 32)) c 62 (nI 32)) c 63 (nI 32)) c 64 (nI 115)) c 65 (nI 101)) c 66 (nI 110)) c 67 (nI 100)) c 68 (nI 32)) c 69 (nI 32)) c 70 (nI 32)) c 71 (nI 32)
set_option maxRecDepth 100000 in
set_option maxHeartbeats 4000000 in
theorem x12_l2 {R : Room} {mc ms : Nat} {n0 : Nat} {Q : List zDesc → zMem → Prop} {k kS : Nat} {S : List Value} {w : List zDesc} {M : zMem} {b c : Nat} (hw : w[c]? = some (.inl (2, 144))) (kk : zGn R mc ms mX12_init n0 Q k kS 480 [(0, .ref b)] (.ref c :: S) w (zltr2 M c)) : zGn R mc ms mX12_init n0 Q k kS 336 [(0, .ref b)] (.ref c :: S) w M := by
  refine zg_dup dX12_init_336 ?_
  refine zg_bipush dX12_init_337 (v := nI 48) (by decide) ?_
  refine zg_bipush dX12_init_339 (v := nI 103) (by decide) ?_
  refine zg_cast (j := 48) hw (by decide) (vp_in_nI (by decide) (by decide)) (by decide) dX12_init_341 ?_
  refine zg_dup dX12_init_342 ?_
  refine zg_bipush dX12_init_343 (v := nI 49) (by decide) ?_
  refine zg_bipush dX12_init_345 (v := nI 105) (by decide) ?_
  refine zg_cast (j := 49) hw (by decide) (vp_in_nI (by decide) (by decide)) (by decide) dX12_init_347 ?_
  refine zg_dup dX12_init_348 ?_
  refine zg_bipush dX12_init_349 (v := nI 50) (by decide) ?_
  refine zg_bipush dX12_init_351 (v := nI 118) (by decide) ?_
  refine zg_cast (j := 50) hw (by decide) (vp_in_nI (by decide) (by decide)) (by decide) dX12_init_353 ?_
  refine zg_dup dX12_init_354 ?_
  refine zg_bipush dX12_init_355 (v := nI 51) (by decide) ?_
  refine zg_bipush dX12_init_357 (v := nI 101) (by decide) ?_
  refine zg_cast (j := 51) hw (by decide) (vp_in_nI (by decide) (by decide)) (by decide) dX12_init_359 ?_
  refine zg_dup dX12_init_360 ?_
  refine zg_bipush dX12_init_361 (v := nI 52) (by decide) ?_
  refine zg_bipush dX12_init_363 (v := nI 32) (by decide) ?_
  refine zg_cast (j := 52) hw (by decide) (vp_in_nI (by decide) (by decide)) (by decide) dX12_init_365 ?_
  refine zg_dup dX12_init_366 ?_
  refine zg_bipush dX12_init_367 (v := nI 53) (by decide) ?_
  refine zg_bipush dX12_init_369 (v := nI 32) (by decide) ?_
  refine zg_cast (j := 53) hw (by decide) (vp_in_nI (by decide) (by decide)) (by decide) dX12_init_371 ?_
  refine zg_dup dX12_init_372 ?_
  refine zg_bipush dX12_init_373 (v := nI 54) (by decide) ?_
  refine zg_bipush dX12_init_375 (v := nI 32) (by decide) ?_
  refine zg_cast (j := 54) hw (by decide) (vp_in_nI (by decide) (by decide)) (by decide) dX12_init_377 ?_
  refine zg_dup dX12_init_378 ?_
  refine zg_bipush dX12_init_379 (v := nI 55) (by decide) ?_
  refine zg_bipush dX12_init_381 (v := nI 32) (by decide) ?_
  refine zg_cast (j := 55) hw (by decide) (vp_in_nI (by decide) (by decide)) (by decide) dX12_init_383 ?_
  refine zg_dup dX12_init_384 ?_
  refine zg_bipush dX12_init_385 (v := nI 56) (by decide) ?_
  refine zg_bipush dX12_init_387 (v := nI 104) (by decide) ?_
  refine zg_cast (j := 56) hw (by decide) (vp_in_nI (by decide) (by decide)) (by decide) dX12_init_389 ?_
  refine zg_dup dX12_init_390 ?_
  refine zg_bipush dX12_init_391 (v := nI 57) (by decide) ?_
  refine zg_bipush dX12_init_393 (v := nI 111) (by decide) ?_
  refine zg_cast (j := 57) hw (by decide) (vp_in_nI (by decide) (by decide)) (by decide) dX12_init_395 ?_
  refine zg_dup dX12_init_396 ?_
  refine zg_bipush dX12_init_397 (v := nI 58) (by decide) ?_
  refine zg_bipush dX12_init_399 (v := nI 108) (by decide) ?_
  refine zg_cast (j := 58) hw (by decide) (vp_in_nI (by decide) (by decide)) (by decide) dX12_init_401 ?_
  refine zg_dup dX12_init_402 ?_
  refine zg_bipush dX12_init_403 (v := nI 59) (by decide) ?_
  refine zg_bipush dX12_init_405 (v := nI 100) (by decide) ?_
  refine zg_cast (j := 59) hw (by decide) (vp_in_nI (by decide) (by decide)) (by decide) dX12_init_407 ?_
  refine zg_dup dX12_init_408 ?_
  refine zg_bipush dX12_init_409 (v := nI 60) (by decide) ?_
  refine zg_bipush dX12_init_411 (v := nI 32) (by decide) ?_
  refine zg_cast (j := 60) hw (by decide) (vp_in_nI (by decide) (by decide)) (by decide) dX12_init_413 ?_
  refine zg_dup dX12_init_414 ?_
  refine zg_bipush dX12_init_415 (v := nI 61) (by decide) ?_
  refine zg_bipush dX12_init_417 (v := nI 32) (by decide) ?_
  refine zg_cast (j := 61) hw (by decide) (vp_in_nI (by decide) (by decide)) (by decide) dX12_init_419 ?_
  refine zg_dup dX12_init_420 ?_
  refine zg_bipush dX12_init_421 (v := nI 62) (by decide) ?_
  refine zg_bipush dX12_init_423 (v := nI 32) (by decide) ?_
  refine zg_cast (j := 62) hw (by decide) (vp_in_nI (by decide) (by decide)) (by decide) dX12_init_425 ?_
  refine zg_dup dX12_init_426 ?_
  refine zg_bipush dX12_init_427 (v := nI 63) (by decide) ?_
  refine zg_bipush dX12_init_429 (v := nI 32) (by decide) ?_
  refine zg_cast (j := 63) hw (by decide) (vp_in_nI (by decide) (by decide)) (by decide) dX12_init_431 ?_
  refine zg_dup dX12_init_432 ?_
  refine zg_bipush dX12_init_433 (v := nI 64) (by decide) ?_
  refine zg_bipush dX12_init_435 (v := nI 115) (by decide) ?_
  refine zg_cast (j := 64) hw (by decide) (vp_in_nI (by decide) (by decide)) (by decide) dX12_init_437 ?_
  refine zg_dup dX12_init_438 ?_
  refine zg_bipush dX12_init_439 (v := nI 65) (by decide) ?_
  refine zg_bipush dX12_init_441 (v := nI 101) (by decide) ?_
  refine zg_cast (j := 65) hw (by decide) (vp_in_nI (by decide) (by decide)) (by decide) dX12_init_443 ?_
  refine zg_dup dX12_init_444 ?_
  refine zg_bipush dX12_init_445 (v := nI 66) (by decide) ?_
  refine zg_bipush dX12_init_447 (v := nI 110) (by decide) ?_
  refine zg_cast (j := 66) hw (by decide) (vp_in_nI (by decide) (by decide)) (by decide) dX12_init_449 ?_
  refine zg_dup dX12_init_450 ?_
  refine zg_bipush dX12_init_451 (v := nI 67) (by decide) ?_
  refine zg_bipush dX12_init_453 (v := nI 100) (by decide) ?_
  refine zg_cast (j := 67) hw (by decide) (vp_in_nI (by decide) (by decide)) (by decide) dX12_init_455 ?_
  refine zg_dup dX12_init_456 ?_
  refine zg_bipush dX12_init_457 (v := nI 68) (by decide) ?_
  refine zg_bipush dX12_init_459 (v := nI 32) (by decide) ?_
  refine zg_cast (j := 68) hw (by decide) (vp_in_nI (by decide) (by decide)) (by decide) dX12_init_461 ?_
  refine zg_dup dX12_init_462 ?_
  refine zg_bipush dX12_init_463 (v := nI 69) (by decide) ?_
  refine zg_bipush dX12_init_465 (v := nI 32) (by decide) ?_
  refine zg_cast (j := 69) hw (by decide) (vp_in_nI (by decide) (by decide)) (by decide) dX12_init_467 ?_
  refine zg_dup dX12_init_468 ?_
  refine zg_bipush dX12_init_469 (v := nI 70) (by decide) ?_
  refine zg_bipush dX12_init_471 (v := nI 32) (by decide) ?_
  refine zg_cast (j := 70) hw (by decide) (vp_in_nI (by decide) (by decide)) (by decide) dX12_init_473 ?_
  refine zg_dup dX12_init_474 ?_
  refine zg_bipush dX12_init_475 (v := nI 71) (by decide) ?_
  refine zg_bipush dX12_init_477 (v := nI 32) (by decide) ?_
  refine zg_cast (j := 71) hw (by decide) (vp_in_nI (by decide) (by decide)) (by decide) dX12_init_479 ?_
  exact kk
def zltr3 (M : zMem) (c : Nat) : zMem := zup (zup (zup (zup (zup (zup (zup (zup (zup (zup (zup (zup (zup (zup (zup (zup (zup (zup (zup (zup (zup (zup (zup (zup (M) c 72 (nI 105)) c 73 (nI 102)) c 74 (nI 32)) c 75 (nI 32)) c 76 (nI 32)) c 77 (nI 32)) c 78 (nI 32)) c 79 (nI 32)) c 80 (nI 110)) c 81 (nI 111)) c 82 (nI 116)) c 83 (nI 32)) c 84 (nI 32)) c 85 (nI 32)) c 86 (nI 32)) c 87 (nI 32)) c 88 (nI 97)) c 89 (nI 110)) c 90 (nI 100)) c 91 (nI 32)) c 92 (nI 32)) c 93 (nI 32)) c 94 (nI 32)) c 95 (nI 32)
set_option maxRecDepth 100000 in
set_option maxHeartbeats 4000000 in
theorem x12_l3 {R : Room} {mc ms : Nat} {n0 : Nat} {Q : List zDesc → zMem → Prop} {k kS : Nat} {S : List Value} {w : List zDesc} {M : zMem} {b c : Nat} (hw : w[c]? = some (.inl (2, 144))) (kk : zGn R mc ms mX12_init n0 Q k kS 624 [(0, .ref b)] (.ref c :: S) w (zltr3 M c)) : zGn R mc ms mX12_init n0 Q k kS 480 [(0, .ref b)] (.ref c :: S) w M := by
  refine zg_dup dX12_init_480 ?_
  refine zg_bipush dX12_init_481 (v := nI 72) (by decide) ?_
  refine zg_bipush dX12_init_483 (v := nI 105) (by decide) ?_
  refine zg_cast (j := 72) hw (by decide) (vp_in_nI (by decide) (by decide)) (by decide) dX12_init_485 ?_
  refine zg_dup dX12_init_486 ?_
  refine zg_bipush dX12_init_487 (v := nI 73) (by decide) ?_
  refine zg_bipush dX12_init_489 (v := nI 102) (by decide) ?_
  refine zg_cast (j := 73) hw (by decide) (vp_in_nI (by decide) (by decide)) (by decide) dX12_init_491 ?_
  refine zg_dup dX12_init_492 ?_
  refine zg_bipush dX12_init_493 (v := nI 74) (by decide) ?_
  refine zg_bipush dX12_init_495 (v := nI 32) (by decide) ?_
  refine zg_cast (j := 74) hw (by decide) (vp_in_nI (by decide) (by decide)) (by decide) dX12_init_497 ?_
  refine zg_dup dX12_init_498 ?_
  refine zg_bipush dX12_init_499 (v := nI 75) (by decide) ?_
  refine zg_bipush dX12_init_501 (v := nI 32) (by decide) ?_
  refine zg_cast (j := 75) hw (by decide) (vp_in_nI (by decide) (by decide)) (by decide) dX12_init_503 ?_
  refine zg_dup dX12_init_504 ?_
  refine zg_bipush dX12_init_505 (v := nI 76) (by decide) ?_
  refine zg_bipush dX12_init_507 (v := nI 32) (by decide) ?_
  refine zg_cast (j := 76) hw (by decide) (vp_in_nI (by decide) (by decide)) (by decide) dX12_init_509 ?_
  refine zg_dup dX12_init_510 ?_
  refine zg_bipush dX12_init_511 (v := nI 77) (by decide) ?_
  refine zg_bipush dX12_init_513 (v := nI 32) (by decide) ?_
  refine zg_cast (j := 77) hw (by decide) (vp_in_nI (by decide) (by decide)) (by decide) dX12_init_515 ?_
  refine zg_dup dX12_init_516 ?_
  refine zg_bipush dX12_init_517 (v := nI 78) (by decide) ?_
  refine zg_bipush dX12_init_519 (v := nI 32) (by decide) ?_
  refine zg_cast (j := 78) hw (by decide) (vp_in_nI (by decide) (by decide)) (by decide) dX12_init_521 ?_
  refine zg_dup dX12_init_522 ?_
  refine zg_bipush dX12_init_523 (v := nI 79) (by decide) ?_
  refine zg_bipush dX12_init_525 (v := nI 32) (by decide) ?_
  refine zg_cast (j := 79) hw (by decide) (vp_in_nI (by decide) (by decide)) (by decide) dX12_init_527 ?_
  refine zg_dup dX12_init_528 ?_
  refine zg_bipush dX12_init_529 (v := nI 80) (by decide) ?_
  refine zg_bipush dX12_init_531 (v := nI 110) (by decide) ?_
  refine zg_cast (j := 80) hw (by decide) (vp_in_nI (by decide) (by decide)) (by decide) dX12_init_533 ?_
  refine zg_dup dX12_init_534 ?_
  refine zg_bipush dX12_init_535 (v := nI 81) (by decide) ?_
  refine zg_bipush dX12_init_537 (v := nI 111) (by decide) ?_
  refine zg_cast (j := 81) hw (by decide) (vp_in_nI (by decide) (by decide)) (by decide) dX12_init_539 ?_
  refine zg_dup dX12_init_540 ?_
  refine zg_bipush dX12_init_541 (v := nI 82) (by decide) ?_
  refine zg_bipush dX12_init_543 (v := nI 116) (by decide) ?_
  refine zg_cast (j := 82) hw (by decide) (vp_in_nI (by decide) (by decide)) (by decide) dX12_init_545 ?_
  refine zg_dup dX12_init_546 ?_
  refine zg_bipush dX12_init_547 (v := nI 83) (by decide) ?_
  refine zg_bipush dX12_init_549 (v := nI 32) (by decide) ?_
  refine zg_cast (j := 83) hw (by decide) (vp_in_nI (by decide) (by decide)) (by decide) dX12_init_551 ?_
  refine zg_dup dX12_init_552 ?_
  refine zg_bipush dX12_init_553 (v := nI 84) (by decide) ?_
  refine zg_bipush dX12_init_555 (v := nI 32) (by decide) ?_
  refine zg_cast (j := 84) hw (by decide) (vp_in_nI (by decide) (by decide)) (by decide) dX12_init_557 ?_
  refine zg_dup dX12_init_558 ?_
  refine zg_bipush dX12_init_559 (v := nI 85) (by decide) ?_
  refine zg_bipush dX12_init_561 (v := nI 32) (by decide) ?_
  refine zg_cast (j := 85) hw (by decide) (vp_in_nI (by decide) (by decide)) (by decide) dX12_init_563 ?_
  refine zg_dup dX12_init_564 ?_
  refine zg_bipush dX12_init_565 (v := nI 86) (by decide) ?_
  refine zg_bipush dX12_init_567 (v := nI 32) (by decide) ?_
  refine zg_cast (j := 86) hw (by decide) (vp_in_nI (by decide) (by decide)) (by decide) dX12_init_569 ?_
  refine zg_dup dX12_init_570 ?_
  refine zg_bipush dX12_init_571 (v := nI 87) (by decide) ?_
  refine zg_bipush dX12_init_573 (v := nI 32) (by decide) ?_
  refine zg_cast (j := 87) hw (by decide) (vp_in_nI (by decide) (by decide)) (by decide) dX12_init_575 ?_
  refine zg_dup dX12_init_576 ?_
  refine zg_bipush dX12_init_577 (v := nI 88) (by decide) ?_
  refine zg_bipush dX12_init_579 (v := nI 97) (by decide) ?_
  refine zg_cast (j := 88) hw (by decide) (vp_in_nI (by decide) (by decide)) (by decide) dX12_init_581 ?_
  refine zg_dup dX12_init_582 ?_
  refine zg_bipush dX12_init_583 (v := nI 89) (by decide) ?_
  refine zg_bipush dX12_init_585 (v := nI 110) (by decide) ?_
  refine zg_cast (j := 89) hw (by decide) (vp_in_nI (by decide) (by decide)) (by decide) dX12_init_587 ?_
  refine zg_dup dX12_init_588 ?_
  refine zg_bipush dX12_init_589 (v := nI 90) (by decide) ?_
  refine zg_bipush dX12_init_591 (v := nI 100) (by decide) ?_
  refine zg_cast (j := 90) hw (by decide) (vp_in_nI (by decide) (by decide)) (by decide) dX12_init_593 ?_
  refine zg_dup dX12_init_594 ?_
  refine zg_bipush dX12_init_595 (v := nI 91) (by decide) ?_
  refine zg_bipush dX12_init_597 (v := nI 32) (by decide) ?_
  refine zg_cast (j := 91) hw (by decide) (vp_in_nI (by decide) (by decide)) (by decide) dX12_init_599 ?_
  refine zg_dup dX12_init_600 ?_
  refine zg_bipush dX12_init_601 (v := nI 92) (by decide) ?_
  refine zg_bipush dX12_init_603 (v := nI 32) (by decide) ?_
  refine zg_cast (j := 92) hw (by decide) (vp_in_nI (by decide) (by decide)) (by decide) dX12_init_605 ?_
  refine zg_dup dX12_init_606 ?_
  refine zg_bipush dX12_init_607 (v := nI 93) (by decide) ?_
  refine zg_bipush dX12_init_609 (v := nI 32) (by decide) ?_
  refine zg_cast (j := 93) hw (by decide) (vp_in_nI (by decide) (by decide)) (by decide) dX12_init_611 ?_
  refine zg_dup dX12_init_612 ?_
  refine zg_bipush dX12_init_613 (v := nI 94) (by decide) ?_
  refine zg_bipush dX12_init_615 (v := nI 32) (by decide) ?_
  refine zg_cast (j := 94) hw (by decide) (vp_in_nI (by decide) (by decide)) (by decide) dX12_init_617 ?_
  refine zg_dup dX12_init_618 ?_
  refine zg_bipush dX12_init_619 (v := nI 95) (by decide) ?_
  refine zg_bipush dX12_init_621 (v := nI 32) (by decide) ?_
  refine zg_cast (j := 95) hw (by decide) (vp_in_nI (by decide) (by decide)) (by decide) dX12_init_623 ?_
  exact kk
def zltr4 (M : zMem) (c : Nat) : zMem := zup (zup (zup (zup (zup (zup (zup (zup (zup (zup (zup (zup (zup (zup (zup (zup (zup (zup (zup (zup (zup (zup (zup (zup (M) c 96 (nI 111)) c 97 (nI 114)) c 98 (nI 32)) c 99 (nI 32)) c 100 (nI 32)) c 101 (nI 32)) c 102 (nI 32)) c 103 (nI 32)) c 104 (nI 110)) c 105 (nI 105)) c 106 (nI 103)) c 107 (nI 104)) c 108 (nI 116)) c 109 (nI 32)) c 110 (nI 32)) c 111 (nI 32)) c 112 (nI 103)) c 113 (nI 114)) c 114 (nI 105)) c 115 (nI 101)) c 116 (nI 102)) c 117 (nI 32)) c 118 (nI 32)) c 119 (nI 32)
set_option maxRecDepth 100000 in
set_option maxHeartbeats 4000000 in
theorem x12_l4 {R : Room} {mc ms : Nat} {n0 : Nat} {Q : List zDesc → zMem → Prop} {k kS : Nat} {S : List Value} {w : List zDesc} {M : zMem} {b c : Nat} (hw : w[c]? = some (.inl (2, 144))) (kk : zGn R mc ms mX12_init n0 Q k kS 768 [(0, .ref b)] (.ref c :: S) w (zltr4 M c)) : zGn R mc ms mX12_init n0 Q k kS 624 [(0, .ref b)] (.ref c :: S) w M := by
  refine zg_dup dX12_init_624 ?_
  refine zg_bipush dX12_init_625 (v := nI 96) (by decide) ?_
  refine zg_bipush dX12_init_627 (v := nI 111) (by decide) ?_
  refine zg_cast (j := 96) hw (by decide) (vp_in_nI (by decide) (by decide)) (by decide) dX12_init_629 ?_
  refine zg_dup dX12_init_630 ?_
  refine zg_bipush dX12_init_631 (v := nI 97) (by decide) ?_
  refine zg_bipush dX12_init_633 (v := nI 114) (by decide) ?_
  refine zg_cast (j := 97) hw (by decide) (vp_in_nI (by decide) (by decide)) (by decide) dX12_init_635 ?_
  refine zg_dup dX12_init_636 ?_
  refine zg_bipush dX12_init_637 (v := nI 98) (by decide) ?_
  refine zg_bipush dX12_init_639 (v := nI 32) (by decide) ?_
  refine zg_cast (j := 98) hw (by decide) (vp_in_nI (by decide) (by decide)) (by decide) dX12_init_641 ?_
  refine zg_dup dX12_init_642 ?_
  refine zg_bipush dX12_init_643 (v := nI 99) (by decide) ?_
  refine zg_bipush dX12_init_645 (v := nI 32) (by decide) ?_
  refine zg_cast (j := 99) hw (by decide) (vp_in_nI (by decide) (by decide)) (by decide) dX12_init_647 ?_
  refine zg_dup dX12_init_648 ?_
  refine zg_bipush dX12_init_649 (v := nI 100) (by decide) ?_
  refine zg_bipush dX12_init_651 (v := nI 32) (by decide) ?_
  refine zg_cast (j := 100) hw (by decide) (vp_in_nI (by decide) (by decide)) (by decide) dX12_init_653 ?_
  refine zg_dup dX12_init_654 ?_
  refine zg_bipush dX12_init_655 (v := nI 101) (by decide) ?_
  refine zg_bipush dX12_init_657 (v := nI 32) (by decide) ?_
  refine zg_cast (j := 101) hw (by decide) (vp_in_nI (by decide) (by decide)) (by decide) dX12_init_659 ?_
  refine zg_dup dX12_init_660 ?_
  refine zg_bipush dX12_init_661 (v := nI 102) (by decide) ?_
  refine zg_bipush dX12_init_663 (v := nI 32) (by decide) ?_
  refine zg_cast (j := 102) hw (by decide) (vp_in_nI (by decide) (by decide)) (by decide) dX12_init_665 ?_
  refine zg_dup dX12_init_666 ?_
  refine zg_bipush dX12_init_667 (v := nI 103) (by decide) ?_
  refine zg_bipush dX12_init_669 (v := nI 32) (by decide) ?_
  refine zg_cast (j := 103) hw (by decide) (vp_in_nI (by decide) (by decide)) (by decide) dX12_init_671 ?_
  refine zg_dup dX12_init_672 ?_
  refine zg_bipush dX12_init_673 (v := nI 104) (by decide) ?_
  refine zg_bipush dX12_init_675 (v := nI 110) (by decide) ?_
  refine zg_cast (j := 104) hw (by decide) (vp_in_nI (by decide) (by decide)) (by decide) dX12_init_677 ?_
  refine zg_dup dX12_init_678 ?_
  refine zg_bipush dX12_init_679 (v := nI 105) (by decide) ?_
  refine zg_bipush dX12_init_681 (v := nI 105) (by decide) ?_
  refine zg_cast (j := 105) hw (by decide) (vp_in_nI (by decide) (by decide)) (by decide) dX12_init_683 ?_
  refine zg_dup dX12_init_684 ?_
  refine zg_bipush dX12_init_685 (v := nI 106) (by decide) ?_
  refine zg_bipush dX12_init_687 (v := nI 103) (by decide) ?_
  refine zg_cast (j := 106) hw (by decide) (vp_in_nI (by decide) (by decide)) (by decide) dX12_init_689 ?_
  refine zg_dup dX12_init_690 ?_
  refine zg_bipush dX12_init_691 (v := nI 107) (by decide) ?_
  refine zg_bipush dX12_init_693 (v := nI 104) (by decide) ?_
  refine zg_cast (j := 107) hw (by decide) (vp_in_nI (by decide) (by decide)) (by decide) dX12_init_695 ?_
  refine zg_dup dX12_init_696 ?_
  refine zg_bipush dX12_init_697 (v := nI 108) (by decide) ?_
  refine zg_bipush dX12_init_699 (v := nI 116) (by decide) ?_
  refine zg_cast (j := 108) hw (by decide) (vp_in_nI (by decide) (by decide)) (by decide) dX12_init_701 ?_
  refine zg_dup dX12_init_702 ?_
  refine zg_bipush dX12_init_703 (v := nI 109) (by decide) ?_
  refine zg_bipush dX12_init_705 (v := nI 32) (by decide) ?_
  refine zg_cast (j := 109) hw (by decide) (vp_in_nI (by decide) (by decide)) (by decide) dX12_init_707 ?_
  refine zg_dup dX12_init_708 ?_
  refine zg_bipush dX12_init_709 (v := nI 110) (by decide) ?_
  refine zg_bipush dX12_init_711 (v := nI 32) (by decide) ?_
  refine zg_cast (j := 110) hw (by decide) (vp_in_nI (by decide) (by decide)) (by decide) dX12_init_713 ?_
  refine zg_dup dX12_init_714 ?_
  refine zg_bipush dX12_init_715 (v := nI 111) (by decide) ?_
  refine zg_bipush dX12_init_717 (v := nI 32) (by decide) ?_
  refine zg_cast (j := 111) hw (by decide) (vp_in_nI (by decide) (by decide)) (by decide) dX12_init_719 ?_
  refine zg_dup dX12_init_720 ?_
  refine zg_bipush dX12_init_721 (v := nI 112) (by decide) ?_
  refine zg_bipush dX12_init_723 (v := nI 103) (by decide) ?_
  refine zg_cast (j := 112) hw (by decide) (vp_in_nI (by decide) (by decide)) (by decide) dX12_init_725 ?_
  refine zg_dup dX12_init_726 ?_
  refine zg_bipush dX12_init_727 (v := nI 113) (by decide) ?_
  refine zg_bipush dX12_init_729 (v := nI 114) (by decide) ?_
  refine zg_cast (j := 113) hw (by decide) (vp_in_nI (by decide) (by decide)) (by decide) dX12_init_731 ?_
  refine zg_dup dX12_init_732 ?_
  refine zg_bipush dX12_init_733 (v := nI 114) (by decide) ?_
  refine zg_bipush dX12_init_735 (v := nI 105) (by decide) ?_
  refine zg_cast (j := 114) hw (by decide) (vp_in_nI (by decide) (by decide)) (by decide) dX12_init_737 ?_
  refine zg_dup dX12_init_738 ?_
  refine zg_bipush dX12_init_739 (v := nI 115) (by decide) ?_
  refine zg_bipush dX12_init_741 (v := nI 101) (by decide) ?_
  refine zg_cast (j := 115) hw (by decide) (vp_in_nI (by decide) (by decide)) (by decide) dX12_init_743 ?_
  refine zg_dup dX12_init_744 ?_
  refine zg_bipush dX12_init_745 (v := nI 116) (by decide) ?_
  refine zg_bipush dX12_init_747 (v := nI 102) (by decide) ?_
  refine zg_cast (j := 116) hw (by decide) (vp_in_nI (by decide) (by decide)) (by decide) dX12_init_749 ?_
  refine zg_dup dX12_init_750 ?_
  refine zg_bipush dX12_init_751 (v := nI 117) (by decide) ?_
  refine zg_bipush dX12_init_753 (v := nI 32) (by decide) ?_
  refine zg_cast (j := 117) hw (by decide) (vp_in_nI (by decide) (by decide)) (by decide) dX12_init_755 ?_
  refine zg_dup dX12_init_756 ?_
  refine zg_bipush dX12_init_757 (v := nI 118) (by decide) ?_
  refine zg_bipush dX12_init_759 (v := nI 32) (by decide) ?_
  refine zg_cast (j := 118) hw (by decide) (vp_in_nI (by decide) (by decide)) (by decide) dX12_init_761 ?_
  refine zg_dup dX12_init_762 ?_
  refine zg_bipush dX12_init_763 (v := nI 119) (by decide) ?_
  refine zg_bipush dX12_init_765 (v := nI 32) (by decide) ?_
  refine zg_cast (j := 119) hw (by decide) (vp_in_nI (by decide) (by decide)) (by decide) dX12_init_767 ?_
  exact kk
def zltr5 (M : zMem) (c : Nat) : zMem := zup (zup (zup (zup (zup (zup (zup (zup (zup (zup (zup (zup (zup (zup (zup (zup (zup (zup (zup (zup (zup (zup (zup (zup (M) c 120 (nI 100)) c 121 (nI 114)) c 122 (nI 97)) c 123 (nI 119)) c 124 (nI 115)) c 125 (nI 32)) c 126 (nI 32)) c 127 (nI 32)) c 128 (nI 114)) c 129 (nI 97)) c 130 (nI 105)) c 131 (nI 110)) c 132 (nI 32)) c 133 (nI 32)) c 134 (nI 32)) c 135 (nI 32)) c 136 (nI 110)) c 137 (nI 117)) c 138 (nI 109)) c 139 (nI 98)) c 140 (nI 101)) c 141 (nI 114)) c 142 (nI 32)) c 143 (nI 32)
set_option maxRecDepth 100000 in
set_option maxHeartbeats 4000000 in
theorem x12_l5 {R : Room} {mc ms : Nat} {n0 : Nat} {Q : List zDesc → zMem → Prop} {k kS : Nat} {S : List Value} {w : List zDesc} {M : zMem} {b c : Nat} (hw : w[c]? = some (.inl (2, 144))) (kk : zGn R mc ms mX12_init n0 Q k kS 928 [(0, .ref b)] (.ref c :: S) w (zltr5 M c)) : zGn R mc ms mX12_init n0 Q k kS 768 [(0, .ref b)] (.ref c :: S) w M := by
  refine zg_dup dX12_init_768 ?_
  refine zg_bipush dX12_init_769 (v := nI 120) (by decide) ?_
  refine zg_bipush dX12_init_771 (v := nI 100) (by decide) ?_
  refine zg_cast (j := 120) hw (by decide) (vp_in_nI (by decide) (by decide)) (by decide) dX12_init_773 ?_
  refine zg_dup dX12_init_774 ?_
  refine zg_bipush dX12_init_775 (v := nI 121) (by decide) ?_
  refine zg_bipush dX12_init_777 (v := nI 114) (by decide) ?_
  refine zg_cast (j := 121) hw (by decide) (vp_in_nI (by decide) (by decide)) (by decide) dX12_init_779 ?_
  refine zg_dup dX12_init_780 ?_
  refine zg_bipush dX12_init_781 (v := nI 122) (by decide) ?_
  refine zg_bipush dX12_init_783 (v := nI 97) (by decide) ?_
  refine zg_cast (j := 122) hw (by decide) (vp_in_nI (by decide) (by decide)) (by decide) dX12_init_785 ?_
  refine zg_dup dX12_init_786 ?_
  refine zg_bipush dX12_init_787 (v := nI 123) (by decide) ?_
  refine zg_bipush dX12_init_789 (v := nI 119) (by decide) ?_
  refine zg_cast (j := 123) hw (by decide) (vp_in_nI (by decide) (by decide)) (by decide) dX12_init_791 ?_
  refine zg_dup dX12_init_792 ?_
  refine zg_bipush dX12_init_793 (v := nI 124) (by decide) ?_
  refine zg_bipush dX12_init_795 (v := nI 115) (by decide) ?_
  refine zg_cast (j := 124) hw (by decide) (vp_in_nI (by decide) (by decide)) (by decide) dX12_init_797 ?_
  refine zg_dup dX12_init_798 ?_
  refine zg_bipush dX12_init_799 (v := nI 125) (by decide) ?_
  refine zg_bipush dX12_init_801 (v := nI 32) (by decide) ?_
  refine zg_cast (j := 125) hw (by decide) (vp_in_nI (by decide) (by decide)) (by decide) dX12_init_803 ?_
  refine zg_dup dX12_init_804 ?_
  refine zg_bipush dX12_init_805 (v := nI 126) (by decide) ?_
  refine zg_bipush dX12_init_807 (v := nI 32) (by decide) ?_
  refine zg_cast (j := 126) hw (by decide) (vp_in_nI (by decide) (by decide)) (by decide) dX12_init_809 ?_
  refine zg_dup dX12_init_810 ?_
  refine zg_bipush dX12_init_811 (v := nI 127) (by decide) ?_
  refine zg_bipush dX12_init_813 (v := nI 32) (by decide) ?_
  refine zg_cast (j := 127) hw (by decide) (vp_in_nI (by decide) (by decide)) (by decide) dX12_init_815 ?_
  refine zg_dup dX12_init_816 ?_
  refine zg_sipush dX12_init_817 (v := nI 128) (by decide) ?_
  refine zg_bipush dX12_init_820 (v := nI 114) (by decide) ?_
  refine zg_cast (j := 128) hw (by decide) (vp_in_nI (by decide) (by decide)) (by decide) dX12_init_822 ?_
  refine zg_dup dX12_init_823 ?_
  refine zg_sipush dX12_init_824 (v := nI 129) (by decide) ?_
  refine zg_bipush dX12_init_827 (v := nI 97) (by decide) ?_
  refine zg_cast (j := 129) hw (by decide) (vp_in_nI (by decide) (by decide)) (by decide) dX12_init_829 ?_
  refine zg_dup dX12_init_830 ?_
  refine zg_sipush dX12_init_831 (v := nI 130) (by decide) ?_
  refine zg_bipush dX12_init_834 (v := nI 105) (by decide) ?_
  refine zg_cast (j := 130) hw (by decide) (vp_in_nI (by decide) (by decide)) (by decide) dX12_init_836 ?_
  refine zg_dup dX12_init_837 ?_
  refine zg_sipush dX12_init_838 (v := nI 131) (by decide) ?_
  refine zg_bipush dX12_init_841 (v := nI 110) (by decide) ?_
  refine zg_cast (j := 131) hw (by decide) (vp_in_nI (by decide) (by decide)) (by decide) dX12_init_843 ?_
  refine zg_dup dX12_init_844 ?_
  refine zg_sipush dX12_init_845 (v := nI 132) (by decide) ?_
  refine zg_bipush dX12_init_848 (v := nI 32) (by decide) ?_
  refine zg_cast (j := 132) hw (by decide) (vp_in_nI (by decide) (by decide)) (by decide) dX12_init_850 ?_
  refine zg_dup dX12_init_851 ?_
  refine zg_sipush dX12_init_852 (v := nI 133) (by decide) ?_
  refine zg_bipush dX12_init_855 (v := nI 32) (by decide) ?_
  refine zg_cast (j := 133) hw (by decide) (vp_in_nI (by decide) (by decide)) (by decide) dX12_init_857 ?_
  refine zg_dup dX12_init_858 ?_
  refine zg_sipush dX12_init_859 (v := nI 134) (by decide) ?_
  refine zg_bipush dX12_init_862 (v := nI 32) (by decide) ?_
  refine zg_cast (j := 134) hw (by decide) (vp_in_nI (by decide) (by decide)) (by decide) dX12_init_864 ?_
  refine zg_dup dX12_init_865 ?_
  refine zg_sipush dX12_init_866 (v := nI 135) (by decide) ?_
  refine zg_bipush dX12_init_869 (v := nI 32) (by decide) ?_
  refine zg_cast (j := 135) hw (by decide) (vp_in_nI (by decide) (by decide)) (by decide) dX12_init_871 ?_
  refine zg_dup dX12_init_872 ?_
  refine zg_sipush dX12_init_873 (v := nI 136) (by decide) ?_
  refine zg_bipush dX12_init_876 (v := nI 110) (by decide) ?_
  refine zg_cast (j := 136) hw (by decide) (vp_in_nI (by decide) (by decide)) (by decide) dX12_init_878 ?_
  refine zg_dup dX12_init_879 ?_
  refine zg_sipush dX12_init_880 (v := nI 137) (by decide) ?_
  refine zg_bipush dX12_init_883 (v := nI 117) (by decide) ?_
  refine zg_cast (j := 137) hw (by decide) (vp_in_nI (by decide) (by decide)) (by decide) dX12_init_885 ?_
  refine zg_dup dX12_init_886 ?_
  refine zg_sipush dX12_init_887 (v := nI 138) (by decide) ?_
  refine zg_bipush dX12_init_890 (v := nI 109) (by decide) ?_
  refine zg_cast (j := 138) hw (by decide) (vp_in_nI (by decide) (by decide)) (by decide) dX12_init_892 ?_
  refine zg_dup dX12_init_893 ?_
  refine zg_sipush dX12_init_894 (v := nI 139) (by decide) ?_
  refine zg_bipush dX12_init_897 (v := nI 98) (by decide) ?_
  refine zg_cast (j := 139) hw (by decide) (vp_in_nI (by decide) (by decide)) (by decide) dX12_init_899 ?_
  refine zg_dup dX12_init_900 ?_
  refine zg_sipush dX12_init_901 (v := nI 140) (by decide) ?_
  refine zg_bipush dX12_init_904 (v := nI 101) (by decide) ?_
  refine zg_cast (j := 140) hw (by decide) (vp_in_nI (by decide) (by decide)) (by decide) dX12_init_906 ?_
  refine zg_dup dX12_init_907 ?_
  refine zg_sipush dX12_init_908 (v := nI 141) (by decide) ?_
  refine zg_bipush dX12_init_911 (v := nI 114) (by decide) ?_
  refine zg_cast (j := 141) hw (by decide) (vp_in_nI (by decide) (by decide)) (by decide) dX12_init_913 ?_
  refine zg_dup dX12_init_914 ?_
  refine zg_sipush dX12_init_915 (v := nI 142) (by decide) ?_
  refine zg_bipush dX12_init_918 (v := nI 32) (by decide) ?_
  refine zg_cast (j := 142) hw (by decide) (vp_in_nI (by decide) (by decide)) (by decide) dX12_init_920 ?_
  refine zg_dup dX12_init_921 ?_
  refine zg_sipush dX12_init_922 (v := nI 143) (by decide) ?_
  refine zg_bipush dX12_init_925 (v := nI 32) (by decide) ?_
  refine zg_cast (j := 143) hw (by decide) (vp_in_nI (by decide) (by decide)) (by decide) dX12_init_927 ?_
  exact kk
def zlE (M : zMem) (c : Nat) : zMem := zup (zup (zup (zup (zup (zup (zup (zup (zup (zup (zup (zup (zup (zup (zup (zup (zup (zup (zup (zup (zup (zup (zup (zup (zup (M) c 1 (nI 12)) c 4 (nI 26)) c 5 (nI 1)) c 10 (nI 4)) c 11 (nI 4)) c 12 (nI 4)) c 13 (nI 4)) c 14 (nI 4)) c 15 (nI 4)) c 16 (nI 4)) c 17 (nI 4)) c 18 (nI 4)) c 19 (nI 4)) c 20 (nI 4)) c 21 (nI 4)) c 22 (nI 4)) c 23 (nI 4)) c 24 (nI 4)) c 25 (nI 4)) c 32 (nI 6)) c 33 (nI 6)) c 34 (nI 6)) c 35 (nI 6)) c 36 (nI 6)) c 37 (nI 6)
set_option maxRecDepth 100000 in
set_option maxHeartbeats 4000000 in
theorem x12_end {R : Room} {mc ms : Nat} {n0 : Nat} {Q : List zDesc → zMem → Prop} {k kS : Nat} {w : List zDesc} {M : zMem} {b c : Nat} {ks : List Nat} (hb : w[b]? = some (.inr (.inr (12, ks)))) (hk : ks[0]? = some (c + 2)) (hw : w[c]? = some (.inl (0, 322))) (h1 : k ≤ mc) (h2 : kS ≤ ms) (kk : Q w (zlE M c)) : zGn R mc ms mX12_init n0 Q k kS 1072 [(0, .ref b)] [] w M := by
  refine zg_aload_n dX12_init_1072 (i := 0) rfl 0 rfl ?_
  refine zg_getR fd_X12_9_X12 rfl (t := c) hb hk dX12_init_1073 ?_
  refine zg_iconst dX12_init_1076 (v := nI 1) (by decide) ?_
  refine zg_bipush dX12_init_1077 (v := nI 12) (by decide) ?_
  refine zg_iast (j := 1) hw (by decide) (vp_in_nI (by decide) (by decide)) dX12_init_1079 ?_
  refine zg_aload_n dX12_init_1080 (i := 0) rfl 0 rfl ?_
  refine zg_getR fd_X12_9_X12 rfl (t := c) hb hk dX12_init_1081 ?_
  refine zg_iconst dX12_init_1084 (v := nI 4) (by decide) ?_
  refine zg_bipush dX12_init_1085 (v := nI 26) (by decide) ?_
  refine zg_iast (j := 4) hw (by decide) (vp_in_nI (by decide) (by decide)) dX12_init_1087 ?_
  refine zg_aload_n dX12_init_1088 (i := 0) rfl 0 rfl ?_
  refine zg_getR fd_X12_9_X12 rfl (t := c) hb hk dX12_init_1089 ?_
  refine zg_iconst dX12_init_1092 (v := nI 5) (by decide) ?_
  refine zg_iconst dX12_init_1093 (v := nI 1) (by decide) ?_
  refine zg_iast (j := 5) hw (by decide) (vp_in_nI (by decide) (by decide)) dX12_init_1094 ?_
  refine zg_iconst dX12_init_1095 (v := nI 0) (by decide) ?_
  refine zg_istore_n (L' := [(1, .int (nI 0)), (0, .ref b)]) dX12_init_1096 (i := 1) rfl (by decide) rfl ?_
  refine zg_iload_n dX12_init_1097 (i := 1) rfl 0 rfl ?_
  refine zg_bipush dX12_init_1098 (v := nI 16) (by decide) ?_
  refine zg_icmpge_f (a := 0) (b := 16) (tgt := 1119) (by decide) (by decide) (by decide) dX12_init_1100 (by decide) ?_
  refine zg_aload_n dX12_init_1103 (i := 0) rfl 1 rfl ?_
  refine zg_getR fd_X12_9_X12 rfl (t := c) hb hk dX12_init_1104 ?_
  refine zg_bipush dX12_init_1107 (v := nI 10) (by decide) ?_
  refine zg_iload_n dX12_init_1109 (i := 1) rfl 0 rfl ?_
  refine zg_iaddN (v := 10) dX12_init_1110 rfl ?_
  refine zg_iconst dX12_init_1111 (v := nI 4) (by decide) ?_
  refine zg_iast (j := 10) hw (by decide) (vp_in_nI (by decide) (by decide)) dX12_init_1112 ?_
  refine zg_iincN (L' := [(1, .int (nI 1)), (0, .ref b)]) (v := 1) dX12_init_1113 0 rfl (by decide) (by decide) rfl ?_
  refine zg_goto (tgt := 1097) dX12_init_1116 (by decide) ?_
  refine zg_iload_n dX12_init_1097 (i := 1) rfl 0 rfl ?_
  refine zg_bipush dX12_init_1098 (v := nI 16) (by decide) ?_
  refine zg_icmpge_f (a := 1) (b := 16) (tgt := 1119) (by decide) (by decide) (by decide) dX12_init_1100 (by decide) ?_
  refine zg_aload_n dX12_init_1103 (i := 0) rfl 1 rfl ?_
  refine zg_getR fd_X12_9_X12 rfl (t := c) hb hk dX12_init_1104 ?_
  refine zg_bipush dX12_init_1107 (v := nI 10) (by decide) ?_
  refine zg_iload_n dX12_init_1109 (i := 1) rfl 0 rfl ?_
  refine zg_iaddN (v := 11) dX12_init_1110 rfl ?_
  refine zg_iconst dX12_init_1111 (v := nI 4) (by decide) ?_
  refine zg_iast (j := 11) hw (by decide) (vp_in_nI (by decide) (by decide)) dX12_init_1112 ?_
  refine zg_iincN (L' := [(1, .int (nI 2)), (0, .ref b)]) (v := 2) dX12_init_1113 0 rfl (by decide) (by decide) rfl ?_
  refine zg_goto (tgt := 1097) dX12_init_1116 (by decide) ?_
  refine zg_iload_n dX12_init_1097 (i := 1) rfl 0 rfl ?_
  refine zg_bipush dX12_init_1098 (v := nI 16) (by decide) ?_
  refine zg_icmpge_f (a := 2) (b := 16) (tgt := 1119) (by decide) (by decide) (by decide) dX12_init_1100 (by decide) ?_
  refine zg_aload_n dX12_init_1103 (i := 0) rfl 1 rfl ?_
  refine zg_getR fd_X12_9_X12 rfl (t := c) hb hk dX12_init_1104 ?_
  refine zg_bipush dX12_init_1107 (v := nI 10) (by decide) ?_
  refine zg_iload_n dX12_init_1109 (i := 1) rfl 0 rfl ?_
  refine zg_iaddN (v := 12) dX12_init_1110 rfl ?_
  refine zg_iconst dX12_init_1111 (v := nI 4) (by decide) ?_
  refine zg_iast (j := 12) hw (by decide) (vp_in_nI (by decide) (by decide)) dX12_init_1112 ?_
  refine zg_iincN (L' := [(1, .int (nI 3)), (0, .ref b)]) (v := 3) dX12_init_1113 0 rfl (by decide) (by decide) rfl ?_
  refine zg_goto (tgt := 1097) dX12_init_1116 (by decide) ?_
  refine zg_iload_n dX12_init_1097 (i := 1) rfl 0 rfl ?_
  refine zg_bipush dX12_init_1098 (v := nI 16) (by decide) ?_
  refine zg_icmpge_f (a := 3) (b := 16) (tgt := 1119) (by decide) (by decide) (by decide) dX12_init_1100 (by decide) ?_
  refine zg_aload_n dX12_init_1103 (i := 0) rfl 1 rfl ?_
  refine zg_getR fd_X12_9_X12 rfl (t := c) hb hk dX12_init_1104 ?_
  refine zg_bipush dX12_init_1107 (v := nI 10) (by decide) ?_
  refine zg_iload_n dX12_init_1109 (i := 1) rfl 0 rfl ?_
  refine zg_iaddN (v := 13) dX12_init_1110 rfl ?_
  refine zg_iconst dX12_init_1111 (v := nI 4) (by decide) ?_
  refine zg_iast (j := 13) hw (by decide) (vp_in_nI (by decide) (by decide)) dX12_init_1112 ?_
  refine zg_iincN (L' := [(1, .int (nI 4)), (0, .ref b)]) (v := 4) dX12_init_1113 0 rfl (by decide) (by decide) rfl ?_
  refine zg_goto (tgt := 1097) dX12_init_1116 (by decide) ?_
  refine zg_iload_n dX12_init_1097 (i := 1) rfl 0 rfl ?_
  refine zg_bipush dX12_init_1098 (v := nI 16) (by decide) ?_
  refine zg_icmpge_f (a := 4) (b := 16) (tgt := 1119) (by decide) (by decide) (by decide) dX12_init_1100 (by decide) ?_
  refine zg_aload_n dX12_init_1103 (i := 0) rfl 1 rfl ?_
  refine zg_getR fd_X12_9_X12 rfl (t := c) hb hk dX12_init_1104 ?_
  refine zg_bipush dX12_init_1107 (v := nI 10) (by decide) ?_
  refine zg_iload_n dX12_init_1109 (i := 1) rfl 0 rfl ?_
  refine zg_iaddN (v := 14) dX12_init_1110 rfl ?_
  refine zg_iconst dX12_init_1111 (v := nI 4) (by decide) ?_
  refine zg_iast (j := 14) hw (by decide) (vp_in_nI (by decide) (by decide)) dX12_init_1112 ?_
  refine zg_iincN (L' := [(1, .int (nI 5)), (0, .ref b)]) (v := 5) dX12_init_1113 0 rfl (by decide) (by decide) rfl ?_
  refine zg_goto (tgt := 1097) dX12_init_1116 (by decide) ?_
  refine zg_iload_n dX12_init_1097 (i := 1) rfl 0 rfl ?_
  refine zg_bipush dX12_init_1098 (v := nI 16) (by decide) ?_
  refine zg_icmpge_f (a := 5) (b := 16) (tgt := 1119) (by decide) (by decide) (by decide) dX12_init_1100 (by decide) ?_
  refine zg_aload_n dX12_init_1103 (i := 0) rfl 1 rfl ?_
  refine zg_getR fd_X12_9_X12 rfl (t := c) hb hk dX12_init_1104 ?_
  refine zg_bipush dX12_init_1107 (v := nI 10) (by decide) ?_
  refine zg_iload_n dX12_init_1109 (i := 1) rfl 0 rfl ?_
  refine zg_iaddN (v := 15) dX12_init_1110 rfl ?_
  refine zg_iconst dX12_init_1111 (v := nI 4) (by decide) ?_
  refine zg_iast (j := 15) hw (by decide) (vp_in_nI (by decide) (by decide)) dX12_init_1112 ?_
  refine zg_iincN (L' := [(1, .int (nI 6)), (0, .ref b)]) (v := 6) dX12_init_1113 0 rfl (by decide) (by decide) rfl ?_
  refine zg_goto (tgt := 1097) dX12_init_1116 (by decide) ?_
  refine zg_iload_n dX12_init_1097 (i := 1) rfl 0 rfl ?_
  refine zg_bipush dX12_init_1098 (v := nI 16) (by decide) ?_
  refine zg_icmpge_f (a := 6) (b := 16) (tgt := 1119) (by decide) (by decide) (by decide) dX12_init_1100 (by decide) ?_
  refine zg_aload_n dX12_init_1103 (i := 0) rfl 1 rfl ?_
  refine zg_getR fd_X12_9_X12 rfl (t := c) hb hk dX12_init_1104 ?_
  refine zg_bipush dX12_init_1107 (v := nI 10) (by decide) ?_
  refine zg_iload_n dX12_init_1109 (i := 1) rfl 0 rfl ?_
  refine zg_iaddN (v := 16) dX12_init_1110 rfl ?_
  refine zg_iconst dX12_init_1111 (v := nI 4) (by decide) ?_
  refine zg_iast (j := 16) hw (by decide) (vp_in_nI (by decide) (by decide)) dX12_init_1112 ?_
  refine zg_iincN (L' := [(1, .int (nI 7)), (0, .ref b)]) (v := 7) dX12_init_1113 0 rfl (by decide) (by decide) rfl ?_
  refine zg_goto (tgt := 1097) dX12_init_1116 (by decide) ?_
  refine zg_iload_n dX12_init_1097 (i := 1) rfl 0 rfl ?_
  refine zg_bipush dX12_init_1098 (v := nI 16) (by decide) ?_
  refine zg_icmpge_f (a := 7) (b := 16) (tgt := 1119) (by decide) (by decide) (by decide) dX12_init_1100 (by decide) ?_
  refine zg_aload_n dX12_init_1103 (i := 0) rfl 1 rfl ?_
  refine zg_getR fd_X12_9_X12 rfl (t := c) hb hk dX12_init_1104 ?_
  refine zg_bipush dX12_init_1107 (v := nI 10) (by decide) ?_
  refine zg_iload_n dX12_init_1109 (i := 1) rfl 0 rfl ?_
  refine zg_iaddN (v := 17) dX12_init_1110 rfl ?_
  refine zg_iconst dX12_init_1111 (v := nI 4) (by decide) ?_
  refine zg_iast (j := 17) hw (by decide) (vp_in_nI (by decide) (by decide)) dX12_init_1112 ?_
  refine zg_iincN (L' := [(1, .int (nI 8)), (0, .ref b)]) (v := 8) dX12_init_1113 0 rfl (by decide) (by decide) rfl ?_
  refine zg_goto (tgt := 1097) dX12_init_1116 (by decide) ?_
  refine zg_iload_n dX12_init_1097 (i := 1) rfl 0 rfl ?_
  refine zg_bipush dX12_init_1098 (v := nI 16) (by decide) ?_
  refine zg_icmpge_f (a := 8) (b := 16) (tgt := 1119) (by decide) (by decide) (by decide) dX12_init_1100 (by decide) ?_
  refine zg_aload_n dX12_init_1103 (i := 0) rfl 1 rfl ?_
  refine zg_getR fd_X12_9_X12 rfl (t := c) hb hk dX12_init_1104 ?_
  refine zg_bipush dX12_init_1107 (v := nI 10) (by decide) ?_
  refine zg_iload_n dX12_init_1109 (i := 1) rfl 0 rfl ?_
  refine zg_iaddN (v := 18) dX12_init_1110 rfl ?_
  refine zg_iconst dX12_init_1111 (v := nI 4) (by decide) ?_
  refine zg_iast (j := 18) hw (by decide) (vp_in_nI (by decide) (by decide)) dX12_init_1112 ?_
  refine zg_iincN (L' := [(1, .int (nI 9)), (0, .ref b)]) (v := 9) dX12_init_1113 0 rfl (by decide) (by decide) rfl ?_
  refine zg_goto (tgt := 1097) dX12_init_1116 (by decide) ?_
  refine zg_iload_n dX12_init_1097 (i := 1) rfl 0 rfl ?_
  refine zg_bipush dX12_init_1098 (v := nI 16) (by decide) ?_
  refine zg_icmpge_f (a := 9) (b := 16) (tgt := 1119) (by decide) (by decide) (by decide) dX12_init_1100 (by decide) ?_
  refine zg_aload_n dX12_init_1103 (i := 0) rfl 1 rfl ?_
  refine zg_getR fd_X12_9_X12 rfl (t := c) hb hk dX12_init_1104 ?_
  refine zg_bipush dX12_init_1107 (v := nI 10) (by decide) ?_
  refine zg_iload_n dX12_init_1109 (i := 1) rfl 0 rfl ?_
  refine zg_iaddN (v := 19) dX12_init_1110 rfl ?_
  refine zg_iconst dX12_init_1111 (v := nI 4) (by decide) ?_
  refine zg_iast (j := 19) hw (by decide) (vp_in_nI (by decide) (by decide)) dX12_init_1112 ?_
  refine zg_iincN (L' := [(1, .int (nI 10)), (0, .ref b)]) (v := 10) dX12_init_1113 0 rfl (by decide) (by decide) rfl ?_
  refine zg_goto (tgt := 1097) dX12_init_1116 (by decide) ?_
  refine zg_iload_n dX12_init_1097 (i := 1) rfl 0 rfl ?_
  refine zg_bipush dX12_init_1098 (v := nI 16) (by decide) ?_
  refine zg_icmpge_f (a := 10) (b := 16) (tgt := 1119) (by decide) (by decide) (by decide) dX12_init_1100 (by decide) ?_
  refine zg_aload_n dX12_init_1103 (i := 0) rfl 1 rfl ?_
  refine zg_getR fd_X12_9_X12 rfl (t := c) hb hk dX12_init_1104 ?_
  refine zg_bipush dX12_init_1107 (v := nI 10) (by decide) ?_
  refine zg_iload_n dX12_init_1109 (i := 1) rfl 0 rfl ?_
  refine zg_iaddN (v := 20) dX12_init_1110 rfl ?_
  refine zg_iconst dX12_init_1111 (v := nI 4) (by decide) ?_
  refine zg_iast (j := 20) hw (by decide) (vp_in_nI (by decide) (by decide)) dX12_init_1112 ?_
  refine zg_iincN (L' := [(1, .int (nI 11)), (0, .ref b)]) (v := 11) dX12_init_1113 0 rfl (by decide) (by decide) rfl ?_
  refine zg_goto (tgt := 1097) dX12_init_1116 (by decide) ?_
  refine zg_iload_n dX12_init_1097 (i := 1) rfl 0 rfl ?_
  refine zg_bipush dX12_init_1098 (v := nI 16) (by decide) ?_
  refine zg_icmpge_f (a := 11) (b := 16) (tgt := 1119) (by decide) (by decide) (by decide) dX12_init_1100 (by decide) ?_
  refine zg_aload_n dX12_init_1103 (i := 0) rfl 1 rfl ?_
  refine zg_getR fd_X12_9_X12 rfl (t := c) hb hk dX12_init_1104 ?_
  refine zg_bipush dX12_init_1107 (v := nI 10) (by decide) ?_
  refine zg_iload_n dX12_init_1109 (i := 1) rfl 0 rfl ?_
  refine zg_iaddN (v := 21) dX12_init_1110 rfl ?_
  refine zg_iconst dX12_init_1111 (v := nI 4) (by decide) ?_
  refine zg_iast (j := 21) hw (by decide) (vp_in_nI (by decide) (by decide)) dX12_init_1112 ?_
  refine zg_iincN (L' := [(1, .int (nI 12)), (0, .ref b)]) (v := 12) dX12_init_1113 0 rfl (by decide) (by decide) rfl ?_
  refine zg_goto (tgt := 1097) dX12_init_1116 (by decide) ?_
  refine zg_iload_n dX12_init_1097 (i := 1) rfl 0 rfl ?_
  refine zg_bipush dX12_init_1098 (v := nI 16) (by decide) ?_
  refine zg_icmpge_f (a := 12) (b := 16) (tgt := 1119) (by decide) (by decide) (by decide) dX12_init_1100 (by decide) ?_
  refine zg_aload_n dX12_init_1103 (i := 0) rfl 1 rfl ?_
  refine zg_getR fd_X12_9_X12 rfl (t := c) hb hk dX12_init_1104 ?_
  refine zg_bipush dX12_init_1107 (v := nI 10) (by decide) ?_
  refine zg_iload_n dX12_init_1109 (i := 1) rfl 0 rfl ?_
  refine zg_iaddN (v := 22) dX12_init_1110 rfl ?_
  refine zg_iconst dX12_init_1111 (v := nI 4) (by decide) ?_
  refine zg_iast (j := 22) hw (by decide) (vp_in_nI (by decide) (by decide)) dX12_init_1112 ?_
  refine zg_iincN (L' := [(1, .int (nI 13)), (0, .ref b)]) (v := 13) dX12_init_1113 0 rfl (by decide) (by decide) rfl ?_
  refine zg_goto (tgt := 1097) dX12_init_1116 (by decide) ?_
  refine zg_iload_n dX12_init_1097 (i := 1) rfl 0 rfl ?_
  refine zg_bipush dX12_init_1098 (v := nI 16) (by decide) ?_
  refine zg_icmpge_f (a := 13) (b := 16) (tgt := 1119) (by decide) (by decide) (by decide) dX12_init_1100 (by decide) ?_
  refine zg_aload_n dX12_init_1103 (i := 0) rfl 1 rfl ?_
  refine zg_getR fd_X12_9_X12 rfl (t := c) hb hk dX12_init_1104 ?_
  refine zg_bipush dX12_init_1107 (v := nI 10) (by decide) ?_
  refine zg_iload_n dX12_init_1109 (i := 1) rfl 0 rfl ?_
  refine zg_iaddN (v := 23) dX12_init_1110 rfl ?_
  refine zg_iconst dX12_init_1111 (v := nI 4) (by decide) ?_
  refine zg_iast (j := 23) hw (by decide) (vp_in_nI (by decide) (by decide)) dX12_init_1112 ?_
  refine zg_iincN (L' := [(1, .int (nI 14)), (0, .ref b)]) (v := 14) dX12_init_1113 0 rfl (by decide) (by decide) rfl ?_
  refine zg_goto (tgt := 1097) dX12_init_1116 (by decide) ?_
  refine zg_iload_n dX12_init_1097 (i := 1) rfl 0 rfl ?_
  refine zg_bipush dX12_init_1098 (v := nI 16) (by decide) ?_
  refine zg_icmpge_f (a := 14) (b := 16) (tgt := 1119) (by decide) (by decide) (by decide) dX12_init_1100 (by decide) ?_
  refine zg_aload_n dX12_init_1103 (i := 0) rfl 1 rfl ?_
  refine zg_getR fd_X12_9_X12 rfl (t := c) hb hk dX12_init_1104 ?_
  refine zg_bipush dX12_init_1107 (v := nI 10) (by decide) ?_
  refine zg_iload_n dX12_init_1109 (i := 1) rfl 0 rfl ?_
  refine zg_iaddN (v := 24) dX12_init_1110 rfl ?_
  refine zg_iconst dX12_init_1111 (v := nI 4) (by decide) ?_
  refine zg_iast (j := 24) hw (by decide) (vp_in_nI (by decide) (by decide)) dX12_init_1112 ?_
  refine zg_iincN (L' := [(1, .int (nI 15)), (0, .ref b)]) (v := 15) dX12_init_1113 0 rfl (by decide) (by decide) rfl ?_
  refine zg_goto (tgt := 1097) dX12_init_1116 (by decide) ?_
  refine zg_iload_n dX12_init_1097 (i := 1) rfl 0 rfl ?_
  refine zg_bipush dX12_init_1098 (v := nI 16) (by decide) ?_
  refine zg_icmpge_f (a := 15) (b := 16) (tgt := 1119) (by decide) (by decide) (by decide) dX12_init_1100 (by decide) ?_
  refine zg_aload_n dX12_init_1103 (i := 0) rfl 1 rfl ?_
  refine zg_getR fd_X12_9_X12 rfl (t := c) hb hk dX12_init_1104 ?_
  refine zg_bipush dX12_init_1107 (v := nI 10) (by decide) ?_
  refine zg_iload_n dX12_init_1109 (i := 1) rfl 0 rfl ?_
  refine zg_iaddN (v := 25) dX12_init_1110 rfl ?_
  refine zg_iconst dX12_init_1111 (v := nI 4) (by decide) ?_
  refine zg_iast (j := 25) hw (by decide) (vp_in_nI (by decide) (by decide)) dX12_init_1112 ?_
  refine zg_iincN (L' := [(1, .int (nI 16)), (0, .ref b)]) (v := 16) dX12_init_1113 0 rfl (by decide) (by decide) rfl ?_
  refine zg_goto (tgt := 1097) dX12_init_1116 (by decide) ?_
  refine zg_iload_n dX12_init_1097 (i := 1) rfl 0 rfl ?_
  refine zg_bipush dX12_init_1098 (v := nI 16) (by decide) ?_
  refine zg_icmpge_t (a := 16) (b := 16) (tgt := 1119) (by decide) (by decide) (by decide) dX12_init_1100 (by decide) ?_
  refine zg_iconst dX12_init_1119 (v := nI 0) (by decide) ?_
  refine zg_istore_n (L' := [(1, .int (nI 0)), (0, .ref b)]) dX12_init_1120 (i := 1) rfl (by decide) rfl ?_
  refine zg_iload_n dX12_init_1121 (i := 1) rfl 0 rfl ?_
  refine zg_bipush dX12_init_1122 (v := nI 6) (by decide) ?_
  refine zg_icmpge_f (a := 0) (b := 6) (tgt := 1144) (by decide) (by decide) (by decide) dX12_init_1124 (by decide) ?_
  refine zg_aload_n dX12_init_1127 (i := 0) rfl 1 rfl ?_
  refine zg_getR fd_X12_9_X12 rfl (t := c) hb hk dX12_init_1128 ?_
  refine zg_bipush dX12_init_1131 (v := nI 32) (by decide) ?_
  refine zg_iload_n dX12_init_1133 (i := 1) rfl 0 rfl ?_
  refine zg_iaddN (v := 32) dX12_init_1134 rfl ?_
  refine zg_bipush dX12_init_1135 (v := nI 6) (by decide) ?_
  refine zg_iast (j := 32) hw (by decide) (vp_in_nI (by decide) (by decide)) dX12_init_1137 ?_
  refine zg_iincN (L' := [(1, .int (nI 1)), (0, .ref b)]) (v := 1) dX12_init_1138 0 rfl (by decide) (by decide) rfl ?_
  refine zg_goto (tgt := 1121) dX12_init_1141 (by decide) ?_
  refine zg_iload_n dX12_init_1121 (i := 1) rfl 0 rfl ?_
  refine zg_bipush dX12_init_1122 (v := nI 6) (by decide) ?_
  refine zg_icmpge_f (a := 1) (b := 6) (tgt := 1144) (by decide) (by decide) (by decide) dX12_init_1124 (by decide) ?_
  refine zg_aload_n dX12_init_1127 (i := 0) rfl 1 rfl ?_
  refine zg_getR fd_X12_9_X12 rfl (t := c) hb hk dX12_init_1128 ?_
  refine zg_bipush dX12_init_1131 (v := nI 32) (by decide) ?_
  refine zg_iload_n dX12_init_1133 (i := 1) rfl 0 rfl ?_
  refine zg_iaddN (v := 33) dX12_init_1134 rfl ?_
  refine zg_bipush dX12_init_1135 (v := nI 6) (by decide) ?_
  refine zg_iast (j := 33) hw (by decide) (vp_in_nI (by decide) (by decide)) dX12_init_1137 ?_
  refine zg_iincN (L' := [(1, .int (nI 2)), (0, .ref b)]) (v := 2) dX12_init_1138 0 rfl (by decide) (by decide) rfl ?_
  refine zg_goto (tgt := 1121) dX12_init_1141 (by decide) ?_
  refine zg_iload_n dX12_init_1121 (i := 1) rfl 0 rfl ?_
  refine zg_bipush dX12_init_1122 (v := nI 6) (by decide) ?_
  refine zg_icmpge_f (a := 2) (b := 6) (tgt := 1144) (by decide) (by decide) (by decide) dX12_init_1124 (by decide) ?_
  refine zg_aload_n dX12_init_1127 (i := 0) rfl 1 rfl ?_
  refine zg_getR fd_X12_9_X12 rfl (t := c) hb hk dX12_init_1128 ?_
  refine zg_bipush dX12_init_1131 (v := nI 32) (by decide) ?_
  refine zg_iload_n dX12_init_1133 (i := 1) rfl 0 rfl ?_
  refine zg_iaddN (v := 34) dX12_init_1134 rfl ?_
  refine zg_bipush dX12_init_1135 (v := nI 6) (by decide) ?_
  refine zg_iast (j := 34) hw (by decide) (vp_in_nI (by decide) (by decide)) dX12_init_1137 ?_
  refine zg_iincN (L' := [(1, .int (nI 3)), (0, .ref b)]) (v := 3) dX12_init_1138 0 rfl (by decide) (by decide) rfl ?_
  refine zg_goto (tgt := 1121) dX12_init_1141 (by decide) ?_
  refine zg_iload_n dX12_init_1121 (i := 1) rfl 0 rfl ?_
  refine zg_bipush dX12_init_1122 (v := nI 6) (by decide) ?_
  refine zg_icmpge_f (a := 3) (b := 6) (tgt := 1144) (by decide) (by decide) (by decide) dX12_init_1124 (by decide) ?_
  refine zg_aload_n dX12_init_1127 (i := 0) rfl 1 rfl ?_
  refine zg_getR fd_X12_9_X12 rfl (t := c) hb hk dX12_init_1128 ?_
  refine zg_bipush dX12_init_1131 (v := nI 32) (by decide) ?_
  refine zg_iload_n dX12_init_1133 (i := 1) rfl 0 rfl ?_
  refine zg_iaddN (v := 35) dX12_init_1134 rfl ?_
  refine zg_bipush dX12_init_1135 (v := nI 6) (by decide) ?_
  refine zg_iast (j := 35) hw (by decide) (vp_in_nI (by decide) (by decide)) dX12_init_1137 ?_
  refine zg_iincN (L' := [(1, .int (nI 4)), (0, .ref b)]) (v := 4) dX12_init_1138 0 rfl (by decide) (by decide) rfl ?_
  refine zg_goto (tgt := 1121) dX12_init_1141 (by decide) ?_
  refine zg_iload_n dX12_init_1121 (i := 1) rfl 0 rfl ?_
  refine zg_bipush dX12_init_1122 (v := nI 6) (by decide) ?_
  refine zg_icmpge_f (a := 4) (b := 6) (tgt := 1144) (by decide) (by decide) (by decide) dX12_init_1124 (by decide) ?_
  refine zg_aload_n dX12_init_1127 (i := 0) rfl 1 rfl ?_
  refine zg_getR fd_X12_9_X12 rfl (t := c) hb hk dX12_init_1128 ?_
  refine zg_bipush dX12_init_1131 (v := nI 32) (by decide) ?_
  refine zg_iload_n dX12_init_1133 (i := 1) rfl 0 rfl ?_
  refine zg_iaddN (v := 36) dX12_init_1134 rfl ?_
  refine zg_bipush dX12_init_1135 (v := nI 6) (by decide) ?_
  refine zg_iast (j := 36) hw (by decide) (vp_in_nI (by decide) (by decide)) dX12_init_1137 ?_
  refine zg_iincN (L' := [(1, .int (nI 5)), (0, .ref b)]) (v := 5) dX12_init_1138 0 rfl (by decide) (by decide) rfl ?_
  refine zg_goto (tgt := 1121) dX12_init_1141 (by decide) ?_
  refine zg_iload_n dX12_init_1121 (i := 1) rfl 0 rfl ?_
  refine zg_bipush dX12_init_1122 (v := nI 6) (by decide) ?_
  refine zg_icmpge_f (a := 5) (b := 6) (tgt := 1144) (by decide) (by decide) (by decide) dX12_init_1124 (by decide) ?_
  refine zg_aload_n dX12_init_1127 (i := 0) rfl 1 rfl ?_
  refine zg_getR fd_X12_9_X12 rfl (t := c) hb hk dX12_init_1128 ?_
  refine zg_bipush dX12_init_1131 (v := nI 32) (by decide) ?_
  refine zg_iload_n dX12_init_1133 (i := 1) rfl 0 rfl ?_
  refine zg_iaddN (v := 37) dX12_init_1134 rfl ?_
  refine zg_bipush dX12_init_1135 (v := nI 6) (by decide) ?_
  refine zg_iast (j := 37) hw (by decide) (vp_in_nI (by decide) (by decide)) dX12_init_1137 ?_
  refine zg_iincN (L' := [(1, .int (nI 6)), (0, .ref b)]) (v := 6) dX12_init_1138 0 rfl (by decide) (by decide) rfl ?_
  refine zg_goto (tgt := 1121) dX12_init_1141 (by decide) ?_
  refine zg_iload_n dX12_init_1121 (i := 1) rfl 0 rfl ?_
  refine zg_bipush dX12_init_1122 (v := nI 6) (by decide) ?_
  refine zg_icmpge_t (a := 6) (b := 6) (tgt := 1144) (by decide) (by decide) (by decide) dX12_init_1124 (by decide) ?_
  exact zg_ret rfl dX12_init_1144 h1 h2 kk
def zM12 (M : zMem) (b n : Nat) : zMem := zlE (zup (zup (zup (zup (zup (zup (zup (zup (zltr5 (zltr4 (zltr3 (zltr2 (zltr1 (zltr0 (M) (n + 5)) (n + 5)) (n + 5)) (n + 5)) (n + 5)) (n + 5)) (n + 14) 0 (-1)) (n + 14) 1 (-1)) (n + 14) 2 (-1)) (n + 14) 3 (-1)) (n + 17) 0 (-1)) (n + 17) 1 (-1)) (n + 17) 2 (-1)) (n + 17) 3 (-1)) (n + 0)
set_option maxRecDepth 100000 in
set_option maxHeartbeats 4000000 in
theorem ok_X12_init_X12 {w : List zDesc} {b n : Nat} {M : zMem} (hb : w[b]? = some (.inr (.inr (12, [1, 1, 1, 0, 1, 1, 0, 1, 0, 0, 0, 0, 0, 0, 1, 1, 0, 0, 1, 1, 1, 0, 0, 0, 0, 1, 1, 0, 1, 0, 1, 1, 1, 1, 1, 1, 0, 0, 0])))) (hn : w.length = n) (hl : n + 20 ≤ 1000) : zKo (zRk 1 20 2114) 20 2114 mX12_init [.ref b] w M (fun w' M' => w' = zNF w b (.inr (.inr (12, [n + 0 + 2, n + 1 + 2, n + 2 + 2, 0, n + 3 + 2, n + 4 + 2, 0, n + 5 + 2, 0, 0, 0, 0, 0, 0, n + 6 + 2, n + 7 + 2, 0, 0, n + 8 + 2, n + 9 + 2, n + 10 + 2, 0, 0, 0, 0, n + 11 + 2, n + 12 + 2, 0, n + 13 + 2, 0, n + 14 + 2, n + 15 + 2, n + 16 + 2, n + 17 + 2, n + 18 + 2, n + 19 + 2, 0, 0, 0]))) [.inl (0, 322), .inl (0, 322), .inl (0, 74), .inl (0, 200), .inl (0, 200), .inl (2, 144), .inl (0, 200), .inl (0, 24), .inl (0, 370), .inl (0, 4), .inl (0, 4), .inl (0, 16), .inl (0, 16), .inl (0, 12), .inl (0, 4), .inl (0, 4), .inl (0, 160), .inl (0, 4), .inl (0, 4), .inl (0, 30)] ∧ M' = (zM12 M b n)) := by
  subst hn
  have hbl : b < w.length := (List.getElem?_eq_some_iff.mp hb).1
  refine zKo_of (by decide +kernel) (fun _ => Nat.le_of_ble_eq_true rfl) (L0 := [(0, .ref b)]) rfl ?_
  refine zg_w (zNF_0 hb) ?_
  refine zg_aload_n dX12_init_0 (i := 0) rfl 0 rfl ?_
  refine zg_objInit lo_X12_1 zo_im zo_code dX12_init_1 (by decide) (by decide) ?_
  refine zg_aload_n dX12_init_4 (i := 0) rfl 0 rfl ?_
  refine zg_sipush dX12_init_5 (v := nI 322) (by decide) ?_
  refine gm_newaI (j := 0) (N' := 322) hbl rfl za_int dX12_init_8 (by decide) (by decide) (by decide) (by decide) (by decide) (zl1 (by omega)) (zsR (by omega) zs0) (by omega) ?_
  refine zg_w (show _ = zNF w b (.inr (.inr (12, [1, 1, 1, 0, 1, 1, 0, 1, 0, 0, 0, 0, 0, 0, 1, 1, 0, 0, 1, 1, 1, 0, 0, 0, 0, 1, 1, 0, 1, 0, 1, 1, 1, 1, 1, 1, 0, 0, 0]))) [.inl (0, 322)] from rfl) ?_
  refine gm_putF (j := 1) hbl rfl fd_X12_9_X12 fpq_X12 rfl rfl rfl rfl rfl (by omega) (fun _ => ⟨rfl, rfl⟩) dX12_init_10 ?_
  refine zg_aload_n dX12_init_13 (i := 0) rfl 0 rfl ?_
  refine zg_sipush dX12_init_14 (v := nI 322) (by decide) ?_
  refine gm_newaI (j := 1) (N' := 322) hbl rfl za_int dX12_init_17 (by decide) (by decide) (by decide) (by decide) (by decide) (zl1 (by omega)) (zsR (by omega) zs0) (by omega) ?_
  refine zg_w (show _ = zNF w b (.inr (.inr (12, [w.length + 0 + 2, 1, 1, 0, 1, 1, 0, 1, 0, 0, 0, 0, 0, 0, 1, 1, 0, 0, 1, 1, 1, 0, 0, 0, 0, 1, 1, 0, 1, 0, 1, 1, 1, 1, 1, 1, 0, 0, 0]))) [.inl (0, 322), .inl (0, 322)] from rfl) ?_
  refine gm_putF (j := 2) hbl rfl fd_X12_13_X12 fpq_X12 rfl rfl rfl rfl rfl (by omega) (fun _ => ⟨rfl, rfl⟩) dX12_init_19 ?_
  refine zg_aload_n dX12_init_22 (i := 0) rfl 0 rfl ?_
  refine zg_bipush dX12_init_23 (v := nI 74) (by decide) ?_
  refine gm_newaI (j := 2) (N' := 74) hbl rfl za_int dX12_init_25 (by decide) (by decide) (by decide) (by decide) (by decide) (zl1 (by omega)) (zsR (by omega) zs0) (by omega) ?_
  refine zg_w (show _ = zNF w b (.inr (.inr (12, [w.length + 0 + 2, w.length + 1 + 2, 1, 0, 1, 1, 0, 1, 0, 0, 0, 0, 0, 0, 1, 1, 0, 0, 1, 1, 1, 0, 0, 0, 0, 1, 1, 0, 1, 0, 1, 1, 1, 1, 1, 1, 0, 0, 0]))) [.inl (0, 322), .inl (0, 322), .inl (0, 74)] from rfl) ?_
  refine gm_putF (j := 3) hbl rfl fd_X12_16_X12 fpq_X12 rfl rfl rfl rfl rfl (by omega) (fun _ => ⟨rfl, rfl⟩) dX12_init_27 ?_
  refine zg_aload_n dX12_init_30 (i := 0) rfl 0 rfl ?_
  refine zg_sipush dX12_init_31 (v := nI 200) (by decide) ?_
  refine gm_newaI (j := 3) (N' := 200) hbl rfl za_int dX12_init_34 (by decide) (by decide) (by decide) (by decide) (by decide) (zl1 (by omega)) (zsR (by omega) zs0) (by omega) ?_
  refine zg_w (show _ = zNF w b (.inr (.inr (12, [w.length + 0 + 2, w.length + 1 + 2, w.length + 2 + 2, 0, 1, 1, 0, 1, 0, 0, 0, 0, 0, 0, 1, 1, 0, 0, 1, 1, 1, 0, 0, 0, 0, 1, 1, 0, 1, 0, 1, 1, 1, 1, 1, 1, 0, 0, 0]))) [.inl (0, 322), .inl (0, 322), .inl (0, 74), .inl (0, 200)] from rfl) ?_
  refine gm_putF (j := 4) hbl rfl fd_X12_19_X12 fpq_X12 rfl rfl rfl rfl rfl (by omega) (fun _ => ⟨rfl, rfl⟩) dX12_init_36 ?_
  refine zg_aload_n dX12_init_39 (i := 0) rfl 0 rfl ?_
  refine zg_sipush dX12_init_40 (v := nI 200) (by decide) ?_
  refine gm_newaI (j := 4) (N' := 200) hbl rfl za_int dX12_init_43 (by decide) (by decide) (by decide) (by decide) (by decide) (zl1 (by omega)) (zsR (by omega) zs0) (by omega) ?_
  refine zg_w (show _ = zNF w b (.inr (.inr (12, [w.length + 0 + 2, w.length + 1 + 2, w.length + 2 + 2, 0, w.length + 3 + 2, 1, 0, 1, 0, 0, 0, 0, 0, 0, 1, 1, 0, 0, 1, 1, 1, 0, 0, 0, 0, 1, 1, 0, 1, 0, 1, 1, 1, 1, 1, 1, 0, 0, 0]))) [.inl (0, 322), .inl (0, 322), .inl (0, 74), .inl (0, 200), .inl (0, 200)] from rfl) ?_
  refine gm_putF (j := 5) hbl rfl fd_X12_22_X12 fpq_X12 rfl rfl rfl rfl rfl (by omega) (fun _ => ⟨rfl, rfl⟩) dX12_init_45 ?_
  refine zg_aload_n dX12_init_48 (i := 0) rfl 0 rfl ?_
  refine zg_sipush dX12_init_49 (v := nI 144) (by decide) ?_
  refine gm_newaC (j := 5) (N' := 144) hbl rfl za_char dX12_init_52 (by decide) (by decide) (by decide) (by decide) (by decide) (zl1 (by omega)) (zsR (by omega) zs0) (by omega) ?_
  refine zg_w (show _ = zNF w b (.inr (.inr (12, [w.length + 0 + 2, w.length + 1 + 2, w.length + 2 + 2, 0, w.length + 3 + 2, w.length + 4 + 2, 0, 1, 0, 0, 0, 0, 0, 0, 1, 1, 0, 0, 1, 1, 1, 0, 0, 0, 0, 1, 1, 0, 1, 0, 1, 1, 1, 1, 1, 1, 0, 0, 0]))) [.inl (0, 322), .inl (0, 322), .inl (0, 74), .inl (0, 200), .inl (0, 200), .inl (2, 144)] from rfl) ?_
  refine x12_l0 (zNF_n (j := 5) hbl rfl) ?_
  refine x12_l1 (zNF_n (j := 5) hbl rfl) ?_
  refine x12_l2 (zNF_n (j := 5) hbl rfl) ?_
  refine x12_l3 (zNF_n (j := 5) hbl rfl) ?_
  refine x12_l4 (zNF_n (j := 5) hbl rfl) ?_
  refine x12_l5 (zNF_n (j := 5) hbl rfl) ?_
  refine gm_putF (j := 6) hbl rfl fd_X12_25_X12 fpq_X12 rfl rfl rfl rfl rfl (by omega) (fun _ => ⟨rfl, rfl⟩) dX12_init_928 ?_
  refine zg_aload_n dX12_init_931 (i := 0) rfl 0 rfl ?_
  refine zg_sipush dX12_init_932 (v := nI 200) (by decide) ?_
  refine gm_newaI (j := 6) (N' := 200) hbl rfl za_int dX12_init_935 (by decide) (by decide) (by decide) (by decide) (by decide) (zl1 (by omega)) (zsR (by omega) zs0) (by omega) ?_
  refine zg_w (show _ = zNF w b (.inr (.inr (12, [w.length + 0 + 2, w.length + 1 + 2, w.length + 2 + 2, 0, w.length + 3 + 2, w.length + 4 + 2, 0, w.length + 5 + 2, 0, 0, 0, 0, 0, 0, 1, 1, 0, 0, 1, 1, 1, 0, 0, 0, 0, 1, 1, 0, 1, 0, 1, 1, 1, 1, 1, 1, 0, 0, 0]))) [.inl (0, 322), .inl (0, 322), .inl (0, 74), .inl (0, 200), .inl (0, 200), .inl (2, 144), .inl (0, 200)] from rfl) ?_
  refine gm_putF (j := 7) hbl rfl fd_X12_29_X12 fpq_X12 rfl rfl rfl rfl rfl (by omega) (fun _ => ⟨rfl, rfl⟩) dX12_init_937 ?_
  refine zg_aload_n dX12_init_940 (i := 0) rfl 0 rfl ?_
  refine zg_bipush dX12_init_941 (v := nI 24) (by decide) ?_
  refine gm_newaI (j := 7) (N' := 24) hbl rfl za_int dX12_init_943 (by decide) (by decide) (by decide) (by decide) (by decide) (zl1 (by omega)) (zsR (by omega) zs0) (by omega) ?_
  refine zg_w (show _ = zNF w b (.inr (.inr (12, [w.length + 0 + 2, w.length + 1 + 2, w.length + 2 + 2, 0, w.length + 3 + 2, w.length + 4 + 2, 0, w.length + 5 + 2, 0, 0, 0, 0, 0, 0, w.length + 6 + 2, 1, 0, 0, 1, 1, 1, 0, 0, 0, 0, 1, 1, 0, 1, 0, 1, 1, 1, 1, 1, 1, 0, 0, 0]))) [.inl (0, 322), .inl (0, 322), .inl (0, 74), .inl (0, 200), .inl (0, 200), .inl (2, 144), .inl (0, 200), .inl (0, 24)] from rfl) ?_
  refine gm_putF (j := 8) hbl rfl fd_X12_32_X12 fpq_X12 rfl rfl rfl rfl rfl (by omega) (fun _ => ⟨rfl, rfl⟩) dX12_init_945 ?_
  refine zg_aload_n dX12_init_948 (i := 0) rfl 0 rfl ?_
  refine zg_sipush dX12_init_949 (v := nI 370) (by decide) ?_
  refine gm_newaI (j := 8) (N' := 370) hbl rfl za_int dX12_init_952 (by decide) (by decide) (by decide) (by decide) (by decide) (zl1 (by omega)) (zsR (by omega) zs0) (by omega) ?_
  refine zg_w (show _ = zNF w b (.inr (.inr (12, [w.length + 0 + 2, w.length + 1 + 2, w.length + 2 + 2, 0, w.length + 3 + 2, w.length + 4 + 2, 0, w.length + 5 + 2, 0, 0, 0, 0, 0, 0, w.length + 6 + 2, w.length + 7 + 2, 0, 0, 1, 1, 1, 0, 0, 0, 0, 1, 1, 0, 1, 0, 1, 1, 1, 1, 1, 1, 0, 0, 0]))) [.inl (0, 322), .inl (0, 322), .inl (0, 74), .inl (0, 200), .inl (0, 200), .inl (2, 144), .inl (0, 200), .inl (0, 24), .inl (0, 370)] from rfl) ?_
  refine gm_putF (j := 9) hbl rfl fd_X12_35_X12 fpq_X12 rfl rfl rfl rfl rfl (by omega) (fun _ => ⟨rfl, rfl⟩) dX12_init_954 ?_
  refine zg_aload_n dX12_init_957 (i := 0) rfl 0 rfl ?_
  refine zg_iconst dX12_init_958 (v := nI 4) (by decide) ?_
  refine gm_newaI (j := 9) (N' := 4) hbl rfl za_int dX12_init_959 (by decide) (by decide) (by decide) (by decide) (by decide) (zl1 (by omega)) (zsR (by omega) zs0) (by omega) ?_
  refine zg_w (show _ = zNF w b (.inr (.inr (12, [w.length + 0 + 2, w.length + 1 + 2, w.length + 2 + 2, 0, w.length + 3 + 2, w.length + 4 + 2, 0, w.length + 5 + 2, 0, 0, 0, 0, 0, 0, w.length + 6 + 2, w.length + 7 + 2, 0, 0, w.length + 8 + 2, 1, 1, 0, 0, 0, 0, 1, 1, 0, 1, 0, 1, 1, 1, 1, 1, 1, 0, 0, 0]))) [.inl (0, 322), .inl (0, 322), .inl (0, 74), .inl (0, 200), .inl (0, 200), .inl (2, 144), .inl (0, 200), .inl (0, 24), .inl (0, 370), .inl (0, 4)] from rfl) ?_
  refine gm_putF (j := 10) hbl rfl fd_X12_38_X12 fpq_X12 rfl rfl rfl rfl rfl (by omega) (fun _ => ⟨rfl, rfl⟩) dX12_init_961 ?_
  refine zg_aload_n dX12_init_964 (i := 0) rfl 0 rfl ?_
  refine zg_iconst dX12_init_965 (v := nI 4) (by decide) ?_
  refine gm_newaI (j := 10) (N' := 4) hbl rfl za_int dX12_init_966 (by decide) (by decide) (by decide) (by decide) (by decide) (zl1 (by omega)) (zsR (by omega) zs0) (by omega) ?_
  refine zg_w (show _ = zNF w b (.inr (.inr (12, [w.length + 0 + 2, w.length + 1 + 2, w.length + 2 + 2, 0, w.length + 3 + 2, w.length + 4 + 2, 0, w.length + 5 + 2, 0, 0, 0, 0, 0, 0, w.length + 6 + 2, w.length + 7 + 2, 0, 0, w.length + 8 + 2, w.length + 9 + 2, 1, 0, 0, 0, 0, 1, 1, 0, 1, 0, 1, 1, 1, 1, 1, 1, 0, 0, 0]))) [.inl (0, 322), .inl (0, 322), .inl (0, 74), .inl (0, 200), .inl (0, 200), .inl (2, 144), .inl (0, 200), .inl (0, 24), .inl (0, 370), .inl (0, 4), .inl (0, 4)] from rfl) ?_
  refine gm_putF (j := 11) hbl rfl fd_X12_41_X12 fpq_X12 rfl rfl rfl rfl rfl (by omega) (fun _ => ⟨rfl, rfl⟩) dX12_init_968 ?_
  refine zg_aload_n dX12_init_971 (i := 0) rfl 0 rfl ?_
  refine zg_bipush dX12_init_972 (v := nI 16) (by decide) ?_
  refine gm_newaI (j := 11) (N' := 16) hbl rfl za_int dX12_init_974 (by decide) (by decide) (by decide) (by decide) (by decide) (zl1 (by omega)) (zsR (by omega) zs0) (by omega) ?_
  refine zg_w (show _ = zNF w b (.inr (.inr (12, [w.length + 0 + 2, w.length + 1 + 2, w.length + 2 + 2, 0, w.length + 3 + 2, w.length + 4 + 2, 0, w.length + 5 + 2, 0, 0, 0, 0, 0, 0, w.length + 6 + 2, w.length + 7 + 2, 0, 0, w.length + 8 + 2, w.length + 9 + 2, w.length + 10 + 2, 0, 0, 0, 0, 1, 1, 0, 1, 0, 1, 1, 1, 1, 1, 1, 0, 0, 0]))) [.inl (0, 322), .inl (0, 322), .inl (0, 74), .inl (0, 200), .inl (0, 200), .inl (2, 144), .inl (0, 200), .inl (0, 24), .inl (0, 370), .inl (0, 4), .inl (0, 4), .inl (0, 16)] from rfl) ?_
  refine gm_putF (j := 12) hbl rfl fd_X12_44_X12 fpq_X12 rfl rfl rfl rfl rfl (by omega) (fun _ => ⟨rfl, rfl⟩) dX12_init_976 ?_
  refine zg_aload_n dX12_init_979 (i := 0) rfl 0 rfl ?_
  refine zg_bipush dX12_init_980 (v := nI 16) (by decide) ?_
  refine gm_newaI (j := 12) (N' := 16) hbl rfl za_int dX12_init_982 (by decide) (by decide) (by decide) (by decide) (by decide) (zl1 (by omega)) (zsR (by omega) zs0) (by omega) ?_
  refine zg_w (show _ = zNF w b (.inr (.inr (12, [w.length + 0 + 2, w.length + 1 + 2, w.length + 2 + 2, 0, w.length + 3 + 2, w.length + 4 + 2, 0, w.length + 5 + 2, 0, 0, 0, 0, 0, 0, w.length + 6 + 2, w.length + 7 + 2, 0, 0, w.length + 8 + 2, w.length + 9 + 2, w.length + 10 + 2, 0, 0, 0, 0, w.length + 11 + 2, 1, 0, 1, 0, 1, 1, 1, 1, 1, 1, 0, 0, 0]))) [.inl (0, 322), .inl (0, 322), .inl (0, 74), .inl (0, 200), .inl (0, 200), .inl (2, 144), .inl (0, 200), .inl (0, 24), .inl (0, 370), .inl (0, 4), .inl (0, 4), .inl (0, 16), .inl (0, 16)] from rfl) ?_
  refine gm_putF (j := 13) hbl rfl fd_X12_47_X12 fpq_X12 rfl rfl rfl rfl rfl (by omega) (fun _ => ⟨rfl, rfl⟩) dX12_init_984 ?_
  refine zg_aload_n dX12_init_987 (i := 0) rfl 0 rfl ?_
  refine zg_bipush dX12_init_988 (v := nI 12) (by decide) ?_
  refine gm_newaI (j := 13) (N' := 12) hbl rfl za_int dX12_init_990 (by decide) (by decide) (by decide) (by decide) (by decide) (zl1 (by omega)) (zsR (by omega) zs0) (by omega) ?_
  refine zg_w (show _ = zNF w b (.inr (.inr (12, [w.length + 0 + 2, w.length + 1 + 2, w.length + 2 + 2, 0, w.length + 3 + 2, w.length + 4 + 2, 0, w.length + 5 + 2, 0, 0, 0, 0, 0, 0, w.length + 6 + 2, w.length + 7 + 2, 0, 0, w.length + 8 + 2, w.length + 9 + 2, w.length + 10 + 2, 0, 0, 0, 0, w.length + 11 + 2, w.length + 12 + 2, 0, 1, 0, 1, 1, 1, 1, 1, 1, 0, 0, 0]))) [.inl (0, 322), .inl (0, 322), .inl (0, 74), .inl (0, 200), .inl (0, 200), .inl (2, 144), .inl (0, 200), .inl (0, 24), .inl (0, 370), .inl (0, 4), .inl (0, 4), .inl (0, 16), .inl (0, 16), .inl (0, 12)] from rfl) ?_
  refine gm_putF (j := 14) hbl rfl fd_X12_50_X12 fpq_X12 rfl rfl rfl rfl rfl (by omega) (fun _ => ⟨rfl, rfl⟩) dX12_init_992 ?_
  refine zg_aload_n dX12_init_995 (i := 0) rfl 0 rfl ?_
  refine zg_iconst dX12_init_996 (v := nI 4) (by decide) ?_
  refine gm_newaI (j := 14) (N' := 4) hbl rfl za_int dX12_init_997 (by decide) (by decide) (by decide) (by decide) (by decide) (zl1 (by omega)) (zsR (by omega) zs0) (by omega) ?_
  refine zg_w (show _ = zNF w b (.inr (.inr (12, [w.length + 0 + 2, w.length + 1 + 2, w.length + 2 + 2, 0, w.length + 3 + 2, w.length + 4 + 2, 0, w.length + 5 + 2, 0, 0, 0, 0, 0, 0, w.length + 6 + 2, w.length + 7 + 2, 0, 0, w.length + 8 + 2, w.length + 9 + 2, w.length + 10 + 2, 0, 0, 0, 0, w.length + 11 + 2, w.length + 12 + 2, 0, w.length + 13 + 2, 0, 1, 1, 1, 1, 1, 1, 0, 0, 0]))) [.inl (0, 322), .inl (0, 322), .inl (0, 74), .inl (0, 200), .inl (0, 200), .inl (2, 144), .inl (0, 200), .inl (0, 24), .inl (0, 370), .inl (0, 4), .inl (0, 4), .inl (0, 16), .inl (0, 16), .inl (0, 12), .inl (0, 4)] from rfl) ?_
  refine zg_dup dX12_init_999 ?_
  refine zg_iconst dX12_init_1000 (v := nI 0) (by decide) ?_
  refine zg_iconst dX12_init_1001 (v := -1) (by decide) ?_
  refine zg_iast (j := 0) (zNF_n (j := 14) hbl rfl) (by decide) (vp_in_nI (by decide) (by decide)) dX12_init_1002 ?_
  refine zg_dup dX12_init_1003 ?_
  refine zg_iconst dX12_init_1004 (v := nI 1) (by decide) ?_
  refine zg_iconst dX12_init_1005 (v := -1) (by decide) ?_
  refine zg_iast (j := 1) (zNF_n (j := 14) hbl rfl) (by decide) (vp_in_nI (by decide) (by decide)) dX12_init_1006 ?_
  refine zg_dup dX12_init_1007 ?_
  refine zg_iconst dX12_init_1008 (v := nI 2) (by decide) ?_
  refine zg_iconst dX12_init_1009 (v := -1) (by decide) ?_
  refine zg_iast (j := 2) (zNF_n (j := 14) hbl rfl) (by decide) (vp_in_nI (by decide) (by decide)) dX12_init_1010 ?_
  refine zg_dup dX12_init_1011 ?_
  refine zg_iconst dX12_init_1012 (v := nI 3) (by decide) ?_
  refine zg_iconst dX12_init_1013 (v := -1) (by decide) ?_
  refine zg_iast (j := 3) (zNF_n (j := 14) hbl rfl) (by decide) (vp_in_nI (by decide) (by decide)) dX12_init_1014 ?_
  refine gm_putF (j := 15) hbl rfl fd_X12_53_X12 fpq_X12 rfl rfl rfl rfl rfl (by omega) (fun _ => ⟨rfl, rfl⟩) dX12_init_1015 ?_
  refine zg_aload_n dX12_init_1018 (i := 0) rfl 0 rfl ?_
  refine zg_iconst dX12_init_1019 (v := nI 4) (by decide) ?_
  refine gm_newaI (j := 15) (N' := 4) hbl rfl za_int dX12_init_1020 (by decide) (by decide) (by decide) (by decide) (by decide) (zl1 (by omega)) (zsR (by omega) zs0) (by omega) ?_
  refine zg_w (show _ = zNF w b (.inr (.inr (12, [w.length + 0 + 2, w.length + 1 + 2, w.length + 2 + 2, 0, w.length + 3 + 2, w.length + 4 + 2, 0, w.length + 5 + 2, 0, 0, 0, 0, 0, 0, w.length + 6 + 2, w.length + 7 + 2, 0, 0, w.length + 8 + 2, w.length + 9 + 2, w.length + 10 + 2, 0, 0, 0, 0, w.length + 11 + 2, w.length + 12 + 2, 0, w.length + 13 + 2, 0, w.length + 14 + 2, 1, 1, 1, 1, 1, 0, 0, 0]))) [.inl (0, 322), .inl (0, 322), .inl (0, 74), .inl (0, 200), .inl (0, 200), .inl (2, 144), .inl (0, 200), .inl (0, 24), .inl (0, 370), .inl (0, 4), .inl (0, 4), .inl (0, 16), .inl (0, 16), .inl (0, 12), .inl (0, 4), .inl (0, 4)] from rfl) ?_
  refine gm_putF (j := 16) hbl rfl fd_X12_56_X12 fpq_X12 rfl rfl rfl rfl rfl (by omega) (fun _ => ⟨rfl, rfl⟩) dX12_init_1022 ?_
  refine zg_aload_n dX12_init_1025 (i := 0) rfl 0 rfl ?_
  refine zg_sipush dX12_init_1026 (v := nI 160) (by decide) ?_
  refine gm_newaI (j := 16) (N' := 160) hbl rfl za_int dX12_init_1029 (by decide) (by decide) (by decide) (by decide) (by decide) (zl1 (by omega)) (zsR (by omega) zs0) (by omega) ?_
  refine zg_w (show _ = zNF w b (.inr (.inr (12, [w.length + 0 + 2, w.length + 1 + 2, w.length + 2 + 2, 0, w.length + 3 + 2, w.length + 4 + 2, 0, w.length + 5 + 2, 0, 0, 0, 0, 0, 0, w.length + 6 + 2, w.length + 7 + 2, 0, 0, w.length + 8 + 2, w.length + 9 + 2, w.length + 10 + 2, 0, 0, 0, 0, w.length + 11 + 2, w.length + 12 + 2, 0, w.length + 13 + 2, 0, w.length + 14 + 2, w.length + 15 + 2, 1, 1, 1, 1, 0, 0, 0]))) [.inl (0, 322), .inl (0, 322), .inl (0, 74), .inl (0, 200), .inl (0, 200), .inl (2, 144), .inl (0, 200), .inl (0, 24), .inl (0, 370), .inl (0, 4), .inl (0, 4), .inl (0, 16), .inl (0, 16), .inl (0, 12), .inl (0, 4), .inl (0, 4), .inl (0, 160)] from rfl) ?_
  refine gm_putF (j := 17) hbl rfl fd_X12_59_X12 fpq_X12 rfl rfl rfl rfl rfl (by omega) (fun _ => ⟨rfl, rfl⟩) dX12_init_1031 ?_
  refine zg_aload_n dX12_init_1034 (i := 0) rfl 0 rfl ?_
  refine zg_iconst dX12_init_1035 (v := nI 4) (by decide) ?_
  refine gm_newaI (j := 17) (N' := 4) hbl rfl za_int dX12_init_1036 (by decide) (by decide) (by decide) (by decide) (by decide) (zl1 (by omega)) (zsR (by omega) zs0) (by omega) ?_
  refine zg_w (show _ = zNF w b (.inr (.inr (12, [w.length + 0 + 2, w.length + 1 + 2, w.length + 2 + 2, 0, w.length + 3 + 2, w.length + 4 + 2, 0, w.length + 5 + 2, 0, 0, 0, 0, 0, 0, w.length + 6 + 2, w.length + 7 + 2, 0, 0, w.length + 8 + 2, w.length + 9 + 2, w.length + 10 + 2, 0, 0, 0, 0, w.length + 11 + 2, w.length + 12 + 2, 0, w.length + 13 + 2, 0, w.length + 14 + 2, w.length + 15 + 2, w.length + 16 + 2, 1, 1, 1, 0, 0, 0]))) [.inl (0, 322), .inl (0, 322), .inl (0, 74), .inl (0, 200), .inl (0, 200), .inl (2, 144), .inl (0, 200), .inl (0, 24), .inl (0, 370), .inl (0, 4), .inl (0, 4), .inl (0, 16), .inl (0, 16), .inl (0, 12), .inl (0, 4), .inl (0, 4), .inl (0, 160), .inl (0, 4)] from rfl) ?_
  refine zg_dup dX12_init_1038 ?_
  refine zg_iconst dX12_init_1039 (v := nI 0) (by decide) ?_
  refine zg_iconst dX12_init_1040 (v := -1) (by decide) ?_
  refine zg_iast (j := 0) (zNF_n (j := 17) hbl rfl) (by decide) (vp_in_nI (by decide) (by decide)) dX12_init_1041 ?_
  refine zg_dup dX12_init_1042 ?_
  refine zg_iconst dX12_init_1043 (v := nI 1) (by decide) ?_
  refine zg_iconst dX12_init_1044 (v := -1) (by decide) ?_
  refine zg_iast (j := 1) (zNF_n (j := 17) hbl rfl) (by decide) (vp_in_nI (by decide) (by decide)) dX12_init_1045 ?_
  refine zg_dup dX12_init_1046 ?_
  refine zg_iconst dX12_init_1047 (v := nI 2) (by decide) ?_
  refine zg_iconst dX12_init_1048 (v := -1) (by decide) ?_
  refine zg_iast (j := 2) (zNF_n (j := 17) hbl rfl) (by decide) (vp_in_nI (by decide) (by decide)) dX12_init_1049 ?_
  refine zg_dup dX12_init_1050 ?_
  refine zg_iconst dX12_init_1051 (v := nI 3) (by decide) ?_
  refine zg_iconst dX12_init_1052 (v := -1) (by decide) ?_
  refine zg_iast (j := 3) (zNF_n (j := 17) hbl rfl) (by decide) (vp_in_nI (by decide) (by decide)) dX12_init_1053 ?_
  refine gm_putF (j := 18) hbl rfl fd_X12_62_X12 fpq_X12 rfl rfl rfl rfl rfl (by omega) (fun _ => ⟨rfl, rfl⟩) dX12_init_1054 ?_
  refine zg_aload_n dX12_init_1057 (i := 0) rfl 0 rfl ?_
  refine zg_iconst dX12_init_1058 (v := nI 4) (by decide) ?_
  refine gm_newaI (j := 18) (N' := 4) hbl rfl za_int dX12_init_1059 (by decide) (by decide) (by decide) (by decide) (by decide) (zl1 (by omega)) (zsR (by omega) zs0) (by omega) ?_
  refine zg_w (show _ = zNF w b (.inr (.inr (12, [w.length + 0 + 2, w.length + 1 + 2, w.length + 2 + 2, 0, w.length + 3 + 2, w.length + 4 + 2, 0, w.length + 5 + 2, 0, 0, 0, 0, 0, 0, w.length + 6 + 2, w.length + 7 + 2, 0, 0, w.length + 8 + 2, w.length + 9 + 2, w.length + 10 + 2, 0, 0, 0, 0, w.length + 11 + 2, w.length + 12 + 2, 0, w.length + 13 + 2, 0, w.length + 14 + 2, w.length + 15 + 2, w.length + 16 + 2, w.length + 17 + 2, 1, 1, 0, 0, 0]))) [.inl (0, 322), .inl (0, 322), .inl (0, 74), .inl (0, 200), .inl (0, 200), .inl (2, 144), .inl (0, 200), .inl (0, 24), .inl (0, 370), .inl (0, 4), .inl (0, 4), .inl (0, 16), .inl (0, 16), .inl (0, 12), .inl (0, 4), .inl (0, 4), .inl (0, 160), .inl (0, 4), .inl (0, 4)] from rfl) ?_
  refine gm_putF (j := 19) hbl rfl fd_X12_65_X12 fpq_X12 rfl rfl rfl rfl rfl (by omega) (fun _ => ⟨rfl, rfl⟩) dX12_init_1061 ?_
  refine zg_aload_n dX12_init_1064 (i := 0) rfl 0 rfl ?_
  refine zg_bipush dX12_init_1065 (v := nI 30) (by decide) ?_
  refine gm_newaI (j := 19) (N' := 30) hbl rfl za_int dX12_init_1067 (by decide) (by decide) (by decide) (by decide) (by decide) (zl1 (by omega)) (zsR (by omega) zs0) (by omega) ?_
  refine zg_w (show _ = zNF w b (.inr (.inr (12, [w.length + 0 + 2, w.length + 1 + 2, w.length + 2 + 2, 0, w.length + 3 + 2, w.length + 4 + 2, 0, w.length + 5 + 2, 0, 0, 0, 0, 0, 0, w.length + 6 + 2, w.length + 7 + 2, 0, 0, w.length + 8 + 2, w.length + 9 + 2, w.length + 10 + 2, 0, 0, 0, 0, w.length + 11 + 2, w.length + 12 + 2, 0, w.length + 13 + 2, 0, w.length + 14 + 2, w.length + 15 + 2, w.length + 16 + 2, w.length + 17 + 2, w.length + 18 + 2, 1, 0, 0, 0]))) [.inl (0, 322), .inl (0, 322), .inl (0, 74), .inl (0, 200), .inl (0, 200), .inl (2, 144), .inl (0, 200), .inl (0, 24), .inl (0, 370), .inl (0, 4), .inl (0, 4), .inl (0, 16), .inl (0, 16), .inl (0, 12), .inl (0, 4), .inl (0, 4), .inl (0, 160), .inl (0, 4), .inl (0, 4), .inl (0, 30)] from rfl) ?_
  refine gm_putF (j := 20) hbl rfl fd_X12_68_X12 fpq_X12 rfl rfl rfl rfl rfl (by omega) (fun _ => ⟨rfl, rfl⟩) dX12_init_1069 ?_
  exact x12_end (c := w.length + 0) (zNF_b hbl) rfl (zNF_n (j := 0) hbl rfl) (by decide) (by decide) ⟨rfl, rfl⟩
