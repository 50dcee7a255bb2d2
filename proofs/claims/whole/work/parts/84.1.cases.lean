
set_option maxHeartbeats 4000000 in
set_option maxRecDepth 100000 in
theorem lc_net {p : Program} (l : Launch) {e : Env} {s : State} {m : MethodId} {below : List Frame} {meth : Method} {c : Code} {D : va_G} {ay : Nat → ClassId} {tE mi b L : Nat} {xs : Nat → Int32} {Gx : State → Prop} {Q : State → Prop} {cells slots : Nat} {ax am aO : Nat} {aa : Nat → Nat} {th i : Nat} {fO : Nat → Int64} {ws : va_W} (hl9 : l.stackTraces = false) (X : vg_C D ay s.heap.size Gx p s m #[Value.ref b] meth c cL_law 8 RL wsL_law ret) (hG2 : ∀ U, Gx U → vh_G2 s.heap.size tE mi U) (hG3 : ∀ U, Gx U → vh_X U) (hWm9 : vs_W s) (hX : va_X b L xs s s.heap) (hbl : b < s.heap.size) (hL : L ≤ 3072) (hi : i + 6 ≤ L) (hc : cells + 10 ≤ 601024) (hs : slots + 400 ≤ 7293034) (hj : jo_S ay ws ax tE am aa th aO fO) (kk : ∀ (ws2 : va_W) (th2 : Nat) (fO2 : Nat → Int64), jo_S ay ws2 ax tE am aa th2 aO fO2 → vg_V D s.heap.size p l e room_1 s m #[Value.ref b] below meth c 8 (cells + 10) (slots + 400) Q [(4, .int (nI i)), (3, .ref aO), (2, .ref am), (1, .ref ax), (0, .ref b)] [] ws2 1363) : vg_V D s.heap.size p l e room_1 s m #[Value.ref b] below meth c 8 cells slots Q [(4, .int (nI i)), (3, .ref aO), (2, .ref am), (1, .ref ax), (0, .ref b)] [] ws 120 := by
  obtain ⟨n, P, U, d, fr, to, pe, uv, ku, ks, kt, sk, wl, wp, hS, hM, h55⟩ := hj
  refine vg_aload_n X dL_law_120 3 rfl rfl ?_
  refine vg_aload_n X dL_law_121 4 rfl rfl ?_
  refine vg_iload X dL_law_122 0 rfl ?_
  refine vg_iconst X (nI 1) dL_law_124 (by decide) ?_
  refine vg_iadd X (nI (i + 1)) dL_law_125 (nI_add _ _) ?_
  refine vg_sld X hX hbl (Nat.not_le.mpr hbl) rfl (show i + 1 < L by omega) (by omega) dL_law_126 ?_
  refine vg_calli (vg_runSW X vs_st hWm9 (c_L_net l hl9 hG2 hG3 hS h55 (x := xs (i + 1))) (vx_cwSW 2 X.2.2.2.2.1 gL_law_L_net rfl rfl rfl (by decide +kernel) ⟨(Nat.le_of_ble_eq_true rfl), (Nat.le_of_ble_eq_true rfl)⟩) rfl rfl (Nat.le_of_ble_eq_true rfl) dL_law_127 ⟨hc, hs⟩) (fun rr w1 H1 => ?_)
  have hM1 := cm_St_fr hM (af_net H1)
  obtain ⟨fl1, fm1, fn1, fs1, hO1, _⟩ := id hM1
  unfold cm_O at hO1
  refine vg_istore X [(5, .int rr), (4, .int (nI i)), (3, .ref aO), (2, .ref am), (1, .ref ax), (0, .ref b)] dL_law_130 (by decide) rfl ?_
  refine vg_aload_n X dL_law_132 3 rfl rfl ?_
  refine vg_aload_n X dL_law_133 5 rfl rfl ?_
  refine vg_iload X dL_law_134 1 rfl ?_
  refine vg_iconst X (nI 1) dL_law_136 (by decide) ?_
  refine vg_iadd X (nI (i + 1)) dL_law_137 (nI_add _ _) ?_
  refine vg_sld X hX hbl (Nat.not_le.mpr hbl) rfl (show i + 1 < L by omega) (by omega) dL_law_138 ?_
  refine vg_callv (vg_runV X (c_X7_net l hM1 (cw_St_R hS) (x := xs (i + 1))) (cwV 1 X.2.2.2.2.1 gL_law_X7_net rfl rfl rfl (by decide +kernel) ⟨Nat.le_of_ble_eq_true rfl, Nat.le_of_ble_eq_true rfl⟩) 29 hO1 rfl rfl rfl (Nat.le_of_ble_eq_true rfl) dL_law_139 ⟨hc, hs⟩) (fun wz1 PP2 => ?_)
  obtain ⟨k, fO2, ek, hk4, hjo⟩ := ag_net (th := th) hS h55 H1 PP2
  subst ek
  obtain ⟨_, _, _, _, _, _, _, _, _, _, _, _, _, _, hS2, hM2, h552⟩ := id hjo
  obtain ⟨_, _, _, _, hO2, _⟩ := id hM2
  have hO3 := hO2
  unfold cm_O at hO3
  refine vg_aload_n X dL_law_142 3 rfl rfl ?_
  refine vg_calli (vg_runV X (c_X7_thrown l hO2) (cwV 0 X.2.2.2.2.1 gL_law_X7_thrown rfl rfl rfl (by decide +kernel) ⟨Nat.le_of_ble_eq_true rfl, Nat.le_of_ble_eq_true rfl⟩) 29 hO3 rfl rfl rfl (Nat.le_of_ble_eq_true rfl) dL_law_143 ⟨hc, hs⟩) (fun rr6 wz4 PP5 => ?_)
  obtain ⟨ew, er⟩ := PP5
  rw [ew, er]
  refine vg_iload X dL_law_146 0 rfl ?_
  refine vg_icmp_eq X 153 dL_law_148 (by decide) (fun c148 => ?_) (fun c148 => ?_)
  · have c148 : k = k := (nI_eq (by omega) (by omega)).mp c148
    skip
    refine vg_goto X 1363 dL_law_153 (by decide) ?_
    refine vg_locals [1, 2, 3, 4, 5] rfl ?_
    exact kk _ _ _ hjo
  · have c148 : ¬ k = k := fun z => c148 ((nI_eq (by omega) (by omega)).mpr z)
    exact absurd rfl c148
set_option maxHeartbeats 4000000 in
set_option maxRecDepth 100000 in
theorem lc_piece {p : Program} (l : Launch) {e : Env} {s : State} {m : MethodId} {below : List Frame} {meth : Method} {c : Code} {D : va_G} {ay : Nat → ClassId} {tE mi b L : Nat} {xs : Nat → Int32} {Gx : State → Prop} {Q : State → Prop} {cells slots : Nat} {ax am aO : Nat} {aa : Nat → Nat} {th i : Nat} {fO : Nat → Int64} {ws : va_W} (hl9 : l.stackTraces = false) (X : vg_C D ay s.heap.size Gx p s m #[Value.ref b] meth c cL_law 8 RL wsL_law ret) (hG2 : ∀ U, Gx U → vh_G2 s.heap.size tE mi U) (hG3 : ∀ U, Gx U → vh_X U) (hWm9 : vs_W s) (hX : va_X b L xs s s.heap) (hbl : b < s.heap.size) (hL : L ≤ 3072) (hi : i + 6 ≤ L) (hc : cells + 10 ≤ 601024) (hs : slots + 400 ≤ 7293034) (hj : jo_S ay ws ax tE am aa th aO fO) (kk : ∀ (ws2 : va_W) (th2 : Nat) (fO2 : Nat → Int64), jo_S ay ws2 ax tE am aa th2 aO fO2 → vg_V D s.heap.size p l e room_1 s m #[Value.ref b] below meth c 8 (cells + 10) (slots + 400) Q [(4, .int (nI i)), (3, .ref aO), (2, .ref am), (1, .ref ax), (0, .ref b)] [] ws2 1363) : vg_V D s.heap.size p l e room_1 s m #[Value.ref b] below meth c 8 cells slots Q [(4, .int (nI i)), (3, .ref aO), (2, .ref am), (1, .ref ax), (0, .ref b)] [] ws 156 := by
  obtain ⟨n, P, U, d, fr, to, pe, uv, ku, ks, kt, sk, wl, wp, hS, hM, h55⟩ := hj
  refine vg_aload_n X dL_law_156 3 rfl rfl ?_
  refine vg_aload_n X dL_law_157 4 rfl rfl ?_
  refine vg_iload X dL_law_158 0 rfl ?_
  refine vg_iconst X (nI 1) dL_law_160 (by decide) ?_
  refine vg_iadd X (nI (i + 1)) dL_law_161 (nI_add _ _) ?_
  refine vg_sld X hX hbl (Nat.not_le.mpr hbl) rfl (show i + 1 < L by omega) (by omega) dL_law_162 ?_
  refine vg_aload_n X dL_law_163 4 rfl rfl ?_
  refine vg_iload X dL_law_164 0 rfl ?_
  refine vg_iconst X (nI 2) dL_law_166 (by decide) ?_
  refine vg_iadd X (nI (i + 2)) dL_law_167 (nI_add _ _) ?_
  refine vg_sld X hX hbl (Nat.not_le.mpr hbl) rfl (show i + 2 < L by omega) (by omega) dL_law_168 ?_
  refine vg_aload_n X dL_law_169 4 rfl rfl ?_
  refine vg_iload X dL_law_170 0 rfl ?_
  refine vg_iconst X (nI 3) dL_law_172 (by decide) ?_
  refine vg_iadd X (nI (i + 3)) dL_law_173 (nI_add _ _) ?_
  refine vg_sld X hX hbl (Nat.not_le.mpr hbl) rfl (show i + 3 < L by omega) (by omega) dL_law_174 ?_
  refine vg_aload_n X dL_law_175 4 rfl rfl ?_
  refine vg_iload X dL_law_176 0 rfl ?_
  refine vg_iconst X (nI 4) dL_law_178 (by decide) ?_
  refine vg_iadd X (nI (i + 4)) dL_law_179 (nI_add _ _) ?_
  refine vg_sld X hX hbl (Nat.not_le.mpr hbl) rfl (show i + 4 < L by omega) (by omega) dL_law_180 ?_
  refine vg_aload_n X dL_law_181 1 rfl rfl ?_
  refine vg_calli (vg_runSW X vs_st hWm9 (c_L_piece l hl9 hG2 hG3 hS h55 (a := xs (i + 1)) (b := xs (i + 2)) (mm := xs (i + 3)) (sp := xs (i + 4))) (vx_cwSW 6 X.2.2.2.2.1 gL_law_L_piece rfl rfl rfl (by decide +kernel) ⟨(Nat.le_of_ble_eq_true rfl), (Nat.le_of_ble_eq_true rfl)⟩) rfl rfl (Nat.le_of_ble_eq_true rfl) dL_law_182 ⟨hc, hs⟩) (fun rr w1 H1 => ?_)
  have hM1 := cm_St_fr hM (af_piece H1)
  obtain ⟨fl1, fm1, fn1, fs1, hO1, _⟩ := id hM1
  unfold cm_O at hO1
  refine vg_istore X [(5, .int rr), (4, .int (nI i)), (3, .ref aO), (2, .ref am), (1, .ref ax), (0, .ref b)] dL_law_185 (by decide) rfl ?_
  refine vg_aload_n X dL_law_187 3 rfl rfl ?_
  refine vg_aload_n X dL_law_188 5 rfl rfl ?_
  refine vg_iload X dL_law_189 1 rfl ?_
  refine vg_iconst X (nI 1) dL_law_191 (by decide) ?_
  refine vg_iadd X (nI (i + 1)) dL_law_192 (nI_add _ _) ?_
  refine vg_sld X hX hbl (Nat.not_le.mpr hbl) rfl (show i + 1 < L by omega) (by omega) dL_law_193 ?_
  refine vg_aload_n X dL_law_194 5 rfl rfl ?_
  refine vg_iload X dL_law_195 1 rfl ?_
  refine vg_iconst X (nI 2) dL_law_197 (by decide) ?_
  refine vg_iadd X (nI (i + 2)) dL_law_198 (nI_add _ _) ?_
  refine vg_sld X hX hbl (Nat.not_le.mpr hbl) rfl (show i + 2 < L by omega) (by omega) dL_law_199 ?_
  refine vg_aload_n X dL_law_200 5 rfl rfl ?_
  refine vg_iload X dL_law_201 1 rfl ?_
  refine vg_iconst X (nI 3) dL_law_203 (by decide) ?_
  refine vg_iadd X (nI (i + 3)) dL_law_204 (nI_add _ _) ?_
  refine vg_sld X hX hbl (Nat.not_le.mpr hbl) rfl (show i + 3 < L by omega) (by omega) dL_law_205 ?_
  refine vg_aload_n X dL_law_206 5 rfl rfl ?_
  refine vg_iload X dL_law_207 1 rfl ?_
  refine vg_iconst X (nI 4) dL_law_209 (by decide) ?_
  refine vg_iadd X (nI (i + 4)) dL_law_210 (nI_add _ _) ?_
  refine vg_sld X hX hbl (Nat.not_le.mpr hbl) rfl (show i + 4 < L by omega) (by omega) dL_law_211 ?_
  refine vg_calli (vg_runV X (c_X7_piece l hM1 (cw_St_R hS) (cw_St_K hS) (a := xs (i + 1)) (b := xs (i + 2)) (mm := xs (i + 3)) (sp := xs (i + 4))) (cwV 4 X.2.2.2.2.1 gL_law_X7_piece rfl rfl rfl (by decide +kernel) ⟨Nat.le_of_ble_eq_true rfl, Nat.le_of_ble_eq_true rfl⟩) 29 hO1 rfl rfl rfl (Nat.le_of_ble_eq_true rfl) dL_law_212 ⟨hc, hs⟩) (fun rr3 wz1 PP2 => ?_)
  obtain ⟨k, fO2, ek, hk4, hjo, hv⟩ := ag_piece (th := th) hS h55 H1 PP2
  subst ek
  obtain ⟨_, _, _, _, _, _, _, _, _, _, _, _, _, _, hS2, hM2, h552⟩ := id hjo
  obtain ⟨_, _, _, _, hO2, _⟩ := id hM2
  have hO3 := hO2
  unfold cm_O at hO3
  refine vg_istore X [(6, .int rr3), (5, .int (nI k)), (4, .int (nI i)), (3, .ref aO), (2, .ref am), (1, .ref ax), (0, .ref b)] dL_law_215 (by decide) rfl ?_
  refine vg_aload_n X dL_law_217 4 rfl rfl ?_
  refine vg_calli (vg_runV X (c_X7_thrown l hO2) (cwV 0 X.2.2.2.2.1 gL_law_X7_thrown rfl rfl rfl (by decide +kernel) ⟨Nat.le_of_ble_eq_true rfl, Nat.le_of_ble_eq_true rfl⟩) 29 hO3 rfl rfl rfl (Nat.le_of_ble_eq_true rfl) dL_law_218 ⟨hc, hs⟩) (fun rr6 wz4 PP5 => ?_)
  obtain ⟨ew, er⟩ := PP5
  rw [ew, er]
  refine vg_iload X dL_law_221 1 rfl ?_
  refine vg_icmp_eq X 228 dL_law_223 (by decide) (fun c223 => ?_) (fun c223 => ?_)
  · have c223 : k = k := (nI_eq (by omega) (by omega)).mp c223
    skip
    refine vg_iload X dL_law_228 1 rfl ?_
    refine vg_if_ne X 245 dL_law_230 (by decide) (fun c230 => ?_) (fun c230 => ?_)
    · have c230 : ¬ k = 0 := fun z => c230 ((vg_eq0 (by omega)).mpr z)
      refine vg_goto X 1363 dL_law_245 (by decide) ?_
      refine vg_locals [2, 3, 4, 5, 6] rfl ?_
      exact kk _ _ _ hjo
    · have c230 : k = 0 := (vg_eq0 (by omega)).mp c230
      refine vg_aload_n X dL_law_233 3 rfl rfl ?_
      refine vg_iconst X (nI 0) dL_law_234 (by decide) ?_
      refine vg_lald X (fO2 0) 55 h552 rfl (by decide) (by decide) rfl dL_law_235 ?_
      refine vg_iload X dL_law_236 0 rfl ?_
      refine vg_i2l X ((rr3).toInt64) dL_law_238 rfl ?_
      refine vg_lcmp_eq X 245 dL_law_239 dL_law_240 (by decide) (fun c239 => ?_) (fun c239 => ?_)
      · skip
        refine vg_goto X 1363 dL_law_245 (by decide) ?_
        refine vg_locals [2, 3, 4, 5, 6] rfl ?_
        exact kk _ _ _ hjo
      · exact absurd (hv c230) c239
  · have c223 : ¬ k = k := fun z => c223 ((nI_eq (by omega) (by omega)).mpr z)
    exact absurd rfl c223
set_option maxHeartbeats 4000000 in
set_option maxRecDepth 100000 in
theorem lc_limit {p : Program} (l : Launch) {e : Env} {s : State} {m : MethodId} {below : List Frame} {meth : Method} {c : Code} {D : va_G} {ay : Nat → ClassId} {tE mi b L : Nat} {xs : Nat → Int32} {Gx : State → Prop} {Q : State → Prop} {cells slots : Nat} {ax am aO : Nat} {aa : Nat → Nat} {th i : Nat} {fO : Nat → Int64} {ws : va_W} (hl9 : l.stackTraces = false) (X : vg_C D ay s.heap.size Gx p s m #[Value.ref b] meth c cL_law 8 RL wsL_law ret) (hG2 : ∀ U, Gx U → vh_G2 s.heap.size tE mi U) (hG3 : ∀ U, Gx U → vh_X U) (hWm9 : vs_W s) (hX : va_X b L xs s s.heap) (hbl : b < s.heap.size) (hL : L ≤ 3072) (hi : i + 6 ≤ L) (hc : cells + 10 ≤ 601024) (hs : slots + 400 ≤ 7293034) (hj : jo_S ay ws ax tE am aa th aO fO) (kk : ∀ (ws2 : va_W) (th2 : Nat) (fO2 : Nat → Int64), jo_S ay ws2 ax tE am aa th2 aO fO2 → vg_V D s.heap.size p l e room_1 s m #[Value.ref b] below meth c 8 (cells + 10) (slots + 400) Q [(4, .int (nI i)), (3, .ref aO), (2, .ref am), (1, .ref ax), (0, .ref b)] [] ws2 1363) : vg_V D s.heap.size p l e room_1 s m #[Value.ref b] below meth c 8 cells slots Q [(4, .int (nI i)), (3, .ref aO), (2, .ref am), (1, .ref ax), (0, .ref b)] [] ws 248 := by
  obtain ⟨n, P, U, d, fr, to, pe, uv, ku, ks, kt, sk, wl, wp, hS, hM, h55⟩ := hj
  refine vg_aload_n X dL_law_248 3 rfl rfl ?_
  refine vg_aload_n X dL_law_249 4 rfl rfl ?_
  refine vg_iload X dL_law_250 0 rfl ?_
  refine vg_iconst X (nI 1) dL_law_252 (by decide) ?_
  refine vg_iadd X (nI (i + 1)) dL_law_253 (nI_add _ _) ?_
  refine vg_sld X hX hbl (Nat.not_le.mpr hbl) rfl (show i + 1 < L by omega) (by omega) dL_law_254 ?_
  refine vg_aload_n X dL_law_255 4 rfl rfl ?_
  refine vg_iload X dL_law_256 0 rfl ?_
  refine vg_iconst X (nI 2) dL_law_258 (by decide) ?_
  refine vg_iadd X (nI (i + 2)) dL_law_259 (nI_add _ _) ?_
  refine vg_sld X hX hbl (Nat.not_le.mpr hbl) rfl (show i + 2 < L by omega) (by omega) dL_law_260 ?_
  refine vg_aload_n X dL_law_261 4 rfl rfl ?_
  refine vg_iload X dL_law_262 0 rfl ?_
  refine vg_iconst X (nI 3) dL_law_264 (by decide) ?_
  refine vg_iadd X (nI (i + 3)) dL_law_265 (nI_add _ _) ?_
  refine vg_sld X hX hbl (Nat.not_le.mpr hbl) rfl (show i + 3 < L by omega) (by omega) dL_law_266 ?_
  refine vg_aload_n X dL_law_267 1 rfl rfl ?_
  refine vg_calli (vg_runSW X vs_st hWm9 (c_L_limit l hl9 hG2 hG3 hS h55 (x := xs (i + 1)) (w := xs (i + 2)) (h := xs (i + 3))) (vx_cwSW 5 X.2.2.2.2.1 gL_law_L_limit rfl rfl rfl (by decide +kernel) ⟨(Nat.le_of_ble_eq_true rfl), (Nat.le_of_ble_eq_true rfl)⟩) rfl rfl (Nat.le_of_ble_eq_true rfl) dL_law_268 ⟨hc, hs⟩) (fun rr w1 H1 => ?_)
  have hM1 := cm_St_fr hM (af_limit H1)
  obtain ⟨fl1, fm1, fn1, fs1, hO1, _⟩ := id hM1
  unfold cm_O at hO1
  refine vg_istore X [(5, .int rr), (4, .int (nI i)), (3, .ref aO), (2, .ref am), (1, .ref ax), (0, .ref b)] dL_law_271 (by decide) rfl ?_
  refine vg_aload_n X dL_law_273 3 rfl rfl ?_
  refine vg_aload_n X dL_law_274 5 rfl rfl ?_
  refine vg_iload X dL_law_275 1 rfl ?_
  refine vg_iconst X (nI 1) dL_law_277 (by decide) ?_
  refine vg_iadd X (nI (i + 1)) dL_law_278 (nI_add _ _) ?_
  refine vg_sld X hX hbl (Nat.not_le.mpr hbl) rfl (show i + 1 < L by omega) (by omega) dL_law_279 ?_
  refine vg_aload_n X dL_law_280 5 rfl rfl ?_
  refine vg_iload X dL_law_281 1 rfl ?_
  refine vg_iconst X (nI 2) dL_law_283 (by decide) ?_
  refine vg_iadd X (nI (i + 2)) dL_law_284 (nI_add _ _) ?_
  refine vg_sld X hX hbl (Nat.not_le.mpr hbl) rfl (show i + 2 < L by omega) (by omega) dL_law_285 ?_
  refine vg_aload_n X dL_law_286 5 rfl rfl ?_
  refine vg_iload X dL_law_287 1 rfl ?_
  refine vg_iconst X (nI 3) dL_law_289 (by decide) ?_
  refine vg_iadd X (nI (i + 3)) dL_law_290 (nI_add _ _) ?_
  refine vg_sld X hX hbl (Nat.not_le.mpr hbl) rfl (show i + 3 < L by omega) (by omega) dL_law_291 ?_
  refine vg_calli (vg_runV X (c_X7_limit l hM1 (cw_St_R hS) (cw_St_K hS) (x := xs (i + 1)) (w := xs (i + 2)) (h := xs (i + 3))) (cwV 3 X.2.2.2.2.1 gL_law_X7_limit rfl rfl rfl (by decide +kernel) ⟨Nat.le_of_ble_eq_true rfl, Nat.le_of_ble_eq_true rfl⟩) 29 hO1 rfl rfl rfl (Nat.le_of_ble_eq_true rfl) dL_law_292 ⟨hc, hs⟩) (fun rr3 wz1 PP2 => ?_)
  obtain ⟨k, fO2, ek, hk4, hjo, hv⟩ := ag_limit (th := th) hS h55 H1 PP2
  subst ek
  obtain ⟨_, _, _, _, _, _, _, _, _, _, _, _, _, _, hS2, hM2, h552⟩ := id hjo
  obtain ⟨_, _, _, _, hO2, _⟩ := id hM2
  have hO3 := hO2
  unfold cm_O at hO3
  refine vg_istore X [(6, .int rr3), (5, .int (nI k)), (4, .int (nI i)), (3, .ref aO), (2, .ref am), (1, .ref ax), (0, .ref b)] dL_law_295 (by decide) rfl ?_
  refine vg_aload_n X dL_law_297 4 rfl rfl ?_
  refine vg_calli (vg_runV X (c_X7_thrown l hO2) (cwV 0 X.2.2.2.2.1 gL_law_X7_thrown rfl rfl rfl (by decide +kernel) ⟨Nat.le_of_ble_eq_true rfl, Nat.le_of_ble_eq_true rfl⟩) 29 hO3 rfl rfl rfl (Nat.le_of_ble_eq_true rfl) dL_law_298 ⟨hc, hs⟩) (fun rr6 wz4 PP5 => ?_)
  obtain ⟨ew, er⟩ := PP5
  rw [ew, er]
  refine vg_iload X dL_law_301 1 rfl ?_
  refine vg_icmp_eq X 308 dL_law_303 (by decide) (fun c303 => ?_) (fun c303 => ?_)
  · have c303 : k = k := (nI_eq (by omega) (by omega)).mp c303
    skip
    refine vg_iload X dL_law_308 1 rfl ?_
    refine vg_if_ne X 325 dL_law_310 (by decide) (fun c310 => ?_) (fun c310 => ?_)
    · have c310 : ¬ k = 0 := fun z => c310 ((vg_eq0 (by omega)).mpr z)
      refine vg_goto X 1363 dL_law_325 (by decide) ?_
      refine vg_locals [2, 3, 4, 5, 6] rfl ?_
      exact kk _ _ _ hjo
    · have c310 : k = 0 := (vg_eq0 (by omega)).mp c310
      refine vg_aload_n X dL_law_313 3 rfl rfl ?_
      refine vg_iconst X (nI 0) dL_law_314 (by decide) ?_
      refine vg_lald X (fO2 0) 55 h552 rfl (by decide) (by decide) rfl dL_law_315 ?_
      refine vg_iload X dL_law_316 0 rfl ?_
      refine vg_i2l X ((rr3).toInt64) dL_law_318 rfl ?_
      refine vg_lcmp_eq X 325 dL_law_319 dL_law_320 (by decide) (fun c319 => ?_) (fun c319 => ?_)
      · skip
        refine vg_goto X 1363 dL_law_325 (by decide) ?_
        refine vg_locals [2, 3, 4, 5, 6] rfl ?_
        exact kk _ _ _ hjo
      · exact absurd (hv c310) c319
  · have c303 : ¬ k = k := fun z => c303 ((nI_eq (by omega) (by omega)).mpr z)
    exact absurd rfl c303
set_option maxHeartbeats 4000000 in
set_option maxRecDepth 100000 in
theorem lc_slow {p : Program} (l : Launch) {e : Env} {s : State} {m : MethodId} {below : List Frame} {meth : Method} {c : Code} {D : va_G} {ay : Nat → ClassId} {tE mi b L : Nat} {xs : Nat → Int32} {Gx : State → Prop} {Q : State → Prop} {cells slots : Nat} {ax am aO : Nat} {aa : Nat → Nat} {th i : Nat} {fO : Nat → Int64} {ws : va_W} (hl9 : l.stackTraces = false) (X : vg_C D ay s.heap.size Gx p s m #[Value.ref b] meth c cL_law 8 RL wsL_law ret) (hG2 : ∀ U, Gx U → vh_G2 s.heap.size tE mi U) (hG3 : ∀ U, Gx U → vh_X U) (hWm9 : vs_W s) (hX : va_X b L xs s s.heap) (hbl : b < s.heap.size) (hL : L ≤ 3072) (hi : i + 6 ≤ L) (hc : cells + 10 ≤ 601024) (hs : slots + 400 ≤ 7293034) (hj : jo_S ay ws ax tE am aa th aO fO) (kk : ∀ (ws2 : va_W) (th2 : Nat) (fO2 : Nat → Int64), jo_S ay ws2 ax tE am aa th2 aO fO2 → vg_V D s.heap.size p l e room_1 s m #[Value.ref b] below meth c 8 (cells + 10) (slots + 400) Q [(4, .int (nI i)), (3, .ref aO), (2, .ref am), (1, .ref ax), (0, .ref b)] [] ws2 1363) : vg_V D s.heap.size p l e room_1 s m #[Value.ref b] below meth c 8 cells slots Q [(4, .int (nI i)), (3, .ref aO), (2, .ref am), (1, .ref ax), (0, .ref b)] [] ws 328 := by
  obtain ⟨n, P, U, d, fr, to, pe, uv, ku, ks, kt, sk, wl, wp, hS, hM, h55⟩ := hj
  refine vg_aload_n X dL_law_328 3 rfl rfl ?_
  refine vg_aload_n X dL_law_329 4 rfl rfl ?_
  refine vg_iload X dL_law_330 0 rfl ?_
  refine vg_iconst X (nI 1) dL_law_332 (by decide) ?_
  refine vg_iadd X (nI (i + 1)) dL_law_333 (nI_add _ _) ?_
  refine vg_sld X hX hbl (Nat.not_le.mpr hbl) rfl (show i + 1 < L by omega) (by omega) dL_law_334 ?_
  refine vg_aload_n X dL_law_335 4 rfl rfl ?_
  refine vg_iload X dL_law_336 0 rfl ?_
  refine vg_iconst X (nI 2) dL_law_338 (by decide) ?_
  refine vg_iadd X (nI (i + 2)) dL_law_339 (nI_add _ _) ?_
  refine vg_sld X hX hbl (Nat.not_le.mpr hbl) rfl (show i + 2 < L by omega) (by omega) dL_law_340 ?_
  refine vg_aload_n X dL_law_341 4 rfl rfl ?_
  refine vg_iload X dL_law_342 0 rfl ?_
  refine vg_iconst X (nI 3) dL_law_344 (by decide) ?_
  refine vg_iadd X (nI (i + 3)) dL_law_345 (nI_add _ _) ?_
  refine vg_sld X hX hbl (Nat.not_le.mpr hbl) rfl (show i + 3 < L by omega) (by omega) dL_law_346 ?_
  refine vg_aload_n X dL_law_347 4 rfl rfl ?_
  refine vg_iload X dL_law_348 0 rfl ?_
  refine vg_iconst X (nI 4) dL_law_350 (by decide) ?_
  refine vg_iadd X (nI (i + 4)) dL_law_351 (nI_add _ _) ?_
  refine vg_sld X hX hbl (Nat.not_le.mpr hbl) rfl (show i + 4 < L by omega) (by omega) dL_law_352 ?_
  refine vg_aload_n X dL_law_353 1 rfl rfl ?_
  refine vg_calli (vg_runSW X vs_st hWm9 (c_L_slow l hl9 hG2 hG3 hS h55 (x := xs (i + 1)) (f := xs (i + 2)) (t := xs (i + 3)) (w := xs (i + 4))) (vx_cwSW 6 X.2.2.2.2.1 gL_law_L_slow rfl rfl rfl (by decide +kernel) ⟨(Nat.le_of_ble_eq_true rfl), (Nat.le_of_ble_eq_true rfl)⟩) rfl rfl (Nat.le_of_ble_eq_true rfl) dL_law_354 ⟨hc, hs⟩) (fun rr w1 H1 => ?_)
  have hM1 := cm_St_fr hM (af_slow H1)
  obtain ⟨fl1, fm1, fn1, fs1, hO1, _⟩ := id hM1
  unfold cm_O at hO1
  refine vg_istore X [(5, .int rr), (4, .int (nI i)), (3, .ref aO), (2, .ref am), (1, .ref ax), (0, .ref b)] dL_law_357 (by decide) rfl ?_
  refine vg_aload_n X dL_law_359 3 rfl rfl ?_
  refine vg_aload_n X dL_law_360 5 rfl rfl ?_
  refine vg_iload X dL_law_361 1 rfl ?_
  refine vg_iconst X (nI 1) dL_law_363 (by decide) ?_
  refine vg_iadd X (nI (i + 1)) dL_law_364 (nI_add _ _) ?_
  refine vg_sld X hX hbl (Nat.not_le.mpr hbl) rfl (show i + 1 < L by omega) (by omega) dL_law_365 ?_
  refine vg_aload_n X dL_law_366 5 rfl rfl ?_
  refine vg_iload X dL_law_367 1 rfl ?_
  refine vg_iconst X (nI 2) dL_law_369 (by decide) ?_
  refine vg_iadd X (nI (i + 2)) dL_law_370 (nI_add _ _) ?_
  refine vg_sld X hX hbl (Nat.not_le.mpr hbl) rfl (show i + 2 < L by omega) (by omega) dL_law_371 ?_
  refine vg_aload_n X dL_law_372 5 rfl rfl ?_
  refine vg_iload X dL_law_373 1 rfl ?_
  refine vg_iconst X (nI 3) dL_law_375 (by decide) ?_
  refine vg_iadd X (nI (i + 3)) dL_law_376 (nI_add _ _) ?_
  refine vg_sld X hX hbl (Nat.not_le.mpr hbl) rfl (show i + 3 < L by omega) (by omega) dL_law_377 ?_
  refine vg_aload_n X dL_law_378 5 rfl rfl ?_
  refine vg_iload X dL_law_379 1 rfl ?_
  refine vg_iconst X (nI 4) dL_law_381 (by decide) ?_
  refine vg_iadd X (nI (i + 4)) dL_law_382 (nI_add _ _) ?_
  refine vg_sld X hX hbl (Nat.not_le.mpr hbl) rfl (show i + 4 < L by omega) (by omega) dL_law_383 ?_
  refine vg_calli (vg_runV X (c_X7_slow l hM1 (cw_St_R hS) (cw_St_K hS) (x := xs (i + 1)) (f := xs (i + 2)) (t := xs (i + 3)) (w := xs (i + 4))) (cwV 4 X.2.2.2.2.1 gL_law_X7_slow rfl rfl rfl (by decide +kernel) ⟨Nat.le_of_ble_eq_true rfl, Nat.le_of_ble_eq_true rfl⟩) 29 hO1 rfl rfl rfl (Nat.le_of_ble_eq_true rfl) dL_law_384 ⟨hc, hs⟩) (fun rr3 wz1 PP2 => ?_)
  obtain ⟨k, fO2, ek, hk4, hjo, hv⟩ := ag_slow (th := th) hS h55 H1 PP2
  subst ek
  obtain ⟨_, _, _, _, _, _, _, _, _, _, _, _, _, _, hS2, hM2, h552⟩ := id hjo
  obtain ⟨_, _, _, _, hO2, _⟩ := id hM2
  have hO3 := hO2
  unfold cm_O at hO3
  refine vg_istore X [(6, .int rr3), (5, .int (nI k)), (4, .int (nI i)), (3, .ref aO), (2, .ref am), (1, .ref ax), (0, .ref b)] dL_law_387 (by decide) rfl ?_
  refine vg_aload_n X dL_law_389 4 rfl rfl ?_
  refine vg_calli (vg_runV X (c_X7_thrown l hO2) (cwV 0 X.2.2.2.2.1 gL_law_X7_thrown rfl rfl rfl (by decide +kernel) ⟨Nat.le_of_ble_eq_true rfl, Nat.le_of_ble_eq_true rfl⟩) 29 hO3 rfl rfl rfl (Nat.le_of_ble_eq_true rfl) dL_law_390 ⟨hc, hs⟩) (fun rr6 wz4 PP5 => ?_)
  obtain ⟨ew, er⟩ := PP5
  rw [ew, er]
  refine vg_iload X dL_law_393 1 rfl ?_
  refine vg_icmp_eq X 400 dL_law_395 (by decide) (fun c395 => ?_) (fun c395 => ?_)
  · have c395 : k = k := (nI_eq (by omega) (by omega)).mp c395
    skip
    refine vg_iload X dL_law_400 1 rfl ?_
    refine vg_if_ne X 417 dL_law_402 (by decide) (fun c402 => ?_) (fun c402 => ?_)
    · have c402 : ¬ k = 0 := fun z => c402 ((vg_eq0 (by omega)).mpr z)
      refine vg_goto X 1363 dL_law_417 (by decide) ?_
      refine vg_locals [2, 3, 4, 5, 6] rfl ?_
      exact kk _ _ _ hjo
    · have c402 : k = 0 := (vg_eq0 (by omega)).mp c402
      refine vg_aload_n X dL_law_405 3 rfl rfl ?_
      refine vg_iconst X (nI 0) dL_law_406 (by decide) ?_
      refine vg_lald X (fO2 0) 55 h552 rfl (by decide) (by decide) rfl dL_law_407 ?_
      refine vg_iload X dL_law_408 0 rfl ?_
      refine vg_i2l X ((rr3).toInt64) dL_law_410 rfl ?_
      refine vg_lcmp_eq X 417 dL_law_411 dL_law_412 (by decide) (fun c411 => ?_) (fun c411 => ?_)
      · skip
        refine vg_goto X 1363 dL_law_417 (by decide) ?_
        refine vg_locals [2, 3, 4, 5, 6] rfl ?_
        exact kk _ _ _ hjo
      · exact absurd (hv c402) c411
  · have c395 : ¬ k = k := fun z => c395 ((nI_eq (by omega) (by omega)).mpr z)
    exact absurd rfl c395
