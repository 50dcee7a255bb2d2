theorem cw_N_p {ay : Nat → ClassId} {ws : va_W} {aN tE n P U : Nat} {el qp ua uq : Nat → Nat} {d fr to pe uv : Nat → Nat → Nat} (h : cw_N ay ws aN tE n P U el qp ua uq d fr to pe uv) {i : Nat} (hi : i < P) : 56 ≤ qp i ∧ cp_P ay ws (qp i) (el i) (d i) (fr i) (to i) (pe i) ∧ cp_R (d i) (fr i) (to i) (pe i) ∧ d i 0 < n ∧ d i 1 < n ∧ d i 0 ≠ d i 1 := by
  obtain ⟨aP, aU, aH, aO, aE1, aE2, fh, fo, h1, h4, h5, ⟨l1, l2, l3, l4, l5, l6, l7, l8, l9, l10⟩, c1⟩ := h
  exact l4 i hi
theorem cw_N_uj {ay : Nat → ClassId} {ws : va_W} {aN tE n P U : Nat} {el qp ua uq : Nat → Nat} {d fr to pe uv : Nat → Nat → Nat} (h : cw_N ay ws aN tE n P U el qp ua uq d fr to pe uv) {j : Nat} (hj : j < U) : 56 ≤ uq j ∧ cu_P ws (uq j) (ua j) (uv j) ∧ cu_R (uv j) ∧ uv j 4 < n := by
  obtain ⟨aP, aU, aH, aO, aE1, aE2, fh, fo, h1, h4, h5, ⟨l1, l2, l3, l4, l5, l6, l7, l8, l9, l10⟩, c1⟩ := h
  exact l5 j hj
theorem cw_N_b {ay : Nat → ClassId} {ws : va_W} {aN tE n P U : Nat} {el qp ua uq : Nat → Nat} {d fr to pe uv : Nat → Nat → Nat} (h : cw_N ay ws aN tE n P U el qp ua uq d fr to pe uv) : n ≤ 200 ∧ P ≤ 150 ∧ U ≤ 12 := by
  obtain ⟨aP, aU, aH, aO, aE1, aE2, fh, fo, h1, h4, h5, ⟨l1, l2, l3, l4, l5, l6, l7, l8, l9, l10⟩, c1⟩ := h
  exact ⟨l8, l9, l10⟩
/-- the trees are redone: the state after it -/
theorem cw_S_redo {ay : Nat → ClassId} {ws u : va_W} {ax tE : Nat} {aN asr aTs aWB : Nat} {el qp ua uq : Nat → Nat} {fb : Nat → Int32} {n P U : Nat} {d fr to pe uv : Nat → Nat → Nat} {ku ks kt : Nat → Nat} {sk : Nat → Nat → Nat} {wl : Nat} {wp : Nat → Nat} {sn : Nat → Nat → Nat} (h0 : ws[0]? = some (ax, .inr (9, [.ref aN, .ref asr, .ref aTs, .ref aWB, .int (nI wl)]))) (hN : cw_N ay ws aN tE n P U el qp ua uq d fr to pe uv) (hK : ct_k n U ku ks kt) (h16 : ws[16]? = some (aWB, .inl (ay 0, 150, .inl fb))) (hwl : wl ≤ 150) (hwp : ∀ j, j < wl → fb j = nI (wp j)) (h56 : 56 ≤ ws.length) (hT : ct_T ay u aTs n ua ku ks kt sn) (hI : cs_I ay u asr aN) (hf : vg_fr ws u [6, 7, 8, 9, 10, 11, 12, 13, 14, 18, 20, 22, 24, 26, 28]) : cw_S ay u ax tE aN asr aTs aWB el qp ua uq fb n P U d fr to pe uv ku ks kt sn wl wp := by
  have g : ∀ j, j < 6 ∨ 29 ≤ j → u[j]? = ws[j]? := fun j hj => hf.2 j (fun z => by simp only [List.mem_cons, List.not_mem_nil, or_false] at z; omega)
  exact ⟨(g 0 (by omega)).trans h0, hI, cw_N_fr hN (fun j q1 q2 => g j (by omega)) (fun j q1 => g j (by omega)), hT, hK, (hf.2 16 (by decide)).trans h16, hwl, hwp, by rw [hf.1]; exact h56⟩
theorem cw_fr_redo {ws u : va_W} (hf : vg_fr ws u [6, 7, 8, 9, 10, 11, 12, 13, 14, 18, 20, 22, 24, 26, 28]) : cw_fr ws u := cw_fr_of hf (by decide)
theorem cw_fr_set {ws u : va_W} {q : Nat} {y : Nat × va_E} (h : 56 ≤ q) (e : u = ws.set q y) : cw_fr ws u := ⟨Nat.le_of_eq (vg_sl e).symm, fun j _ h2 => vg_sn e (by omega)⟩
theorem i32_tm {x : Int32} (h : 0 ≤ x) : ∃ k, k < 2 ^ 31 ∧ x = nI k := by
  obtain ⟨k, _, h2, h3⟩ := cm_rng (x := x) (a := 0) (b := 2147483647) ⟨h, i32_max x⟩ (by decide) (by decide)
  exact ⟨k, by omega, h3⟩
theorem in_X6_limit_X2 : ∀ w ∈ u_ws RX2 TX2 11, w ∈ wsX6_limit := by decide +kernel
theorem ml_X6_limit_100 : Cond.fieldLink RX6 100 "WayTimes$Piece" "weightLimit" "I" ∈ wsX6_limit := by decide +kernel
theorem ml_X6_limit_103 : Cond.fieldLink RX6 103 "WayTimes$Piece" "heightLimit" "I" ∈ wsX6_limit := by decide +kernel
theorem in_X6_speed_X2 : ∀ w ∈ u_ws RX2 TX2 11, w ∈ wsX6_speed := by decide +kernel
theorem ml_X6_speed_123 : Cond.fieldLink RX6 123 "WayTimes$Piece" "speed" "I" ∈ wsX6_speed := by decide +kernel
theorem in_X6_close_X2 : ∀ w ∈ u_ws RX2 TX2 11, w ∈ wsX6_close := by decide +kernel
theorem ml_X6_close_114 : Cond.fieldLink RX6 114 "WayTimes$Piece" "closed" "Z" ∈ wsX6_close := by decide +kernel
theorem tl_X6_close_118 : Cond.classLink RX6 118 "java/lang/IllegalStateException" ∈ wsX6_close := by decide +kernel
theorem ti_X6_close_118 : Cond.initialized "java/lang/IllegalStateException" ∈ wsX6_close := by decide +kernel
theorem in_X6_slow_X2 : ∀ w ∈ u_ws RX2 TX2 11, w ∈ wsX6_slow := by decide +kernel
theorem ml_X6_slow_106 : Cond.fieldLink RX6 106 "WayTimes$Piece" "rows" "I" ∈ wsX6_slow := by decide +kernel
theorem tl_X6_slow_79 : Cond.classLink RX6 79 "java/lang/UnsupportedOperationException" ∈ wsX6_slow := by decide +kernel
theorem ti_X6_slow_79 : Cond.initialized "java/lang/UnsupportedOperationException" ∈ wsX6_slow := by decide +kernel
theorem in_X6_stand_X5 : ∀ w ∈ u_ws RX5 TX5 5, w ∈ wsX6_stand := by decide +kernel
theorem ml_X6_stand_144 : Cond.fieldLink RX6 144 "WayTimes$Unit" "node" "I" ∈ wsX6_stand := by decide +kernel
theorem in_X6_seconds_X2 : ∀ w ∈ u_ws RX2 TX2 11, w ∈ wsX6_seconds := by decide +kernel
theorem ml_X6_seconds_123 : Cond.fieldLink RX6 123 "WayTimes$Piece" "speed" "I" ∈ wsX6_seconds := by decide +kernel
theorem ml_X6_seconds_155 : Cond.fieldLink RX6 155 "WayTimes$Piece" "metres" "I" ∈ wsX6_seconds := by decide +kernel
theorem tl_X6_seconds_150 : Cond.classLink RX6 150 "java/lang/ArithmeticException" ∈ wsX6_seconds := by decide +kernel
theorem ti_X6_seconds_150 : Cond.initialized "java/lang/ArithmeticException" ∈ wsX6_seconds := by decide +kernel
theorem in_X6_step_X6 : ∀ w ∈ u_ws RX6 TX6 5, w ∈ wsX6_step := by decide +kernel
theorem ml_X6_step_55 : Cond.fieldLink RX6 55 "WayTimes" "waySteps" "I" ∈ wsX6_step := by decide +kernel
theorem ml_X6_step_31 : Cond.fieldLink RX6 31 "WayTimes" "wayBack" "[I" ∈ wsX6_step := by decide +kernel
theorem tl_X6_step_174 : Cond.classLink RX6 174 "java/lang/IndexOutOfBoundsException" ∈ wsX6_step := by decide +kernel
theorem ti_X6_step_174 : Cond.initialized "java/lang/IndexOutOfBoundsException" ∈ wsX6_step := by decide +kernel
set_option maxHeartbeats 4000000 in
set_option maxRecDepth 100000 in
/-- X6_limit -/
theorem c_X6_limit (l : Launch) {D : va_G} {ay : Nat → ClassId} {base : Nat} {Gx : State → Prop} {tE mi : Nat} {ws : va_W} {ax : Nat} {n P U : Nat} {d fr to pe uv : Nat → Nat → Nat} {ku ks kt : Nat → Nat} {sk : Nat → Nat → Nat} {wl : Nat} {wp : Nat → Nat} {x w h : Int32} (hl9 : l.stackTraces = false) (hG2 : ∀ U, Gx U → vh_G2 base tE mi U) (hS : cw_St ay ws ax tE n P U d fr to pe uv ku ks kt sk wl wp) : vx_Met l yX6_limit wsX6_limit ({ frames := 8, cells := 8, slots := 60, locals := 210 } : Room) (fun a9 s9 => va_Pc [.ref ax, .int x, .int w, .int h] (vg_B D ay base Gx ws) a9 s9 ∧ vs_W s9) (va_Qi (fun r u => ∃ ix wx hx : Nat, x = nI ix ∧ ix < P ∧ w = nI wx ∧ wx ≤ 1000 ∧ h = nI hx ∧ hx ≤ 1000 ∧ cw_St ay u ax tE n P U (va_up d ix (va_up (va_up (d ix) 4 wx) 5 hx)) fr to pe uv ku ks kt (ct_new P (va_up d ix (va_up (va_up (d ix) 4 wx) 5 hx)) fr to pe uv ku ks kt) wl wp ∧ cw_fr ws u ∧ r = nI (ct_cnt n ku sk (ct_new P (va_up d ix (va_up (va_up (d ix) 4 wx) 5 hx)) fr to pe uv ku ks kt) 6)) (vg_B D ay base Gx) (vg_A base)) (vg_XC D ay base Gx ws (fun E => (E = "java/lang/IllegalArgumentException" ∧ ¬ cm_in x P) ∨ (E = "java/lang/IndexOutOfBoundsException" ∧ cm_in x P ∧ ¬ ((nI 0 ≤ w ∧ w ≤ nI 1000) ∧ (nI 0 ≤ h ∧ h ≤ nI 1000))))) 8 60 (vg_A base) := by
  refine vg_metX (cc := cX6_limit) (maxL := 5) (ret := (some .int)) (own := RX6) (lv := [(0, .ref ax), (1, .int x), (2, .int w), (3, .int h)]) (by decide) rfl rfl (Nat.le_of_ble_eq_true rfl) rfl ?_
  intro p e s m args below meth c X hT hWm9
  obtain ⟨aN, asr, aTs, aWB, el, qp, ua, uq, fb, hS⟩ := hS
  have hS0 := hS
  obtain ⟨h0, hI, hN, hTT, hK, h16, hwl, hwp, h56⟩ := hS0
  have hB := cw_N_b hN
  refine vg_aload_n X dX6_limit_0 0 rfl rfl ?_
  refine vg_iload_n X dX6_limit_1 1 rfl rfl ?_
  refine vg_callrX X (vg_runVX X vs_st hWm9 (c_X6_knownPiece l hl9 hG2 hS (x := x)) (cwV 1 X.2.2.2.2.1 gX6_limit_X6_knownPiece rfl rfl rfl (by decide +kernel) ⟨(Nat.le_of_ble_eq_true rfl), (Nat.le_of_ble_eq_true rfl)⟩) 0 h0 rfl rfl rfl (Nat.le_of_ble_eq_true rfl) dX6_limit_2 ⟨(Nat.le_of_ble_eq_true rfl), (Nat.le_of_ble_eq_true rfl)⟩) hT (fun E hE => Or.inl hE) (Nat.le_of_ble_eq_true rfl) (Nat.le_of_ble_eq_true rfl) (fun rr3 wz1 PP2 PP2q => ?_)
  obtain ⟨ix, eix, hix, aix⟩ := PP2q
  rw [PP2, aix]
  subst eix
  obtain ⟨qix, pix, rix, y0ix, y1ix, y2ix⟩ := cw_N_p hN hix
  have pixb := pix
  obtain ⟨afix, atix, agix, ffix, ftix, fgix, k0ix, k1ix, k2ix, k3ix, krix⟩ := pix
  refine vg_astore X [(4, .ref (el ix)), (0, .ref ax), (1, .int (nI ix)), (2, .int w), (3, .int h)] dX6_limit_5 (by decide) rfl ?_
  refine vg_iload_n X dX6_limit_7 3 rfl rfl ?_
  refine vg_iconst X (nI 0) dX6_limit_8 (by decide) ?_
  refine vg_sipush X (nI 1000) dX6_limit_9 (by decide) ?_
  refine vg_callvX X (vg_runSX X vs_st hWm9 (c_X6_needWithin l hl9 hG2 (x := w) (lo := nI 0) (hi := nI 1000)) (cwS 3 X.2.2.2.2.1 gX6_limit_X6_needWithin rfl rfl rfl (by decide +kernel) ⟨(Nat.le_of_ble_eq_true rfl), (Nat.le_of_ble_eq_true rfl)⟩) rfl rfl (Nat.le_of_ble_eq_true rfl) dX6_limit_12 ⟨(Nat.le_of_ble_eq_true rfl), (Nat.le_of_ble_eq_true rfl)⟩) hT (fun E hE => Or.inr ⟨hE.1, ⟨ix, hix, rfl⟩, fun z9 => hE.2 z9.1⟩) (Nat.le_of_ble_eq_true rfl) (Nat.le_of_ble_eq_true rfl) (fun wz4 PP5 => ?_)
  obtain ⟨ew_w, hr_w⟩ := PP5
  rw [ew_w]
  refine vg_iload_n X dX6_limit_15 4 rfl rfl ?_
  refine vg_iconst X (nI 0) dX6_limit_16 (by decide) ?_
  refine vg_sipush X (nI 1000) dX6_limit_17 (by decide) ?_
  refine vg_callvX X (vg_runSX X vs_st hWm9 (c_X6_needWithin l hl9 hG2 (x := h) (lo := nI 0) (hi := nI 1000)) (cwS 3 X.2.2.2.2.1 gX6_limit_X6_needWithin rfl rfl rfl (by decide +kernel) ⟨(Nat.le_of_ble_eq_true rfl), (Nat.le_of_ble_eq_true rfl)⟩) rfl rfl (Nat.le_of_ble_eq_true rfl) dX6_limit_20 ⟨(Nat.le_of_ble_eq_true rfl), (Nat.le_of_ble_eq_true rfl)⟩) hT (fun E hE => Or.inr ⟨hE.1, ⟨ix, hix, rfl⟩, fun z9 => hE.2 z9.2⟩) (Nat.le_of_ble_eq_true rfl) (Nat.le_of_ble_eq_true rfl) (fun wz7 PP8 => ?_)
  obtain ⟨ew_h, hr_h⟩ := PP8
  rw [ew_h]
  obtain ⟨wx, lwx, hwx, ewx⟩ := cm_rng hr_w (a := 0) (b := 1000) (by decide) (by decide)
  subst ewx
  obtain ⟨hx, lhx, hhx, ehx⟩ := cm_rng hr_h (a := 0) (b := 1000) (by decide) (by decide)
  subst ehx
  refine vg_aload X dX6_limit_23 0 rfl ?_
  refine vg_iload_n X dX6_limit_25 3 rfl rfl ?_
  refine vg_put X in_X6_limit_X2 tyX2 tyX2_ok nmX2 (qp ix) k0ix rfl 4 (by decide) ml_X6_limit_100 rfl rfl rfl rfl (Nat.le_of_ble_eq_true rfl) dX6_limit_26 (fun wz10 ez11 => ?_)
  have fh12 : wz10[qp ix]? = some (el ix, .inr (5, [.int (nI (d ix 0)), .int (nI (d ix 1)), .int (nI (d ix 2)), .int (nI (d ix 3)), .int (nI wx), .int (nI (d ix 5)), .int (nI (d ix 6)), .int (nI (d ix 7)), .ref afix, .ref atix, .ref agix])) := vg_se ez11 k0ix
  refine vg_aload X dX6_limit_29 0 rfl ?_
  refine vg_iload_n X dX6_limit_31 4 rfl rfl ?_
  refine vg_put X in_X6_limit_X2 tyX2 tyX2_ok nmX2 (qp ix) fh12 rfl 5 (by decide) ml_X6_limit_103 rfl rfl rfl rfl (Nat.le_of_ble_eq_true rfl) dX6_limit_32 (fun wz13 ez14 => ?_)
  have fh15 : wz13[qp ix]? = some (el ix, .inr (5, [.int (nI (d ix 0)), .int (nI (d ix 1)), .int (nI (d ix 2)), .int (nI (d ix 3)), .int (nI wx), .int (nI hx), .int (nI (d ix 6)), .int (nI (d ix 7)), .ref afix, .ref atix, .ref agix])) := vg_se ez14 fh12
  refine vg_aload_n X dX6_limit_35 1 rfl rfl ?_
  have hp9 : cp_P ay wz13 (qp ix) (el ix) (va_up (va_up (d ix) 4 wx) 5 hx) (fr ix) (to ix) (pe ix) := ⟨afix, atix, agix, ffix, ftix, fgix, fh15, ((vg_sn ez14 (by omega)).trans (vg_sn ez11 (by omega))).trans k1ix, ((vg_sn ez14 (by omega)).trans (vg_sn ez11 (by omega))).trans k2ix, ((vg_sn ez14 (by omega)).trans (vg_sn ez11 (by omega))).trans k3ix, krix⟩
  have hr9 : cp_R (va_up (va_up (d ix) 4 wx) 5 hx) (fr ix) (to ix) (pe ix) := cp_R4 rix (by omega) (by omega)
  have hd9 : ∀ j, j < qp ix ∨ qp ix + 4 ≤ j → wz13[j]? = ws[j]? := fun j hj => (vg_sn ez14 (by omega)).trans (vg_sn ez11 (by omega))
  have hN9 := cw_N_pu hN hix hp9 hr9 rfl rfl hd9
  have hI9 := cs_I_f6 hI (fun j q1 q2 => hd9 j (by omega))
  have hTT9 := ct_T_fr hTT (fun j hj => hd9 j (by omega))
  have h169 := (hd9 16 (by omega)).trans h16
  have x09 := (hd9 0 (by omega)).trans h0
  rw [vu_id, vu_id, vu_id] at hN9
  have h569 : 56 ≤ wz13.length := by rw [show wz13.length = ws.length from (vg_sl ez14).trans ((vg_sl ez11).trans (rfl))]; exact h56
  have gW0 : cw_fr ws wz13 := ⟨Nat.le_of_eq (show ws.length = wz13.length from ((vg_sl ez14).trans ((vg_sl ez11).trans (rfl))).symm), fun j _ q2 => hd9 j (by omega)⟩
  refine vg_calli (vg_runV X (c_X6_redoTrees l x09 hI9 (cw_N_n hN9) (cw_N_u hN9) hTT9 hK) (cwV 0 X.2.2.2.2.1 gX6_limit_X6_redoTrees rfl rfl rfl (by decide +kernel) ⟨Nat.le_of_ble_eq_true rfl, Nat.le_of_ble_eq_true rfl⟩) 0 x09 rfl rfl rfl (Nat.le_of_ble_eq_true rfl) dX6_limit_36 ⟨(Nat.le_of_ble_eq_true rfl), (Nat.le_of_ble_eq_true rfl)⟩) (fun rr18 wz16 PP17 => ?_)
  obtain ⟨er9, gT, gI, gF⟩ := PP17
  have gS := cw_S_redo (ax := ax) (sk := sk) x09 hN9 hK h169 hwl hwp h569 gT gI gF
  have gW := cw_fr_tr gW0 (cw_fr_redo gF)
  exact vg_xret (vg_iret X rfl ⟨ix, wx, hx, rfl, hix, rfl, by omega, rfl, by omega, ⟨_, _, _, _, _, _, _, _, _, gS⟩, gW, er9⟩ (Nat.le_of_ble_eq_true rfl) (Nat.le_of_ble_eq_true rfl) dX6_limit_39)
set_option maxHeartbeats 4000000 in
set_option maxRecDepth 100000 in
/-- X6_speed -/
theorem c_X6_speed (l : Launch) {D : va_G} {ay : Nat → ClassId} {base : Nat} {Gx : State → Prop} {tE mi : Nat} {ws : va_W} {ax : Nat} {n P U : Nat} {d fr to pe uv : Nat → Nat → Nat} {ku ks kt : Nat → Nat} {sk : Nat → Nat → Nat} {wl : Nat} {wp : Nat → Nat} {x w : Int32} (hl9 : l.stackTraces = false) (hG2 : ∀ U, Gx U → vh_G2 base tE mi U) (hS : cw_St ay ws ax tE n P U d fr to pe uv ku ks kt sk wl wp) : vx_Met l yX6_speed wsX6_speed ({ frames := 8, cells := 8, slots := 60, locals := 210 } : Room) (fun a9 s9 => va_Pc [.ref ax, .int x, .int w] (vg_B D ay base Gx ws) a9 s9 ∧ vs_W s9) (va_Qi (fun r u => ∃ ix wx : Nat, x = nI ix ∧ ix < P ∧ w = nI wx ∧ wx ≤ 200 ∧ cw_St ay u ax tE n P U (va_up d ix (va_up (d ix) 3 wx)) fr to pe uv ku ks kt (ct_new P (va_up d ix (va_up (d ix) 3 wx)) fr to pe uv ku ks kt) wl wp ∧ cw_fr ws u ∧ r = nI (ct_cnt n ku sk (ct_new P (va_up d ix (va_up (d ix) 3 wx)) fr to pe uv ku ks kt) 6)) (vg_B D ay base Gx) (vg_A base)) (vg_XC D ay base Gx ws (fun E => (E = "java/lang/IllegalArgumentException" ∧ ¬ cm_in x P) ∨ (E = "java/lang/IndexOutOfBoundsException" ∧ cm_in x P ∧ ¬ (nI 0 ≤ w ∧ w ≤ nI 200)))) 8 60 (vg_A base) := by
  refine vg_metX (cc := cX6_speed) (maxL := 4) (ret := (some .int)) (own := RX6) (lv := [(0, .ref ax), (1, .int x), (2, .int w)]) (by decide) rfl rfl (Nat.le_of_ble_eq_true rfl) rfl ?_
  intro p e s m args below meth c X hT hWm9
  obtain ⟨aN, asr, aTs, aWB, el, qp, ua, uq, fb, hS⟩ := hS
  have hS0 := hS
  obtain ⟨h0, hI, hN, hTT, hK, h16, hwl, hwp, h56⟩ := hS0
  have hB := cw_N_b hN
  refine vg_aload_n X dX6_speed_0 0 rfl rfl ?_
  refine vg_iload_n X dX6_speed_1 1 rfl rfl ?_
  refine vg_callrX X (vg_runVX X vs_st hWm9 (c_X6_knownPiece l hl9 hG2 hS (x := x)) (cwV 1 X.2.2.2.2.1 gX6_speed_X6_knownPiece rfl rfl rfl (by decide +kernel) ⟨(Nat.le_of_ble_eq_true rfl), (Nat.le_of_ble_eq_true rfl)⟩) 0 h0 rfl rfl rfl (Nat.le_of_ble_eq_true rfl) dX6_speed_2 ⟨(Nat.le_of_ble_eq_true rfl), (Nat.le_of_ble_eq_true rfl)⟩) hT (fun E hE => Or.inl hE) (Nat.le_of_ble_eq_true rfl) (Nat.le_of_ble_eq_true rfl) (fun rr3 wz1 PP2 PP2q => ?_)
  obtain ⟨ix, eix, hix, aix⟩ := PP2q
  rw [PP2, aix]
  subst eix
  obtain ⟨qix, pix, rix, y0ix, y1ix, y2ix⟩ := cw_N_p hN hix
  have pixb := pix
  obtain ⟨afix, atix, agix, ffix, ftix, fgix, k0ix, k1ix, k2ix, k3ix, krix⟩ := pix
  refine vg_astore_n X [(3, .ref (el ix)), (0, .ref ax), (1, .int (nI ix)), (2, .int w)] dX6_speed_5 rfl (by decide) rfl ?_
  refine vg_iload_n X dX6_speed_6 3 rfl rfl ?_
  refine vg_iconst X (nI 0) dX6_speed_7 (by decide) ?_
  refine vg_sipush X (nI 200) dX6_speed_8 (by decide) ?_
  refine vg_callvX X (vg_runSX X vs_st hWm9 (c_X6_needWithin l hl9 hG2 (x := w) (lo := nI 0) (hi := nI 200)) (cwS 3 X.2.2.2.2.1 gX6_speed_X6_needWithin rfl rfl rfl (by decide +kernel) ⟨(Nat.le_of_ble_eq_true rfl), (Nat.le_of_ble_eq_true rfl)⟩) rfl rfl (Nat.le_of_ble_eq_true rfl) dX6_speed_11 ⟨(Nat.le_of_ble_eq_true rfl), (Nat.le_of_ble_eq_true rfl)⟩) hT (fun E hE => Or.inr ⟨hE.1, ⟨ix, hix, rfl⟩, hE.2⟩) (Nat.le_of_ble_eq_true rfl) (Nat.le_of_ble_eq_true rfl) (fun wz4 PP5 => ?_)
  obtain ⟨ew_w, hr_w⟩ := PP5
  rw [ew_w]
  obtain ⟨wx, lwx, hwx, ewx⟩ := cm_rng hr_w (a := 0) (b := 200) (by decide) (by decide)
  subst ewx
  refine vg_aload_n X dX6_speed_14 0 rfl rfl ?_
  refine vg_iload_n X dX6_speed_15 3 rfl rfl ?_
  refine vg_put X in_X6_speed_X2 tyX2 tyX2_ok nmX2 (qp ix) k0ix rfl 3 (by decide) ml_X6_speed_123 rfl rfl rfl rfl (Nat.le_of_ble_eq_true rfl) dX6_speed_16 (fun wz7 ez8 => ?_)
  have fh9 : wz7[qp ix]? = some (el ix, .inr (5, [.int (nI (d ix 0)), .int (nI (d ix 1)), .int (nI (d ix 2)), .int (nI wx), .int (nI (d ix 4)), .int (nI (d ix 5)), .int (nI (d ix 6)), .int (nI (d ix 7)), .ref afix, .ref atix, .ref agix])) := vg_se ez8 k0ix
  refine vg_aload_n X dX6_speed_19 1 rfl rfl ?_
  have hp9 : cp_P ay wz7 (qp ix) (el ix) (va_up (d ix) 3 wx) (fr ix) (to ix) (pe ix) := ⟨afix, atix, agix, ffix, ftix, fgix, fh9, (vg_sn ez8 (by omega)).trans k1ix, (vg_sn ez8 (by omega)).trans k2ix, (vg_sn ez8 (by omega)).trans k3ix, krix⟩
  have hr9 : cp_R (va_up (d ix) 3 wx) (fr ix) (to ix) (pe ix) := cp_R3 rix (by omega)
  have hd9 : ∀ j, j < qp ix ∨ qp ix + 4 ≤ j → wz7[j]? = ws[j]? := fun j hj => vg_sn ez8 (by omega)
  have hN9 := cw_N_pu hN hix hp9 hr9 rfl rfl hd9
  have hI9 := cs_I_f6 hI (fun j q1 q2 => hd9 j (by omega))
  have hTT9 := ct_T_fr hTT (fun j hj => hd9 j (by omega))
  have h169 := (hd9 16 (by omega)).trans h16
  have x09 := (hd9 0 (by omega)).trans h0
  rw [vu_id, vu_id, vu_id] at hN9
  have h569 : 56 ≤ wz7.length := by rw [show wz7.length = ws.length from (vg_sl ez8).trans (rfl)]; exact h56
  have gW0 : cw_fr ws wz7 := ⟨Nat.le_of_eq (show ws.length = wz7.length from ((vg_sl ez8).trans (rfl)).symm), fun j _ q2 => hd9 j (by omega)⟩
  refine vg_calli (vg_runV X (c_X6_redoTrees l x09 hI9 (cw_N_n hN9) (cw_N_u hN9) hTT9 hK) (cwV 0 X.2.2.2.2.1 gX6_speed_X6_redoTrees rfl rfl rfl (by decide +kernel) ⟨Nat.le_of_ble_eq_true rfl, Nat.le_of_ble_eq_true rfl⟩) 0 x09 rfl rfl rfl (Nat.le_of_ble_eq_true rfl) dX6_speed_20 ⟨(Nat.le_of_ble_eq_true rfl), (Nat.le_of_ble_eq_true rfl)⟩) (fun rr12 wz10 PP11 => ?_)
  obtain ⟨er9, gT, gI, gF⟩ := PP11
  have gS := cw_S_redo (ax := ax) (sk := sk) x09 hN9 hK h169 hwl hwp h569 gT gI gF
  have gW := cw_fr_tr gW0 (cw_fr_redo gF)
  exact vg_xret (vg_iret X rfl ⟨ix, wx, rfl, hix, rfl, by omega, ⟨_, _, _, _, _, _, _, _, _, gS⟩, gW, er9⟩ (Nat.le_of_ble_eq_true rfl) (Nat.le_of_ble_eq_true rfl) dX6_speed_23)
set_option maxHeartbeats 4000000 in
set_option maxRecDepth 100000 in
/-- X6_close -/
theorem c_X6_close (l : Launch) {D : va_G} {ay : Nat → ClassId} {base : Nat} {Gx : State → Prop} {tE mi : Nat} {ws : va_W} {ax : Nat} {n P U : Nat} {d fr to pe uv : Nat → Nat → Nat} {ku ks kt : Nat → Nat} {sk : Nat → Nat → Nat} {wl : Nat} {wp : Nat → Nat} {x : Int32} {on : Nat} (hon : on ≤ 1) (hl9 : l.stackTraces = false) (hG2 : ∀ U, Gx U → vh_G2 base tE mi U) (hS : cw_St ay ws ax tE n P U d fr to pe uv ku ks kt sk wl wp) : vx_Met l yX6_close wsX6_close ({ frames := 8, cells := 8, slots := 60, locals := 210 } : Room) (fun a9 s9 => va_Pc [.ref ax, .int x, .int (nI on)] (vg_B D ay base Gx ws) a9 s9 ∧ vs_W s9) (va_Qi (fun r u => ∃ ix : Nat, x = nI ix ∧ ix < P ∧ d ix 6 ≠ on ∧ cw_St ay u ax tE n P U (va_up d ix (va_up (d ix) 6 on)) fr to pe uv ku ks kt (ct_new P (va_up d ix (va_up (d ix) 6 on)) fr to pe uv ku ks kt) wl wp ∧ cw_fr ws u ∧ r = nI (ct_cnt n ku sk (ct_new P (va_up d ix (va_up (d ix) 6 on)) fr to pe uv ku ks kt) 6)) (vg_B D ay base Gx) (vg_A base)) (vg_XC D ay base Gx ws (fun E => (E = "java/lang/IllegalArgumentException" ∧ ¬ cm_in x P) ∨ (E = "java/lang/IllegalStateException" ∧ ∃ i, x = nI i ∧ i < P ∧ d i 6 = on))) 8 60 (vg_A base) := by
  refine vg_metX (cc := cX6_close) (maxL := 4) (ret := (some .int)) (own := RX6) (lv := [(0, .ref ax), (1, .int x), (2, .int (nI on))]) (by decide) rfl rfl (Nat.le_of_ble_eq_true rfl) rfl ?_
  intro p e s m args below meth c X hT hWm9
  obtain ⟨aN, asr, aTs, aWB, el, qp, ua, uq, fb, hS⟩ := hS
  have hS0 := hS
  obtain ⟨h0, hI, hN, hTT, hK, h16, hwl, hwp, h56⟩ := hS0
  have hB := cw_N_b hN
  refine vg_aload_n X dX6_close_0 0 rfl rfl ?_
  refine vg_iload_n X dX6_close_1 1 rfl rfl ?_
  refine vg_callrX X (vg_runVX X vs_st hWm9 (c_X6_knownPiece l hl9 hG2 hS (x := x)) (cwV 1 X.2.2.2.2.1 gX6_close_X6_knownPiece rfl rfl rfl (by decide +kernel) ⟨(Nat.le_of_ble_eq_true rfl), (Nat.le_of_ble_eq_true rfl)⟩) 0 h0 rfl rfl rfl (Nat.le_of_ble_eq_true rfl) dX6_close_2 ⟨(Nat.le_of_ble_eq_true rfl), (Nat.le_of_ble_eq_true rfl)⟩) hT (fun E hE => Or.inl hE) (Nat.le_of_ble_eq_true rfl) (Nat.le_of_ble_eq_true rfl) (fun rr3 wz1 PP2 PP2q => ?_)
  obtain ⟨ix, eix, hix, aix⟩ := PP2q
  rw [PP2, aix]
  subst eix
  obtain ⟨qix, pix, rix, y0ix, y1ix, y2ix⟩ := cw_N_p hN hix
  have pixb := pix
  obtain ⟨afix, atix, agix, ffix, ftix, fgix, k0ix, k1ix, k2ix, k3ix, krix⟩ := pix
  have r6 := rix.2.2.2.2.2.2.2.1
  refine vg_astore_n X [(3, .ref (el ix)), (0, .ref ax), (1, .int (nI ix)), (2, .int (nI on))] dX6_close_5 rfl (by decide) rfl ?_
  refine vg_aload_n X dX6_close_6 0 rfl rfl ?_
  refine vg_get X in_X6_close_X2 (qp ix) k0ix rfl 6 (by decide) ml_X6_close_114 rfl rfl dX6_close_7 ?_
  refine vg_iload_n X dX6_close_10 3 rfl rfl ?_
  refine vg_icmp_ne X 24 dX6_close_11 (by decide) (fun c11 => ?_) (fun c11 => ?_)
  · have c11 : ¬ d ix 6 = on := fun z => c11 ((nI_eq (by omega) (by omega)).mpr z)
    refine vg_aload_n X dX6_close_24 0 rfl rfl ?_
    refine vg_iload_n X dX6_close_25 3 rfl rfl ?_
    refine vg_put X in_X6_close_X2 tyX2 tyX2_ok nmX2 (qp ix) k0ix rfl 6 (by decide) ml_X6_close_114 rfl rfl (congrArg Value.int (nar01 hon)) (by rcases (show on = 0 ∨ on = 1 by omega) with z | z <;> subst z <;> rfl) (Nat.le_of_ble_eq_true rfl) dX6_close_26 (fun wz4 ez5 => ?_)
    have fh6 : wz4[qp ix]? = some (el ix, .inr (5, [.int (nI (d ix 0)), .int (nI (d ix 1)), .int (nI (d ix 2)), .int (nI (d ix 3)), .int (nI (d ix 4)), .int (nI (d ix 5)), .int (nI on), .int (nI (d ix 7)), .ref afix, .ref atix, .ref agix])) := vg_se ez5 k0ix
    refine vg_aload_n X dX6_close_29 1 rfl rfl ?_
    have hp9 : cp_P ay wz4 (qp ix) (el ix) (va_up (d ix) 6 on) (fr ix) (to ix) (pe ix) := ⟨afix, atix, agix, ffix, ftix, fgix, fh6, (vg_sn ez5 (by omega)).trans k1ix, (vg_sn ez5 (by omega)).trans k2ix, (vg_sn ez5 (by omega)).trans k3ix, krix⟩
    have hr9 : cp_R (va_up (d ix) 6 on) (fr ix) (to ix) (pe ix) := cp_R6 rix hon
    have hd9 : ∀ j, j < qp ix ∨ qp ix + 4 ≤ j → wz4[j]? = ws[j]? := fun j hj => vg_sn ez5 (by omega)
    have hN9 := cw_N_pu hN hix hp9 hr9 rfl rfl hd9
    have hI9 := cs_I_f6 hI (fun j q1 q2 => hd9 j (by omega))
    have hTT9 := ct_T_fr hTT (fun j hj => hd9 j (by omega))
    have h169 := (hd9 16 (by omega)).trans h16
    have x09 := (hd9 0 (by omega)).trans h0
    rw [vu_id, vu_id, vu_id] at hN9
    have h569 : 56 ≤ wz4.length := by rw [show wz4.length = ws.length from (vg_sl ez5).trans (rfl)]; exact h56
    have gW0 : cw_fr ws wz4 := ⟨Nat.le_of_eq (show ws.length = wz4.length from ((vg_sl ez5).trans (rfl)).symm), fun j _ q2 => hd9 j (by omega)⟩
    refine vg_calli (vg_runV X (c_X6_redoTrees l x09 hI9 (cw_N_n hN9) (cw_N_u hN9) hTT9 hK) (cwV 0 X.2.2.2.2.1 gX6_close_X6_redoTrees rfl rfl rfl (by decide +kernel) ⟨Nat.le_of_ble_eq_true rfl, Nat.le_of_ble_eq_true rfl⟩) 0 x09 rfl rfl rfl (Nat.le_of_ble_eq_true rfl) dX6_close_30 ⟨(Nat.le_of_ble_eq_true rfl), (Nat.le_of_ble_eq_true rfl)⟩) (fun rr9 wz7 PP8 => ?_)
    obtain ⟨er9, gT, gI, gF⟩ := PP8
    have gS := cw_S_redo (ax := ax) (sk := sk) x09 hN9 hK h169 hwl hwp h569 gT gI gF
    have gW := cw_fr_tr gW0 (cw_fr_redo gF)
    exact vg_xret (vg_iret X rfl ⟨ix, rfl, hix, c11, ⟨_, _, _, _, _, _, _, _, _, gS⟩, gW, er9⟩ (Nat.le_of_ble_eq_true rfl) (Nat.le_of_ble_eq_true rfl) dX6_close_33)
  · have c11 : d ix 6 = on := (nI_eq (by omega) (by omega)).mp c11
    obtain ⟨sa14, hsa14⟩ := hWm9.1 (120, "the piece is so already") (by decide)
    exact vg_throwS X (cls := "java/lang/IllegalStateException") (names := ["java/lang/RuntimeException", "java/lang/Exception"]) hT hl9 (by decide +kernel) (by decide +kernel) tl_X6_close_118 ti_X6_close_118 hsa14 (vs_hat hWm9 (by decide +kernel)) (vs_gd (by decide +kernel) rfl rfl) (hG2 s X.2.2.2.2.2.2.2.2.2.2).2.1 (hG2 s X.2.2.2.2.2.2.2.2.2.2).2.2 dX6_close_14 dX6_close_17 dX6_close_18 dX6_close_20 dX6_close_23 (Nat.le_of_ble_eq_true rfl) (Nat.le_of_ble_eq_true rfl) (Nat.le_of_ble_eq_true rfl) (Nat.le_of_ble_eq_true rfl) (Or.inr ⟨rfl, ix, rfl, hix, c11⟩) (Nat.le_of_ble_eq_true rfl) (Nat.le_of_ble_eq_true rfl)
set_option maxHeartbeats 4000000 in
set_option maxRecDepth 100000 in
/-- X6_slow -/
theorem c_X6_slow (l : Launch) {D : va_G} {ay : Nat → ClassId} {base : Nat} {Gx : State → Prop} {tE mi : Nat} {ws : va_W} {ax : Nat} {n P U : Nat} {d fr to pe uv : Nat → Nat → Nat} {ku ks kt : Nat → Nat} {sk : Nat → Nat → Nat} {wl : Nat} {wp : Nat → Nat} {x f t w : Int32} (hl9 : l.stackTraces = false) (hG2 : ∀ U, Gx U → vh_G2 base tE mi U) (hS : cw_St ay ws ax tE n P U d fr to pe uv ku ks kt sk wl wp) : vx_Met l yX6_slow wsX6_slow ({ frames := 8, cells := 8, slots := 60, locals := 210 } : Room) (fun a9 s9 => va_Pc [.ref ax, .int x, .int f, .int t, .int w] (vg_B D ay base Gx ws) a9 s9 ∧ vs_W s9) (va_Qi (fun r u => ∃ ix fx tx px : Nat, x = nI ix ∧ ix < P ∧ f = nI fx ∧ fx ≤ 23 ∧ t = nI tx ∧ fx ≤ tx ∧ tx ≤ 23 ∧ w = nI px ∧ 1 ≤ px ∧ px ≤ 100 ∧ d ix 7 < 3 ∧ cw_St ay u ax tE n P U (va_up d ix (va_up (d ix) 7 (d ix 7 + 1))) (va_up fr ix (va_up (fr ix) (d ix 7) fx)) (va_up to ix (va_up (to ix) (d ix 7) tx)) (va_up pe ix (va_up (pe ix) (d ix 7) px)) uv ku ks kt (ct_new P (va_up d ix (va_up (d ix) 7 (d ix 7 + 1))) (va_up fr ix (va_up (fr ix) (d ix 7) fx)) (va_up to ix (va_up (to ix) (d ix 7) tx)) (va_up pe ix (va_up (pe ix) (d ix 7) px)) uv ku ks kt) wl wp ∧ cw_fr ws u ∧ r = nI (ct_cnt n ku sk (ct_new P (va_up d ix (va_up (d ix) 7 (d ix 7 + 1))) (va_up fr ix (va_up (fr ix) (d ix 7) fx)) (va_up to ix (va_up (to ix) (d ix 7) tx)) (va_up pe ix (va_up (pe ix) (d ix 7) px)) uv ku ks kt) 6)) (vg_B D ay base Gx) (vg_A base)) (vg_XC D ay base Gx ws (fun E => (E = "java/lang/IllegalArgumentException" ∧ ¬ cm_in x P) ∨ (E = "java/lang/IndexOutOfBoundsException" ∧ cm_in x P ∧ ¬ ((nI 0 ≤ f ∧ f ≤ nI 23) ∧ (f ≤ t ∧ t ≤ nI 23) ∧ (nI 1 ≤ w ∧ w ≤ nI 100))) ∨ (E = "java/lang/UnsupportedOperationException" ∧ cm_in x P ∧ ((nI 0 ≤ f ∧ f ≤ nI 23) ∧ (f ≤ t ∧ t ≤ nI 23) ∧ (nI 1 ≤ w ∧ w ≤ nI 100)) ∧ ∃ i, x = nI i ∧ i < P ∧ ¬ d i 7 < 3))) 8 60 (vg_A base) := by
  refine vg_metX (cc := cX6_slow) (maxL := 6) (ret := (some .int)) (own := RX6) (lv := [(0, .ref ax), (1, .int x), (2, .int f), (3, .int t), (4, .int w)]) (by decide) rfl rfl (Nat.le_of_ble_eq_true rfl) rfl ?_
  intro p e s m args below meth c X hT hWm9
  obtain ⟨aN, asr, aTs, aWB, el, qp, ua, uq, fb, hS⟩ := hS
  have hS0 := hS
  obtain ⟨h0, hI, hN, hTT, hK, h16, hwl, hwp, h56⟩ := hS0
  have hB := cw_N_b hN
  refine vg_aload_n X dX6_slow_0 0 rfl rfl ?_
  refine vg_iload_n X dX6_slow_1 1 rfl rfl ?_
  refine vg_callrX X (vg_runVX X vs_st hWm9 (c_X6_knownPiece l hl9 hG2 hS (x := x)) (cwV 1 X.2.2.2.2.1 gX6_slow_X6_knownPiece rfl rfl rfl (by decide +kernel) ⟨(Nat.le_of_ble_eq_true rfl), (Nat.le_of_ble_eq_true rfl)⟩) 0 h0 rfl rfl rfl (Nat.le_of_ble_eq_true rfl) dX6_slow_2 ⟨(Nat.le_of_ble_eq_true rfl), (Nat.le_of_ble_eq_true rfl)⟩) hT (fun E hE => Or.inl hE) (Nat.le_of_ble_eq_true rfl) (Nat.le_of_ble_eq_true rfl) (fun rr3 wz1 PP2 PP2q => ?_)
  obtain ⟨ix, eix, hix, aix⟩ := PP2q
  rw [PP2, aix]
  subst eix
  obtain ⟨qix, pix, rix, y0ix, y1ix, y2ix⟩ := cw_N_p hN hix
  have pixb := pix
  obtain ⟨afix, atix, agix, ffix, ftix, fgix, k0ix, k1ix, k2ix, k3ix, krix⟩ := pix
  have r7 := rix.2.2.2.2.2.2.2.2.1
  refine vg_astore X [(5, .ref (el ix)), (0, .ref ax), (1, .int (nI ix)), (2, .int f), (3, .int t), (4, .int w)] dX6_slow_5 (by decide) rfl ?_
  refine vg_iload_n X dX6_slow_7 3 rfl rfl ?_
  refine vg_iconst X (nI 0) dX6_slow_8 (by decide) ?_
  refine vg_bipush X (nI 23) dX6_slow_9 (by decide) ?_
  refine vg_callvX X (vg_runSX X vs_st hWm9 (c_X6_needWithin l hl9 hG2 (x := f) (lo := nI 0) (hi := nI 23)) (cwS 3 X.2.2.2.2.1 gX6_slow_X6_needWithin rfl rfl rfl (by decide +kernel) ⟨(Nat.le_of_ble_eq_true rfl), (Nat.le_of_ble_eq_true rfl)⟩) rfl rfl (Nat.le_of_ble_eq_true rfl) dX6_slow_11 ⟨(Nat.le_of_ble_eq_true rfl), (Nat.le_of_ble_eq_true rfl)⟩) hT (fun E hE => Or.inr (Or.inl ⟨hE.1, ⟨ix, hix, rfl⟩, fun z9 => hE.2 z9.1⟩)) (Nat.le_of_ble_eq_true rfl) (Nat.le_of_ble_eq_true rfl) (fun wz4 PP5 => ?_)
  obtain ⟨ew_f, hr_f⟩ := PP5
  rw [ew_f]
  refine vg_iload_n X dX6_slow_14 4 rfl rfl ?_
  refine vg_iload_n X dX6_slow_15 3 rfl rfl ?_
  refine vg_bipush X (nI 23) dX6_slow_16 (by decide) ?_
  refine vg_callvX X (vg_runSX X vs_st hWm9 (c_X6_needWithin l hl9 hG2 (x := t) (lo := f) (hi := nI 23)) (cwS 3 X.2.2.2.2.1 gX6_slow_X6_needWithin rfl rfl rfl (by decide +kernel) ⟨(Nat.le_of_ble_eq_true rfl), (Nat.le_of_ble_eq_true rfl)⟩) rfl rfl (Nat.le_of_ble_eq_true rfl) dX6_slow_18 ⟨(Nat.le_of_ble_eq_true rfl), (Nat.le_of_ble_eq_true rfl)⟩) hT (fun E hE => Or.inr (Or.inl ⟨hE.1, ⟨ix, hix, rfl⟩, fun z9 => hE.2 z9.2.1⟩)) (Nat.le_of_ble_eq_true rfl) (Nat.le_of_ble_eq_true rfl) (fun wz7 PP8 => ?_)
  obtain ⟨ew_t, hr_t⟩ := PP8
  rw [ew_t]
  refine vg_iload X dX6_slow_21 5 rfl ?_
  refine vg_iconst X (nI 1) dX6_slow_23 (by decide) ?_
  refine vg_bipush X (nI 100) dX6_slow_24 (by decide) ?_
  refine vg_callvX X (vg_runSX X vs_st hWm9 (c_X6_needWithin l hl9 hG2 (x := w) (lo := nI 1) (hi := nI 100)) (cwS 3 X.2.2.2.2.1 gX6_slow_X6_needWithin rfl rfl rfl (by decide +kernel) ⟨(Nat.le_of_ble_eq_true rfl), (Nat.le_of_ble_eq_true rfl)⟩) rfl rfl (Nat.le_of_ble_eq_true rfl) dX6_slow_26 ⟨(Nat.le_of_ble_eq_true rfl), (Nat.le_of_ble_eq_true rfl)⟩) hT (fun E hE => Or.inr (Or.inl ⟨hE.1, ⟨ix, hix, rfl⟩, fun z9 => hE.2 z9.2.2⟩)) (Nat.le_of_ble_eq_true rfl) (Nat.le_of_ble_eq_true rfl) (fun wz10 PP11 => ?_)
  obtain ⟨ew_w, hr_w⟩ := PP11
  rw [ew_w]
  have hRS := And.intro hr_f (And.intro hr_t hr_w)
  obtain ⟨fx, lfx, hfx, efx⟩ := cm_rng hr_f (a := 0) (b := 23) (by decide) (by decide)
  subst efx
  obtain ⟨tx, ltx, htx, etx⟩ := cm_rng hr_t (a := fx) (b := 23) (by omega) (by decide)
  subst etx
  obtain ⟨px, lpx, hpx, epx⟩ := cm_rng hr_w (a := 1) (b := 100) (by decide) (by decide)
  subst epx
  refine vg_aload X dX6_slow_29 0 rfl ?_
  refine vg_get X in_X6_slow_X2 (qp ix) k0ix rfl 7 (by decide) ml_X6_slow_106 rfl rfl dX6_slow_31 ?_
  refine vg_iconst X (nI 3) dX6_slow_34 (by decide) ?_
  refine vg_icmp_lt X 48 dX6_slow_35 (by decide) (fun c35 => ?_) (fun c35 => ?_)
  · have c35 : d ix 7 < 3 := (nI_ltI (by omega) (by omega)).mp c35
    refine vg_aload X dX6_slow_48 0 rfl ?_
    refine vg_iload_n X dX6_slow_50 3 rfl rfl ?_
    refine vg_iload_n X dX6_slow_51 4 rfl rfl ?_
    refine vg_iload X dX6_slow_52 5 rfl ?_
    refine vg_callv (vg_runV X (c_X2_addRow l pixb rix c35 (x := fx) (y := tx) (w := px)) (cwV 3 X.2.2.2.2.1 gX6_slow_X2_addRow rfl rfl rfl (by decide +kernel) ⟨Nat.le_of_ble_eq_true rfl, Nat.le_of_ble_eq_true rfl⟩) (qp ix) k0ix rfl rfl rfl (Nat.le_of_ble_eq_true rfl) dX6_slow_54 ⟨(Nat.le_of_ble_eq_true rfl), (Nat.le_of_ble_eq_true rfl)⟩) (fun wz13 PP14 => ?_)
    obtain ⟨hp9, hfr9⟩ := PP14
    have hr9 := cp_R7 rix c35 (a := fx) (b := tx) (x := px) (by omega) (by omega) (by omega) (by omega)
    have hd9 : ∀ j, j < qp ix ∨ qp ix + 4 ≤ j → wz13[j]? = ws[j]? := fun j hj => hfr9.2 j (fun z => by simp only [List.mem_cons, List.not_mem_nil, or_false] at z; omega)
    have hN9 := cw_N_pu hN hix hp9 hr9 rfl rfl hd9
    have hI9 := cs_I_f6 hI (fun j q1 q2 => hd9 j (by omega))
    have hTT9 := ct_T_fr hTT (fun j hj => hd9 j (by omega))
    have h169 := (hd9 16 (by omega)).trans h16
    have x09 := (hd9 0 (by omega)).trans h0
    have h569 : 56 ≤ wz13.length := by rw [hfr9.1]; exact h56
    have gW0 : cw_fr ws wz13 := ⟨Nat.le_of_eq hfr9.1.symm, fun j _ q2 => hd9 j (by omega)⟩
    refine vg_aload_n X dX6_slow_57 1 rfl rfl ?_
    refine vg_calli (vg_runV X (c_X6_redoTrees l x09 hI9 (cw_N_n hN9) (cw_N_u hN9) hTT9 hK) (cwV 0 X.2.2.2.2.1 gX6_slow_X6_redoTrees rfl rfl rfl (by decide +kernel) ⟨Nat.le_of_ble_eq_true rfl, Nat.le_of_ble_eq_true rfl⟩) 0 x09 rfl rfl rfl (Nat.le_of_ble_eq_true rfl) dX6_slow_58 ⟨(Nat.le_of_ble_eq_true rfl), (Nat.le_of_ble_eq_true rfl)⟩) (fun rr18 wz16 PP17 => ?_)
    obtain ⟨er9, gT, gI, gF⟩ := PP17
    have gS := cw_S_redo (ax := ax) (sk := sk) x09 hN9 hK h169 hwl hwp h569 gT gI gF
    have gW := cw_fr_tr gW0 (cw_fr_redo gF)
    exact vg_xret (vg_iret X rfl ⟨ix, fx, tx, px, rfl, hix, rfl, by omega, rfl, by omega, by omega, rfl, by omega, by omega, c35, ⟨_, _, _, _, _, _, _, _, _, gS⟩, gW, er9⟩ (Nat.le_of_ble_eq_true rfl) (Nat.le_of_ble_eq_true rfl) dX6_slow_61)
  · have c35 : ¬ d ix 7 < 3 := fun z => c35 ((nI_ltI (by omega) (by omega)).mpr z)
    obtain ⟨sa38, hsa38⟩ := hWm9.1 (109, "no room for an hour row") (by decide)
    exact vg_throwS X (cls := "java/lang/UnsupportedOperationException") (names := ["java/lang/RuntimeException", "java/lang/Exception"]) hT hl9 (by decide +kernel) (by decide +kernel) tl_X6_slow_79 ti_X6_slow_79 hsa38 (vs_hat hWm9 (by decide +kernel)) (vs_gd (by decide +kernel) rfl rfl) (hG2 s X.2.2.2.2.2.2.2.2.2.2).2.1 (hG2 s X.2.2.2.2.2.2.2.2.2.2).2.2 dX6_slow_38 dX6_slow_41 dX6_slow_42 dX6_slow_44 dX6_slow_47 (Nat.le_of_ble_eq_true rfl) (Nat.le_of_ble_eq_true rfl) (Nat.le_of_ble_eq_true rfl) (Nat.le_of_ble_eq_true rfl) (Or.inr (Or.inr ⟨rfl, ⟨ix, hix, rfl⟩, hRS, ix, rfl, hix, c35⟩)) (Nat.le_of_ble_eq_true rfl) (Nat.le_of_ble_eq_true rfl)
set_option maxHeartbeats 4000000 in
set_option maxRecDepth 100000 in
/-- X6_stand -/
theorem c_X6_stand (l : Launch) {D : va_G} {ay : Nat → ClassId} {base : Nat} {Gx : State → Prop} {tE mi : Nat} {ws : va_W} {ax : Nat} {n P U : Nat} {d fr to pe uv : Nat → Nat → Nat} {ku ks kt : Nat → Nat} {sk : Nat → Nat → Nat} {wl : Nat} {wp : Nat → Nat} {y x : Int32} (hl9 : l.stackTraces = false) (hG2 : ∀ U, Gx U → vh_G2 base tE mi U) (hS : cw_St ay ws ax tE n P U d fr to pe uv ku ks kt sk wl wp) : vx_Met l yX6_stand wsX6_stand ({ frames := 8, cells := 8, slots := 60, locals := 210 } : Room) (fun a9 s9 => va_Pc [.ref ax, .int y, .int x] (vg_B D ay base Gx ws) a9 s9 ∧ vs_W s9) (va_Qv (fun u => ∃ jx vx : Nat, y = nI jx ∧ jx < U ∧ x = nI vx ∧ vx < n ∧ cw_St ay u ax tE n P U d fr to pe (va_up uv jx (va_up (uv jx) 4 vx)) ku ks kt sk wl wp ∧ cw_fr ws u) (vg_B D ay base Gx) (vg_A base)) (vg_XC D ay base Gx ws (fun E => E = "java/lang/IllegalArgumentException" ∧ ¬ (cm_in y U ∧ cm_in x n))) 8 60 (vg_A base) := by
  refine vg_metX (cc := cX6_stand) (maxL := 4) (ret := none) (own := RX6) (lv := [(0, .ref ax), (1, .int y), (2, .int x)]) (by decide) rfl rfl (Nat.le_of_ble_eq_true rfl) rfl ?_
  intro p e s m args below meth c X hT hWm9
  obtain ⟨aN, asr, aTs, aWB, el, qp, ua, uq, fb, hS⟩ := hS
  have hS0 := hS
  obtain ⟨h0, hI, hN, hTT, hK, h16, hwl, hwp, h56⟩ := hS0
  have hB := cw_N_b hN
  refine vg_aload_n X dX6_stand_0 0 rfl rfl ?_
  refine vg_iload_n X dX6_stand_1 1 rfl rfl ?_
  refine vg_callrX X (vg_runVX X vs_st hWm9 (c_X6_knownUnit l hl9 hG2 hS (x := y)) (cwV 1 X.2.2.2.2.1 gX6_stand_X6_knownUnit rfl rfl rfl (by decide +kernel) ⟨(Nat.le_of_ble_eq_true rfl), (Nat.le_of_ble_eq_true rfl)⟩) 0 h0 rfl rfl rfl (Nat.le_of_ble_eq_true rfl) dX6_stand_2 ⟨(Nat.le_of_ble_eq_true rfl), (Nat.le_of_ble_eq_true rfl)⟩) hT (fun E hE => ⟨hE.1, fun z9 => hE.2 z9.1⟩) (Nat.le_of_ble_eq_true rfl) (Nat.le_of_ble_eq_true rfl) (fun rr3 wz1 PP2 PP2q => ?_)
  obtain ⟨jx, ejx, hjx, ajx⟩ := PP2q
  rw [PP2, ajx]
  subst ejx
  obtain ⟨qjx, pjx, rjx, y4jx⟩ := cw_N_uj hN hjx
  have pjxb := pjx
  unfold cu_P at pjx
  refine vg_astore_n X [(3, .ref (ua jx)), (0, .ref ax), (1, .int (nI jx)), (2, .int x)] dX6_stand_5 rfl (by decide) rfl ?_
  refine vg_aload_n X dX6_stand_6 1 rfl rfl ?_
  refine vg_iload_n X dX6_stand_7 3 rfl rfl ?_
  refine vg_callvX X (vg_runVX X vs_st hWm9 (c_X6_needNode l hl9 hG2 hS (x := x)) (cwV 1 X.2.2.2.2.1 gX6_stand_X6_needNode rfl rfl rfl (by decide +kernel) ⟨(Nat.le_of_ble_eq_true rfl), (Nat.le_of_ble_eq_true rfl)⟩) 0 h0 rfl rfl rfl (Nat.le_of_ble_eq_true rfl) dX6_stand_8 ⟨(Nat.le_of_ble_eq_true rfl), (Nat.le_of_ble_eq_true rfl)⟩) hT (fun E hE => ⟨hE.1, fun z9 => hE.2 z9.2⟩) (Nat.le_of_ble_eq_true rfl) (Nat.le_of_ble_eq_true rfl) (fun wz4 PP5 => ?_)
  obtain ⟨ew_x, vx, hvx, evx⟩ := PP5
  rw [ew_x]
  subst evx
  refine vg_aload_n X dX6_stand_11 0 rfl rfl ?_
  refine vg_iload_n X dX6_stand_12 3 rfl rfl ?_
  refine vg_put X in_X6_stand_X5 tyX5 tyX5_ok nmX5 (uq jx) pjx rfl 4 (by decide) ml_X6_stand_144 rfl rfl rfl rfl (Nat.le_of_ble_eq_true rfl) dX6_stand_13 (fun wz7 ez8 => ?_)
  have fh9 : wz7[uq jx]? = some (ua jx, .inr (8, [.int (nI (uv jx 0)), .int (nI (uv jx 1)), .int (nI (uv jx 2)), .int (nI (uv jx 3)), .int (nI vx)])) := vg_se ez8 pjx
  have hd9 : ∀ j, j ≠ uq jx → wz7[j]? = ws[j]? := fun j hj => vg_sn ez8 (fun z => hj z.symm)
  have hp9 : cu_P wz7 (uq jx) (ua jx) (va_up (uv jx) 4 vx) := fh9
  have hN9 := cw_N_uu hN hjx hp9 ⟨rjx.1, rjx.2.1, rjx.2.2.1, rjx.2.2.2.1, rjx.2.2.2.2.1, rjx.2.2.2.2.2.1, (show vx < 200 by omega)⟩ (show vx < n from hvx) hd9
  exact vg_xret (vg_vret X rfl ⟨jx, vx, rfl, hjx, rfl, hvx, ⟨_, _, _, _, _, _, _, _, _, (hd9 0 (by omega)).trans h0, cs_I_f6 hI (fun j q1 q2 => hd9 j (by omega)), hN9, ct_T_fr hTT (fun j hj => hd9 j (by omega)), hK, (hd9 16 (by omega)).trans h16, hwl, hwp, by rw [vg_sl ez8]; exact h56⟩, cw_fr_set qjx ez8⟩ (Nat.le_of_ble_eq_true rfl) (Nat.le_of_ble_eq_true rfl) dX6_stand_16)
set_option maxHeartbeats 4000000 in
set_option maxRecDepth 100000 in
/-- X6_seconds -/
theorem c_X6_seconds (l : Launch) {D : va_G} {ay : Nat → ClassId} {base : Nat} {Gx : State → Prop} {tE mi : Nat} {ws : va_W} {ax : Nat} {n P U : Nat} {d fr to pe uv : Nat → Nat → Nat} {ku ks kt : Nat → Nat} {sk : Nat → Nat → Nat} {wl : Nat} {wp : Nat → Nat} {y x t : Int32} (hl9 : l.stackTraces = false) (hG2 : ∀ U, Gx U → vh_G2 base tE mi U) (hS : cw_St ay ws ax tE n P U d fr to pe uv ku ks kt sk wl wp) : vx_Met l yX6_seconds wsX6_seconds ({ frames := 8, cells := 8, slots := 60, locals := 210 } : Room) (fun a9 s9 => va_Pc [.ref ax, .int y, .int x, .int t] (vg_B D ay base Gx ws) a9 s9 ∧ vs_W s9) (va_Ql (fun r u => u = ws ∧ ∃ jx ix tx : Nat, y = nI jx ∧ jx < U ∧ x = nI ix ∧ ix < P ∧ t = nI tx ∧ tx < 2 ^ 31 ∧ 0 < d ix 3 ∧ r = lN (ps_sec (d ix 3) (ps_per (fr ix) (to ix) (pe ix) (tx / 3600 % 24) (d ix 7) 0) (uv jx 2) (uv jx 3) (d ix 2))) (vg_B D ay base Gx) (vg_A base)) (vg_XC D ay base Gx ws (fun E => (E = "java/lang/IllegalArgumentException" ∧ ¬ (cm_in y U ∧ cm_in x P)) ∨ (E = "java/lang/IndexOutOfBoundsException" ∧ (cm_in y U ∧ cm_in x P) ∧ ¬ 0 ≤ t) ∨ (E = "java/lang/ArithmeticException" ∧ (cm_in y U ∧ cm_in x P) ∧ 0 ≤ t ∧ ∃ i, x = nI i ∧ i < P ∧ ¬ 0 < d i 3))) 8 60 (vg_A base) := by
  refine vg_metX (cc := cX6_seconds) (maxL := 6) (ret := (some .long)) (own := RX6) (lv := [(0, .ref ax), (1, .int y), (2, .int x), (3, .int t)]) (by decide) rfl rfl (Nat.le_of_ble_eq_true rfl) rfl ?_
  intro p e s m args below meth c X hT hWm9
  obtain ⟨aN, asr, aTs, aWB, el, qp, ua, uq, fb, hS⟩ := hS
  have hS0 := hS
  obtain ⟨h0, hI, hN, hTT, hK, h16, hwl, hwp, h56⟩ := hS0
  have hB := cw_N_b hN
  refine vg_aload_n X dX6_seconds_0 0 rfl rfl ?_
  refine vg_iload_n X dX6_seconds_1 1 rfl rfl ?_
  refine vg_callrX X (vg_runVX X vs_st hWm9 (c_X6_knownUnit l hl9 hG2 hS (x := y)) (cwV 1 X.2.2.2.2.1 gX6_seconds_X6_knownUnit rfl rfl rfl (by decide +kernel) ⟨(Nat.le_of_ble_eq_true rfl), (Nat.le_of_ble_eq_true rfl)⟩) 0 h0 rfl rfl rfl (Nat.le_of_ble_eq_true rfl) dX6_seconds_2 ⟨(Nat.le_of_ble_eq_true rfl), (Nat.le_of_ble_eq_true rfl)⟩) hT (fun E hE => Or.inl ⟨hE.1, fun z9 => hE.2 z9.1⟩) (Nat.le_of_ble_eq_true rfl) (Nat.le_of_ble_eq_true rfl) (fun rr3 wz1 PP2 PP2q => ?_)
  obtain ⟨jx, ejx, hjx, ajx⟩ := PP2q
  rw [PP2, ajx]
  subst ejx
  obtain ⟨qjx, pjx, rjx, y4jx⟩ := cw_N_uj hN hjx
  have pjxb := pjx
  unfold cu_P at pjx
  refine vg_astore X [(4, .ref (ua jx)), (0, .ref ax), (1, .int (nI jx)), (2, .int x), (3, .int t)] dX6_seconds_5 (by decide) rfl ?_
  refine vg_aload_n X dX6_seconds_7 1 rfl rfl ?_
  refine vg_iload_n X dX6_seconds_8 3 rfl rfl ?_
  refine vg_callrX X (vg_runVX X vs_st hWm9 (c_X6_knownPiece l hl9 hG2 hS (x := x)) (cwV 1 X.2.2.2.2.1 gX6_seconds_X6_knownPiece rfl rfl rfl (by decide +kernel) ⟨(Nat.le_of_ble_eq_true rfl), (Nat.le_of_ble_eq_true rfl)⟩) 0 h0 rfl rfl rfl (Nat.le_of_ble_eq_true rfl) dX6_seconds_9 ⟨(Nat.le_of_ble_eq_true rfl), (Nat.le_of_ble_eq_true rfl)⟩) hT (fun E hE => Or.inl ⟨hE.1, fun z9 => hE.2 z9.2⟩) (Nat.le_of_ble_eq_true rfl) (Nat.le_of_ble_eq_true rfl) (fun rr6 wz4 PP5 PP5q => ?_)
  obtain ⟨ix, eix, hix, aix⟩ := PP5q
  rw [PP5, aix]
  subst eix
  obtain ⟨qix, pix, rix, y0ix, y1ix, y2ix⟩ := cw_N_p hN hix
  have pixb := pix
  obtain ⟨afix, atix, agix, ffix, ftix, fgix, k0ix, k1ix, k2ix, k3ix, krix⟩ := pix
  have r3 := rix.2.2.2.2.1
  refine vg_astore X [(5, .ref (el ix)), (4, .ref (ua jx)), (0, .ref ax), (1, .int (nI jx)), (2, .int (nI ix)), (3, .int t)] dX6_seconds_12 (by decide) rfl ?_
  refine vg_iload_n X dX6_seconds_14 5 rfl rfl ?_
  refine vg_callvX X (vg_runSX X vs_st hWm9 (c_X6_needTime l hl9 hG2 (x := t)) (cwS 1 X.2.2.2.2.1 gX6_seconds_X6_needTime rfl rfl rfl (by decide +kernel) ⟨(Nat.le_of_ble_eq_true rfl), (Nat.le_of_ble_eq_true rfl)⟩) rfl rfl (Nat.le_of_ble_eq_true rfl) dX6_seconds_15 ⟨(Nat.le_of_ble_eq_true rfl), (Nat.le_of_ble_eq_true rfl)⟩) hT (fun E hE => Or.inr (Or.inl ⟨hE.1, ⟨⟨jx, hjx, rfl⟩, ⟨ix, hix, rfl⟩⟩, hE.2⟩)) (Nat.le_of_ble_eq_true rfl) (Nat.le_of_ble_eq_true rfl) (fun wz7 PP8 => ?_)
  obtain ⟨ew_t, hr_t⟩ := PP8
  rw [ew_t]
  refine vg_aload X dX6_seconds_18 0 rfl ?_
  refine vg_get X in_X6_seconds_X2 (qp ix) k0ix rfl 3 (by decide) ml_X6_seconds_123 rfl rfl dX6_seconds_20 ?_
  refine vg_if_ne X 36 dX6_seconds_23 (by decide) (fun c23 => ?_) (fun c23 => ?_)
  · have c23 : ¬ d ix 3 = 0 := fun z => c23 ((vg_eq0 (by omega)).mpr z)
    refine vg_aload X dX6_seconds_36 0 rfl ?_
    refine vg_aload X dX6_seconds_38 1 rfl ?_
    refine vg_aload X dX6_seconds_40 0 rfl ?_
    refine vg_get X in_X6_seconds_X2 (qp ix) k0ix rfl 2 (by decide) ml_X6_seconds_155 rfl rfl dX6_seconds_42 ?_
    refine vg_iload_n X dX6_seconds_45 5 rfl rfl ?_
    obtain ⟨tx, htx, etx⟩ := i32_tm hr_t
    subst etx
    refine vg_calll (vg_runV X (c_X2_secondsFor l pixb rix pjxb rjx (part := d ix 2) (t := tx) (by have := rix.2.2.2.1; omega) htx) (cwV 3 X.2.2.2.2.1 gX6_seconds_X2_secondsFor rfl rfl rfl (by decide +kernel) ⟨Nat.le_of_ble_eq_true rfl, Nat.le_of_ble_eq_true rfl⟩) (qp ix) k0ix rfl rfl rfl (Nat.le_of_ble_eq_true rfl) dX6_seconds_46 ⟨(Nat.le_of_ble_eq_true rfl), (Nat.le_of_ble_eq_true rfl)⟩) (fun rr12 wz10 PP11 => ?_)
    obtain ⟨ew9, _, er9⟩ := PP11
    exact vg_xret (vg_lret X rfl ⟨ew9, jx, ix, tx, rfl, hjx, rfl, hix, rfl, htx, by omega, er9 (by omega)⟩ (Nat.le_of_ble_eq_true rfl) (Nat.le_of_ble_eq_true rfl) dX6_seconds_49)
  · have c23 : d ix 3 = 0 := (vg_eq0 (by omega)).mp c23
    obtain ⟨sa26, hsa26⟩ := hWm9.1 (152, "the piece has no speed") (by decide)
    exact vg_throwS X (cls := "java/lang/ArithmeticException") (names := ["java/lang/RuntimeException", "java/lang/Exception"]) hT hl9 (by decide +kernel) (by decide +kernel) tl_X6_seconds_150 ti_X6_seconds_150 hsa26 (vs_hat hWm9 (by decide +kernel)) (vs_gd (by decide +kernel) rfl rfl) (hG2 s X.2.2.2.2.2.2.2.2.2.2).2.1 (hG2 s X.2.2.2.2.2.2.2.2.2.2).2.2 dX6_seconds_26 dX6_seconds_29 dX6_seconds_30 dX6_seconds_32 dX6_seconds_35 (Nat.le_of_ble_eq_true rfl) (Nat.le_of_ble_eq_true rfl) (Nat.le_of_ble_eq_true rfl) (Nat.le_of_ble_eq_true rfl) (Or.inr (Or.inr ⟨rfl, ⟨⟨jx, hjx, rfl⟩, ⟨ix, hix, rfl⟩⟩, hr_t, ix, rfl, hix, by omega⟩)) (Nat.le_of_ble_eq_true rfl) (Nat.le_of_ble_eq_true rfl)
set_option maxHeartbeats 4000000 in
set_option maxRecDepth 100000 in
/-- X6_step -/
theorem c_X6_step (l : Launch) {D : va_G} {ay : Nat → ClassId} {base : Nat} {Gx : State → Prop} {tE mi : Nat} {ws : va_W} {ax : Nat} {n P U : Nat} {d fr to pe uv : Nat → Nat → Nat} {ku ks kt : Nat → Nat} {sk : Nat → Nat → Nat} {wl : Nat} {wp : Nat → Nat} {x : Int32} (hl9 : l.stackTraces = false) (hG2 : ∀ U, Gx U → vh_G2 base tE mi U) (hS : cw_St ay ws ax tE n P U d fr to pe uv ku ks kt sk wl wp) : vx_Met l yX6_step wsX6_step ({ frames := 8, cells := 8, slots := 60, locals := 210 } : Room) (fun a9 s9 => va_Pc [.ref ax, .int x] (vg_B D ay base Gx ws) a9 s9 ∧ vs_W s9) (va_Qi (fun r u => u = ws ∧ ∃ ix : Nat, x = nI ix ∧ ix < 2 ^ 31 ∧ (ix < wl → r = nI (wp (wl - 1 - ix))) ∧ (¬ ix < wl → r = -1)) (vg_B D ay base Gx) (vg_A base)) (vg_XC D ay base Gx ws (fun E => E = "java/lang/IndexOutOfBoundsException" ∧ ¬ 0 ≤ x)) 8 60 (vg_A base) := by
  refine vg_metX (cc := cX6_step) (maxL := 2) (ret := (some .int)) (own := RX6) (lv := [(0, .ref ax), (1, .int x)]) (by decide) rfl rfl (Nat.le_of_ble_eq_true rfl) rfl ?_
  intro p e s m args below meth c X hT hWm9
  obtain ⟨aN, asr, aTs, aWB, el, qp, ua, uq, fb, hS⟩ := hS
  have hS0 := hS
  obtain ⟨h0, hI, hN, hTT, hK, h16, hwl, hwp, h56⟩ := hS0
  have hB := cw_N_b hN
  refine vg_iload_n X dX6_step_0 1 rfl rfl ?_
  refine vg_if_ge X 14 dX6_step_1 (by decide) (fun c1 => ?_) (fun c1 => ?_)
  · skip
    have hr_x : 0 ≤ x := c1
    obtain ⟨ix, hix, eix⟩ := i32_tm hr_x
    subst eix
    refine vg_iload_n X dX6_step_14 1 rfl rfl ?_
    refine vg_aload_n X dX6_step_15 0 rfl rfl ?_
    refine vg_get X in_X6_step_X6 0 h0 rfl 4 (by decide) ml_X6_step_55 rfl rfl dX6_step_16 ?_
    refine vg_icmp_ge X 38 dX6_step_19 (by decide) (fun c19 => ?_) (fun c19 => ?_)
    · have c19 : wl ≤ ix := (nI_leI (by omega) (by omega)).mp c19
      refine vg_iconst X (-1) dX6_step_38 (by decide) ?_
      exact vg_xret (vg_iret X rfl ⟨rfl, ix, rfl, hix, fun z9 => absurd z9 (by omega), fun _ => rfl⟩ (Nat.le_of_ble_eq_true rfl) (Nat.le_of_ble_eq_true rfl) dX6_step_39)
    · have c19 : ¬ wl ≤ ix := fun z => c19 ((nI_leI (by omega) (by omega)).mpr z)
      refine vg_aload_n X dX6_step_22 0 rfl rfl ?_
      refine vg_get X in_X6_step_X6 0 h0 rfl 3 (by decide) ml_X6_step_31 rfl rfl dX6_step_23 ?_
      refine vg_aload_n X dX6_step_26 0 rfl rfl ?_
      refine vg_get X in_X6_step_X6 0 h0 rfl 4 (by decide) ml_X6_step_55 rfl rfl dX6_step_27 ?_
      refine vg_iconst X (nI 1) dX6_step_30 (by decide) ?_
      refine vg_isub X (nI (wl - 1)) dX6_step_31 (pk_sub (by omega)) ?_
      refine vg_iload_n X dX6_step_32 1 rfl rfl ?_
      refine vg_isub X (nI (wl - 1 - ix)) dX6_step_33 (pk_sub (by omega)) ?_
      refine vg_iald X (fb (wl - 1 - ix)) 16 h16 rfl (by omega) (by decide) rfl dX6_step_34 ?_
      refine vg_goto X 39 dX6_step_35 (by decide) ?_
      exact vg_xret (vg_iret X rfl ⟨rfl, ix, rfl, hix, fun z9 => hwp _ (by omega), fun z9 => absurd (by omega) z9⟩ (Nat.le_of_ble_eq_true rfl) (Nat.le_of_ble_eq_true rfl) dX6_step_39)
  · skip
    obtain ⟨sa4, hsa4⟩ := hWm9.1 (176, "a step below 0") (by decide)
    exact vg_throwS X (cls := "java/lang/IndexOutOfBoundsException") (names := ["java/lang/RuntimeException", "java/lang/Exception"]) hT hl9 (by decide +kernel) (by decide +kernel) tl_X6_step_174 ti_X6_step_174 hsa4 (vs_hat hWm9 (by decide +kernel)) (vs_gd (by decide +kernel) rfl rfl) (hG2 s X.2.2.2.2.2.2.2.2.2.2).2.1 (hG2 s X.2.2.2.2.2.2.2.2.2.2).2.2 dX6_step_4 dX6_step_7 dX6_step_8 dX6_step_10 dX6_step_13 (Nat.le_of_ble_eq_true rfl) (Nat.le_of_ble_eq_true rfl) (Nat.le_of_ble_eq_true rfl) (Nat.le_of_ble_eq_true rfl) ⟨rfl, c1⟩ (Nat.le_of_ble_eq_true rfl) (Nat.le_of_ble_eq_true rfl)
