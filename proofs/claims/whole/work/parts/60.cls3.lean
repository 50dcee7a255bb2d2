theorem vg_he_lt {ws u : va_W} (he : ∀ (j : Nat) (y : Nat × va_E), ws[j]? = some y → u[j]? = some y) {j : Nat} (hj : j < ws.length) : u[j]? = ws[j]? := by
  rw [List.getElem?_eq_getElem hj]; exact he j _ (List.getElem?_eq_getElem hj)
theorem mk_X6_piece_64 : Jvm.Cond.constant RX6 64 (nI 60000) ∈ wsX6_piece := by decide +kernel
theorem in_X6_piece_X6 : ∀ w ∈ u_ws RX6 TX6 5, w ∈ wsX6_piece := by decide +kernel
theorem ml_X6_piece_10 : Cond.fieldLink RX6 10 "WayTimes" "net" "LWayTimes$Net;" ∈ wsX6_piece := by decide +kernel
theorem in_X6_piece_X0 : ∀ w ∈ u_ws RX0 TX0 5, w ∈ wsX6_piece := by decide +kernel
theorem ml_X6_piece_69 : Cond.fieldLink RX6 69 "WayTimes$Net" "pieces" "Ljava/util/ArrayList;" ∈ wsX6_piece := by decide +kernel
theorem dfX2_X6_piece : ∀ j, j < 11 → defaultValue (tyX2 j) = vp_V [.int 0, .int 0, .int 0, .int 0, .int 0, .int 0, .int 0, .int 0, .null, .null, .null] j := fun j hj => by
  rcases (show j = 0 ∨ j = 1 ∨ j = 2 ∨ j = 3 ∨ j = 4 ∨ j = 5 ∨ j = 6 ∨ j = 7 ∨ j = 8 ∨ j = 9 ∨ j = 10 by omega) with rfl | rfl | rfl | rfl | rfl | rfl | rfl | rfl | rfl | rfl | rfl <;> rfl
theorem nc_X6_piece_84 : Cond.classLink RX6 84 RX2 ∈ wsX6_piece := by decide +kernel
theorem ni_X6_piece_X2 : Cond.instantiable RX2 11 ∈ wsX6_piece := by decide +kernel
theorem nn_X6_piece_X2 : Cond.initialized RX2 ∈ wsX6_piece := by decide +kernel
theorem in_X6_piece_X2 : ∀ w ∈ u_ws RX2 TX2 11, w ∈ wsX6_piece := by decide +kernel
theorem ci_X6_piece_X2 : Cond.initialized RX2 ∈ wsX6_piece := by decide +kernel
theorem cj_X6_piece_X2_init : Cond.instanceMethod yX2_init ∈ wsX6_piece := by decide +kernel
theorem ck_X6_piece_86 : Cond.methodLink RX6 86 yX2_init ∈ wsX6_piece := by decide +kernel
theorem tl_X6_piece_79 : Cond.classLink RX6 79 "java/lang/UnsupportedOperationException" ∈ wsX6_piece := by decide +kernel
theorem ti_X6_piece_79 : Cond.initialized "java/lang/UnsupportedOperationException" ∈ wsX6_piece := by decide +kernel
theorem tl_X6_piece_36 : Cond.classLink RX6 36 "java/lang/IllegalArgumentException" ∈ wsX6_piece := by decide +kernel
theorem ti_X6_piece_36 : Cond.initialized "java/lang/IllegalArgumentException" ∈ wsX6_piece := by decide +kernel
theorem in_X6_net_X6 : ∀ w ∈ u_ws RX6 TX6 5, w ∈ wsX6_net := by decide +kernel
theorem ml_X6_net_10 : Cond.fieldLink RX6 10 "WayTimes" "net" "LWayTimes$Net;" ∈ wsX6_net := by decide +kernel
theorem ml_X6_net_27 : Cond.fieldLink RX6 27 "WayTimes" "trees" "[LWayTimes$Tree;" ∈ wsX6_net := by decide +kernel
theorem ml_X6_net_55 : Cond.fieldLink RX6 55 "WayTimes" "waySteps" "I" ∈ wsX6_net := by decide +kernel
theorem tl_X6_net_43 : Cond.classLink RX6 43 "java/lang/NegativeArraySizeException" ∈ wsX6_net := by decide +kernel
theorem ti_X6_net_43 : Cond.initialized "java/lang/NegativeArraySizeException" ∈ wsX6_net := by decide +kernel
theorem tl_X6_net_36 : Cond.classLink RX6 36 "java/lang/IllegalArgumentException" ∈ wsX6_net := by decide +kernel
theorem ti_X6_net_36 : Cond.initialized "java/lang/IllegalArgumentException" ∈ wsX6_net := by decide +kernel
theorem in_X6_way_X6 : ∀ w ∈ u_ws RX6 TX6 5, w ∈ wsX6_way := by decide +kernel
theorem ml_X6_way_21 : Cond.fieldLink RX6 21 "WayTimes" "search" "LWayTimes$Search;" ∈ wsX6_way := by decide +kernel
theorem in_X6_walk_X6 : ∀ w ∈ u_ws RX6 TX6 5, w ∈ wsX6_walk := by decide +kernel
theorem ml_X6_walk_21 : Cond.fieldLink RX6 21 "WayTimes" "search" "LWayTimes$Search;" ∈ wsX6_walk := by decide +kernel
set_option maxHeartbeats 4000000 in
set_option maxRecDepth 100000 in
/-- X6_piece -/
theorem c_X6_piece (l : Launch) {D : va_G} {ay : Nat → ClassId} {base : Nat} {Gx : State → Prop} {tE mi : Nat} {ws : va_W} {ax : Nat} {n P U : Nat} {d fr to pe uv : Nat → Nat → Nat} {ku ks kt : Nat → Nat} {sk : Nat → Nat → Nat} {wl : Nat} {wp : Nat → Nat} {a b mm sp : Int32} (hl9 : l.stackTraces = false) (hG2 : ∀ U, Gx U → vh_G2 base tE mi U) (hS : cw_St ay ws ax tE n P U d fr to pe uv ku ks kt sk wl wp) : vx_Met l yX6_piece wsX6_piece ({ frames := 8, cells := 10, slots := 400, locals := 210 } : Room) (fun a9 s9 => va_Pc [.ref ax, .int a, .int b, .int mm, .int sp] (vg_B D ay base Gx ws) a9 s9 ∧ vs_W s9) (va_Qi (fun r u => ∃ ax9 bx mx sx : Nat, a = nI ax9 ∧ ax9 < n ∧ b = nI bx ∧ bx < n ∧ ax9 ≠ bx ∧ mm = nI mx ∧ 1 ≤ mx ∧ mx ≤ 60000 ∧ sp = nI sx ∧ sx ≤ 200 ∧ P < 150 ∧ cw_St ay u ax tE n (P + 1) U (va_up d P (cp_new ax9 bx mx sx)) fr to pe uv ku ks kt (ct_new (P + 1) (va_up d P (cp_new ax9 bx mx sx)) fr to pe uv ku ks kt) wl wp ∧ cw_fr ws u ∧ r = nI P) (vg_B D ay base Gx) (vg_A base)) (vg_XC D ay base Gx ws (fun E => (E = "java/lang/IllegalArgumentException" ∧ ¬ (cm_in a n ∧ cm_in b n ∧ a ≠ b)) ∨ (E = "java/lang/IndexOutOfBoundsException" ∧ (cm_in a n ∧ cm_in b n ∧ a ≠ b) ∧ ¬ ((nI 1 ≤ mm ∧ mm ≤ nI 60000) ∧ (nI 0 ≤ sp ∧ sp ≤ nI 200))) ∨ (E = "java/lang/UnsupportedOperationException" ∧ (cm_in a n ∧ cm_in b n ∧ a ≠ b) ∧ ((nI 1 ≤ mm ∧ mm ≤ nI 60000) ∧ (nI 0 ≤ sp ∧ sp ≤ nI 200)) ∧ ¬ P < 150))) 10 400 (vg_A base) := by
  refine vg_metX (cc := cX6_piece) (maxL := 5) (ret := (some .int)) (own := RX6) (lv := [(0, .ref ax), (1, .int a), (2, .int b), (3, .int mm), (4, .int sp)]) (by decide) rfl rfl (Nat.le_of_ble_eq_true rfl) rfl ?_
  intro p e s m args below meth c X hT hWm9
  obtain ⟨aN, asr, aTs, aWB, el, qp, ua, uq, fb, hS⟩ := hS
  have hS0 := hS
  obtain ⟨h0, hI, hN, hTT, hK, h16, hwl, hwp, h56⟩ := hS0
  have hB := cw_N_b hN
  have hN0 := hN
  have hNq := cw_N_q hN
  obtain ⟨aP, aU, aH, aO, aE1, aE2, fh, fo, n1, n4, n5, ⟨⟨⟨mo1, n2⟩, alt1⟩, ⟨⟨mo2, n3⟩, alt2⟩, hap, hp, hu, hqp, huq, hn, hP, hU⟩, hch⟩ := hN
  refine vg_aload_n X dX6_piece_0 0 rfl rfl ?_
  refine vg_iload_n X dX6_piece_1 1 rfl rfl ?_
  refine vg_callvX X (vg_runVX X vs_st hWm9 (c_X6_needNode l hl9 hG2 hS (x := a)) (cwV 1 X.2.2.2.2.1 gX6_piece_X6_needNode rfl rfl rfl (by decide +kernel) ⟨(Nat.le_of_ble_eq_true rfl), (Nat.le_of_ble_eq_true rfl)⟩) 0 h0 rfl rfl rfl (Nat.le_of_ble_eq_true rfl) dX6_piece_2 ⟨(Nat.le_of_ble_eq_true rfl), (Nat.le_of_ble_eq_true rfl)⟩) hT (fun E hE => Or.inl ⟨hE.1, fun z9 => hE.2 z9.1⟩) (Nat.le_of_ble_eq_true rfl) (Nat.le_of_ble_eq_true rfl) (fun wz1 PP2 => ?_)
  obtain ⟨ew_a, ax9, hax9, eax9⟩ := PP2
  rw [ew_a]
  subst eax9
  refine vg_aload_n X dX6_piece_5 0 rfl rfl ?_
  refine vg_iload_n X dX6_piece_6 2 rfl rfl ?_
  refine vg_callvX X (vg_runVX X vs_st hWm9 (c_X6_needNode l hl9 hG2 hS (x := b)) (cwV 1 X.2.2.2.2.1 gX6_piece_X6_needNode rfl rfl rfl (by decide +kernel) ⟨(Nat.le_of_ble_eq_true rfl), (Nat.le_of_ble_eq_true rfl)⟩) 0 h0 rfl rfl rfl (Nat.le_of_ble_eq_true rfl) dX6_piece_7 ⟨(Nat.le_of_ble_eq_true rfl), (Nat.le_of_ble_eq_true rfl)⟩) hT (fun E hE => Or.inl ⟨hE.1, fun z9 => hE.2 z9.2.1⟩) (Nat.le_of_ble_eq_true rfl) (Nat.le_of_ble_eq_true rfl) (fun wz4 PP5 => ?_)
  obtain ⟨ew_b, bx, hbx, ebx⟩ := PP5
  rw [ew_b]
  subst ebx
  refine vg_iload_n X dX6_piece_10 1 rfl rfl ?_
  refine vg_iload_n X dX6_piece_11 2 rfl rfl ?_
  refine vg_icmp_ne X 25 dX6_piece_12 (by decide) (fun c12 => ?_) (fun c12 => ?_)
  · have c12 : ¬ ax9 = bx := fun z => c12 ((nI_eq (by omega) (by omega)).mpr z)
    have hAB : cm_in (nI ax9) n ∧ cm_in (nI bx) n ∧ nI ax9 ≠ nI bx := ⟨⟨ax9, hax9, rfl⟩, ⟨bx, hbx, rfl⟩, fun z9 => c12 ((nI_eq (by omega) (by omega)).mp z9)⟩
    refine vg_iload_n X dX6_piece_25 3 rfl rfl ?_
    refine vg_iconst X (nI 1) dX6_piece_26 (by decide) ?_
    refine vg_ldc X (nI 60000) dX6_piece_27 mk_X6_piece_64 ?_
    refine vg_callvX X (vg_runSX X vs_st hWm9 (c_X6_needWithin l hl9 hG2 (x := mm) (lo := nI 1) (hi := nI 60000)) (cwS 3 X.2.2.2.2.1 gX6_piece_X6_needWithin rfl rfl rfl (by decide +kernel) ⟨(Nat.le_of_ble_eq_true rfl), (Nat.le_of_ble_eq_true rfl)⟩) rfl rfl (Nat.le_of_ble_eq_true rfl) dX6_piece_29 ⟨(Nat.le_of_ble_eq_true rfl), (Nat.le_of_ble_eq_true rfl)⟩) hT (fun E hE => Or.inr (Or.inl ⟨hE.1, hAB, fun z9 => hE.2 z9.1⟩)) (Nat.le_of_ble_eq_true rfl) (Nat.le_of_ble_eq_true rfl) (fun wz7 PP8 => ?_)
    obtain ⟨ew_mm, hr_mm⟩ := PP8
    rw [ew_mm]
    refine vg_iload X dX6_piece_32 4 rfl ?_
    refine vg_iconst X (nI 0) dX6_piece_34 (by decide) ?_
    refine vg_sipush X (nI 200) dX6_piece_35 (by decide) ?_
    refine vg_callvX X (vg_runSX X vs_st hWm9 (c_X6_needWithin l hl9 hG2 (x := sp) (lo := nI 0) (hi := nI 200)) (cwS 3 X.2.2.2.2.1 gX6_piece_X6_needWithin rfl rfl rfl (by decide +kernel) ⟨(Nat.le_of_ble_eq_true rfl), (Nat.le_of_ble_eq_true rfl)⟩) rfl rfl (Nat.le_of_ble_eq_true rfl) dX6_piece_38 ⟨(Nat.le_of_ble_eq_true rfl), (Nat.le_of_ble_eq_true rfl)⟩) hT (fun E hE => Or.inr (Or.inl ⟨hE.1, hAB, fun z9 => hE.2 z9.2⟩)) (Nat.le_of_ble_eq_true rfl) (Nat.le_of_ble_eq_true rfl) (fun wz10 PP11 => ?_)
    obtain ⟨ew_sp, hr_sp⟩ := PP11
    rw [ew_sp]
    have hRP := And.intro hr_mm hr_sp
    obtain ⟨mx, lmx, hmx, emx⟩ := cm_rng hr_mm (a := 1) (b := 60000) (by decide) (by decide)
    subst emx
    obtain ⟨sx, lsx, hsx, esx⟩ := cm_rng hr_sp (a := 0) (b := 200) (by decide) (by decide)
    subst esx
    refine vg_aload_n X dX6_piece_41 0 rfl rfl ?_
    refine vg_get X in_X6_piece_X6 0 h0 rfl 0 (by decide) ml_X6_piece_10 rfl rfl dX6_piece_42 ?_
    refine vg_get X in_X6_piece_X0 1 n1 rfl 0 (by decide) ml_X6_piece_69 rfl rfl dX6_piece_45 ?_
    refine vg_calli (vg_runV X (c_Jx4a65c_size_8abf5 l (cl_at_L ⟨⟨mo1, n2⟩, alt1⟩)) (cwV 0 X.2.2.2.2.1 gX6_piece_Jx4a65c_size_8abf5 rfl rfl rfl (by decide +kernel) ⟨Nat.le_of_ble_eq_true rfl, Nat.le_of_ble_eq_true rfl⟩) 2 n2 rfl rfl rfl (Nat.le_of_ble_eq_true rfl) dX6_piece_48 ⟨(Nat.le_of_ble_eq_true rfl), (Nat.le_of_ble_eq_true rfl)⟩) (fun rr15 wz13 PP14 => ?_)
    obtain ⟨ew, er⟩ := PP14
    rw [ew, er]
    refine vg_sipush X (nI 150) dX6_piece_51 (by decide) ?_
    refine vg_icmp_lt X 67 dX6_piece_54 (by decide) (fun c54 => ?_) (fun c54 => ?_)
    · have c54 : P < 150 := (nI_ltI (by omega) (by omega)).mp c54
      refine vg_aload_n X dX6_piece_67 0 rfl rfl ?_
      refine vg_get X in_X6_piece_X6 0 h0 rfl 0 (by decide) ml_X6_piece_10 rfl rfl dX6_piece_68 ?_
      refine vg_new X (ci := 5) (C := RX2) (T := TX2) (N := 11) [.int 0, .int 0, .int 0, .int 0, .int 0, .int 0, .int 0, .int 0, .null, .null, .null] in_X6_piece_X2 tyX2 tyX2_ok nc_X6_piece_84 ni_X6_piece_X2 nn_X6_piece_X2 rfl dfX2_X6_piece (Nat.le_of_ble_eq_true rfl) (Nat.le_of_ble_eq_true rfl) dX6_piece_71 (fun aq16 wz17 ez18 => ?_)
      have fh19 : wz17[ws.length]? = some (aq16, .inr (5, [.int 0, .int 0, .int 0, .int 0, .int 0, .int 0, .int 0, .int 0, .null, .null, .null])) := vg_pl ez18
      refine vg_dup X dX6_piece_74 rfl ?_
      refine vg_iload_n X dX6_piece_75 1 rfl rfl ?_
      refine vg_iload_n X dX6_piece_76 2 rfl rfl ?_
      refine vg_iload_n X dX6_piece_77 3 rfl rfl ?_
      refine vg_iload X dX6_piece_78 4 rfl ?_
      have hl20 : wz17.length = ws.length + 1 := (vg_plen ez18).trans (congrArg (· + 1) (rfl))
      refine vg_callv (vg_runI X (c_X2_init l fh19 hl20 (x := ax9) (y := bx) (mm := mx) (sp := sx) (fr := fr P) (to := to P) (pe := pe P)) (cwI 4 X.2.2.2.2.1 gX6_piece_X2_init rfl rfl rfl (X.2.2.2.2.1 _ ci_X6_piece_X2) (X.2.2.2.2.1 _ ck_X6_piece_86) (X.2.2.2.2.1 _ cj_X6_piece_X2_init) rfl (by decide +kernel) ⟨(Nat.le_of_ble_eq_true rfl), (Nat.le_of_ble_eq_true rfl)⟩) rfl rfl (Nat.le_of_ble_eq_true rfl) dX6_piece_80 ⟨(Nat.le_of_ble_eq_true rfl), (Nat.le_of_ble_eq_true rfl)⟩) (fun wz21 PP22 => ?_)
      obtain ⟨gp, gl, gf⟩ := PP22
      have he := vg_gr_he ez18 gf
      have hN1 := cw_N_mono hN0 he
      have hlw : 56 ≤ wz21.length := by rw [gl]; omega
      have x1 := he _ _ n1
      refine vg_callv (vg_runV X (c_X0_addPiece l hN1 h56 gp ⟨by show ax9 < 200; omega, by show bx < 200; omega, by show 1 ≤ mx; omega, by show mx ≤ 60000; omega, by show sx ≤ 200; omega, by show 0 ≤ 1000; omega, by show 0 ≤ 1000; omega, by show 0 ≤ 1; omega, by show 0 ≤ 3; omega, fun r hr => absurd hr (Nat.not_lt_zero r)⟩ (by show ax9 < n; omega) (by show bx < n; omega) (by show ax9 ≠ bx; omega) c54 hNq.1 (fun U9 hU9 => (hG2 U9 hU9).1) hlw) (cwV 1 X.2.2.2.2.1 gX6_piece_X0_addPiece rfl rfl rfl (by decide +kernel) ⟨Nat.le_of_ble_eq_true rfl, Nat.le_of_ble_eq_true rfl⟩) 1 x1 rfl rfl rfl (Nat.le_of_ble_eq_true rfl) dX6_piece_83 ⟨(Nat.le_of_ble_eq_true rfl), (Nat.le_of_ble_eq_true rfl)⟩) (fun wz23 PP24 => ?_)
      obtain ⟨hN9, hl9b, hf9⟩ := PP24
      have F1 : ∀ j, j = 0 ∨ (6 ≤ j ∧ j < 56) → wz23[j]? = ws[j]? := fun j hj => (hf9 j (by omega)).trans (vg_he_lt he (by omega))
      have hI9 := cs_I_f6 hI (fun j q1 q2 => F1 j (by omega))
      have hTT9 := ct_T_fr hTT (fun j hj => F1 j (by omega))
      have h169 := (F1 16 (by omega)).trans h16
      have x09 := (F1 0 (by omega)).trans h0
      have h569 : 56 ≤ wz23.length := Nat.le_trans hlw hl9b
      have gW0 : cw_fr ws wz23 := ⟨by rw [gl] at hl9b; omega, fun j q1 q2 => F1 j (by omega)⟩
      refine vg_aload_n X dX6_piece_86 0 rfl rfl ?_
      refine vg_calli (vg_runV X (c_X6_redoTrees l x09 hI9 (cw_N_n hN9) (cw_N_u hN9) hTT9 hK) (cwV 0 X.2.2.2.2.1 gX6_piece_X6_redoTrees rfl rfl rfl (by decide +kernel) ⟨Nat.le_of_ble_eq_true rfl, Nat.le_of_ble_eq_true rfl⟩) 0 x09 rfl rfl rfl (Nat.le_of_ble_eq_true rfl) dX6_piece_87 ⟨(Nat.le_of_ble_eq_true rfl), (Nat.le_of_ble_eq_true rfl)⟩) (fun rr28 wz26 PP27 => ?_)
      obtain ⟨er9, gT, gI, gF⟩ := PP27
      have gS := cw_S_redo (ax := ax) (sk := sk) x09 hN9 hK h169 hwl hwp h569 gT gI gF
      have gW := cw_fr_tr gW0 (cw_fr_redo gF)
      obtain ⟨aP3, aU3, aH3, aO3, aE13, aE23, fh3, fo3, y1, y4, y5, yL, ych⟩ := id gS.2.2.1
      have yl := yL.1
      obtain ⟨⟨mo3, y2⟩, yalt⟩ := id yl
      refine vg_pop X dX6_piece_90 rfl ?_
      refine vg_aload_n X dX6_piece_91 0 rfl rfl ?_
      refine vg_get X in_X6_piece_X6 0 gS.1 rfl 0 (by decide) ml_X6_piece_10 rfl rfl dX6_piece_92 ?_
      refine vg_get X in_X6_piece_X0 1 y1 rfl 0 (by decide) ml_X6_piece_69 rfl rfl dX6_piece_95 ?_
      refine vg_calli (vg_runV X (c_Jx4a65c_size_8abf5 l (cl_at_L yl)) (cwV 0 X.2.2.2.2.1 gX6_piece_Jx4a65c_size_8abf5 rfl rfl rfl (by decide +kernel) ⟨Nat.le_of_ble_eq_true rfl, Nat.le_of_ble_eq_true rfl⟩) 2 y2 rfl rfl rfl (Nat.le_of_ble_eq_true rfl) dX6_piece_98 ⟨(Nat.le_of_ble_eq_true rfl), (Nat.le_of_ble_eq_true rfl)⟩) (fun rr31 wz29 PP30 => ?_)
      obtain ⟨ew, er⟩ := PP30
      rw [ew, er]
      refine vg_iconst X (nI 1) dX6_piece_101 (by decide) ?_
      refine vg_isub X (nI P) dX6_piece_102 (by rw [pk_sub (by omega), Nat.add_sub_cancel]) ?_
      exact vg_xret (vg_iret X rfl ⟨ax9, bx, mx, sx, rfl, hax9, rfl, hbx, c12, rfl, by omega, by omega, rfl, by omega, c54, ⟨_, _, _, _, _, _, _, _, _, gS⟩, gW, rfl⟩ (Nat.le_of_ble_eq_true rfl) (Nat.le_of_ble_eq_true rfl) dX6_piece_103)
    · have c54 : ¬ P < 150 := fun z => c54 ((nI_ltI (by omega) (by omega)).mpr z)
      obtain ⟨sa57, hsa57⟩ := hWm9.1 (81, "no room for a piece") (by decide)
      exact vg_throwS X (cls := "java/lang/UnsupportedOperationException") (names := ["java/lang/RuntimeException", "java/lang/Exception"]) hT hl9 (by decide +kernel) (by decide +kernel) tl_X6_piece_79 ti_X6_piece_79 hsa57 (vs_hat hWm9 (by decide +kernel)) (vs_gd (by decide +kernel) rfl rfl) (hG2 s X.2.2.2.2.2.2.2.2.2.2).2.1 (hG2 s X.2.2.2.2.2.2.2.2.2.2).2.2 dX6_piece_57 dX6_piece_60 dX6_piece_61 dX6_piece_63 dX6_piece_66 (Nat.le_of_ble_eq_true rfl) (Nat.le_of_ble_eq_true rfl) (Nat.le_of_ble_eq_true rfl) (Nat.le_of_ble_eq_true rfl) (Or.inr (Or.inr ⟨rfl, hAB, hRP, c54⟩)) (Nat.le_of_ble_eq_true rfl) (Nat.le_of_ble_eq_true rfl)
  · have c12 : ax9 = bx := (nI_eq (by omega) (by omega)).mp c12
    obtain ⟨sa15, hsa15⟩ := hWm9.1 (62, "the two nodes are one") (by decide)
    exact vg_throwS X (cls := "java/lang/IllegalArgumentException") (names := ["java/lang/RuntimeException", "java/lang/Exception"]) hT hl9 (by decide +kernel) (by decide +kernel) tl_X6_piece_36 ti_X6_piece_36 hsa15 (vs_hat hWm9 (by decide +kernel)) (vs_gd (by decide +kernel) rfl rfl) (hG2 s X.2.2.2.2.2.2.2.2.2.2).2.1 (hG2 s X.2.2.2.2.2.2.2.2.2.2).2.2 dX6_piece_15 dX6_piece_18 dX6_piece_19 dX6_piece_21 dX6_piece_24 (Nat.le_of_ble_eq_true rfl) (Nat.le_of_ble_eq_true rfl) (Nat.le_of_ble_eq_true rfl) (Nat.le_of_ble_eq_true rfl) (Or.inl ⟨rfl, fun z9 => z9.2.2 (by rw [c12])⟩) (Nat.le_of_ble_eq_true rfl) (Nat.le_of_ble_eq_true rfl)
set_option maxHeartbeats 4000000 in
set_option maxRecDepth 100000 in
/-- X6_net -/
theorem c_X6_net (l : Launch) {D : va_G} {ay : Nat → ClassId} {base : Nat} {Gx : State → Prop} {tE mi : Nat} {ws : va_W} {ax : Nat} {n P U : Nat} {d fr to pe uv : Nat → Nat → Nat} {ku ks kt : Nat → Nat} {sk : Nat → Nat → Nat} {wl : Nat} {wp : Nat → Nat} {x : Int32} (hl9 : l.stackTraces = false) (hG2 : ∀ U, Gx U → vh_G2 base tE mi U) (hS : cw_St ay ws ax tE n P U d fr to pe uv ku ks kt sk wl wp) : vx_Met l yX6_net wsX6_net ({ frames := 8, cells := 8, slots := 60, locals := 210 } : Room) (fun a9 s9 => va_Pc [.ref ax, .int x] (vg_B D ay base Gx ws) a9 s9 ∧ vs_W s9) (va_Qv (fun u => ∃ nx : Nat, x = nI nx ∧ nx ≤ 200 ∧ cw_St ay u ax tE nx 0 0 d fr to pe uv (fun _ => 0) ks kt sk 0 wp ∧ cw_fr ws u) (vg_B D ay base Gx) (vg_A base)) (vg_XC D ay base Gx ws (fun E => (E = "java/lang/IllegalArgumentException" ∧ ¬ x ≤ nI 200) ∨ (E = "java/lang/NegativeArraySizeException" ∧ x < nI 0))) 8 60 (vg_A base) := by
  refine vg_metX (cc := cX6_net) (maxL := 3) (ret := none) (own := RX6) (lv := [(0, .ref ax), (1, .int x)]) (by decide) rfl rfl (Nat.le_of_ble_eq_true rfl) rfl ?_
  intro p e s m args below meth c X hT hWm9
  obtain ⟨aN, asr, aTs, aWB, el, qp, ua, uq, fb, hS⟩ := hS
  have hS0 := hS
  obtain ⟨h0, hI, hN, hTT, hK, h16, hwl, hwp, h56⟩ := hS0
  have hB := cw_N_b hN
  have hN0 := hN
  obtain ⟨aP, aU, aH, aO, aE1, aE2, fh, fo, n1, n4, n5, ⟨⟨⟨mo1, n2⟩, alt1⟩, ⟨⟨mo2, n3⟩, alt2⟩, hap, hp, hu, hqp, huq, hn, hP, hU⟩, hch⟩ := hN
  refine vg_iload_n X dX6_net_0 1 rfl rfl ?_
  refine vg_sipush X (nI 200) dX6_net_1 (by decide) ?_
  refine vg_icmp_le X 17 dX6_net_4 (by decide) (fun c4 => ?_) (fun c4 => ?_)
  · skip
    refine vg_iload_n X dX6_net_17 1 rfl rfl ?_
    refine vg_if_ge X 31 dX6_net_18 (by decide) (fun c18 => ?_) (fun c18 => ?_)
    · skip
      obtain ⟨nx, _, hnx, enx⟩ := cm_rng (x := x) (a := 0) (b := 200) ⟨c18, c4⟩ (by decide) (by decide)
      subst enx
      refine vg_aload_n X dX6_net_31 0 rfl rfl ?_
      refine vg_get X in_X6_net_X6 0 h0 rfl 0 (by decide) ml_X6_net_10 rfl rfl dX6_net_32 ?_
      refine vg_iload_n X dX6_net_35 1 rfl rfl ?_
      refine vg_callv (vg_runV X (c_X0_begin l hN0 hnx (fun U9 hU9 => (hG2 U9 hU9).1) h56 (el2 := el) (qp2 := qp) (ua2 := ua) (uq2 := uq) (d2 := d) (fr2 := fr) (to2 := to) (pe2 := pe) (uv2 := uv)) (cwV 1 X.2.2.2.2.1 gX6_net_X0_begin rfl rfl rfl (by decide +kernel) ⟨Nat.le_of_ble_eq_true rfl, Nat.le_of_ble_eq_true rfl⟩) 1 n1 rfl rfl rfl (Nat.le_of_ble_eq_true rfl) dX6_net_36 ⟨(Nat.le_of_ble_eq_true rfl), (Nat.le_of_ble_eq_true rfl)⟩) (fun wz1 PP2 => ?_)
      obtain ⟨hN2, hl2, F2⟩ := PP2
      have x0 := (F2 0 (by omega)).trans h0
      have x16 := (F2 16 (by omega)).trans h16
      obtain ⟨ta, ts, f9, m15, ht9⟩ := ct_T_fr hTT (fun j hj => F2 j (by omega))
      obtain ⟨ef0, fs0, tq0, tS0, _⟩ := ht9 0 (by decide)
      have tq0 : wz1[17]? = some ((ta 0), .inr (7, [.ref (ts 0), va_rf (if ku 0 = 0 then none else some (ua (ku 0 - 1))), .int (nI (ks 0)), .int (nI (kt 0))])) := tq0
      have tS0 : wz1[18]? = some ((ts 0), .inl (ay 1, 200, .inr (.inl fs0))) := tS0
      obtain ⟨ef1, fs1, tq1, tS1, _⟩ := ht9 1 (by decide)
      have tq1 : wz1[19]? = some ((ta 1), .inr (7, [.ref (ts 1), va_rf (if ku 1 = 0 then none else some (ua (ku 1 - 1))), .int (nI (ks 1)), .int (nI (kt 1))])) := tq1
      have tS1 : wz1[20]? = some ((ts 1), .inl (ay 1, 200, .inr (.inl fs1))) := tS1
      obtain ⟨ef2, fs2, tq2, tS2, _⟩ := ht9 2 (by decide)
      have tq2 : wz1[21]? = some ((ta 2), .inr (7, [.ref (ts 2), va_rf (if ku 2 = 0 then none else some (ua (ku 2 - 1))), .int (nI (ks 2)), .int (nI (kt 2))])) := tq2
      have tS2 : wz1[22]? = some ((ts 2), .inl (ay 1, 200, .inr (.inl fs2))) := tS2
      obtain ⟨ef3, fs3, tq3, tS3, _⟩ := ht9 3 (by decide)
      have tq3 : wz1[23]? = some ((ta 3), .inr (7, [.ref (ts 3), va_rf (if ku 3 = 0 then none else some (ua (ku 3 - 1))), .int (nI (ks 3)), .int (nI (kt 3))])) := tq3
      have tS3 : wz1[24]? = some ((ts 3), .inl (ay 1, 200, .inr (.inl fs3))) := tS3
      obtain ⟨ef4, fs4, tq4, tS4, _⟩ := ht9 4 (by decide)
      have tq4 : wz1[25]? = some ((ta 4), .inr (7, [.ref (ts 4), va_rf (if ku 4 = 0 then none else some (ua (ku 4 - 1))), .int (nI (ks 4)), .int (nI (kt 4))])) := tq4
      have tS4 : wz1[26]? = some ((ts 4), .inl (ay 1, 200, .inr (.inl fs4))) := tS4
      obtain ⟨ef5, fs5, tq5, tS5, _⟩ := ht9 5 (by decide)
      have tq5 : wz1[27]? = some ((ta 5), .inr (7, [.ref (ts 5), va_rf (if ku 5 = 0 then none else some (ua (ku 5 - 1))), .int (nI (ks 5)), .int (nI (kt 5))])) := tq5
      have tS5 : wz1[28]? = some ((ts 5), .inl (ay 1, 200, .inr (.inl fs5))) := tS5
      refine vg_iconst X (nI 0) dX6_net_39 (by decide) ?_
      refine vg_istore_n X [(2, .int (nI 0)), (0, .ref ax), (1, .int (nI nx))] dX6_net_40 rfl (by decide) rfl ?_
      refine vg_iload_n X dX6_net_41 0 rfl rfl ?_
      refine vg_bipush X (nI 6) dX6_net_42 (by decide) ?_
      refine vg_icmp_ge X 62 dX6_net_44 (by decide) (fun c44 => ?_) (fun c44 => ?_)
      · have c44 : 6 ≤ 0 := (nI_leI (by omega) (by omega)).mp c44
        exact absurd c44 (by decide)
      · have c44 : ¬ 6 ≤ 0 := fun z => c44 ((nI_leI (by omega) (by omega)).mpr z)
        skip
        refine vg_aload_n X dX6_net_47 1 rfl rfl ?_
        refine vg_get X in_X6_net_X6 0 x0 rfl 2 (by decide) ml_X6_net_27 rfl rfl dX6_net_48 ?_
        refine vg_iload_n X dX6_net_51 0 rfl rfl ?_
        refine vg_aaldT X (.ref (ta 0)) 15 m15 rfl (by decide) (by decide) (by rw [ef0]; rfl) dX6_net_52 ?_
        refine vg_callv (vg_runV X (c_X4_drop l tq0) (cwV 0 X.2.2.2.2.1 gX6_net_X4_drop rfl rfl rfl (by decide +kernel) ⟨Nat.le_of_ble_eq_true rfl, Nat.le_of_ble_eq_true rfl⟩) 17 tq0 rfl rfl rfl (Nat.le_of_ble_eq_true rfl) dX6_net_53 ⟨(Nat.le_of_ble_eq_true rfl), (Nat.le_of_ble_eq_true rfl)⟩) (fun wz4 PP5 => ?_)
        obtain ⟨gd0, ge0⟩ := PP5
        refine vg_iinc X (v := nI 1) [(2, .int (nI 1)), (0, .ref ax), (1, .int (nI nx))] dX6_net_56 0 rfl (by decide) (by decide) rfl ?_
        refine vg_goto X 41 dX6_net_59 (by decide) ?_
        refine vg_iload_n X dX6_net_41 0 rfl rfl ?_
        refine vg_bipush X (nI 6) dX6_net_42 (by decide) ?_
        refine vg_icmp_ge X 62 dX6_net_44 (by decide) (fun c44 => ?_) (fun c44 => ?_)
        · have c44 : 6 ≤ 1 := (nI_leI (by omega) (by omega)).mp c44
          exact absurd c44 (by decide)
        · have c44 : ¬ 6 ≤ 1 := fun z => c44 ((nI_leI (by omega) (by omega)).mpr z)
          skip
          refine vg_aload_n X dX6_net_47 1 rfl rfl ?_
          have fh7 : wz4[0]? = some (ax, .inr (9, [.ref aN, .ref asr, .ref aTs, .ref aWB, .int (nI wl)])) := (ge0.2 0 (by decide)).trans (x0)
          refine vg_get X in_X6_net_X6 0 fh7 rfl 2 (by decide) ml_X6_net_27 rfl rfl dX6_net_48 ?_
          refine vg_iload_n X dX6_net_51 0 rfl rfl ?_
          have fh8 : wz4[15]? = some (aTs, .inl (ay 3, 6, .inr (.inr (.inr (.inr f9))))) := (ge0.2 15 (by decide)).trans (m15)
          refine vg_aaldT X (.ref (ta 1)) 15 fh8 rfl (by decide) (by decide) (by rw [ef1]; rfl) dX6_net_52 ?_
          have fh9 : wz4[19]? = some ((ta 1), .inr (7, [.ref (ts 1), va_rf (if ku 1 = 0 then none else some (ua (ku 1 - 1))), .int (nI (ks 1)), .int (nI (kt 1))])) := (ge0.2 19 (by decide)).trans (tq1)
          refine vg_callv (vg_runV X (c_X4_drop l fh9) (cwV 0 X.2.2.2.2.1 gX6_net_X4_drop rfl rfl rfl (by decide +kernel) ⟨Nat.le_of_ble_eq_true rfl, Nat.le_of_ble_eq_true rfl⟩) 19 fh9 rfl rfl rfl (Nat.le_of_ble_eq_true rfl) dX6_net_53 ⟨(Nat.le_of_ble_eq_true rfl), (Nat.le_of_ble_eq_true rfl)⟩) (fun wz10 PP11 => ?_)
          obtain ⟨gd1, ge1⟩ := PP11
          refine vg_iinc X (v := nI 2) [(2, .int (nI 2)), (0, .ref ax), (1, .int (nI nx))] dX6_net_56 0 rfl (by decide) (by decide) rfl ?_
          refine vg_goto X 41 dX6_net_59 (by decide) ?_
          refine vg_iload_n X dX6_net_41 0 rfl rfl ?_
          refine vg_bipush X (nI 6) dX6_net_42 (by decide) ?_
          refine vg_icmp_ge X 62 dX6_net_44 (by decide) (fun c44 => ?_) (fun c44 => ?_)
          · have c44 : 6 ≤ 2 := (nI_leI (by omega) (by omega)).mp c44
            exact absurd c44 (by decide)
          · have c44 : ¬ 6 ≤ 2 := fun z => c44 ((nI_leI (by omega) (by omega)).mpr z)
            skip
            refine vg_aload_n X dX6_net_47 1 rfl rfl ?_
            have fh13 : wz10[0]? = some (ax, .inr (9, [.ref aN, .ref asr, .ref aTs, .ref aWB, .int (nI wl)])) := (ge1.2 0 (by decide)).trans (fh7)
            refine vg_get X in_X6_net_X6 0 fh13 rfl 2 (by decide) ml_X6_net_27 rfl rfl dX6_net_48 ?_
            refine vg_iload_n X dX6_net_51 0 rfl rfl ?_
            have fh14 : wz10[15]? = some (aTs, .inl (ay 3, 6, .inr (.inr (.inr (.inr f9))))) := (ge1.2 15 (by decide)).trans (fh8)
            refine vg_aaldT X (.ref (ta 2)) 15 fh14 rfl (by decide) (by decide) (by rw [ef2]; rfl) dX6_net_52 ?_
            have fh15 : wz10[21]? = some ((ta 2), .inr (7, [.ref (ts 2), va_rf (if ku 2 = 0 then none else some (ua (ku 2 - 1))), .int (nI (ks 2)), .int (nI (kt 2))])) := (ge1.2 21 (by decide)).trans ((ge0.2 21 (by decide)).trans (tq2))
            refine vg_callv (vg_runV X (c_X4_drop l fh15) (cwV 0 X.2.2.2.2.1 gX6_net_X4_drop rfl rfl rfl (by decide +kernel) ⟨Nat.le_of_ble_eq_true rfl, Nat.le_of_ble_eq_true rfl⟩) 21 fh15 rfl rfl rfl (Nat.le_of_ble_eq_true rfl) dX6_net_53 ⟨(Nat.le_of_ble_eq_true rfl), (Nat.le_of_ble_eq_true rfl)⟩) (fun wz16 PP17 => ?_)
            obtain ⟨gd2, ge2⟩ := PP17
            refine vg_iinc X (v := nI 3) [(2, .int (nI 3)), (0, .ref ax), (1, .int (nI nx))] dX6_net_56 0 rfl (by decide) (by decide) rfl ?_
            refine vg_goto X 41 dX6_net_59 (by decide) ?_
            refine vg_iload_n X dX6_net_41 0 rfl rfl ?_
            refine vg_bipush X (nI 6) dX6_net_42 (by decide) ?_
            refine vg_icmp_ge X 62 dX6_net_44 (by decide) (fun c44 => ?_) (fun c44 => ?_)
            · have c44 : 6 ≤ 3 := (nI_leI (by omega) (by omega)).mp c44
              exact absurd c44 (by decide)
            · have c44 : ¬ 6 ≤ 3 := fun z => c44 ((nI_leI (by omega) (by omega)).mpr z)
              skip
              refine vg_aload_n X dX6_net_47 1 rfl rfl ?_
              have fh19 : wz16[0]? = some (ax, .inr (9, [.ref aN, .ref asr, .ref aTs, .ref aWB, .int (nI wl)])) := (ge2.2 0 (by decide)).trans (fh13)
              refine vg_get X in_X6_net_X6 0 fh19 rfl 2 (by decide) ml_X6_net_27 rfl rfl dX6_net_48 ?_
              refine vg_iload_n X dX6_net_51 0 rfl rfl ?_
              have fh20 : wz16[15]? = some (aTs, .inl (ay 3, 6, .inr (.inr (.inr (.inr f9))))) := (ge2.2 15 (by decide)).trans (fh14)
              refine vg_aaldT X (.ref (ta 3)) 15 fh20 rfl (by decide) (by decide) (by rw [ef3]; rfl) dX6_net_52 ?_
              have fh21 : wz16[23]? = some ((ta 3), .inr (7, [.ref (ts 3), va_rf (if ku 3 = 0 then none else some (ua (ku 3 - 1))), .int (nI (ks 3)), .int (nI (kt 3))])) := (ge2.2 23 (by decide)).trans ((ge1.2 23 (by decide)).trans ((ge0.2 23 (by decide)).trans (tq3)))
              refine vg_callv (vg_runV X (c_X4_drop l fh21) (cwV 0 X.2.2.2.2.1 gX6_net_X4_drop rfl rfl rfl (by decide +kernel) ⟨Nat.le_of_ble_eq_true rfl, Nat.le_of_ble_eq_true rfl⟩) 23 fh21 rfl rfl rfl (Nat.le_of_ble_eq_true rfl) dX6_net_53 ⟨(Nat.le_of_ble_eq_true rfl), (Nat.le_of_ble_eq_true rfl)⟩) (fun wz22 PP23 => ?_)
              obtain ⟨gd3, ge3⟩ := PP23
              refine vg_iinc X (v := nI 4) [(2, .int (nI 4)), (0, .ref ax), (1, .int (nI nx))] dX6_net_56 0 rfl (by decide) (by decide) rfl ?_
              refine vg_goto X 41 dX6_net_59 (by decide) ?_
              refine vg_iload_n X dX6_net_41 0 rfl rfl ?_
              refine vg_bipush X (nI 6) dX6_net_42 (by decide) ?_
              refine vg_icmp_ge X 62 dX6_net_44 (by decide) (fun c44 => ?_) (fun c44 => ?_)
              · have c44 : 6 ≤ 4 := (nI_leI (by omega) (by omega)).mp c44
                exact absurd c44 (by decide)
              · have c44 : ¬ 6 ≤ 4 := fun z => c44 ((nI_leI (by omega) (by omega)).mpr z)
                skip
                refine vg_aload_n X dX6_net_47 1 rfl rfl ?_
                have fh25 : wz22[0]? = some (ax, .inr (9, [.ref aN, .ref asr, .ref aTs, .ref aWB, .int (nI wl)])) := (ge3.2 0 (by decide)).trans (fh19)
                refine vg_get X in_X6_net_X6 0 fh25 rfl 2 (by decide) ml_X6_net_27 rfl rfl dX6_net_48 ?_
                refine vg_iload_n X dX6_net_51 0 rfl rfl ?_
                have fh26 : wz22[15]? = some (aTs, .inl (ay 3, 6, .inr (.inr (.inr (.inr f9))))) := (ge3.2 15 (by decide)).trans (fh20)
                refine vg_aaldT X (.ref (ta 4)) 15 fh26 rfl (by decide) (by decide) (by rw [ef4]; rfl) dX6_net_52 ?_
                have fh27 : wz22[25]? = some ((ta 4), .inr (7, [.ref (ts 4), va_rf (if ku 4 = 0 then none else some (ua (ku 4 - 1))), .int (nI (ks 4)), .int (nI (kt 4))])) := (ge3.2 25 (by decide)).trans ((ge2.2 25 (by decide)).trans ((ge1.2 25 (by decide)).trans ((ge0.2 25 (by decide)).trans (tq4))))
                refine vg_callv (vg_runV X (c_X4_drop l fh27) (cwV 0 X.2.2.2.2.1 gX6_net_X4_drop rfl rfl rfl (by decide +kernel) ⟨Nat.le_of_ble_eq_true rfl, Nat.le_of_ble_eq_true rfl⟩) 25 fh27 rfl rfl rfl (Nat.le_of_ble_eq_true rfl) dX6_net_53 ⟨(Nat.le_of_ble_eq_true rfl), (Nat.le_of_ble_eq_true rfl)⟩) (fun wz28 PP29 => ?_)
                obtain ⟨gd4, ge4⟩ := PP29
                refine vg_iinc X (v := nI 5) [(2, .int (nI 5)), (0, .ref ax), (1, .int (nI nx))] dX6_net_56 0 rfl (by decide) (by decide) rfl ?_
                refine vg_goto X 41 dX6_net_59 (by decide) ?_
                refine vg_iload_n X dX6_net_41 0 rfl rfl ?_
                refine vg_bipush X (nI 6) dX6_net_42 (by decide) ?_
                refine vg_icmp_ge X 62 dX6_net_44 (by decide) (fun c44 => ?_) (fun c44 => ?_)
                · have c44 : 6 ≤ 5 := (nI_leI (by omega) (by omega)).mp c44
                  exact absurd c44 (by decide)
                · have c44 : ¬ 6 ≤ 5 := fun z => c44 ((nI_leI (by omega) (by omega)).mpr z)
                  skip
                  refine vg_aload_n X dX6_net_47 1 rfl rfl ?_
                  have fh31 : wz28[0]? = some (ax, .inr (9, [.ref aN, .ref asr, .ref aTs, .ref aWB, .int (nI wl)])) := (ge4.2 0 (by decide)).trans (fh25)
                  refine vg_get X in_X6_net_X6 0 fh31 rfl 2 (by decide) ml_X6_net_27 rfl rfl dX6_net_48 ?_
                  refine vg_iload_n X dX6_net_51 0 rfl rfl ?_
                  have fh32 : wz28[15]? = some (aTs, .inl (ay 3, 6, .inr (.inr (.inr (.inr f9))))) := (ge4.2 15 (by decide)).trans (fh26)
                  refine vg_aaldT X (.ref (ta 5)) 15 fh32 rfl (by decide) (by decide) (by rw [ef5]; rfl) dX6_net_52 ?_
                  have fh33 : wz28[27]? = some ((ta 5), .inr (7, [.ref (ts 5), va_rf (if ku 5 = 0 then none else some (ua (ku 5 - 1))), .int (nI (ks 5)), .int (nI (kt 5))])) := (ge4.2 27 (by decide)).trans ((ge3.2 27 (by decide)).trans ((ge2.2 27 (by decide)).trans ((ge1.2 27 (by decide)).trans ((ge0.2 27 (by decide)).trans (tq5)))))
                  refine vg_callv (vg_runV X (c_X4_drop l fh33) (cwV 0 X.2.2.2.2.1 gX6_net_X4_drop rfl rfl rfl (by decide +kernel) ⟨Nat.le_of_ble_eq_true rfl, Nat.le_of_ble_eq_true rfl⟩) 27 fh33 rfl rfl rfl (Nat.le_of_ble_eq_true rfl) dX6_net_53 ⟨(Nat.le_of_ble_eq_true rfl), (Nat.le_of_ble_eq_true rfl)⟩) (fun wz34 PP35 => ?_)
                  obtain ⟨gd5, ge5⟩ := PP35
                  refine vg_iinc X (v := nI 6) [(2, .int (nI 6)), (0, .ref ax), (1, .int (nI nx))] dX6_net_56 0 rfl (by decide) (by decide) rfl ?_
                  refine vg_goto X 41 dX6_net_59 (by decide) ?_
                  refine vg_iload_n X dX6_net_41 0 rfl rfl ?_
                  refine vg_bipush X (nI 6) dX6_net_42 (by decide) ?_
                  refine vg_icmp_ge X 62 dX6_net_44 (by decide) (fun c44 => ?_) (fun c44 => ?_)
                  · have c44 : 6 ≤ 6 := (nI_leI (by omega) (by omega)).mp c44
                    skip
                    refine vg_aload_n X dX6_net_62 1 rfl rfl ?_
                    refine vg_iconst X (nI 0) dX6_net_63 (by decide) ?_
                    have fh37 : wz34[0]? = some (ax, .inr (9, [.ref aN, .ref asr, .ref aTs, .ref aWB, .int (nI wl)])) := (ge5.2 0 (by decide)).trans (fh31)
                    refine vg_put X in_X6_net_X6 tyX6 tyX6_ok nmX6 0 fh37 rfl 4 (by decide) ml_X6_net_55 rfl rfl rfl rfl (Nat.le_of_ble_eq_true rfl) dX6_net_64 (fun wz38 ez39 => ?_)
                    have fh40 : wz38[0]? = some (ax, .inr (9, [.ref aN, .ref asr, .ref aTs, .ref aWB, .int (nI 0)])) := vg_se ez39 fh37
                    have fh41 : wz38[15]? = some (aTs, .inl (ay 3, 6, .inr (.inr (.inr (.inr f9))))) := (vg_sn ez39 (by decide)).trans ((ge5.2 15 (by decide)).trans (fh32))
                    have fh42 : wz38[16]? = some (aWB, .inl (ay 0, 150, .inl fb)) := (vg_sn ez39 (by decide)).trans ((ge5.2 16 (by decide)).trans ((ge4.2 16 (by decide)).trans ((ge3.2 16 (by decide)).trans ((ge2.2 16 (by decide)).trans ((ge1.2 16 (by decide)).trans ((ge0.2 16 (by decide)).trans (x16)))))))
                    have fh43 : wz38[17]? = some ((ta 0), .inr (7, [.ref (ts 0), .null, .int (nI (ks 0)), .int (nI (kt 0))])) := (vg_sn ez39 (by decide)).trans ((ge5.2 17 (by decide)).trans ((ge4.2 17 (by decide)).trans ((ge3.2 17 (by decide)).trans ((ge2.2 17 (by decide)).trans ((ge1.2 17 (by decide)).trans (gd0))))))
                    have fh44 : wz38[18]? = some ((ts 0), .inl (ay 1, 200, .inr (.inl fs0))) := (vg_sn ez39 (by decide)).trans ((ge5.2 18 (by decide)).trans ((ge4.2 18 (by decide)).trans ((ge3.2 18 (by decide)).trans ((ge2.2 18 (by decide)).trans ((ge1.2 18 (by decide)).trans ((ge0.2 18 (by decide)).trans (tS0)))))))
                    have fh45 : wz38[19]? = some ((ta 1), .inr (7, [.ref (ts 1), .null, .int (nI (ks 1)), .int (nI (kt 1))])) := (vg_sn ez39 (by decide)).trans ((ge5.2 19 (by decide)).trans ((ge4.2 19 (by decide)).trans ((ge3.2 19 (by decide)).trans ((ge2.2 19 (by decide)).trans (gd1)))))
                    have fh46 : wz38[20]? = some ((ts 1), .inl (ay 1, 200, .inr (.inl fs1))) := (vg_sn ez39 (by decide)).trans ((ge5.2 20 (by decide)).trans ((ge4.2 20 (by decide)).trans ((ge3.2 20 (by decide)).trans ((ge2.2 20 (by decide)).trans ((ge1.2 20 (by decide)).trans ((ge0.2 20 (by decide)).trans (tS1)))))))
                    have fh47 : wz38[21]? = some ((ta 2), .inr (7, [.ref (ts 2), .null, .int (nI (ks 2)), .int (nI (kt 2))])) := (vg_sn ez39 (by decide)).trans ((ge5.2 21 (by decide)).trans ((ge4.2 21 (by decide)).trans ((ge3.2 21 (by decide)).trans (gd2))))
                    have fh48 : wz38[22]? = some ((ts 2), .inl (ay 1, 200, .inr (.inl fs2))) := (vg_sn ez39 (by decide)).trans ((ge5.2 22 (by decide)).trans ((ge4.2 22 (by decide)).trans ((ge3.2 22 (by decide)).trans ((ge2.2 22 (by decide)).trans ((ge1.2 22 (by decide)).trans ((ge0.2 22 (by decide)).trans (tS2)))))))
                    have fh49 : wz38[23]? = some ((ta 3), .inr (7, [.ref (ts 3), .null, .int (nI (ks 3)), .int (nI (kt 3))])) := (vg_sn ez39 (by decide)).trans ((ge5.2 23 (by decide)).trans ((ge4.2 23 (by decide)).trans (gd3)))
                    have fh50 : wz38[24]? = some ((ts 3), .inl (ay 1, 200, .inr (.inl fs3))) := (vg_sn ez39 (by decide)).trans ((ge5.2 24 (by decide)).trans ((ge4.2 24 (by decide)).trans ((ge3.2 24 (by decide)).trans ((ge2.2 24 (by decide)).trans ((ge1.2 24 (by decide)).trans ((ge0.2 24 (by decide)).trans (tS3)))))))
                    have fh51 : wz38[25]? = some ((ta 4), .inr (7, [.ref (ts 4), .null, .int (nI (ks 4)), .int (nI (kt 4))])) := (vg_sn ez39 (by decide)).trans ((ge5.2 25 (by decide)).trans (gd4))
                    have fh52 : wz38[26]? = some ((ts 4), .inl (ay 1, 200, .inr (.inl fs4))) := (vg_sn ez39 (by decide)).trans ((ge5.2 26 (by decide)).trans ((ge4.2 26 (by decide)).trans ((ge3.2 26 (by decide)).trans ((ge2.2 26 (by decide)).trans ((ge1.2 26 (by decide)).trans ((ge0.2 26 (by decide)).trans (tS4)))))))
                    have fh53 : wz38[27]? = some ((ta 5), .inr (7, [.ref (ts 5), .null, .int (nI (ks 5)), .int (nI (kt 5))])) := (vg_sn ez39 (by decide)).trans (gd5)
                    have fh54 : wz38[28]? = some ((ts 5), .inl (ay 1, 200, .inr (.inl fs5))) := (vg_sn ez39 (by decide)).trans ((ge5.2 28 (by decide)).trans ((ge4.2 28 (by decide)).trans ((ge3.2 28 (by decide)).trans ((ge2.2 28 (by decide)).trans ((ge1.2 28 (by decide)).trans ((ge0.2 28 (by decide)).trans (tS5)))))))
                    have hlz : wz38.length = ws.length := ((((((((vg_sl ez39)).trans ge5.1).trans ge4.1).trans ge3.1).trans ge2.1).trans ge1.1).trans ge0.1).trans hl2
                    have nz : ∀ (q j : Nat), j ≠ q → j ∉ [q] := fun q j h1 h2 => h1 (List.mem_singleton.mp h2)
                    have G : ∀ j, (1 ≤ j ∧ j < 17) ∨ 29 ≤ j → wz38[j]? = wz1[j]? := fun j hj => ((((((vg_sn ez39 (by omega)).trans (ge5.2 j (nz _ _ (by omega)))).trans (ge4.2 j (nz _ _ (by omega)))).trans (ge3.2 j (nz _ _ (by omega)))).trans (ge2.2 j (nz _ _ (by omega)))).trans (ge1.2 j (nz _ _ (by omega)))).trans (ge0.2 j (nz _ _ (by omega)))
                    have hT9 : ct_T ay wz38 aTs nx ua (fun _ => 0) ks kt sk := ⟨ta, ts, f9, fh41, fun k hk => by
                      rcases (show k = 0 ∨ k = 1 ∨ k = 2 ∨ k = 3 ∨ k = 4 ∨ k = 5 by omega) with rfl | rfl | rfl | rfl | rfl | rfl
                      · exact ⟨ef0, fs0, fh43, fh44, fun q9 => absurd rfl q9⟩
                      · exact ⟨ef1, fs1, fh45, fh46, fun q9 => absurd rfl q9⟩
                      · exact ⟨ef2, fs2, fh47, fh48, fun q9 => absurd rfl q9⟩
                      · exact ⟨ef3, fs3, fh49, fh50, fun q9 => absurd rfl q9⟩
                      · exact ⟨ef4, fs4, fh51, fh52, fun q9 => absurd rfl q9⟩
                      · exact ⟨ef5, fs5, fh53, fh54, fun q9 => absurd rfl q9⟩⟩
                    exact vg_xret (vg_vret X rfl ⟨nx, rfl, hnx, ⟨_, _, _, _, _, _, _, _, _, fh40, cs_I_f6 hI (fun j q1 q2 => (G j (by omega)).trans (F2 j (by omega))), cw_N_fr hN2 (fun j q1 q2 => G j (by omega)) (fun j q1 => G j (by omega)), hT9, fun k _ q9 => absurd rfl q9, fh42, by decide, fun j hj => absurd hj (Nat.not_lt_zero j), by rw [hlz]; exact h56⟩, ⟨Nat.le_of_eq hlz.symm, fun j q1 q2 => (G j (by omega)).trans (F2 j (by omega))⟩⟩ (Nat.le_of_ble_eq_true rfl) (Nat.le_of_ble_eq_true rfl) dX6_net_67)
                  · have c44 : ¬ 6 ≤ 6 := fun z => c44 ((nI_leI (by omega) (by omega)).mpr z)
                    exact absurd (by decide) c44
    · skip
      obtain ⟨sa21, hsa21⟩ := hWm9.1 (45, "nodes below 0") (by decide)
      exact vg_throwS X (cls := "java/lang/NegativeArraySizeException") (names := ["java/lang/RuntimeException", "java/lang/Exception"]) hT hl9 (by decide +kernel) (by decide +kernel) tl_X6_net_43 ti_X6_net_43 hsa21 (vs_hat hWm9 (by decide +kernel)) (vs_gd (by decide +kernel) rfl rfl) (hG2 s X.2.2.2.2.2.2.2.2.2.2).2.1 (hG2 s X.2.2.2.2.2.2.2.2.2.2).2.2 dX6_net_21 dX6_net_24 dX6_net_25 dX6_net_27 dX6_net_30 (Nat.le_of_ble_eq_true rfl) (Nat.le_of_ble_eq_true rfl) (Nat.le_of_ble_eq_true rfl) (Nat.le_of_ble_eq_true rfl) (Or.inr ⟨rfl, Int32.not_le.mp c18⟩) (Nat.le_of_ble_eq_true rfl) (Nat.le_of_ble_eq_true rfl)
  · skip
    obtain ⟨sa7, hsa7⟩ := hWm9.1 (38, "more nodes than a net has") (by decide)
    exact vg_throwS X (cls := "java/lang/IllegalArgumentException") (names := ["java/lang/RuntimeException", "java/lang/Exception"]) hT hl9 (by decide +kernel) (by decide +kernel) tl_X6_net_36 ti_X6_net_36 hsa7 (vs_hat hWm9 (by decide +kernel)) (vs_gd (by decide +kernel) rfl rfl) (hG2 s X.2.2.2.2.2.2.2.2.2.2).2.1 (hG2 s X.2.2.2.2.2.2.2.2.2.2).2.2 dX6_net_7 dX6_net_10 dX6_net_11 dX6_net_13 dX6_net_16 (Nat.le_of_ble_eq_true rfl) (Nat.le_of_ble_eq_true rfl) (Nat.le_of_ble_eq_true rfl) (Nat.le_of_ble_eq_true rfl) (Or.inl ⟨rfl, c4⟩) (Nat.le_of_ble_eq_true rfl) (Nat.le_of_ble_eq_true rfl)
set_option maxHeartbeats 4000000 in
set_option maxRecDepth 100000 in
/-- X6_way -/
theorem c_X6_way (l : Launch) {D : va_G} {ay : Nat → ClassId} {base : Nat} {Gx : State → Prop} {tE mi : Nat} {ws : va_W} {ax : Nat} {n P U : Nat} {d fr to pe uv : Nat → Nat → Nat} {ku ks kt : Nat → Nat} {sk : Nat → Nat → Nat} {wl : Nat} {wp : Nat → Nat} {y a b t : Int32} (hl9 : l.stackTraces = false) (hG2 : ∀ U, Gx U → vh_G2 base tE mi U) (hS : cw_St ay ws ax tE n P U d fr to pe uv ku ks kt sk wl wp) : vx_Met l yX6_way wsX6_way ({ frames := 8, cells := 8, slots := 60, locals := 210 } : Room) (fun a9 s9 => va_Pc [.ref ax, .int y, .int a, .int b, .int t] (vg_B D ay base Gx ws) a9 s9 ∧ vs_W s9) (va_Ql (fun r u => ∃ (jx ax9 bx tx wl2 : Nat) (wp2 nd : Nat → Nat), y = nI jx ∧ jx < U ∧ a = nI ax9 ∧ ax9 < n ∧ b = nI bx ∧ bx < n ∧ t = nI tx ∧ tx < 2 ^ 31 ∧ cw_St ay u ax tE n P U d fr to pe uv ku ks kt sk wl2 wp2 ∧ cw_fr ws u ∧ (ma_d (ma_T P (fun i => d i 0) (fun i => d i 1) (fun i => ps_w (d i) (fr i) (to i) (pe i) (uv jx) tx) ax9 bx) 1 < ma_B → wy_path P (fun i => d i 0) (fun i => d i 1) (fun i => ps_w (d i) (fr i) (to i) (pe i) (uv jx) tx) (fun x => ma_d (ma_T P (fun i => d i 0) (fun i => d i 1) (fun i => ps_w (d i) (fr i) (to i) (pe i) (uv jx) tx) ax9 x) 1) ax9 bx wl2 wp2 nd ∧ nd wl2 = ax9) ∧ (¬ ma_d (ma_T P (fun i => d i 0) (fun i => d i 1) (fun i => ps_w (d i) (fr i) (to i) (pe i) (uv jx) tx) ax9 bx) 1 < ma_B → wl2 = 0) ∧ r = vs_rep (ma_d (ma_T P (fun i => d i 0) (fun i => d i 1) (fun i => ps_w (d i) (fr i) (to i) (pe i) (uv jx) tx) ax9 bx) 1)) (vg_B D ay base Gx) (vg_A base)) (vg_XC D ay base Gx ws (fun E => (E = "java/lang/IllegalArgumentException" ∧ ¬ (cm_in y U ∧ cm_in a n ∧ cm_in b n)) ∨ (E = "java/lang/IndexOutOfBoundsException" ∧ (cm_in y U ∧ cm_in a n ∧ cm_in b n) ∧ ¬ 0 ≤ t))) 8 60 (vg_A base) := by
  refine vg_metX (cc := cX6_way) (maxL := 6) (ret := (some .long)) (own := RX6) (lv := [(0, .ref ax), (1, .int y), (2, .int a), (3, .int b), (4, .int t)]) (by decide) rfl rfl (Nat.le_of_ble_eq_true rfl) rfl ?_
  intro p e s m args below meth c X hT hWm9
  obtain ⟨aN, asr, aTs, aWB, el, qp, ua, uq, fb, hS⟩ := hS
  have hS0 := hS
  obtain ⟨h0, hI, hN, hTT, hK, h16, hwl, hwp, h56⟩ := hS0
  have hB := cw_N_b hN
  obtain ⟨aq0, aC0, aW0, aK0, aT0, k00, fc0, fw0, fk0, ft0, hn0, pl0, key0, s6, _⟩ := id hI
  refine vg_aload_n X dX6_way_0 0 rfl rfl ?_
  refine vg_iload_n X dX6_way_1 1 rfl rfl ?_
  refine vg_callrX X (vg_runVX X vs_st hWm9 (c_X6_knownUnit l hl9 hG2 hS (x := y)) (cwV 1 X.2.2.2.2.1 gX6_way_X6_knownUnit rfl rfl rfl (by decide +kernel) ⟨(Nat.le_of_ble_eq_true rfl), (Nat.le_of_ble_eq_true rfl)⟩) 0 h0 rfl rfl rfl (Nat.le_of_ble_eq_true rfl) dX6_way_2 ⟨(Nat.le_of_ble_eq_true rfl), (Nat.le_of_ble_eq_true rfl)⟩) hT (fun E hE => Or.inl ⟨hE.1, fun z9 => hE.2 z9.1⟩) (Nat.le_of_ble_eq_true rfl) (Nat.le_of_ble_eq_true rfl) (fun rr3 wz1 PP2 PP2q => ?_)
  obtain ⟨jx, ejx, hjx, ajx⟩ := PP2q
  rw [PP2, ajx]
  subst ejx
  obtain ⟨qjx, pjx, rjx, y4jx⟩ := cw_N_uj hN hjx
  have pjxb := pjx
  unfold cu_P at pjx
  refine vg_astore X [(5, .ref (ua jx)), (0, .ref ax), (1, .int (nI jx)), (2, .int a), (3, .int b), (4, .int t)] dX6_way_5 (by decide) rfl ?_
  refine vg_aload_n X dX6_way_7 1 rfl rfl ?_
  refine vg_iload_n X dX6_way_8 3 rfl rfl ?_
  refine vg_callvX X (vg_runVX X vs_st hWm9 (c_X6_needNode l hl9 hG2 hS (x := a)) (cwV 1 X.2.2.2.2.1 gX6_way_X6_needNode rfl rfl rfl (by decide +kernel) ⟨(Nat.le_of_ble_eq_true rfl), (Nat.le_of_ble_eq_true rfl)⟩) 0 h0 rfl rfl rfl (Nat.le_of_ble_eq_true rfl) dX6_way_9 ⟨(Nat.le_of_ble_eq_true rfl), (Nat.le_of_ble_eq_true rfl)⟩) hT (fun E hE => Or.inl ⟨hE.1, fun z9 => hE.2 z9.2.1⟩) (Nat.le_of_ble_eq_true rfl) (Nat.le_of_ble_eq_true rfl) (fun wz4 PP5 => ?_)
  obtain ⟨ew_a, ax9, hax9, eax9⟩ := PP5
  rw [ew_a]
  subst eax9
  refine vg_aload_n X dX6_way_12 1 rfl rfl ?_
  refine vg_iload_n X dX6_way_13 4 rfl rfl ?_
  refine vg_callvX X (vg_runVX X vs_st hWm9 (c_X6_needNode l hl9 hG2 hS (x := b)) (cwV 1 X.2.2.2.2.1 gX6_way_X6_needNode rfl rfl rfl (by decide +kernel) ⟨(Nat.le_of_ble_eq_true rfl), (Nat.le_of_ble_eq_true rfl)⟩) 0 h0 rfl rfl rfl (Nat.le_of_ble_eq_true rfl) dX6_way_14 ⟨(Nat.le_of_ble_eq_true rfl), (Nat.le_of_ble_eq_true rfl)⟩) hT (fun E hE => Or.inl ⟨hE.1, fun z9 => hE.2 z9.2.2⟩) (Nat.le_of_ble_eq_true rfl) (Nat.le_of_ble_eq_true rfl) (fun wz7 PP8 => ?_)
  obtain ⟨ew_b, bx, hbx, ebx⟩ := PP8
  rw [ew_b]
  subst ebx
  refine vg_iload X dX6_way_17 5 rfl ?_
  refine vg_callvX X (vg_runSX X vs_st hWm9 (c_X6_needTime l hl9 hG2 (x := t)) (cwS 1 X.2.2.2.2.1 gX6_way_X6_needTime rfl rfl rfl (by decide +kernel) ⟨(Nat.le_of_ble_eq_true rfl), (Nat.le_of_ble_eq_true rfl)⟩) rfl rfl (Nat.le_of_ble_eq_true rfl) dX6_way_19 ⟨(Nat.le_of_ble_eq_true rfl), (Nat.le_of_ble_eq_true rfl)⟩) hT (fun E hE => Or.inr ⟨hE.1, ⟨⟨jx, hjx, rfl⟩, ⟨ax9, hax9, rfl⟩, ⟨bx, hbx, rfl⟩⟩, hE.2⟩) (Nat.le_of_ble_eq_true rfl) (Nat.le_of_ble_eq_true rfl) (fun wz10 PP11 => ?_)
  obtain ⟨ew_t, hr_t⟩ := PP11
  rw [ew_t]
  obtain ⟨tx, htx, etx⟩ := i32_tm hr_t
  subst etx
  refine vg_aload_n X dX6_way_22 1 rfl rfl ?_
  refine vg_get X in_X6_way_X6 0 h0 rfl 1 (by decide) ml_X6_way_21 rfl rfl dX6_way_23 ?_
  refine vg_iload_n X dX6_way_26 3 rfl rfl ?_
  refine vg_aload X dX6_way_27 0 rfl ?_
  refine vg_iload X dX6_way_29 5 rfl ?_
  refine vg_iconst X (nI 1) dX6_way_31 (by decide) ?_
  refine vg_callv (vg_runV X (c_X3_spread l hI (cw_N_n hN) pjxb qjx rjx htx hax9 (k := 1) ⟨by omega, by omega⟩) (cwV 4 X.2.2.2.2.1 gX6_way_X3_spread rfl rfl rfl (by decide +kernel) ⟨Nat.le_of_ble_eq_true rfl, Nat.le_of_ble_eq_true rfl⟩) 6 s6 rfl rfl rfl (Nat.le_of_ble_eq_true rfl) dX6_way_32 ⟨(Nat.le_of_ble_eq_true rfl), (Nat.le_of_ble_eq_true rfl)⟩) (fun wz13 PP14 => ?_)
  obtain ⟨kn, st9, wk9, hn8, pl8, key8, gR, gC, gres, gfr⟩ := PP14
  have hS1 := cw_S_search hS (cs_R_I gR gC) gfr
  obtain ⟨x0, xI, xN, xTT, _, x16, _, _, x56⟩ := id hS1
  obtain ⟨aq1, aC1, aW1, aK1, aT1, fw1, fk1, ft1, s61, _⟩ := id gR
  refine vg_aload_n X dX6_way_35 1 rfl rfl ?_
  refine vg_iload_n X dX6_way_36 3 rfl rfl ?_
  refine vg_iload_n X dX6_way_37 4 rfl rfl ?_
  refine vg_callv (vg_runV X (c_X6_noteSteps l x0 x16 gR gC (by decide) (cw_N_n xN) gres hax9 hbx) (cwV 2 X.2.2.2.2.1 gX6_way_X6_noteSteps rfl rfl rfl (by decide +kernel) ⟨Nat.le_of_ble_eq_true rfl, Nat.le_of_ble_eq_true rfl⟩) 0 x0 rfl rfl rfl (Nat.le_of_ble_eq_true rfl) dX6_way_38 ⟨(Nat.le_of_ble_eq_true rfl), (Nat.le_of_ble_eq_true rfl)⟩) (fun wz16 PP17 => ?_)
  obtain ⟨wl2, wp2, nd, fb2, y0, y16, ywl, ywp, yfr, yp, yn⟩ := PP17
  have yG : ∀ j, j ≠ 0 → j ≠ 16 → wz16[j]? = wz13[j]? := fun j q1 q2 => yfr.2 j (fun z => by simp only [List.mem_cons, List.not_mem_nil, or_false] at z; omega)
  have y6 := (yG 6 (by decide) (by decide)).trans s61
  refine vg_aload_n X dX6_way_41 1 rfl rfl ?_
  refine vg_get X in_X6_way_X6 0 y0 rfl 1 (by decide) ml_X6_way_21 rfl rfl dX6_way_42 ?_
  refine vg_iload_n X dX6_way_45 4 rfl rfl ?_
  refine vg_calll (vg_runV X (c_X3_leastTo l (cs_R_fr gR (fun j q1 q2 => yG j (by omega) (by omega))) hB.1 ⟨by decide, by decide⟩ hbx (by have := (gres bx hbx).1; omega)) (cwV 1 X.2.2.2.2.1 gX6_way_X3_leastTo rfl rfl rfl (by decide +kernel) ⟨Nat.le_of_ble_eq_true rfl, Nat.le_of_ble_eq_true rfl⟩) 6 y6 rfl rfl rfl (Nat.le_of_ble_eq_true rfl) dX6_way_46 ⟨(Nat.le_of_ble_eq_true rfl), (Nat.le_of_ble_eq_true rfl)⟩) (fun rr21 wz19 PP20 => ?_)
  obtain ⟨ew, er1, er2⟩ := PP20
  rw [ew]
  exact vg_xret (vg_lret X rfl ⟨jx, ax9, bx, tx, wl2, wp2, nd, rfl, hjx, rfl, hax9, rfl, hbx, rfl, htx, ⟨_, _, _, _, _, _, _, _, _, y0, cs_I_f6 xI (fun j q1 q2 => yG j (by omega) (by omega)), cw_N_fr xN (fun j q1 q2 => yG j (by omega) (by omega)) (fun j q1 => yG j (by omega) (by omega)), ct_T_fr xTT (fun j hj => yG j (by omega) (by omega)), hK, y16, ywl, fun j hj => (ywp j hj).1, by rw [yfr.1]; exact x56⟩, cw_fr_tr (cw_fr_search gfr) (cw_fr_of yfr (by decide)), yp, yn, cs_rep gres hbx er1 er2⟩ (Nat.le_of_ble_eq_true rfl) (Nat.le_of_ble_eq_true rfl) dX6_way_49)
set_option maxHeartbeats 4000000 in
set_option maxRecDepth 100000 in
/-- X6_walk -/
theorem c_X6_walk (l : Launch) {D : va_G} {ay : Nat → ClassId} {base : Nat} {Gx : State → Prop} {tE mi : Nat} {ws : va_W} {ax : Nat} {n P U : Nat} {d fr to pe uv : Nat → Nat → Nat} {ku ks kt : Nat → Nat} {sk : Nat → Nat → Nat} {wl : Nat} {wp : Nat → Nat} {y a b t i9 : Int32} (hl9 : l.stackTraces = false) (hG2 : ∀ U, Gx U → vh_G2 base tE mi U) (hS : cw_St ay ws ax tE n P U d fr to pe uv ku ks kt sk wl wp) : vx_Met l yX6_walk wsX6_walk ({ frames := 8, cells := 8, slots := 60, locals := 210 } : Room) (fun a9 s9 => va_Pc [.ref ax, .int y, .int a, .int b, .int t, .int i9] (vg_B D ay base Gx ws) a9 s9 ∧ vs_W s9) (va_Ql (fun r u => ∃ jx ax9 bx tx nx : Nat, y = nI jx ∧ jx < U ∧ a = nI ax9 ∧ ax9 < n ∧ b = nI bx ∧ bx < n ∧ t = nI tx ∧ tx < 2 ^ 31 ∧ i9 = nI nx ∧ 1 ≤ nx ∧ nx ≤ 6 ∧ cw_St ay u ax tE n P U d fr to pe uv ku ks kt sk wl wp ∧ cw_fr ws u ∧ r = vs_rep (ma_d (ma_T P (fun i => d i 0) (fun i => d i 1) (fun i => ps_w (d i) (fr i) (to i) (pe i) (uv jx) tx) ax9 bx) nx)) (vg_B D ay base Gx) (vg_A base)) (vg_XC D ay base Gx ws (fun E => (E = "java/lang/IllegalArgumentException" ∧ ¬ (cm_in y U ∧ cm_in a n ∧ cm_in b n)) ∨ (E = "java/lang/IndexOutOfBoundsException" ∧ (cm_in y U ∧ cm_in a n ∧ cm_in b n) ∧ ¬ (0 ≤ t ∧ (nI 1 ≤ i9 ∧ i9 ≤ nI 6))))) 8 60 (vg_A base) := by
  refine vg_metX (cc := cX6_walk) (maxL := 7) (ret := (some .long)) (own := RX6) (lv := [(0, .ref ax), (1, .int y), (2, .int a), (3, .int b), (4, .int t), (5, .int i9)]) (by decide) rfl rfl (Nat.le_of_ble_eq_true rfl) rfl ?_
  intro p e s m args below meth c X hT hWm9
  obtain ⟨aN, asr, aTs, aWB, el, qp, ua, uq, fb, hS⟩ := hS
  have hS0 := hS
  obtain ⟨h0, hI, hN, hTT, hK, h16, hwl, hwp, h56⟩ := hS0
  have hB := cw_N_b hN
  obtain ⟨aq0, aC0, aW0, aK0, aT0, k00, fc0, fw0, fk0, ft0, hn0, pl0, key0, s6, _⟩ := id hI
  refine vg_aload_n X dX6_walk_0 0 rfl rfl ?_
  refine vg_iload_n X dX6_walk_1 1 rfl rfl ?_
  refine vg_callrX X (vg_runVX X vs_st hWm9 (c_X6_knownUnit l hl9 hG2 hS (x := y)) (cwV 1 X.2.2.2.2.1 gX6_walk_X6_knownUnit rfl rfl rfl (by decide +kernel) ⟨(Nat.le_of_ble_eq_true rfl), (Nat.le_of_ble_eq_true rfl)⟩) 0 h0 rfl rfl rfl (Nat.le_of_ble_eq_true rfl) dX6_walk_2 ⟨(Nat.le_of_ble_eq_true rfl), (Nat.le_of_ble_eq_true rfl)⟩) hT (fun E hE => Or.inl ⟨hE.1, fun z9 => hE.2 z9.1⟩) (Nat.le_of_ble_eq_true rfl) (Nat.le_of_ble_eq_true rfl) (fun rr3 wz1 PP2 PP2q => ?_)
  obtain ⟨jx, ejx, hjx, ajx⟩ := PP2q
  rw [PP2, ajx]
  subst ejx
  obtain ⟨qjx, pjx, rjx, y4jx⟩ := cw_N_uj hN hjx
  have pjxb := pjx
  unfold cu_P at pjx
  refine vg_astore X [(6, .ref (ua jx)), (0, .ref ax), (1, .int (nI jx)), (2, .int a), (3, .int b), (4, .int t), (5, .int i9)] dX6_walk_5 (by decide) rfl ?_
  refine vg_aload_n X dX6_walk_7 1 rfl rfl ?_
  refine vg_iload_n X dX6_walk_8 3 rfl rfl ?_
  refine vg_callvX X (vg_runVX X vs_st hWm9 (c_X6_needNode l hl9 hG2 hS (x := a)) (cwV 1 X.2.2.2.2.1 gX6_walk_X6_needNode rfl rfl rfl (by decide +kernel) ⟨(Nat.le_of_ble_eq_true rfl), (Nat.le_of_ble_eq_true rfl)⟩) 0 h0 rfl rfl rfl (Nat.le_of_ble_eq_true rfl) dX6_walk_9 ⟨(Nat.le_of_ble_eq_true rfl), (Nat.le_of_ble_eq_true rfl)⟩) hT (fun E hE => Or.inl ⟨hE.1, fun z9 => hE.2 z9.2.1⟩) (Nat.le_of_ble_eq_true rfl) (Nat.le_of_ble_eq_true rfl) (fun wz4 PP5 => ?_)
  obtain ⟨ew_a, ax9, hax9, eax9⟩ := PP5
  rw [ew_a]
  subst eax9
  refine vg_aload_n X dX6_walk_12 1 rfl rfl ?_
  refine vg_iload_n X dX6_walk_13 4 rfl rfl ?_
  refine vg_callvX X (vg_runVX X vs_st hWm9 (c_X6_needNode l hl9 hG2 hS (x := b)) (cwV 1 X.2.2.2.2.1 gX6_walk_X6_needNode rfl rfl rfl (by decide +kernel) ⟨(Nat.le_of_ble_eq_true rfl), (Nat.le_of_ble_eq_true rfl)⟩) 0 h0 rfl rfl rfl (Nat.le_of_ble_eq_true rfl) dX6_walk_14 ⟨(Nat.le_of_ble_eq_true rfl), (Nat.le_of_ble_eq_true rfl)⟩) hT (fun E hE => Or.inl ⟨hE.1, fun z9 => hE.2 z9.2.2⟩) (Nat.le_of_ble_eq_true rfl) (Nat.le_of_ble_eq_true rfl) (fun wz7 PP8 => ?_)
  obtain ⟨ew_b, bx, hbx, ebx⟩ := PP8
  rw [ew_b]
  subst ebx
  refine vg_iload X dX6_walk_17 5 rfl ?_
  refine vg_callvX X (vg_runSX X vs_st hWm9 (c_X6_needTime l hl9 hG2 (x := t)) (cwS 1 X.2.2.2.2.1 gX6_walk_X6_needTime rfl rfl rfl (by decide +kernel) ⟨(Nat.le_of_ble_eq_true rfl), (Nat.le_of_ble_eq_true rfl)⟩) rfl rfl (Nat.le_of_ble_eq_true rfl) dX6_walk_19 ⟨(Nat.le_of_ble_eq_true rfl), (Nat.le_of_ble_eq_true rfl)⟩) hT (fun E hE => Or.inr ⟨hE.1, ⟨⟨jx, hjx, rfl⟩, ⟨ax9, hax9, rfl⟩, ⟨bx, hbx, rfl⟩⟩, fun z9 => hE.2 z9.1⟩) (Nat.le_of_ble_eq_true rfl) (Nat.le_of_ble_eq_true rfl) (fun wz10 PP11 => ?_)
  obtain ⟨ew_t, hr_t⟩ := PP11
  rw [ew_t]
  refine vg_iload X dX6_walk_22 6 rfl ?_
  refine vg_iconst X (nI 1) dX6_walk_24 (by decide) ?_
  refine vg_bipush X (nI 6) dX6_walk_25 (by decide) ?_
  refine vg_callvX X (vg_runSX X vs_st hWm9 (c_X6_needWithin l hl9 hG2 (x := i9) (lo := nI 1) (hi := nI 6)) (cwS 3 X.2.2.2.2.1 gX6_walk_X6_needWithin rfl rfl rfl (by decide +kernel) ⟨(Nat.le_of_ble_eq_true rfl), (Nat.le_of_ble_eq_true rfl)⟩) rfl rfl (Nat.le_of_ble_eq_true rfl) dX6_walk_27 ⟨(Nat.le_of_ble_eq_true rfl), (Nat.le_of_ble_eq_true rfl)⟩) hT (fun E hE => Or.inr ⟨hE.1, ⟨⟨jx, hjx, rfl⟩, ⟨ax9, hax9, rfl⟩, ⟨bx, hbx, rfl⟩⟩, fun z9 => hE.2 z9.2⟩) (Nat.le_of_ble_eq_true rfl) (Nat.le_of_ble_eq_true rfl) (fun wz13 PP14 => ?_)
  obtain ⟨ew_i9, hr_i9⟩ := PP14
  rw [ew_i9]
  obtain ⟨tx, htx, etx⟩ := i32_tm hr_t
  subst etx
  obtain ⟨nx, lnx, hnx, enx⟩ := cm_rng hr_i9 (a := 1) (b := 6) (by decide) (by decide)
  subst enx
  refine vg_aload_n X dX6_walk_30 1 rfl rfl ?_
  refine vg_get X in_X6_walk_X6 0 h0 rfl 1 (by decide) ml_X6_walk_21 rfl rfl dX6_walk_31 ?_
  refine vg_iload_n X dX6_walk_34 3 rfl rfl ?_
  refine vg_aload X dX6_walk_35 0 rfl ?_
  refine vg_iload X dX6_walk_37 5 rfl ?_
  refine vg_iload X dX6_walk_39 6 rfl ?_
  refine vg_callv (vg_runV X (c_X3_spread l hI (cw_N_n hN) pjxb qjx rjx htx hax9 (k := nx) ⟨by omega, by omega⟩) (cwV 4 X.2.2.2.2.1 gX6_walk_X3_spread rfl rfl rfl (by decide +kernel) ⟨Nat.le_of_ble_eq_true rfl, Nat.le_of_ble_eq_true rfl⟩) 6 s6 rfl rfl rfl (Nat.le_of_ble_eq_true rfl) dX6_walk_41 ⟨(Nat.le_of_ble_eq_true rfl), (Nat.le_of_ble_eq_true rfl)⟩) (fun wz16 PP17 => ?_)
  obtain ⟨kn, st9, wk9, hn8, pl8, key8, gR, gC, gres, gfr⟩ := PP17
  have hS1 := cw_S_search hS (cs_R_I gR gC) gfr
  obtain ⟨x0, xI, xN, xTT, _, x16, _, _, x56⟩ := id hS1
  obtain ⟨aq1, aC1, aW1, aK1, aT1, fw1, fk1, ft1, s61, _⟩ := id gR
  refine vg_aload_n X dX6_walk_44 1 rfl rfl ?_
  refine vg_get X in_X6_walk_X6 0 x0 rfl 1 (by decide) ml_X6_walk_21 rfl rfl dX6_walk_45 ?_
  refine vg_iload_n X dX6_walk_48 4 rfl rfl ?_
  refine vg_iload X dX6_walk_49 6 rfl ?_
  refine vg_calll (vg_runV X (c_X3_nthTo l gR hB.1 ⟨by omega, by omega⟩ hbx ⟨by omega, by omega⟩ (by have := (gres bx hbx).1; omega)) (cwV 2 X.2.2.2.2.1 gX6_walk_X3_nthTo rfl rfl rfl (by decide +kernel) ⟨Nat.le_of_ble_eq_true rfl, Nat.le_of_ble_eq_true rfl⟩) 6 s61 rfl rfl rfl (Nat.le_of_ble_eq_true rfl) dX6_walk_51 ⟨(Nat.le_of_ble_eq_true rfl), (Nat.le_of_ble_eq_true rfl)⟩) (fun rr21 wz19 PP20 => ?_)
  obtain ⟨ew, er1, er2⟩ := PP20
  rw [ew]
  exact vg_xret (vg_lret X rfl ⟨jx, ax9, bx, tx, nx, rfl, hjx, rfl, hax9, rfl, hbx, rfl, htx, rfl, by omega, by omega, ⟨_, _, _, _, _, _, _, _, _, hS1⟩, cw_fr_search gfr, cs_repk gres hbx (by omega) er1 er2⟩ (Nat.le_of_ble_eq_true rfl) (Nat.le_of_ble_eq_true rfl) dX6_walk_54)
