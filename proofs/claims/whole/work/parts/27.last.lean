/-- what leastTo tells -/
theorem cs_res1 {n : Nat} {kn : Nat → Nat} {wk T : Nat → Nat → Nat} (h : cs_res n 1 kn wk T) {v : Nat} (hv : v < n) : (1 ≤ kn v → ma_d (T v) 1 = wk v 0 ∧ wk v 0 < 2 ^ 59) ∧ (¬ 1 ≤ kn v → ma_d (T v) 1 = ma_B) := (h v hv).2 1 (Nat.le_refl _) (Nat.le_refl _)
/-- the halves of a piece that fits stand at the node -/
theorem wy_half {P : Nat} {ea eb w D : Nat → Nat} {v i : Nat} (h : wy_fit P ea eb w D v i) : ∃ x, x / 2 = i ∧ x < 2 * P ∧ dj_hn ea eb x = v := by
  obtain ⟨h1, h2, h3, ⟨e, _⟩ | ⟨e, _⟩⟩ := h
  · refine ⟨2 * i, by omega, by omega, ?_⟩
    unfold dj_hn
    rw [if_pos (by omega), show 2 * i / 2 = i by omega]; exact e
  · refine ⟨2 * i + 1, by omega, by omega, ?_⟩
    unfold dj_hn
    rw [if_neg (by omega), show (2 * i + 1) / 2 = i by omega]; exact e
theorem in_X3_bringsLeast_X3 : ∀ w ∈ u_ws RX3 TX3 7, w ∈ wsX3_bringsLeast := by decide +kernel
theorem ml_X3_bringsLeast_32 : Cond.fieldLink RX3 32 "WayTimes$Search" "net" "LWayTimes$Net;" ∈ wsX3_bringsLeast := by decide +kernel
theorem in_X3_bringsLeast_X0 : ∀ w ∈ u_ws RX0 TX0 5, w ∈ wsX3_bringsLeast := by decide +kernel
theorem ml_X3_bringsLeast_76 : Cond.fieldLink RX3 76 "WayTimes$Net" "pieces" "Ljava/util/ArrayList;" ∈ wsX3_bringsLeast := by decide +kernel
theorem mc_X3_bringsLeast_96 : Cond.classLink RX3 96 "WayTimes$Piece" ∈ wsX3_bringsLeast := by decide +kernel
theorem mk_X3_bringsLeast_71 : Jvm.Cond.constantLong RX3 71 (-1) ∈ wsX3_bringsLeast := by decide +kernel
theorem ml_X3_bringsLeast_18 : Cond.fieldLink RX3 18 "WayTimes$Search" "cost" "[J" ∈ wsX3_bringsLeast := by decide +kernel
theorem in_X3_lastPieceTo_X3 : ∀ w ∈ u_ws RX3 TX3 7, w ∈ wsX3_lastPieceTo := by decide +kernel
theorem ml_X3_lastPieceTo_32 : Cond.fieldLink RX3 32 "WayTimes$Search" "net" "LWayTimes$Net;" ∈ wsX3_lastPieceTo := by decide +kernel
theorem in_X3_lastPieceTo_X0 : ∀ w ∈ u_ws RX0 TX0 5, w ∈ wsX3_lastPieceTo := by decide +kernel
theorem ml_X3_lastPieceTo_89 : Cond.fieldLink RX3 89 "WayTimes$Net" "olderHalf" "[I" ∈ wsX3_lastPieceTo := by decide +kernel
theorem ml_X3_lastPieceTo_73 : Cond.fieldLink RX3 73 "WayTimes$Net" "newestHalf" "[I" ∈ wsX3_lastPieceTo := by decide +kernel
theorem ml_X3_lastPieceTo_76 : Cond.fieldLink RX3 76 "WayTimes$Net" "pieces" "Ljava/util/ArrayList;" ∈ wsX3_lastPieceTo := by decide +kernel
set_option maxHeartbeats 4000000 in
set_option maxRecDepth 100000 in
/-- bringsLeast(i, node) -/
theorem c_X3_bringsLeast (l : Launch) {D : va_G} {ay : Nat → ClassId} {base : Nat} {Gx : State → Prop} {ws : va_W} {asr aN n : Nat} {kn st : Nat → Nat} {wk : Nat → Nat → Nat} {hn : Nat → Nat} {pl : Nat → Int32} {key : Nat → Nat} {sz : Nat} {tE P WM : Nat} {el qp : Nat → Nat} {d fr to pe : Nat → Nat → Nat} {w : Nat → Nat} {T : Nat → Nat → Nat} {i node : Nat} (hR : cs_R ay ws asr aN 1 n kn st wk hn pl key sz) (hC : cs_C ay ws asr P WM w) (hWM : WM < 2 ^ 59) (hN : cn_N ay ws aN tE n P el qp d fr to pe) (hres : cs_res n 1 kn wk T) (hi : i < P) (hnode : node = d i 0 ∨ node = d i 1) : Met l yX3_bringsLeast wsX3_bringsLeast ({ frames := 3, cells := 0, slots := 0, locals := 64 } : Room) (va_Pc [.ref asr, .int (nI i), .int (nI node)] (vg_B D ay base Gx ws)) (va_Qi (fun r u => u = ws ∧ (wy_fit P (fun i => d i 0) (fun i => d i 1) w (fun x => ma_d (T x) 1) node i → r = 1) ∧ (¬ wy_fit P (fun i => d i 0) (fun i => d i 1) w (fun x => ma_d (T x) 1) node i → r = 0)) (vg_B D ay base Gx) (vg_A base)) 0 0 (vg_A base) := by
  refine vg_met (cc := cX3_bringsLeast) (maxL := 5) (ret := (some .boolean)) (own := RX3) (lv := [(0, .ref asr), (1, .int (nI i)), (2, .int (nI node))]) (by decide) rfl rfl (Nat.le_of_ble_eq_true rfl) rfl ?_
  intro p e s m args below meth c X hinit
  obtain ⟨aP, aU, aH, aO, fh, fo, n1, nL2, n4, n5, np, nn, nP, nh, no⟩ := id hN
  obtain ⟨mo, aE, bq, bE⟩ := id nL2
  obtain ⟨aq, aC, aW, aK, aT, fw, fk, ft, h6, h12, h13, h14, hQ, hkt, hwk⟩ := id hR
  obtain ⟨x0, x1, x2, x3, x4, x5, kk, fc, g6, h11, hcost⟩ := id hC
  cases h6.symm.trans g6
  obtain ⟨z1, z2, z3, z4, z5, z6⟩ := np i hi
  obtain ⟨af, at2, ag, ff, ft9, fg, k0, kr⟩ := id z2
  obtain ⟨o1, o2, o3⟩ := hcost i hi
  obtain ⟨oth, eoth⟩ : ∃ z, z = if node = d i 0 then d i 1 else d i 0 := ⟨_, rfl⟩
  have hoth : (node = d i 0 ∧ oth = d i 1) ∨ (node = d i 1 ∧ oth = d i 0) := by
    rcases hnode with q9 | q9
    · left; exact ⟨q9, by rw [eoth, if_pos q9]⟩
    · right; exact ⟨q9, by rw [eoth, if_neg (fun q8 => z6 (q8.symm.trans q9))]⟩
  have ho : oth < n := by omega
  have hnn : node < n := by omega
  have fit : wy_fit P (fun i => d i 0) (fun i => d i 1) w (fun x => ma_d (T x) 1) node i ↔ (w i ≠ 0 ∧ ma_d (T node) 1 < ma_B ∧ ma_d (T oth) 1 + w i = ma_d (T node) 1) := by
    unfold wy_fit
    rcases hoth with ⟨q1, q2⟩ | ⟨q1, q2⟩
    · rw [q1, q2]; exact ⟨fun ⟨_, b, cc, e9⟩ => ⟨b, cc, by rcases e9 with ⟨_, g⟩ | ⟨g, _⟩; exact g; exact absurd g.symm z6⟩, fun ⟨a9, b, cc⟩ => ⟨hi, a9, b, Or.inl ⟨rfl, cc⟩⟩⟩
    · rw [q1, q2]; exact ⟨fun ⟨_, b, cc, e9⟩ => ⟨b, cc, by rcases e9 with ⟨g, _⟩ | ⟨_, g⟩; exact absurd g z6; exact g⟩, fun ⟨a9, b, cc⟩ => ⟨hi, a9, b, Or.inr ⟨rfl, cc⟩⟩⟩
  have d1 := cs_res1 hres ho
  have d2 := cs_res1 hres hnn
  have eB : ma_B = 2 ^ 60 := rfl
  have c1 := (hres oth ho).1
  have c2 := (hres node hnn).1
  refine vg_aload_n X dX3_bringsLeast_0 0 rfl rfl ?_
  refine vg_aload_n X dX3_bringsLeast_1 0 rfl rfl ?_
  refine vg_get X in_X3_bringsLeast_X3 6 h6 rfl 0 (by decide) ml_X3_bringsLeast_32 rfl rfl dX3_bringsLeast_2 ?_
  refine vg_get X in_X3_bringsLeast_X0 1 n1 rfl 0 (by decide) ml_X3_bringsLeast_76 rfl rfl dX3_bringsLeast_5 ?_
  refine vg_iload_n X dX3_bringsLeast_8 1 rfl rfl ?_
  refine vg_callr (vg_runV X (c_Jx4a65c_get_915e3 l nL2 (i := i) hi) (cwV 1 X.2.2.2.2.1 gX3_bringsLeast_Jx4a65c_get_915e3 rfl rfl rfl (by decide +kernel) ⟨Nat.le_of_ble_eq_true rfl, Nat.le_of_ble_eq_true rfl⟩) 2 bq rfl rfl rfl (Nat.le_of_ble_eq_true rfl) dX3_bringsLeast_9 ⟨Nat.zero_le _, Nat.zero_le _⟩) (fun rr3 wz1 PP2 PP2q => ?_)
  obtain rfl := PP2q
  rw [PP2]
  refine vg_cast X (qp i) k0 rfl mc_X3_bringsLeast_96 dX3_bringsLeast_12 ?_
  refine vg_iload_n X dX3_bringsLeast_15 2 rfl rfl ?_
  refine vg_calli (vg_runV X (c_X2_otherEnd l z2 z3 (node := node) (by omega)) (cwV 1 X.2.2.2.2.1 gX3_bringsLeast_X2_otherEnd rfl rfl rfl (by decide +kernel) ⟨Nat.le_of_ble_eq_true rfl, Nat.le_of_ble_eq_true rfl⟩) (qp i) k0 rfl rfl rfl (Nat.le_of_ble_eq_true rfl) dX3_bringsLeast_16 ⟨Nat.zero_le _, Nat.zero_le _⟩) (fun rr6 wz4 PP5 => ?_)
  obtain ⟨hw9, hr9⟩ := PP5
  rw [hw9]
  rw [← eoth] at hr9
  subst hr9
  refine vg_calll (vg_runV X (c_X3_leastTo l hR nn (by omega) (node := oth) ho (by omega)) (cwV 1 X.2.2.2.2.1 gX3_bringsLeast_X3_leastTo rfl rfl rfl (by decide +kernel) ⟨Nat.le_of_ble_eq_true rfl, Nat.le_of_ble_eq_true rfl⟩) 6 h6 rfl rfl rfl (Nat.le_of_ble_eq_true rfl) dX3_bringsLeast_19 ⟨Nat.zero_le _, Nat.zero_le _⟩) (fun rr9 wz7 PP8 => ?_)
  obtain ⟨hw9, hy9, hn9⟩ := PP8
  rw [hw9]
  by_cases q1 : 1 ≤ kn oth
  · have e9 := hy9 q1; subst e9
    have g1 := d1.1 q1
    refine vg_lstore_n X [(3, .long (lN (wk oth 0))), (0, .ref asr), (1, .int (nI i)), (2, .int (nI node))] dX3_bringsLeast_22 rfl (by decide) rfl ?_
    refine vg_lload_n X dX3_bringsLeast_23 0 rfl rfl ?_
    refine vg_ldc2 X (-1) dX3_bringsLeast_24 mk_X3_bringsLeast_71 ?_
    refine vg_lcmp_eq X 65 dX3_bringsLeast_27 dX3_bringsLeast_28 (by decide) (fun c27 => ?_) (fun c27 => ?_)
    · exact absurd c27 (lN_nm1 (by omega))
    · skip
      refine vg_aload_n X dX3_bringsLeast_31 1 rfl rfl ?_
      refine vg_get X in_X3_bringsLeast_X3 6 h6 rfl 2 (by decide) ml_X3_bringsLeast_18 rfl rfl dX3_bringsLeast_32 ?_
      refine vg_iload_n X dX3_bringsLeast_35 2 rfl rfl ?_
      refine vg_lald X (fc i) 11 h11 rfl (by omega) (by decide) rfl dX3_bringsLeast_36 ?_
      refine vg_ldc2 X (-1) dX3_bringsLeast_37 mk_X3_bringsLeast_71 ?_
      refine vg_lcmp_eq X 65 dX3_bringsLeast_40 dX3_bringsLeast_41 (by decide) (fun c40 => ?_) (fun c40 => ?_)
      · have o4 : w i = 0 := by
          rcases Nat.eq_zero_or_pos (w i) with q9 | q9
          · exact q9
          · exact absurd (c40.symm.trans (o2 (by omega))).symm (lN_nm1 (by omega))
        refine vg_iconst X (nI 0) dX3_bringsLeast_65 (by decide) ?_
        exact vg_zret X rfl rfl ⟨rfl, fun q9 => absurd (fit.mp q9) (fun z => by exact z.1 o4), fun _ => rfl⟩ (Nat.le_refl _) (Nat.le_refl _) dX3_bringsLeast_66
      · have o4 : w i ≠ 0 := fun q9 => c40 (o1 q9)
        refine vg_lload_n X dX3_bringsLeast_44 0 rfl rfl ?_
        refine vg_aload_n X dX3_bringsLeast_45 1 rfl rfl ?_
        refine vg_get X in_X3_bringsLeast_X3 6 h6 rfl 2 (by decide) ml_X3_bringsLeast_18 rfl rfl dX3_bringsLeast_46 ?_
        refine vg_iload_n X dX3_bringsLeast_49 2 rfl rfl ?_
        refine vg_lald X (lN (w i)) 11 h11 rfl (by omega) (by decide) (o2 o4) dX3_bringsLeast_50 ?_
        refine vg_ladd X (lN (wk oth 0 + w i)) dX3_bringsLeast_51 (lN_add _ _) ?_
        refine vg_aload_n X dX3_bringsLeast_52 1 rfl rfl ?_
        refine vg_iload_n X dX3_bringsLeast_53 3 rfl rfl ?_
        refine vg_calll (vg_runV X (c_X3_leastTo l hR nn (by omega) (node := node) hnn (by omega)) (cwV 1 X.2.2.2.2.1 gX3_bringsLeast_X3_leastTo rfl rfl rfl (by decide +kernel) ⟨Nat.le_of_ble_eq_true rfl, Nat.le_of_ble_eq_true rfl⟩) 6 h6 rfl rfl rfl (Nat.le_of_ble_eq_true rfl) dX3_bringsLeast_54 ⟨Nat.zero_le _, Nat.zero_le _⟩) (fun rr12 wz10 PP11 => ?_)
        obtain ⟨hw9, hy9, hn9⟩ := PP11
        rw [hw9]
        by_cases q2 : 1 ≤ kn node
        · have e9 := hy9 q2; subst e9
          have g2 := d2.1 q2
          refine vg_lcmp_ne X 65 dX3_bringsLeast_57 dX3_bringsLeast_58 (by decide) (fun c57 => ?_) (fun c57 => ?_)
          · have c57 : ¬ wk oth 0 + w i = wk node 0 := fun z => c57 ((pk_lEQ (by omega) (by omega)).mpr z)
            skip
            refine vg_iconst X (nI 0) dX3_bringsLeast_65 (by decide) ?_
            exact vg_zret X rfl rfl ⟨rfl, fun q9 => absurd (fit.mp q9) (fun z => by exact c57 (by omega)), fun _ => rfl⟩ (Nat.le_refl _) (Nat.le_refl _) dX3_bringsLeast_66
          · have c57 : wk oth 0 + w i = wk node 0 := (pk_lEQ (by omega) (by omega)).mp c57
            skip
            refine vg_iconst X (nI 1) dX3_bringsLeast_61 (by decide) ?_
            refine vg_goto X 66 dX3_bringsLeast_62 (by decide) ?_
            exact vg_zret X rfl rfl ⟨rfl, fun _ => rfl, fun q9 => absurd (fit.mpr ⟨o4, by omega, by omega⟩) q9⟩ (Nat.le_refl _) (Nat.le_refl _) dX3_bringsLeast_66
        · have e9 := hn9 q2; subst e9
          have g2 := d2.2 q2
          refine vg_lcmp_ne X 65 dX3_bringsLeast_57 dX3_bringsLeast_58 (by decide) (fun c57 => ?_) (fun c57 => ?_)
          · skip
            refine vg_iconst X (nI 0) dX3_bringsLeast_65 (by decide) ?_
            exact vg_zret X rfl rfl ⟨rfl, fun q9 => absurd (fit.mp q9) (fun z => by omega), fun _ => rfl⟩ (Nat.le_refl _) (Nat.le_refl _) dX3_bringsLeast_66
          · exact absurd c57 (lN_nm1 (by omega))
  · have e9 := hn9 q1; subst e9
    have g1 := d1.2 q1
    refine vg_lstore_n X [(3, .long (-1)), (0, .ref asr), (1, .int (nI i)), (2, .int (nI node))] dX3_bringsLeast_22 rfl (by decide) rfl ?_
    refine vg_lload_n X dX3_bringsLeast_23 0 rfl rfl ?_
    refine vg_ldc2 X (-1) dX3_bringsLeast_24 mk_X3_bringsLeast_71 ?_
    refine vg_lcmp_eq X 65 dX3_bringsLeast_27 dX3_bringsLeast_28 (by decide) (fun c27 => ?_) (fun c27 => ?_)
    · skip
      refine vg_iconst X (nI 0) dX3_bringsLeast_65 (by decide) ?_
      exact vg_zret X rfl rfl ⟨rfl, fun q9 => absurd (fit.mp q9) (fun z => by omega), fun _ => rfl⟩ (Nat.le_refl _) (Nat.le_refl _) dX3_bringsLeast_66
    · exact absurd rfl c27
set_option maxHeartbeats 4000000 in
set_option maxRecDepth 100000 in
/-- lastPieceTo(node) -/
theorem c_X3_lastPieceTo (l : Launch) {D : va_G} {ay : Nat → ClassId} {base : Nat} {Gx : State → Prop} {ws : va_W} {asr aN n : Nat} {kn st : Nat → Nat} {wk : Nat → Nat → Nat} {hn : Nat → Nat} {pl : Nat → Int32} {key : Nat → Nat} {sz : Nat} {tE P WM : Nat} {el qp : Nat → Nat} {d fr to pe : Nat → Nat → Nat} {w : Nat → Nat} {T : Nat → Nat → Nat} {node : Nat} (hR : cs_R ay ws asr aN 1 n kn st wk hn pl key sz) (hC : cs_C ay ws asr P WM w) (hWM : WM < 2 ^ 59) (hN : cn_N ay ws aN tE n P el qp d fr to pe) (hres : cs_res n 1 kn wk T) (hnode : node < n) : Met l yX3_lastPieceTo wsX3_lastPieceTo ({ frames := 4, cells := 0, slots := 0, locals := 88 } : Room) (va_Pc [.ref asr, .int (nI node)] (vg_B D ay base Gx ws)) (va_Qi (fun r u => u = ws ∧ ((r = -1 ∧ ∀ i, ¬ wy_fit P (fun i => d i 0) (fun i => d i 1) w (fun x => ma_d (T x) 1) node i) ∨ ∃ i, r = nI i ∧ i < P ∧ wy_low P (fun i => d i 0) (fun i => d i 1) w (fun x => ma_d (T x) 1) node i)) (vg_B D ay base Gx) (vg_A base)) 0 0 (vg_A base) := by
  refine vg_met (cc := cX3_lastPieceTo) (maxL := 5) (ret := (some .int)) (own := RX3) (lv := [(0, .ref asr), (1, .int (nI node))]) (by decide) rfl rfl (Nat.le_of_ble_eq_true rfl) rfl ?_
  intro p e s m args below meth c X hinit
  obtain ⟨aP, aU, aH, aO, fh, fo, n1, nL2, n4, n5, np, nn, nP, nh, no⟩ := id hN
  obtain ⟨mo, aE, bq, bE⟩ := id nL2
  obtain ⟨aq, aC, aW, aK, aT, fw, fk, ft, h6, h12, h13, h14, hQ, hkt, hwk⟩ := id hR
  obtain ⟨x0, x1, x2, x3, x4, x5, kk, fc, g6, h11, hcost⟩ := id hC
  cases h6.symm.trans g6
  have fin : ∀ (b : Nat) (y : Int32), (∀ h, h < b → dj_hn (fun i => d i 0) (fun i => d i 1) h ≠ node) → ((y = -1 ∧ ∀ h, b ≤ h → h < 2 * P → dj_hn (fun i => d i 0) (fun i => d i 1) h = node → ¬ wy_fit P (fun i => d i 0) (fun i => d i 1) w (fun x => ma_d (T x) 1) node (h / 2)) ∨ ∃ h0, b ≤ h0 ∧ h0 < 2 * P ∧ dj_hn (fun i => d i 0) (fun i => d i 1) h0 = node ∧ y = nI (h0 / 2) ∧ wy_fit P (fun i => d i 0) (fun i => d i 1) w (fun x => ma_d (T x) 1) node (h0 / 2) ∧ ∀ h, b ≤ h → h < h0 → dj_hn (fun i => d i 0) (fun i => d i 1) h = node → ¬ wy_fit P (fun i => d i 0) (fun i => d i 1) w (fun x => ma_d (T x) 1) node (h / 2)) → ((y = -1 ∧ ∀ i, ¬ wy_fit P (fun i => d i 0) (fun i => d i 1) w (fun x => ma_d (T x) 1) node i) ∨ ∃ i, y = nI i ∧ i < P ∧ wy_low P (fun i => d i 0) (fun i => d i 1) w (fun x => ma_d (T x) 1) node i) := by
    intro b y hb hl
    rcases hl with ⟨q1, q2⟩ | ⟨h0, q1, q2, q3, q4, q5, q6⟩
    · refine Or.inl ⟨q1, fun i hf => ?_⟩
      obtain ⟨x, e1, e2, e3⟩ := wy_half hf
      have e4 : b ≤ x := Nat.le_of_not_lt (fun q => hb x q e3)
      exact q2 x e4 e2 e3 (by rw [e1]; exact hf)
    · refine Or.inr ⟨h0 / 2, q4, by omega, q5, fun j hj hf => ?_⟩
      obtain ⟨x, e1, e2, e3⟩ := wy_half hf
      have e4 : b ≤ x := Nat.le_of_not_lt (fun q => hb x q e3)
      exact q6 x e4 (by omega) e3 (by rw [e1]; exact hf)
  have loop : ∀ (b left : Nat) (x y : Int32), ch_prev (fun i => d i 0) (fun i => d i 1) node b x → b ≤ left → left ≤ 2 * P → ((y = -1 ∧ ∀ h, b ≤ h → h < 2 * P → dj_hn (fun i => d i 0) (fun i => d i 1) h = node → ¬ wy_fit P (fun i => d i 0) (fun i => d i 1) w (fun x => ma_d (T x) 1) node (h / 2)) ∨ ∃ h0, b ≤ h0 ∧ h0 < 2 * P ∧ dj_hn (fun i => d i 0) (fun i => d i 1) h0 = node ∧ y = nI (h0 / 2) ∧ wy_fit P (fun i => d i 0) (fun i => d i 1) w (fun x => ma_d (T x) 1) node (h0 / 2) ∧ ∀ h, b ≤ h → h < h0 → dj_hn (fun i => d i 0) (fun i => d i 1) h = node → ¬ wy_fit P (fun i => d i 0) (fun i => d i 1) w (fun x => ma_d (T x) 1) node (h / 2)) → vg_V D base p l e ({ frames := 4, cells := 0, slots := 0, locals := 88 } : Room) s m args below meth c 5 0 0 (MQ below (va_Qi (fun r u => u = ws ∧ ((r = -1 ∧ ∀ i, ¬ wy_fit P (fun i => d i 0) (fun i => d i 1) w (fun x => ma_d (T x) 1) node i) ∨ ∃ i, r = nI i ∧ i < P ∧ wy_low P (fun i => d i 0) (fun i => d i 1) w (fun x => ma_d (T x) 1) node i)) (vg_B D ay base Gx) (vg_A base)) args s 0 0 (vg_A base)) [(0, .ref asr), (1, .int (nI node)), (2, .int y), (3, .int x), (4, .int (nI left))] [] ws 26 := by
    intro b
    induction b using Nat.strongRecOn with
    | ind b ih =>
      intro left x y hx hb hlt hl
      refine vg_iload X dX3_lastPieceTo_26 4 rfl ?_
      refine vg_if_le X 67 dX3_lastPieceTo_28 (by decide) (fun c28 => ?_) (fun c28 => ?_)
      · have c28 : left ≤ 0 := (vg_le0 (by omega)).mp c28
        refine vg_iload_n X dX3_lastPieceTo_67 2 rfl rfl ?_
        exact vg_iret X rfl ⟨rfl, fin b y (fun h hh => absurd hh (by omega)) hl⟩ (Nat.le_refl _) (Nat.le_refl _) dX3_lastPieceTo_68
      · have c28 : ¬ left ≤ 0 := fun z => c28 ((vg_le0 (by omega)).mpr z)
        refine vg_iload_n X dX3_lastPieceTo_31 3 rfl rfl ?_
        refine vg_iconst X (-1) dX3_lastPieceTo_32 (by decide) ?_
        refine vg_icmp_eq X 67 dX3_lastPieceTo_33 (by decide) (fun c33 => ?_) (fun c33 => ?_)
        · refine vg_iload_n X dX3_lastPieceTo_67 2 rfl rfl ?_
          exact vg_iret X rfl ⟨rfl, fin b y (by rcases hx with q9 | ⟨h9, q9, _⟩; exact q9.2; exact absurd (q9.symm.trans c33) (hq_nm1 (by omega))) hl⟩ (Nat.le_refl _) (Nat.le_refl _) dX3_lastPieceTo_68
        · obtain ⟨h, rfl, hh1, hh2, hh3⟩ := hx.resolve_left (fun z => c33 z.1)
          have hat : node = d (h / 2) 0 ∨ node = d (h / 2) 1 := by
            unfold dj_hn at hh2
            split at hh2
            · exact Or.inl hh2.symm
            · exact Or.inr hh2.symm
          refine vg_aload_n X dX3_lastPieceTo_36 0 rfl rfl ?_
          refine vg_iload_n X dX3_lastPieceTo_37 3 rfl rfl ?_
          refine vg_iconst X (nI 2) dX3_lastPieceTo_38 (by decide) ?_
          refine vg_idiv X (nI (h / 2)) dX3_lastPieceTo_39 (nI_ne0 (by omega) (by omega)) (pk_div (by omega) (by omega) (by omega)) ?_
          refine vg_iload_n X dX3_lastPieceTo_40 1 rfl rfl ?_
          refine vg_calli (vg_runV X (c_X3_bringsLeast l hR hC hWM hN hres (i := h / 2) (node := node) (by omega) hat) (cwV 2 X.2.2.2.2.1 gX3_lastPieceTo_X3_bringsLeast rfl rfl rfl (by decide +kernel) ⟨Nat.le_of_ble_eq_true rfl, Nat.le_of_ble_eq_true rfl⟩) 6 h6 rfl rfl rfl (Nat.le_of_ble_eq_true rfl) dX3_lastPieceTo_41 ⟨Nat.zero_le _, Nat.zero_le _⟩) (fun rr3 wz1 PP2 => ?_)
          obtain ⟨hw9, hy9, hn9⟩ := PP2
          rw [hw9]
          refine vg_if_eq X 51 dX3_lastPieceTo_44 (by decide) (fun c44 => ?_) (fun c44 => ?_)
          · have hf : ¬ wy_fit P (fun i => d i 0) (fun i => d i 1) w (fun x => ma_d (T x) 1) node (h / 2) := fun q9 => by have := hy9 q9; rw [c44] at this; exact absurd this (by decide)
            refine vg_aload_n X dX3_lastPieceTo_51 0 rfl rfl ?_
            refine vg_get X in_X3_lastPieceTo_X3 6 h6 rfl 0 (by decide) ml_X3_lastPieceTo_32 rfl rfl dX3_lastPieceTo_52 ?_
            refine vg_get X in_X3_lastPieceTo_X0 1 n1 rfl 3 (by decide) ml_X3_lastPieceTo_89 rfl rfl dX3_lastPieceTo_55 ?_
            refine vg_iload_n X dX3_lastPieceTo_58 3 rfl rfl ?_
            refine vg_iald X (fo h) 5 n5 rfl (by omega) (by decide) rfl dX3_lastPieceTo_59 ?_
            refine vg_istore_n X [(3, .int (fo h)), (0, .ref asr), (1, .int (nI node)), (2, .int y), (4, .int (nI left))] dX3_lastPieceTo_60 rfl (by decide) rfl ?_
            refine vg_iinc X (v := nI (left - 1)) [(4, .int (nI (left - 1))), (3, .int (fo h)), (0, .ref asr), (1, .int (nI node)), (2, .int y)] dX3_lastPieceTo_61 4 rfl (by rw [show Int32.ofInt (-1) = -nI 1 by decide, ← Int32.sub_eq_add_neg, pk_sub (by omega)]) (by decide) rfl ?_
            refine vg_goto X 26 dX3_lastPieceTo_64 (by decide) ?_
            refine vg_locals [2, 3, 4, 1, 0] rfl ?_
            refine ih h hh1 (left - 1) _ _ (by rw [← hh2]; exact no h (by omega)) (by omega) (by omega) ?_
            rcases hl with ⟨q1, q2⟩ | ⟨h0, q1, q2, q3, q4, q5, q6⟩
            · refine Or.inl ⟨q1, fun j h1 h2 h3 => ?_⟩
              rcases Nat.lt_or_ge j b with q8 | q8
              · by_cases q7 : j = h
                · subst q7; exact hf
                · exact absurd h3 (hh3 j (by omega) q8)
              · exact q2 j q8 h2 h3
            · refine Or.inr ⟨h0, by omega, q2, q3, q4, q5, fun j h1 h2 h3 => ?_⟩
              rcases Nat.lt_or_ge j b with q8 | q8
              · by_cases q7 : j = h
                · subst q7; exact hf
                · exact absurd h3 (hh3 j (by omega) q8)
              · exact q6 j q8 h2 h3
          · have hf : wy_fit P (fun i => d i 0) (fun i => d i 1) w (fun x => ma_d (T x) 1) node (h / 2) := Classical.byContradiction (fun q9 => c44 (hn9 q9))
            refine vg_iload_n X dX3_lastPieceTo_47 3 rfl rfl ?_
            refine vg_iconst X (nI 2) dX3_lastPieceTo_48 (by decide) ?_
            refine vg_idiv X (nI (h / 2)) dX3_lastPieceTo_49 (nI_ne0 (by omega) (by omega)) (pk_div (by omega) (by omega) (by omega)) ?_
            refine vg_istore_n X [(2, .int (nI (h / 2))), (0, .ref asr), (1, .int (nI node)), (3, .int (nI h)), (4, .int (nI left))] dX3_lastPieceTo_50 rfl (by decide) rfl ?_
            refine vg_aload_n X dX3_lastPieceTo_51 1 rfl rfl ?_
            refine vg_get X in_X3_lastPieceTo_X3 6 h6 rfl 0 (by decide) ml_X3_lastPieceTo_32 rfl rfl dX3_lastPieceTo_52 ?_
            refine vg_get X in_X3_lastPieceTo_X0 1 n1 rfl 3 (by decide) ml_X3_lastPieceTo_89 rfl rfl dX3_lastPieceTo_55 ?_
            refine vg_iload_n X dX3_lastPieceTo_58 3 rfl rfl ?_
            refine vg_iald X (fo h) 5 n5 rfl (by omega) (by decide) rfl dX3_lastPieceTo_59 ?_
            refine vg_istore_n X [(3, .int (fo h)), (2, .int (nI (h / 2))), (0, .ref asr), (1, .int (nI node)), (4, .int (nI left))] dX3_lastPieceTo_60 rfl (by decide) rfl ?_
            refine vg_iinc X (v := nI (left - 1)) [(4, .int (nI (left - 1))), (3, .int (fo h)), (2, .int (nI (h / 2))), (0, .ref asr), (1, .int (nI node))] dX3_lastPieceTo_61 4 rfl (by rw [show Int32.ofInt (-1) = -nI 1 by decide, ← Int32.sub_eq_add_neg, pk_sub (by omega)]) (by decide) rfl ?_
            refine vg_goto X 26 dX3_lastPieceTo_64 (by decide) ?_
            refine vg_locals [3, 4, 2, 1, 0] rfl ?_
            refine ih h hh1 (left - 1) _ _ (by rw [← hh2]; exact no h (by omega)) (by omega) (by omega) (Or.inr ⟨h, Nat.le_refl _, by omega, hh2, rfl, hf, fun j h1 h2 => absurd h1 (by omega)⟩)
  refine vg_iconst X (-1) dX3_lastPieceTo_0 (by decide) ?_
  refine vg_istore_n X [(2, .int (-1)), (0, .ref asr), (1, .int (nI node))] dX3_lastPieceTo_1 rfl (by decide) rfl ?_
  refine vg_aload_n X dX3_lastPieceTo_2 1 rfl rfl ?_
  refine vg_get X in_X3_lastPieceTo_X3 6 h6 rfl 0 (by decide) ml_X3_lastPieceTo_32 rfl rfl dX3_lastPieceTo_3 ?_
  refine vg_get X in_X3_lastPieceTo_X0 1 n1 rfl 2 (by decide) ml_X3_lastPieceTo_73 rfl rfl dX3_lastPieceTo_6 ?_
  refine vg_iload_n X dX3_lastPieceTo_9 2 rfl rfl ?_
  refine vg_iald X (fh node) 4 n4 rfl (by omega) (by decide) rfl dX3_lastPieceTo_10 ?_
  refine vg_istore_n X [(3, .int (fh node)), (2, .int (-1)), (0, .ref asr), (1, .int (nI node))] dX3_lastPieceTo_11 rfl (by decide) rfl ?_
  refine vg_iconst X (nI 2) dX3_lastPieceTo_12 (by decide) ?_
  refine vg_aload_n X dX3_lastPieceTo_13 2 rfl rfl ?_
  refine vg_get X in_X3_lastPieceTo_X3 6 h6 rfl 0 (by decide) ml_X3_lastPieceTo_32 rfl rfl dX3_lastPieceTo_14 ?_
  refine vg_get X in_X3_lastPieceTo_X0 1 n1 rfl 0 (by decide) ml_X3_lastPieceTo_76 rfl rfl dX3_lastPieceTo_17 ?_
  refine vg_calli (vg_runV X (c_Jx4a65c_size_8abf5 l nL2) (cwV 0 X.2.2.2.2.1 gX3_lastPieceTo_Jx4a65c_size_8abf5 rfl rfl rfl (by decide +kernel) ⟨Nat.le_of_ble_eq_true rfl, Nat.le_of_ble_eq_true rfl⟩) 2 bq rfl rfl rfl (Nat.le_of_ble_eq_true rfl) dX3_lastPieceTo_20 ⟨Nat.zero_le _, Nat.zero_le _⟩) (fun rr6 wz4 PP5 => ?_)
  obtain ⟨hw9, rfl⟩ := PP5
  rw [hw9]
  refine vg_imul X (nI (2 * P)) dX3_lastPieceTo_23 (pk_mul _ _) ?_
  refine vg_istore X [(4, .int (nI (2 * P))), (3, .int (fh node)), (2, .int (-1)), (0, .ref asr), (1, .int (nI node))] dX3_lastPieceTo_24 (by decide) rfl ?_
  refine vg_locals [3, 4, 2, 1, 0] rfl ?_
  exact loop (2 * P) (2 * P) (fh node) (-1) (nh node hnode) (Nat.le_refl _) (Nat.le_refl _) (Or.inl ⟨rfl, fun h h1 h2 => absurd h1 (by omega)⟩)
