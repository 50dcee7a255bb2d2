theorem nr_i_s (k : Nat) : nr_i (k + 1) = nI k := by
  unfold nr_i; rw [if_neg (Nat.succ_ne_zero k), Nat.add_sub_cancel]
theorem nr_i_m1 {k : Nat} (hk : k < 2 ^ 31) (h : nr_i k = -1) : k = 0 := by
  rcases Nat.eq_zero_or_pos k with g | g
  · exact g
  · obtain ⟨j, rfl⟩ : ∃ j, k = j + 1 := ⟨k - 1, by omega⟩
    rw [nr_i_s] at h; exact absurd h (hq_nm1 (by omega))
theorem vg_n1 {q j : Nat} (h : j ≠ q) : j ∉ [q] := fun z => h (List.mem_singleton.mp z)
theorem rt_no {n P U : Nat} {d : Nat → Nat → Nat} {ix : Nat} {mm : Int32} (hi : ix < P) (hP : P ≤ 150) (h : ¬ (nI 0 ≤ mm ∧ mm ≤ nI (d ix 2))) : ¬ (∃ k, (nI 0 ≤ mm ∧ mm ≤ nI k) ∧ ((∃ i, nI ix = nI i ∧ i < P ∧ k = d i 2) ∨ (¬ cm_in (nI ix) P ∧ k = 0))) := fun z => by
  obtain ⟨k9, g1, ⟨i9, g2, g3, g4⟩ | ⟨g2, _⟩⟩ := z
  · have e := (nI_eq (by omega) (by omega)).mp g2
    subst e
    rw [g4] at g1
    exact h g1
  · exact g2 ⟨ix, hi, rfl⟩
theorem vg_gen {D : va_G} {base : Nat} {p : Program} {l : Launch} {e : Env} {R : Room} {s : State} {m : MethodId} {args : Array Value} {below : List Frame} {meth : Method} {c : Code} {nL cells slots : Nat} {Q : State → Prop} {lv : List (Nat × Value)} {st : List Value} {ws : va_W} {pc : Nat} (k : ∀ Q9 : State → Prop, Q9 = Q → vg_V D base p l e R s m args below meth c nL cells slots Q9 lv st ws pc) : vg_V D base p l e R s m args below meth c nL cells slots Q lv st ws pc := k Q rfl
theorem nr_t1 {D : Nat → Nat} {i : Nat} (h : (nr_b D i).1 ≤ i ∧ (nr_b D i).2 ≤ ma_B ∧ ((nr_b D i).1 = 0 ↔ (nr_b D i).2 = ma_B)) (hi : i < 2 ^ 31) (h1 : ¬ vs_rep (D i) = -1) (h2 : nr_i (nr_b D i).1 = -1) : D i < (nr_b D i).2 := by
  have g1 := vs_rep_nm1 h1
  have g2 := h.2.2.mp (nr_i_m1 (by have := h.1; omega) h2)
  omega
theorem nr_t0 {D : Nat → Nat} {i : Nat} (h : (nr_b D i).1 ≤ i ∧ (nr_b D i).2 ≤ ma_B ∧ ((nr_b D i).1 = 0 ↔ (nr_b D i).2 = ma_B)) (h2 : ¬ nr_i (nr_b D i).1 = -1) : (nr_b D i).2 < ma_B := by
  rcases Nat.lt_or_ge (nr_b D i).2 ma_B with g | g
  · exact g
  · exact absurd (show nr_i (nr_b D i).1 = -1 by rw [h.2.2.mpr (by have := h.2.1; omega)]; rfl) h2
theorem nr_t2 {D : Nat → Nat} {i : Nat} (h : (nr_b D i).1 ≤ i ∧ (nr_b D i).2 ≤ ma_B ∧ ((nr_b D i).1 = 0 ↔ (nr_b D i).2 = ma_B)) (h1 : ¬ vs_rep (D i) = -1) (h2 : ¬ nr_i (nr_b D i).1 = -1) (h3 : ¬ vs_rep (D i) ≥ vs_rep (nr_b D i).2) : D i < (nr_b D i).2 := by
  have eB : ma_B = 2 ^ 60 := rfl
  have g1 := vs_rep_nm1 h1
  have g2 := nr_t0 h h2
  rw [vs_rep_lt g1, vs_rep_lt g2] at h3
  rcases Nat.lt_or_ge (D i) (nr_b D i).2 with g | g
  · exact g
  · exact absurd ((pk_lLE (by omega) (by omega)).mpr g) h3
theorem nr_t3 {D : Nat → Nat} {i : Nat} (h : (nr_b D i).1 ≤ i ∧ (nr_b D i).2 ≤ ma_B ∧ ((nr_b D i).1 = 0 ↔ (nr_b D i).2 = ma_B)) (hD : D i ≤ ma_B) (h1 : ¬ vs_rep (D i) = -1) (h2 : ¬ nr_i (nr_b D i).1 = -1) (h3 : vs_rep (D i) ≥ vs_rep (nr_b D i).2) : ¬ D i < (nr_b D i).2 := by
  have eB : ma_B = 2 ^ 60 := rfl
  have g1 := vs_rep_nm1 h1
  have g2 := nr_t0 h h2
  rw [vs_rep_lt g1, vs_rep_lt g2] at h3
  have := (pk_lLE (by omega) (by omega)).mp h3
  omega
theorem tl_X6_keep_36 : Cond.classLink RX6 36 "java/lang/IllegalArgumentException" ∈ wsX6_keep := by decide +kernel
theorem ti_X6_keep_36 : Cond.initialized "java/lang/IllegalArgumentException" ∈ wsX6_keep := by decide +kernel
theorem in_X6_keep_X6 : ∀ w ∈ u_ws RX6 TX6 5, w ∈ wsX6_keep := by decide +kernel
theorem ml_X6_keep_27 : Cond.fieldLink RX6 27 "WayTimes" "trees" "[LWayTimes$Tree;" ∈ wsX6_keep := by decide +kernel
theorem ml_X6_keep_21 : Cond.fieldLink RX6 21 "WayTimes" "search" "LWayTimes$Search;" ∈ wsX6_keep := by decide +kernel
theorem mk_X6_sum_187 : Jvm.Cond.constantLong RX6 187 (-1) ∈ wsX6_sum := by decide +kernel
theorem mk_X6_lesser_187 : Jvm.Cond.constantLong RX6 187 (-1) ∈ wsX6_lesser := by decide +kernel
theorem ml_X6_lesser_1 : Cond.methodLink RX6 243 Lib.MathLoose.min_long.x ∈ wsX6_lesser := by decide +kernel
theorem ml_X6_lesser_2 : Cond.static Lib.MathLoose.min_long.x ∈ wsX6_lesser := by decide +kernel
theorem ml_X6_lesser_3 : Cond.initialized "java/lang/Math" ∈ wsX6_lesser := by decide +kernel
theorem ml_X6_lesser_4 : Cond.code Lib.MathLoose.min_long.x Lib.MathLoose.min_long.code 4 (some .long) ∈ wsX6_lesser := by decide +kernel
theorem in_X6_rest_X2 : ∀ w ∈ u_ws RX2 TX2 11, w ∈ wsX6_rest := by decide +kernel
theorem ml_X6_rest_155 : Cond.fieldLink RX6 155 "WayTimes$Piece" "metres" "I" ∈ wsX6_rest := by decide +kernel
theorem in_X6_rest_X6 : ∀ w ∈ u_ws RX6 TX6 5, w ∈ wsX6_rest := by decide +kernel
theorem ml_X6_rest_21 : Cond.fieldLink RX6 21 "WayTimes" "search" "LWayTimes$Search;" ∈ wsX6_rest := by decide +kernel
theorem ml_X6_rest_189 : Cond.fieldLink RX6 189 "WayTimes$Piece" "a" "I" ∈ wsX6_rest := by decide +kernel
theorem ml_X6_rest_196 : Cond.fieldLink RX6 196 "WayTimes$Piece" "b" "I" ∈ wsX6_rest := by decide +kernel
theorem mk_X6_rest_187 : Jvm.Cond.constantLong RX6 187 (-1) ∈ wsX6_rest := by decide +kernel
theorem mk_X6_nearest_187 : Jvm.Cond.constantLong RX6 187 (-1) ∈ wsX6_nearest := by decide +kernel
theorem in_X6_nearest_X6 : ∀ w ∈ u_ws RX6 TX6 5, w ∈ wsX6_nearest := by decide +kernel
theorem ml_X6_nearest_10 : Cond.fieldLink RX6 10 "WayTimes" "net" "LWayTimes$Net;" ∈ wsX6_nearest := by decide +kernel
theorem in_X6_nearest_X0 : ∀ w ∈ u_ws RX0 TX0 5, w ∈ wsX6_nearest := by decide +kernel
theorem ml_X6_nearest_126 : Cond.fieldLink RX6 126 "WayTimes$Net" "units" "Ljava/util/ArrayList;" ∈ wsX6_nearest := by decide +kernel
theorem mc_X6_nearest_131 : Cond.classLink RX6 131 "WayTimes$Unit" ∈ wsX6_nearest := by decide +kernel
theorem ml_X6_nearest_21 : Cond.fieldLink RX6 21 "WayTimes" "search" "LWayTimes$Search;" ∈ wsX6_nearest := by decide +kernel
theorem in_X6_nearest_X5 : ∀ w ∈ u_ws RX5 TX5 5, w ∈ wsX6_nearest := by decide +kernel
theorem ml_X6_nearest_144 : Cond.fieldLink RX6 144 "WayTimes$Unit" "node" "I" ∈ wsX6_nearest := by decide +kernel
set_option maxHeartbeats 4000000 in
set_option maxRecDepth 100000 in
/-- X6_keep -/
theorem c_X6_keep (l : Launch) {D : va_G} {ay : Nat → ClassId} {base : Nat} {Gx : State → Prop} {tE mi : Nat} {ws : va_W} {ax : Nat} {n P U : Nat} {d fr to pe uv : Nat → Nat → Nat} {ku ks kt : Nat → Nat} {sk : Nat → Nat → Nat} {wl : Nat} {wp : Nat → Nat} {k v y t : Int32} (hl9 : l.stackTraces = false) (hG2 : ∀ U, Gx U → vh_G2 base tE mi U) (hS : cw_St ay ws ax tE n P U d fr to pe uv ku ks kt sk wl wp) : vx_Met l yX6_keep wsX6_keep ({ frames := 8, cells := 8, slots := 60, locals := 210 } : Room) (fun a9 s9 => va_Pc [.ref ax, .int k, .int v, .int y, .int t] (vg_B D ay base Gx ws) a9 s9 ∧ vs_W s9) (va_Qv (fun u => ∃ kx vx jx tx : Nat, k = nI kx ∧ kx < 6 ∧ v = nI vx ∧ vx < n ∧ y = nI jx ∧ jx < U ∧ t = nI tx ∧ tx < 2 ^ 31 ∧ cw_St ay u ax tE n P U d fr to pe uv (va_up ku kx (jx + 1)) (va_up ks kx vx) (va_up kt kx tx) (va_up sk kx (fun x => ma_d (ma_T P (fun i => d i 0) (fun i => d i 1) (fun i => ps_w (d i) (fr i) (to i) (pe i) (uv jx) tx) vx x) 1)) wl wp ∧ cw_fr ws u) (vg_B D ay base Gx) (vg_A base)) (vg_XC D ay base Gx ws (fun E => (E = "java/lang/IllegalArgumentException" ∧ ¬ ((nI 0 ≤ k ∧ k ≤ nI 5) ∧ cm_in v n ∧ cm_in y U)) ∨ (E = "java/lang/IndexOutOfBoundsException" ∧ ((nI 0 ≤ k ∧ k ≤ nI 5) ∧ cm_in v n ∧ cm_in y U) ∧ ¬ 0 ≤ t))) 8 60 (vg_A base) := by
  refine vg_metX (cc := cX6_keep) (maxL := 6) (ret := none) (own := RX6) (lv := [(0, .ref ax), (1, .int k), (2, .int v), (3, .int y), (4, .int t)]) (by decide) rfl rfl (Nat.le_of_ble_eq_true rfl) rfl ?_
  intro p e s m args below meth c X hT hWm9
  obtain ⟨aN, asr, aTs, aWB, el, qp, ua, uq, fb, hS⟩ := hS
  have hS0 := hS
  obtain ⟨h0, hI, hN, hTT, hK, h16, hwl, hwp, h56⟩ := hS0
  have hB := cw_N_b hN
  obtain ⟨aq0, aC0, aW0, aK0, aT0, k00, fc0, fw0, fk0, ft0, hn0, pl0, key0, s6, _⟩ := id hI
  refine vg_iload_n X dX6_keep_0 1 rfl rfl ?_
  refine vg_if_lt X 10 dX6_keep_1 (by decide) (fun c1 => ?_) (fun c1 => ?_)
  · skip
    obtain ⟨sa10, hsa10⟩ := hWm9.1 (206, "no such slot") (by decide)
    exact vg_throwS X (cls := "java/lang/IllegalArgumentException") (names := ["java/lang/RuntimeException", "java/lang/Exception"]) hT hl9 (by decide +kernel) (by decide +kernel) tl_X6_keep_36 ti_X6_keep_36 hsa10 (vs_hat hWm9 (by decide +kernel)) (vs_gd (by decide +kernel) rfl rfl) (hG2 s X.2.2.2.2.2.2.2.2.2.2).2.1 (hG2 s X.2.2.2.2.2.2.2.2.2.2).2.2 dX6_keep_10 dX6_keep_13 dX6_keep_14 dX6_keep_16 dX6_keep_19 (Nat.le_of_ble_eq_true rfl) (Nat.le_of_ble_eq_true rfl) (Nat.le_of_ble_eq_true rfl) (Nat.le_of_ble_eq_true rfl) (Or.inl ⟨rfl, fun z9 => absurd c1 (Int32.not_lt.mpr z9.1.1)⟩) (Nat.le_of_ble_eq_true rfl) (Nat.le_of_ble_eq_true rfl)
  · skip
    refine vg_iload_n X dX6_keep_4 1 rfl rfl ?_
    refine vg_bipush X (nI 6) dX6_keep_5 (by decide) ?_
    refine vg_icmp_lt X 20 dX6_keep_7 (by decide) (fun c7 => ?_) (fun c7 => ?_)
    · skip
      obtain ⟨kx, hkx, ekx⟩ := cm_in_yes c1 c7 (by decide)
      subst ekx
      have hk5 : nI 0 ≤ nI kx ∧ nI kx ≤ nI 5 := ⟨(nI_leI (by omega) (by omega)).mpr (by omega), (nI_leI (by omega) (by omega)).mpr (by omega)⟩
      refine vg_aload_n X dX6_keep_20 0 rfl rfl ?_
      refine vg_iload_n X dX6_keep_21 2 rfl rfl ?_
      refine vg_callvX X (vg_runVX X vs_st hWm9 (c_X6_needNode l hl9 hG2 hS (x := v)) (cwV 1 X.2.2.2.2.1 gX6_keep_X6_needNode rfl rfl rfl (by decide +kernel) ⟨(Nat.le_of_ble_eq_true rfl), (Nat.le_of_ble_eq_true rfl)⟩) 0 h0 rfl rfl rfl (Nat.le_of_ble_eq_true rfl) dX6_keep_22 ⟨(Nat.le_of_ble_eq_true rfl), (Nat.le_of_ble_eq_true rfl)⟩) hT (fun E hE => Or.inl ⟨hE.1, fun z9 => hE.2 z9.2.1⟩) (Nat.le_of_ble_eq_true rfl) (Nat.le_of_ble_eq_true rfl) (fun wz1 PP2 => ?_)
      obtain ⟨ew_v, vx, hvx, evx⟩ := PP2
      rw [ew_v]
      subst evx
      refine vg_aload_n X dX6_keep_25 0 rfl rfl ?_
      refine vg_iload_n X dX6_keep_26 3 rfl rfl ?_
      refine vg_callrX X (vg_runVX X vs_st hWm9 (c_X6_knownUnit l hl9 hG2 hS (x := y)) (cwV 1 X.2.2.2.2.1 gX6_keep_X6_knownUnit rfl rfl rfl (by decide +kernel) ⟨(Nat.le_of_ble_eq_true rfl), (Nat.le_of_ble_eq_true rfl)⟩) 0 h0 rfl rfl rfl (Nat.le_of_ble_eq_true rfl) dX6_keep_27 ⟨(Nat.le_of_ble_eq_true rfl), (Nat.le_of_ble_eq_true rfl)⟩) hT (fun E hE => Or.inl ⟨hE.1, fun z9 => hE.2 z9.2.2⟩) (Nat.le_of_ble_eq_true rfl) (Nat.le_of_ble_eq_true rfl) (fun rr6 wz4 PP5 PP5q => ?_)
      obtain ⟨jx, ejx, hjx, ajx⟩ := PP5q
      rw [PP5, ajx]
      subst ejx
      obtain ⟨qjx, pjx, rjx, y4jx⟩ := cw_N_uj hN hjx
      have pjxb := pjx
      unfold cu_P at pjx
      refine vg_astore X [(5, .ref (ua jx)), (0, .ref ax), (1, .int (nI kx)), (2, .int (nI vx)), (3, .int (nI jx)), (4, .int t)] dX6_keep_30 (by decide) rfl ?_
      refine vg_iload X dX6_keep_32 5 rfl ?_
      refine vg_callvX X (vg_runSX X vs_st hWm9 (c_X6_needTime l hl9 hG2 (x := t)) (cwS 1 X.2.2.2.2.1 gX6_keep_X6_needTime rfl rfl rfl (by decide +kernel) ⟨(Nat.le_of_ble_eq_true rfl), (Nat.le_of_ble_eq_true rfl)⟩) rfl rfl (Nat.le_of_ble_eq_true rfl) dX6_keep_34 ⟨(Nat.le_of_ble_eq_true rfl), (Nat.le_of_ble_eq_true rfl)⟩) hT (fun E hE => Or.inr ⟨hE.1, ⟨hk5, ⟨vx, hvx, rfl⟩, ⟨jx, hjx, rfl⟩⟩, hE.2⟩) (Nat.le_of_ble_eq_true rfl) (Nat.le_of_ble_eq_true rfl) (fun wz7 PP8 => ?_)
      obtain ⟨ew_t, hr_t⟩ := PP8
      rw [ew_t]
      obtain ⟨tx, htx, etx⟩ := i32_tm hr_t
      subst etx
      obtain ⟨ta, ts, f9, m15, ht9⟩ := id hTT
      obtain ⟨ef, fs, tq, tS, tk⟩ := ht9 kx hkx
      refine vg_aload_n X dX6_keep_37 1 rfl rfl ?_
      refine vg_get X in_X6_keep_X6 0 h0 rfl 2 (by decide) ml_X6_keep_27 rfl rfl dX6_keep_38 ?_
      refine vg_iload_n X dX6_keep_41 2 rfl rfl ?_
      refine vg_aaldT X (.ref (ta kx)) 15 m15 rfl (by omega) (by decide) (by rw [ef]; rfl) dX6_keep_42 ?_
      refine vg_iload_n X dX6_keep_43 3 rfl rfl ?_
      refine vg_aload X dX6_keep_44 0 rfl ?_
      refine vg_iload X dX6_keep_46 5 rfl ?_
      refine vg_callv (vg_runV X (c_X4_plant l tq (au := ua jx) (start := vx) (t := tx)) (cwV 3 X.2.2.2.2.1 gX6_keep_X4_plant rfl rfl rfl (by decide +kernel) ⟨Nat.le_of_ble_eq_true rfl, Nat.le_of_ble_eq_true rfl⟩) (17 + 2 * kx) tq rfl rfl rfl (Nat.le_of_ble_eq_true rfl) dX6_keep_48 ⟨(Nat.le_of_ble_eq_true rfl), (Nat.le_of_ble_eq_true rfl)⟩) (fun wz10 PP11 => ?_)
      obtain ⟨gp, gq⟩ := PP11
      have G1 : ∀ j, j ≠ 17 + 2 * kx → wz10[j]? = ws[j]? := fun j hj => gq.2 j (vg_n1 hj)
      have x0 := (G1 0 (by omega)).trans h0
      have x15 := (G1 15 (by omega)).trans m15
      have x6 := (G1 6 (by omega)).trans s6
      have xS := (G1 (17 + 2 * kx + 1) (by omega)).trans tS
      have xN := cw_N_fr hN (fun j q1 q2 => G1 j (by omega)) (fun j q1 => G1 j (by omega))
      have xu := (G1 (uq jx) (by omega)).trans pjxb
      refine vg_aload_n X dX6_keep_51 1 rfl rfl ?_
      refine vg_get X in_X6_keep_X6 0 x0 rfl 2 (by decide) ml_X6_keep_27 rfl rfl dX6_keep_52 ?_
      refine vg_iload_n X dX6_keep_55 2 rfl rfl ?_
      refine vg_aaldT X (.ref (ta kx)) 15 x15 rfl (by omega) (by decide) (by rw [ef]; rfl) dX6_keep_56 ?_
      refine vg_aload_n X dX6_keep_57 1 rfl rfl ?_
      refine vg_get X in_X6_keep_X6 0 x0 rfl 1 (by decide) ml_X6_keep_21 rfl rfl dX6_keep_58 ?_
      refine vg_calli (vg_runV X (c_X4_redo l gp xS ⟨by omega, by omega⟩ (cs_I_f6 hI (fun j q1 q2 => G1 j (by omega))) (cw_N_n xN) xu qjx rjx htx hvx) (cwV 1 X.2.2.2.2.1 gX6_keep_X4_redo rfl rfl rfl (by decide +kernel) ⟨Nat.le_of_ble_eq_true rfl, Nat.le_of_ble_eq_true rfl⟩) (17 + 2 * kx) gp rfl rfl rfl (Nat.le_of_ble_eq_true rfl) dX6_keep_61 ⟨(Nat.le_of_ble_eq_true rfl), (Nat.le_of_ble_eq_true rfl)⟩) (fun rr15 wz13 PP14 => ?_)
      obtain ⟨fs2, y1, y2, y3, y4, _⟩ := PP14
      have G2 : ∀ j, (j < 6 ∨ 15 ≤ j) → j ≠ 17 + 2 * kx + 1 → wz13[j]? = wz10[j]? := fun j q1 q2 => y4.2 j (fun z => by simp only [List.mem_cons, List.not_mem_nil, or_false] at z; omega)
      have hT9 : ct_T ay wz13 aTs n ua (va_up ku kx (jx + 1)) (va_up ks kx vx) (va_up kt kx tx) (va_up sk kx (fun x => ma_d (ma_T P (fun i => d i 0) (fun i => d i 1) (fun i => ps_w (d i) (fr i) (to i) (pe i) (uv jx) tx) vx x) 1)) := by
        refine ⟨ta, ts, f9, (G2 15 (by omega) (by omega)).trans x15, fun k hk => ?_⟩
        by_cases c9 : k = kx
        · subst c9
          refine ⟨ef, fs2, ?_, y1, fun _ x hx => ?_⟩
          · rw [vu_s, vu_s, vu_s, if_neg (Nat.succ_ne_zero jx), Nat.add_sub_cancel]; exact (G2 _ (by omega) (by omega)).trans gp
          · rw [vu_s]; exact ⟨y2 x hx, ma_d_leB _ _⟩
        · obtain ⟨e3, fs3, w1, w2, w3⟩ := ht9 k hk
          refine ⟨e3, fs3, ?_, ?_, fun q9 x hx => ?_⟩
          · rw [vu_n c9, vu_n c9, vu_n c9]; exact (G2 _ (by omega) (by omega)).trans ((G1 _ (by omega)).trans w1)
          · exact (G2 _ (by omega) (by omega)).trans ((G1 _ (by omega)).trans w2)
          · rw [vu_n c9] at q9 ⊢; exact w3 q9 x hx
      have hK9 : ct_k n U (va_up ku kx (jx + 1)) (va_up ks kx vx) (va_up kt kx tx) := fun k hk q9 => by
        by_cases c9 : k = kx
        · subst c9; rw [vu_s, vu_s, vu_s]; exact ⟨by omega, hvx, htx⟩
        · rw [vu_n c9] at q9; rw [vu_n c9, vu_n c9, vu_n c9]; exact hK k hk q9
      refine vg_pop X dX6_keep_64 rfl ?_
      exact vg_xret (vg_vret X rfl ⟨kx, vx, jx, tx, rfl, hkx, rfl, hvx, rfl, hjx, rfl, htx, ⟨_, _, _, _, _, _, _, _, _, (G2 0 (by omega) (by omega)).trans x0, y3, cw_N_fr xN (fun j q1 q2 => G2 j (by omega) (by omega)) (fun j q1 => G2 j (by omega) (by omega)), hT9, hK9, (G2 16 (by omega) (by omega)).trans ((G1 16 (by omega)).trans h16), hwl, hwp, by rw [y4.1, gq.1]; exact h56⟩, ⟨by rw [y4.1, gq.1]; exact Nat.le_refl _, fun j q1 q2 => (G2 j (by omega) (by omega)).trans (G1 j (by omega))⟩⟩ (Nat.le_of_ble_eq_true rfl) (Nat.le_of_ble_eq_true rfl) dX6_keep_65)
    · skip
      obtain ⟨sa10, hsa10⟩ := hWm9.1 (206, "no such slot") (by decide)
      exact vg_throwS X (cls := "java/lang/IllegalArgumentException") (names := ["java/lang/RuntimeException", "java/lang/Exception"]) hT hl9 (by decide +kernel) (by decide +kernel) tl_X6_keep_36 ti_X6_keep_36 hsa10 (vs_hat hWm9 (by decide +kernel)) (vs_gd (by decide +kernel) rfl rfl) (hG2 s X.2.2.2.2.2.2.2.2.2.2).2.1 (hG2 s X.2.2.2.2.2.2.2.2.2.2).2.2 dX6_keep_10 dX6_keep_13 dX6_keep_14 dX6_keep_16 dX6_keep_19 (Nat.le_of_ble_eq_true rfl) (Nat.le_of_ble_eq_true rfl) (Nat.le_of_ble_eq_true rfl) (Nat.le_of_ble_eq_true rfl) (Or.inl ⟨rfl, fun z9 => c7 (Int32.lt_of_le_of_lt z9.1.2 (by decide))⟩) (Nat.le_of_ble_eq_true rfl) (Nat.le_of_ble_eq_true rfl)
set_option maxHeartbeats 4000000 in
set_option maxRecDepth 100000 in
/-- sum -/
theorem c_X6_sum (l : Launch) {D : va_G} {ay : Nat → ClassId} {base : Nat} {Gx : State → Prop} {ws : va_W} {x y : Nat} (hx : x < 2 ^ 59) (hy : y < 2 ^ 59 ∨ y = ma_B) : Met l yX6_sum wsX6_sum ({ frames := 0, cells := 0, slots := 0, locals := 0 } : Room) (va_Pc [.long (lN x), .long (vs_rep y)] (vg_B D ay base Gx ws)) (va_Ql (fun r u => u = ws ∧ r = vs_rep (y + x)) (vg_B D ay base Gx) (vg_A base)) 0 0 (vg_A base) := by
  refine vg_met (cc := cX6_sum) (maxL := 4) (ret := (some .long)) (own := RX6) (lv := [(0, .long (lN x)), (2, .long (vs_rep y))]) (by decide) rfl rfl (Nat.le_of_ble_eq_true rfl) rfl ?_
  intro p e s m args below meth c X hinit
  have eB : ma_B = 2 ^ 60 := rfl
  refine vg_lload_n X dX6_sum_0 0 rfl rfl ?_
  refine vg_ldc2 X (-1) dX6_sum_1 mk_X6_sum_187 ?_
  refine vg_lcmp_eq X 16 dX6_sum_4 dX6_sum_5 (by decide) (fun c4 => ?_) (fun c4 => ?_)
  · exact absurd c4 (lN_nm1 (by omega))
  · skip
    refine vg_lload_n X dX6_sum_8 1 rfl rfl ?_
    refine vg_ldc2 X (-1) dX6_sum_9 mk_X6_sum_187 ?_
    refine vg_lcmp_ne X 22 dX6_sum_12 dX6_sum_13 (by decide) (fun c12 => ?_) (fun c12 => ?_)
    · skip
      refine vg_lload_n X dX6_sum_22 0 rfl rfl ?_
      refine vg_lload_n X dX6_sum_23 1 rfl rfl ?_
      refine vg_ladd X ((lN x) + (vs_rep y)) dX6_sum_24 rfl ?_
      exact vg_lret X rfl ⟨rfl, by have g9 := vs_rep_nm1 c12; rw [vs_rep_lt g9, lN_add, vs_rep_lt (by omega), Nat.add_comm]⟩ (Nat.le_refl _) (Nat.le_refl _) dX6_sum_25
    · skip
      refine vg_ldc2 X (-1) dX6_sum_16 mk_X6_sum_187 ?_
      refine vg_goto X 25 dX6_sum_19 (by decide) ?_
      exact vg_lret X rfl ⟨rfl, (vs_rep_ge (by have := vs_rep_m1 c12; omega)).symm⟩ (Nat.le_refl _) (Nat.le_refl _) dX6_sum_25
set_option maxHeartbeats 4000000 in
set_option maxRecDepth 100000 in
/-- lesser -/
theorem c_X6_lesser (l : Launch) {D : va_G} {ay : Nat → ClassId} {base : Nat} {Gx : State → Prop} {ws : va_W} {x y : Nat}  : Met l yX6_lesser wsX6_lesser ({ frames := 1, cells := 0, slots := 0, locals := 32 } : Room) (va_Pc [.long (vs_rep x), .long (vs_rep y)] (vg_B D ay base Gx ws)) (va_Ql (fun r u => u = ws ∧ r = vs_rep (min x y)) (vg_B D ay base Gx) (vg_A base)) 0 0 (vg_A base) := by
  refine vg_met (cc := cX6_lesser) (maxL := 4) (ret := (some .long)) (own := RX6) (lv := [(0, .long (vs_rep x)), (2, .long (vs_rep y))]) (by decide) rfl rfl (Nat.le_of_ble_eq_true rfl) rfl ?_
  intro p e s m args below meth c X hinit
  refine vg_lload_n X dX6_lesser_0 0 rfl rfl ?_
  refine vg_ldc2 X (-1) dX6_lesser_1 mk_X6_lesser_187 ?_
  refine vg_lcmp_ne X 10 dX6_lesser_4 dX6_lesser_5 (by decide) (fun c4 => ?_) (fun c4 => ?_)
  · skip
    refine vg_lload_n X dX6_lesser_10 1 rfl rfl ?_
    refine vg_ldc2 X (-1) dX6_lesser_11 mk_X6_lesser_187 ?_
    refine vg_lcmp_ne X 22 dX6_lesser_14 dX6_lesser_15 (by decide) (fun c14 => ?_) (fun c14 => ?_)
    · skip
      refine vg_lload_n X dX6_lesser_22 0 rfl rfl ?_
      refine vg_lload_n X dX6_lesser_23 1 rfl rfl ?_
      refine vg_mminL X (vs_rep (min x y)) ml_X6_lesser_1 ml_X6_lesser_2 ml_X6_lesser_3 ml_X6_lesser_4 (vs_min_b (vs_rep_nm1 c4) (vs_rep_nm1 c14)) (Nat.le_of_ble_eq_true rfl) (Nat.le_of_ble_eq_true rfl) (Nat.le_of_ble_eq_true rfl) (Nat.le_of_ble_eq_true rfl) dX6_lesser_24 ?_
      exact vg_lret X rfl ⟨rfl, rfl⟩ (Nat.le_refl _) (Nat.le_refl _) dX6_lesser_27
    · skip
      refine vg_lload_n X dX6_lesser_18 0 rfl rfl ?_
      refine vg_goto X 27 dX6_lesser_19 (by decide) ?_
      exact vg_lret X rfl ⟨rfl, (vs_min_r (vs_rep_m1 c14)).symm⟩ (Nat.le_refl _) (Nat.le_refl _) dX6_lesser_27
  · skip
    refine vg_lload_n X dX6_lesser_8 1 rfl rfl ?_
    exact vg_lret X rfl ⟨rfl, (vs_min_l (vs_rep_m1 c4)).symm⟩ (Nat.le_refl _) (Nat.le_refl _) dX6_lesser_9
set_option maxHeartbeats 4000000 in
set_option maxRecDepth 100000 in
/-- X6_rest -/
theorem c_X6_rest (l : Launch) {D : va_G} {ay : Nat → ClassId} {base : Nat} {Gx : State → Prop} {tE mi : Nat} {ws : va_W} {ax : Nat} {n P U : Nat} {d fr to pe uv : Nat → Nat → Nat} {ku ks kt : Nat → Nat} {sk : Nat → Nat → Nat} {wl : Nat} {wp : Nat → Nat} {y x mm b t : Int32} (hl9 : l.stackTraces = false) (hG2 : ∀ U, Gx U → vh_G2 base tE mi U) (hS : cw_St ay ws ax tE n P U d fr to pe uv ku ks kt sk wl wp) : vx_Met l yX6_rest wsX6_rest ({ frames := 8, cells := 8, slots := 60, locals := 210 } : Room) (fun a9 s9 => va_Pc [.ref ax, .int y, .int x, .int mm, .int b, .int t] (vg_B D ay base Gx ws) a9 s9 ∧ vs_W s9) (va_Ql (fun r u => ∃ jx ix mx bx tx : Nat, y = nI jx ∧ jx < U ∧ x = nI ix ∧ ix < P ∧ mm = nI mx ∧ mx ≤ d ix 2 ∧ b = nI bx ∧ bx < n ∧ t = nI tx ∧ tx < 2 ^ 31 ∧ cw_St ay u ax tE n P U d fr to pe uv ku ks kt sk wl wp ∧ cw_fr ws u ∧ (¬ ps_ok (d ix) (uv jx) → r = -1) ∧ (ps_ok (d ix) (uv jx) → r = vs_rep (min (ma_d (ma_T P (fun i => d i 0) (fun i => d i 1) (fun i => ps_w (d i) (fr i) (to i) (pe i) (uv jx) tx) bx (d ix 0)) 1 + ps_sec (d ix 3) (ps_per (fr ix) (to ix) (pe ix) (tx / 3600 % 24) (d ix 7) 0) (uv jx 2) (uv jx 3) mx) (ma_d (ma_T P (fun i => d i 0) (fun i => d i 1) (fun i => ps_w (d i) (fr i) (to i) (pe i) (uv jx) tx) bx (d ix 1)) 1 + ps_sec (d ix 3) (ps_per (fr ix) (to ix) (pe ix) (tx / 3600 % 24) (d ix 7) 0) (uv jx 2) (uv jx 3) (d ix 2 - mx))))) (vg_B D ay base Gx) (vg_A base)) (vg_XC D ay base Gx ws (fun E => (E = "java/lang/IllegalArgumentException" ∧ ¬ (cm_in y U ∧ cm_in x P ∧ cm_in b n)) ∨ (E = "java/lang/IndexOutOfBoundsException" ∧ (cm_in y U ∧ cm_in x P ∧ cm_in b n) ∧ ¬ (0 ≤ t ∧ (∃ k, (nI 0 ≤ mm ∧ mm ≤ nI k) ∧ ((∃ i, x = nI i ∧ i < P ∧ k = d i 2) ∨ (¬ cm_in x P ∧ k = 0))))))) 8 60 (vg_A base) := by
  refine vg_metX (cc := cX6_rest) (maxL := 12) (ret := (some .long)) (own := RX6) (lv := [(0, .ref ax), (1, .int y), (2, .int x), (3, .int mm), (4, .int b), (5, .int t)]) (by decide) rfl rfl (Nat.le_of_ble_eq_true rfl) rfl ?_
  intro p e s m args below meth c X hT hWm9
  obtain ⟨aN, asr, aTs, aWB, el, qp, ua, uq, fb, hS⟩ := hS
  have hS0 := hS
  obtain ⟨h0, hI, hN, hTT, hK, h16, hwl, hwp, h56⟩ := hS0
  have hB := cw_N_b hN
  obtain ⟨aq0, aC0, aW0, aK0, aT0, k00, fc0, fw0, fk0, ft0, hn0, pl0, key0, s6, _⟩ := id hI
  refine vg_aload_n X dX6_rest_0 0 rfl rfl ?_
  refine vg_iload_n X dX6_rest_1 1 rfl rfl ?_
  refine vg_callrX X (vg_runVX X vs_st hWm9 (c_X6_knownUnit l hl9 hG2 hS (x := y)) (cwV 1 X.2.2.2.2.1 gX6_rest_X6_knownUnit rfl rfl rfl (by decide +kernel) ⟨(Nat.le_of_ble_eq_true rfl), (Nat.le_of_ble_eq_true rfl)⟩) 0 h0 rfl rfl rfl (Nat.le_of_ble_eq_true rfl) dX6_rest_2 ⟨(Nat.le_of_ble_eq_true rfl), (Nat.le_of_ble_eq_true rfl)⟩) hT (fun E hE => Or.inl ⟨hE.1, fun z9 => hE.2 z9.1⟩) (Nat.le_of_ble_eq_true rfl) (Nat.le_of_ble_eq_true rfl) (fun rr3 wz1 PP2 PP2q => ?_)
  obtain ⟨jx, ejx, hjx, ajx⟩ := PP2q
  rw [PP2, ajx]
  subst ejx
  obtain ⟨qjx, pjx, rjx, y4jx⟩ := cw_N_uj hN hjx
  have pjxb := pjx
  unfold cu_P at pjx
  refine vg_astore X [(6, .ref (ua jx)), (0, .ref ax), (1, .int (nI jx)), (2, .int x), (3, .int mm), (4, .int b), (5, .int t)] dX6_rest_5 (by decide) rfl ?_
  refine vg_aload_n X dX6_rest_7 1 rfl rfl ?_
  refine vg_iload_n X dX6_rest_8 3 rfl rfl ?_
  refine vg_callrX X (vg_runVX X vs_st hWm9 (c_X6_knownPiece l hl9 hG2 hS (x := x)) (cwV 1 X.2.2.2.2.1 gX6_rest_X6_knownPiece rfl rfl rfl (by decide +kernel) ⟨(Nat.le_of_ble_eq_true rfl), (Nat.le_of_ble_eq_true rfl)⟩) 0 h0 rfl rfl rfl (Nat.le_of_ble_eq_true rfl) dX6_rest_9 ⟨(Nat.le_of_ble_eq_true rfl), (Nat.le_of_ble_eq_true rfl)⟩) hT (fun E hE => Or.inl ⟨hE.1, fun z9 => hE.2 z9.2.1⟩) (Nat.le_of_ble_eq_true rfl) (Nat.le_of_ble_eq_true rfl) (fun rr6 wz4 PP5 PP5q => ?_)
  obtain ⟨ix, eix, hix, aix⟩ := PP5q
  rw [PP5, aix]
  subst eix
  obtain ⟨qix, pix, rix, y0ix, y1ix, y2ix⟩ := cw_N_p hN hix
  have pixb := pix
  obtain ⟨afix, atix, agix, ffix, ftix, fgix, k0ix, k1ix, k2ix, k3ix, krix⟩ := pix
  have r2 := rix.2.2.2.1
  have r3 := rix.2.2.2.2.1
  refine vg_astore X [(7, .ref (el ix)), (6, .ref (ua jx)), (0, .ref ax), (1, .int (nI jx)), (2, .int (nI ix)), (3, .int mm), (4, .int b), (5, .int t)] dX6_rest_12 (by decide) rfl ?_
  refine vg_aload_n X dX6_rest_14 2 rfl rfl ?_
  refine vg_iload X dX6_rest_15 6 rfl ?_
  refine vg_callvX X (vg_runVX X vs_st hWm9 (c_X6_needNode l hl9 hG2 hS (x := b)) (cwV 1 X.2.2.2.2.1 gX6_rest_X6_needNode rfl rfl rfl (by decide +kernel) ⟨(Nat.le_of_ble_eq_true rfl), (Nat.le_of_ble_eq_true rfl)⟩) 0 h0 rfl rfl rfl (Nat.le_of_ble_eq_true rfl) dX6_rest_17 ⟨(Nat.le_of_ble_eq_true rfl), (Nat.le_of_ble_eq_true rfl)⟩) hT (fun E hE => Or.inl ⟨hE.1, fun z9 => hE.2 z9.2.2⟩) (Nat.le_of_ble_eq_true rfl) (Nat.le_of_ble_eq_true rfl) (fun wz7 PP8 => ?_)
  obtain ⟨ew_b, bx, hbx, ebx⟩ := PP8
  rw [ew_b]
  subst ebx
  refine vg_iload X dX6_rest_20 7 rfl ?_
  refine vg_callvX X (vg_runSX X vs_st hWm9 (c_X6_needTime l hl9 hG2 (x := t)) (cwS 1 X.2.2.2.2.1 gX6_rest_X6_needTime rfl rfl rfl (by decide +kernel) ⟨(Nat.le_of_ble_eq_true rfl), (Nat.le_of_ble_eq_true rfl)⟩) rfl rfl (Nat.le_of_ble_eq_true rfl) dX6_rest_22 ⟨(Nat.le_of_ble_eq_true rfl), (Nat.le_of_ble_eq_true rfl)⟩) hT (fun E hE => Or.inr ⟨hE.1, ⟨⟨jx, hjx, rfl⟩, ⟨ix, hix, rfl⟩, ⟨bx, hbx, rfl⟩⟩, fun z9 => hE.2 z9.1⟩) (Nat.le_of_ble_eq_true rfl) (Nat.le_of_ble_eq_true rfl) (fun wz10 PP11 => ?_)
  obtain ⟨ew_t, hr_t⟩ := PP11
  rw [ew_t]
  refine vg_iload_n X dX6_rest_25 5 rfl rfl ?_
  refine vg_iconst X (nI 0) dX6_rest_26 (by decide) ?_
  refine vg_aload X dX6_rest_27 0 rfl ?_
  refine vg_get X in_X6_rest_X2 (qp ix) k0ix rfl 2 (by decide) ml_X6_rest_155 rfl rfl dX6_rest_29 ?_
  refine vg_callvX X (vg_runSX X vs_st hWm9 (c_X6_needWithin l hl9 hG2 (x := mm) (lo := nI 0) (hi := nI (d ix 2))) (cwS 3 X.2.2.2.2.1 gX6_rest_X6_needWithin rfl rfl rfl (by decide +kernel) ⟨(Nat.le_of_ble_eq_true rfl), (Nat.le_of_ble_eq_true rfl)⟩) rfl rfl (Nat.le_of_ble_eq_true rfl) dX6_rest_32 ⟨(Nat.le_of_ble_eq_true rfl), (Nat.le_of_ble_eq_true rfl)⟩) hT (fun E hE => Or.inr ⟨hE.1, ⟨⟨jx, hjx, rfl⟩, ⟨ix, hix, rfl⟩, ⟨bx, hbx, rfl⟩⟩, fun z9 => rt_no (n := n) (U := U) hix hB.2.1 hE.2 z9.2⟩) (Nat.le_of_ble_eq_true rfl) (Nat.le_of_ble_eq_true rfl) (fun wz13 PP14 => ?_)
  obtain ⟨ew_mm, hr_mm⟩ := PP14
  rw [ew_mm]
  obtain ⟨tx, htx, etx⟩ := i32_tm hr_t
  subst etx
  obtain ⟨mx, _, hmx, emx⟩ := cm_rng hr_mm (a := 0) (b := d ix 2) (by decide) (by omega)
  subst emx
  refine vg_aload X dX6_rest_35 0 rfl ?_
  refine vg_aload X dX6_rest_37 1 rfl ?_
  refine vg_calli (vg_runV X (c_X2_letsPass l pixb rix pjxb rjx) (cwV 1 X.2.2.2.2.1 gX6_rest_X2_letsPass rfl rfl rfl (by decide +kernel) ⟨Nat.le_of_ble_eq_true rfl, Nat.le_of_ble_eq_true rfl⟩) (qp ix) k0ix rfl rfl rfl (Nat.le_of_ble_eq_true rfl) dX6_rest_39 ⟨(Nat.le_of_ble_eq_true rfl), (Nat.le_of_ble_eq_true rfl)⟩) (fun rr18 wz16 PP17 => ?_)
  obtain ⟨ew, er1, er2⟩ := PP17
  rw [ew]
  by_cases hok : ps_ok (d ix) (uv jx)
  · rw [er1 hok]
    refine vg_if_ne X 49 dX6_rest_42 (by decide) (fun c42 => ?_) (fun c42 => ?_)
    · skip
      refine vg_aload_n X dX6_rest_49 2 rfl rfl ?_
      refine vg_get X in_X6_rest_X6 0 h0 rfl 1 (by decide) ml_X6_rest_21 rfl rfl dX6_rest_50 ?_
      refine vg_iload X dX6_rest_53 6 rfl ?_
      refine vg_aload X dX6_rest_55 1 rfl ?_
      refine vg_iload X dX6_rest_57 7 rfl ?_
      refine vg_iconst X (nI 1) dX6_rest_59 (by decide) ?_
      refine vg_callv (vg_runV X (c_X3_spread l hI (cw_N_n hN) pjxb qjx rjx htx hbx (k := 1) ⟨by omega, by omega⟩) (cwV 4 X.2.2.2.2.1 gX6_rest_X3_spread rfl rfl rfl (by decide +kernel) ⟨Nat.le_of_ble_eq_true rfl, Nat.le_of_ble_eq_true rfl⟩) 6 s6 rfl rfl rfl (Nat.le_of_ble_eq_true rfl) dX6_rest_60 ⟨(Nat.le_of_ble_eq_true rfl), (Nat.le_of_ble_eq_true rfl)⟩) (fun wz19 PP20 => ?_)
      obtain ⟨kn, st9, wk9, hn8, pl8, key8, gR, gC, gres, gfr⟩ := PP20
      have hS1 := cw_S_search hS (cs_R_I gR gC) gfr
      obtain ⟨x0, xI, xN, xTT, _, x16, _, _, x56⟩ := id hS1
      obtain ⟨aq1, aC1, aW1, aK1, aT1, fw1, fk1, ft1, s61, _⟩ := id gR
      have hok3 : 0 < d ix 3 := hok.2.1
      have pix2 : cp_P ay wz19 (qp ix) (el ix) (d ix) (fr ix) (to ix) (pe ix) := (cw_N_p xN hix).2.1
      have pjx2 : cu_P wz19 (uq jx) (ua jx) (uv jx) := (cw_N_uj xN hjx).2.1
      have y0 : wz19[qp ix]? = some (el ix, .inr (5, [.int (nI (d ix 0)), .int (nI (d ix 1)), .int (nI (d ix 2)), .int (nI (d ix 3)), .int (nI (d ix 4)), .int (nI (d ix 5)), .int (nI (d ix 6)), .int (nI (d ix 7)), .ref afix, .ref atix, .ref agix])) := (gfr.2 (qp ix) (fun z => by simp only [List.mem_cons, List.not_mem_nil, or_false] at z; omega)).trans k0ix
      have hper := ps_per_in (fr := fr ix) (to := to ix) (hour := tx / 3600 % 24) (d ix 7) 0 (fun j _ hj => ⟨(rix.2.2.2.2.2.2.2.2.2 j (by omega)).2.2.1, (rix.2.2.2.2.2.2.2.2.2 j (by omega)).2.2.2⟩)
      refine vg_aload X dX6_rest_63 0 rfl ?_
      refine vg_aload X dX6_rest_65 1 rfl ?_
      refine vg_iload_n X dX6_rest_67 5 rfl rfl ?_
      refine vg_iload X dX6_rest_68 7 rfl ?_
      refine vg_calll (vg_runV X (c_X2_secondsFor l pix2 rix pjx2 rjx (part := mx) (t := tx) (by omega) htx) (cwV 3 X.2.2.2.2.1 gX6_rest_X2_secondsFor rfl rfl rfl (by decide +kernel) ⟨Nat.le_of_ble_eq_true rfl, Nat.le_of_ble_eq_true rfl⟩) (qp ix) y0 rfl rfl rfl (Nat.le_of_ble_eq_true rfl) dX6_rest_70 ⟨(Nat.le_of_ble_eq_true rfl), (Nat.le_of_ble_eq_true rfl)⟩) (fun rr24 wz22 PP23 => ?_)
      obtain ⟨ew, _, erA⟩ := PP23
      rw [ew, erA hok3]
      have hsA := (ps_sec_in (sp := d ix 3) (per := (ps_per (fr ix) (to ix) (pe ix) (tx / 3600 % 24) (d ix 7) 0)) (p := uv jx 2) (q := uv jx 3) (mm := mx) hok3 hper.1 rjx.2.2.1 rjx.2.2.2.2.1 rjx.2.2.2.2.2.1 (by omega)).1
      refine vg_aload_n X dX6_rest_73 2 rfl rfl ?_
      refine vg_get X in_X6_rest_X6 0 x0 rfl 1 (by decide) ml_X6_rest_21 rfl rfl dX6_rest_74 ?_
      refine vg_aload X dX6_rest_77 0 rfl ?_
      refine vg_get X in_X6_rest_X2 (qp ix) y0 rfl 0 (by decide) ml_X6_rest_189 rfl rfl dX6_rest_79 ?_
      refine vg_calll (vg_runV X (c_X3_leastTo l gR hB.1 ⟨by decide, by decide⟩ y0ix (by have := (gres (d ix 0) y0ix).1; omega)) (cwV 1 X.2.2.2.2.1 gX6_rest_X3_leastTo rfl rfl rfl (by decide +kernel) ⟨Nat.le_of_ble_eq_true rfl, Nat.le_of_ble_eq_true rfl⟩) 6 s61 rfl rfl rfl (Nat.le_of_ble_eq_true rfl) dX6_rest_82 ⟨(Nat.le_of_ble_eq_true rfl), (Nat.le_of_ble_eq_true rfl)⟩) (fun rr27 wz25 PP26 => ?_)
      obtain ⟨ew, e10, e20⟩ := PP26
      rw [ew, cs_rep gres y0ix e10 e20]
      have hd0 := cs_dB gres y0ix
      refine vg_calll (vg_runS X (c_X6_sum l (x := ps_sec (d ix 3) (ps_per (fr ix) (to ix) (pe ix) (tx / 3600 % 24) (d ix 7) 0) (uv jx 2) (uv jx 3) mx) (y := ma_d (ma_T P (fun i => d i 0) (fun i => d i 1) (fun i => ps_w (d i) (fr i) (to i) (pe i) (uv jx) tx) bx (d ix 0)) 1) (by omega) hd0) (cwS 2 X.2.2.2.2.1 gX6_rest_X6_sum rfl rfl rfl (by decide +kernel) ⟨Nat.le_of_ble_eq_true rfl, Nat.le_of_ble_eq_true rfl⟩) rfl rfl (Nat.le_of_ble_eq_true rfl) dX6_rest_85 ⟨(Nat.le_of_ble_eq_true rfl), (Nat.le_of_ble_eq_true rfl)⟩) (fun rr30 wz28 PP29 => ?_)
      obtain ⟨ew, es0⟩ := PP29
      rw [ew, es0]
      refine vg_lstore X [(8, .long (vs_rep (ma_d (ma_T P (fun i => d i 0) (fun i => d i 1) (fun i => ps_w (d i) (fr i) (to i) (pe i) (uv jx) tx) bx (d ix 0)) 1 + ps_sec (d ix 3) (ps_per (fr ix) (to ix) (pe ix) (tx / 3600 % 24) (d ix 7) 0) (uv jx 2) (uv jx 3) mx))), (7, .ref (el ix)), (6, .ref (ua jx)), (0, .ref ax), (1, .int (nI jx)), (2, .int (nI ix)), (3, .int (nI mx)), (4, .int (nI bx)), (5, .int (nI tx))] dX6_rest_88 (by decide) rfl ?_
      refine vg_aload X dX6_rest_90 1 rfl ?_
      refine vg_aload X dX6_rest_92 2 rfl ?_
      refine vg_aload X dX6_rest_94 1 rfl ?_
      refine vg_get X in_X6_rest_X2 (qp ix) y0 rfl 2 (by decide) ml_X6_rest_155 rfl rfl dX6_rest_96 ?_
      refine vg_iload_n X dX6_rest_99 6 rfl rfl ?_
      refine vg_isub X (nI (d ix 2 - mx)) dX6_rest_100 (pk_sub (by omega)) ?_
      refine vg_iload X dX6_rest_101 8 rfl ?_
      refine vg_calll (vg_runV X (c_X2_secondsFor l pix2 rix pjx2 rjx (part := d ix 2 - mx) (t := tx) (by omega) htx) (cwV 3 X.2.2.2.2.1 gX6_rest_X2_secondsFor rfl rfl rfl (by decide +kernel) ⟨Nat.le_of_ble_eq_true rfl, Nat.le_of_ble_eq_true rfl⟩) (qp ix) y0 rfl rfl rfl (Nat.le_of_ble_eq_true rfl) dX6_rest_103 ⟨(Nat.le_of_ble_eq_true rfl), (Nat.le_of_ble_eq_true rfl)⟩) (fun rr33 wz31 PP32 => ?_)
      obtain ⟨ew, _, erB⟩ := PP32
      rw [ew, erB hok3]
      have hsB := (ps_sec_in (sp := d ix 3) (per := (ps_per (fr ix) (to ix) (pe ix) (tx / 3600 % 24) (d ix 7) 0)) (p := uv jx 2) (q := uv jx 3) (mm := d ix 2 - mx) hok3 hper.1 rjx.2.2.1 rjx.2.2.2.2.1 rjx.2.2.2.2.2.1 (by omega)).1
      refine vg_aload_n X dX6_rest_106 3 rfl rfl ?_
      refine vg_get X in_X6_rest_X6 0 x0 rfl 1 (by decide) ml_X6_rest_21 rfl rfl dX6_rest_107 ?_
      refine vg_aload X dX6_rest_110 1 rfl ?_
      refine vg_get X in_X6_rest_X2 (qp ix) y0 rfl 1 (by decide) ml_X6_rest_196 rfl rfl dX6_rest_112 ?_
      refine vg_calll (vg_runV X (c_X3_leastTo l gR hB.1 ⟨by decide, by decide⟩ y1ix (by have := (gres (d ix 1) y1ix).1; omega)) (cwV 1 X.2.2.2.2.1 gX6_rest_X3_leastTo rfl rfl rfl (by decide +kernel) ⟨Nat.le_of_ble_eq_true rfl, Nat.le_of_ble_eq_true rfl⟩) 6 s61 rfl rfl rfl (Nat.le_of_ble_eq_true rfl) dX6_rest_115 ⟨(Nat.le_of_ble_eq_true rfl), (Nat.le_of_ble_eq_true rfl)⟩) (fun rr36 wz34 PP35 => ?_)
      obtain ⟨ew, e11, e21⟩ := PP35
      rw [ew, cs_rep gres y1ix e11 e21]
      have hd1 := cs_dB gres y1ix
      refine vg_calll (vg_runS X (c_X6_sum l (x := ps_sec (d ix 3) (ps_per (fr ix) (to ix) (pe ix) (tx / 3600 % 24) (d ix 7) 0) (uv jx 2) (uv jx 3) (d ix 2 - mx)) (y := ma_d (ma_T P (fun i => d i 0) (fun i => d i 1) (fun i => ps_w (d i) (fr i) (to i) (pe i) (uv jx) tx) bx (d ix 1)) 1) (by omega) hd1) (cwS 2 X.2.2.2.2.1 gX6_rest_X6_sum rfl rfl rfl (by decide +kernel) ⟨Nat.le_of_ble_eq_true rfl, Nat.le_of_ble_eq_true rfl⟩) rfl rfl (Nat.le_of_ble_eq_true rfl) dX6_rest_118 ⟨(Nat.le_of_ble_eq_true rfl), (Nat.le_of_ble_eq_true rfl)⟩) (fun rr39 wz37 PP38 => ?_)
      obtain ⟨ew, es1⟩ := PP38
      rw [ew, es1]
      refine vg_lstore X [(10, .long (vs_rep (ma_d (ma_T P (fun i => d i 0) (fun i => d i 1) (fun i => ps_w (d i) (fr i) (to i) (pe i) (uv jx) tx) bx (d ix 1)) 1 + ps_sec (d ix 3) (ps_per (fr ix) (to ix) (pe ix) (tx / 3600 % 24) (d ix 7) 0) (uv jx 2) (uv jx 3) (d ix 2 - mx)))), (8, .long (vs_rep (ma_d (ma_T P (fun i => d i 0) (fun i => d i 1) (fun i => ps_w (d i) (fr i) (to i) (pe i) (uv jx) tx) bx (d ix 0)) 1 + ps_sec (d ix 3) (ps_per (fr ix) (to ix) (pe ix) (tx / 3600 % 24) (d ix 7) 0) (uv jx 2) (uv jx 3) mx))), (7, .ref (el ix)), (6, .ref (ua jx)), (0, .ref ax), (1, .int (nI jx)), (2, .int (nI ix)), (3, .int (nI mx)), (4, .int (nI bx)), (5, .int (nI tx))] dX6_rest_121 (by decide) rfl ?_
      refine vg_lload X dX6_rest_123 1 rfl ?_
      refine vg_lload X dX6_rest_125 0 rfl ?_
      refine vg_calll (vg_runS X (c_X6_lesser l (x := ma_d (ma_T P (fun i => d i 0) (fun i => d i 1) (fun i => ps_w (d i) (fr i) (to i) (pe i) (uv jx) tx) bx (d ix 0)) 1 + ps_sec (d ix 3) (ps_per (fr ix) (to ix) (pe ix) (tx / 3600 % 24) (d ix 7) 0) (uv jx 2) (uv jx 3) mx) (y := ma_d (ma_T P (fun i => d i 0) (fun i => d i 1) (fun i => ps_w (d i) (fr i) (to i) (pe i) (uv jx) tx) bx (d ix 1)) 1 + ps_sec (d ix 3) (ps_per (fr ix) (to ix) (pe ix) (tx / 3600 % 24) (d ix 7) 0) (uv jx 2) (uv jx 3) (d ix 2 - mx))) (cwS 2 X.2.2.2.2.1 gX6_rest_X6_lesser rfl rfl rfl (by decide +kernel) ⟨Nat.le_of_ble_eq_true rfl, Nat.le_of_ble_eq_true rfl⟩) rfl rfl (Nat.le_of_ble_eq_true rfl) dX6_rest_127 ⟨(Nat.le_of_ble_eq_true rfl), (Nat.le_of_ble_eq_true rfl)⟩) (fun rr42 wz40 PP41 => ?_)
      obtain ⟨ew, es9⟩ := PP41
      rw [ew]
      exact vg_xret (vg_lret X rfl ⟨jx, ix, mx, bx, tx, rfl, hjx, rfl, hix, rfl, hmx, rfl, hbx, rfl, htx, ⟨_, _, _, _, _, _, _, _, _, hS1⟩, cw_fr_search gfr, fun q9 => absurd hok q9, fun _ => es9⟩ (Nat.le_of_ble_eq_true rfl) (Nat.le_of_ble_eq_true rfl) dX6_rest_130)
    · exact absurd c42 (by decide)
  · rw [er2 hok]
    refine vg_if_ne X 49 dX6_rest_42 (by decide) (fun c42 => ?_) (fun c42 => ?_)
    · exact absurd rfl c42
    · skip
      refine vg_ldc2 X (-1) dX6_rest_45 mk_X6_rest_187 ?_
      exact vg_xret (vg_lret X rfl ⟨jx, ix, mx, bx, tx, rfl, hjx, rfl, hix, rfl, hmx, rfl, hbx, rfl, htx, ⟨_, _, _, _, _, _, _, _, _, hS⟩, cw_fr_rf ws, fun _ => rfl, fun q9 => absurd q9 hok⟩ (Nat.le_of_ble_eq_true rfl) (Nat.le_of_ble_eq_true rfl) dX6_rest_48)
set_option maxHeartbeats 4000000 in
set_option maxRecDepth 100000 in
/-- X6_nearest -/
theorem c_X6_nearest (l : Launch) {D : va_G} {ay : Nat → ClassId} {base : Nat} {Gx : State → Prop} {tE mi : Nat} {ws : va_W} {ax : Nat} {n P U : Nat} {d fr to pe uv : Nat → Nat → Nat} {ku ks kt : Nat → Nat} {sk : Nat → Nat → Nat} {wl : Nat} {wp : Nat → Nat} {b t : Int32} (hl9 : l.stackTraces = false) (hG2 : ∀ U, Gx U → vh_G2 base tE mi U) (hS : cw_St ay ws ax tE n P U d fr to pe uv ku ks kt sk wl wp) : vx_Met l yX6_nearest wsX6_nearest ({ frames := 8, cells := 8, slots := 60, locals := 210 } : Room) (fun a9 s9 => va_Pc [.ref ax, .int b, .int t] (vg_B D ay base Gx ws) a9 s9 ∧ vs_W s9) (va_Qi (fun r u => cw_St ay u ax tE n P U d fr to pe uv ku ks kt sk wl wp ∧ cw_fr ws u ∧ ∃ bx tx : Nat, b = nI bx ∧ bx < n ∧ t = nI tx ∧ tx < 2 ^ 31 ∧ r = nr_i (nr_b (fun q => ma_d (ma_T P (fun i => d i 0) (fun i => d i 1) (fun i => ps_w (d i) (fr i) (to i) (pe i) (uv q) tx) bx (uv q 4)) 1) U).1) (vg_B D ay base Gx) (vg_A base)) (vg_XC D ay base Gx ws (fun E => (E = "java/lang/IllegalArgumentException" ∧ ¬ cm_in b n) ∨ (E = "java/lang/IndexOutOfBoundsException" ∧ cm_in b n ∧ ¬ 0 ≤ t))) 8 60 (vg_A base) := by
  refine vg_metX (cc := cX6_nearest) (maxL := 10) (ret := (some .int)) (own := RX6) (lv := [(0, .ref ax), (1, .int b), (2, .int t)]) (by decide) rfl rfl (Nat.le_of_ble_eq_true rfl) rfl ?_
  intro p e s m args below meth c X hT hWm9
  obtain ⟨aN, asr, aTs, aWB, el, qp, ua, uq, fb, hS⟩ := hS
  have hS0 := hS
  obtain ⟨h0, hI, hN, hTT, hK, h16, hwl, hwp, h56⟩ := hS0
  have hB := cw_N_b hN
  refine vg_aload_n X dX6_nearest_0 0 rfl rfl ?_
  refine vg_iload_n X dX6_nearest_1 1 rfl rfl ?_
  refine vg_callvX X (vg_runVX X vs_st hWm9 (c_X6_needNode l hl9 hG2 hS (x := b)) (cwV 1 X.2.2.2.2.1 gX6_nearest_X6_needNode rfl rfl rfl (by decide +kernel) ⟨(Nat.le_of_ble_eq_true rfl), (Nat.le_of_ble_eq_true rfl)⟩) 0 h0 rfl rfl rfl (Nat.le_of_ble_eq_true rfl) dX6_nearest_2 ⟨(Nat.le_of_ble_eq_true rfl), (Nat.le_of_ble_eq_true rfl)⟩) hT (fun E hE => Or.inl hE) (Nat.le_of_ble_eq_true rfl) (Nat.le_of_ble_eq_true rfl) (fun wz1 PP2 => ?_)
  obtain ⟨ew_b, bx, hbx, ebx⟩ := PP2
  rw [ew_b]
  subst ebx
  refine vg_iload_n X dX6_nearest_5 2 rfl rfl ?_
  refine vg_callvX X (vg_runSX X vs_st hWm9 (c_X6_needTime l hl9 hG2 (x := t)) (cwS 1 X.2.2.2.2.1 gX6_nearest_X6_needTime rfl rfl rfl (by decide +kernel) ⟨(Nat.le_of_ble_eq_true rfl), (Nat.le_of_ble_eq_true rfl)⟩) rfl rfl (Nat.le_of_ble_eq_true rfl) dX6_nearest_6 ⟨(Nat.le_of_ble_eq_true rfl), (Nat.le_of_ble_eq_true rfl)⟩) hT (fun E hE => Or.inr ⟨hE.1, ⟨bx, hbx, rfl⟩, hE.2⟩) (Nat.le_of_ble_eq_true rfl) (Nat.le_of_ble_eq_true rfl) (fun wz4 PP5 => ?_)
  obtain ⟨ew_t, hr_t⟩ := PP5
  rw [ew_t]
  obtain ⟨tx, htx, etx⟩ := i32_tm hr_t
  subst etx
  refine vg_iconst X (-1) dX6_nearest_9 (by decide) ?_
  refine vg_istore_n X [(3, .int (-1)), (0, .ref ax), (1, .int (nI bx)), (2, .int (nI tx))] dX6_nearest_10 rfl (by decide) rfl ?_
  refine vg_ldc2 X (-1) dX6_nearest_11 mk_X6_nearest_187 ?_
  refine vg_lstore X [(4, .long (-1)), (3, .int (-1)), (0, .ref ax), (1, .int (nI bx)), (2, .int (nI tx))] dX6_nearest_14 (by decide) rfl ?_
  refine vg_iconst X (nI 0) dX6_nearest_16 (by decide) ?_
  refine vg_istore X [(6, .int (nI 0)), (4, .long (-1)), (3, .int (-1)), (0, .ref ax), (1, .int (nI bx)), (2, .int (nI tx))] dX6_nearest_17 (by decide) rfl ?_
  obtain ⟨D9, hD9⟩ : ∃ f : Nat → Nat, f = (fun q => ma_d (ma_T P (fun i => d i 0) (fun i => d i 1) (fun i => ps_w (d i) (fr i) (to i) (pe i) (uv q) tx) (uv q 4) bx) 1) := ⟨_, rfl⟩
  refine vg_gen (fun Q9 hQ9 => ?_)
  have loop : ∀ (k i : Nat) (ws1 : va_W), i + k = U → cw_S ay ws1 ax tE aN asr aTs aWB el qp ua uq fb n P U d fr to pe uv ku ks kt sk wl wp → cw_fr ws ws1 → vg_V D base p l e ({ frames := 8, cells := 8, slots := 60, locals := 210 } : Room) s m args below meth c 10 (0 + 1 + 1) (0 + 6 + 6) Q9 [(6, .int (nI i)), (4, .long (vs_rep (nr_b D9 i).2)), (3, .int (nr_i (nr_b D9 i).1)), (0, .ref ax), (1, .int (nI bx)), (2, .int (nI tx))] [] ws1 19 := by
    intro k
    induction k using Nat.strongRecOn with
    | ind k ih =>
      intro i ws1 hk hS1 hW1
      obtain ⟨x0, xI, xN, xTT, _, x16, _, _, x56⟩ := id hS1
      have xN0 := xN
      obtain ⟨aP, aU, aH, aO, aE1, aE2, fh, fo, n1, n4, n5, ⟨⟨⟨mo1, n2⟩, alt1⟩, ⟨⟨mo2, n3⟩, alt2⟩, hap, hp, hu, _⟩, hch⟩ := xN
      obtain ⟨aq0, aC0, aW0, aK0, aT0, k00, fc0, fw0, fk0, ft0, hn0, pl0, key0, s6, _⟩ := id xI
      have hnb := nr_b_in D9 i
      refine vg_iload X dX6_nearest_19 0 rfl ?_
      refine vg_aload_n X dX6_nearest_21 3 rfl rfl ?_
      refine vg_get X in_X6_nearest_X6 0 x0 rfl 0 (by decide) ml_X6_nearest_10 rfl rfl dX6_nearest_22 ?_
      refine vg_get X in_X6_nearest_X0 1 n1 rfl 1 (by decide) ml_X6_nearest_126 rfl rfl dX6_nearest_25 ?_
      refine vg_calli (vg_runV X (c_Jx4a65c_size_8abf5 l (cl_at_L ⟨⟨mo2, n3⟩, alt2⟩)) (cwV 0 X.2.2.2.2.1 gX6_nearest_Jx4a65c_size_8abf5 rfl rfl rfl (by decide +kernel) ⟨Nat.le_of_ble_eq_true rfl, Nat.le_of_ble_eq_true rfl⟩) 3 n3 rfl rfl rfl (Nat.le_of_ble_eq_true rfl) dX6_nearest_28 ⟨(Nat.le_of_ble_eq_true rfl), (Nat.le_of_ble_eq_true rfl)⟩) (fun rr9 wz7 PP8 => ?_)
      obtain ⟨ew, er⟩ := PP8
      rw [ew, er]
      refine vg_icmp_ge X 112 dX6_nearest_31 (by decide) (fun c31 => ?_) (fun c31 => ?_)
      · have c31 : U ≤ i := (nI_leI (by omega) (by omega)).mp c31
        refine vg_iload_n X dX6_nearest_112 2 rfl rfl ?_
        have ek : i = U := by omega
        subst ek
        rw [hQ9]
        exact vg_xret (vg_iret X rfl ⟨⟨_, _, _, _, _, _, _, _, _, hS1⟩, hW1, bx, tx, rfl, hbx, rfl, htx, by rw [hD9, nr_b_congr (E := (fun q => ma_d (ma_T P (fun i => d i 0) (fun i => d i 1) (fun i => ps_w (d i) (fr i) (to i) (pe i) (uv q) tx) bx (uv q 4)) 1)) (fun q _ => sy_d _ _ _ _ _ _)]⟩ (Nat.le_of_ble_eq_true rfl) (Nat.le_of_ble_eq_true rfl) dX6_nearest_113)
      · have c31 : ¬ U ≤ i := fun z => c31 ((nI_leI (by omega) (by omega)).mpr z)
        refine vg_aload_n X dX6_nearest_34 3 rfl rfl ?_
        refine vg_get X in_X6_nearest_X6 0 x0 rfl 0 (by decide) ml_X6_nearest_10 rfl rfl dX6_nearest_35 ?_
        refine vg_get X in_X6_nearest_X0 1 n1 rfl 1 (by decide) ml_X6_nearest_126 rfl rfl dX6_nearest_38 ?_
        refine vg_iload X dX6_nearest_41 0 rfl ?_
        refine vg_callr (vg_runV X (c_Jx4a65c_get_915e3 l (cl_at_L ⟨⟨mo2, n3⟩, alt2⟩) (i := i) (by omega)) (cwV 1 X.2.2.2.2.1 gX6_nearest_Jx4a65c_get_915e3 rfl rfl rfl (by decide +kernel) ⟨Nat.le_of_ble_eq_true rfl, Nat.le_of_ble_eq_true rfl⟩) 3 n3 rfl rfl rfl (Nat.le_of_ble_eq_true rfl) dX6_nearest_43 ⟨(Nat.le_of_ble_eq_true rfl), (Nat.le_of_ble_eq_true rfl)⟩) (fun rr12 wz10 PP11 PP11q => ?_)
        rw [PP11, PP11q]
        obtain ⟨ui1, ui2, ui3, ui4⟩ := hu i (by omega)
        have ui2b := ui2
        unfold cu_P at ui2b
        refine vg_cast X (uq i) ui2b rfl mc_X6_nearest_131 dX6_nearest_46 ?_
        refine vg_astore X [(7, .ref (ua i)), (6, .int (nI i)), (4, .long (vs_rep (nr_b D9 i).2)), (3, .int (nr_i (nr_b D9 i).1)), (0, .ref ax), (1, .int (nI bx)), (2, .int (nI tx))] dX6_nearest_49 (by decide) rfl ?_
        refine vg_aload_n X dX6_nearest_51 4 rfl rfl ?_
        refine vg_get X in_X6_nearest_X6 0 x0 rfl 1 (by decide) ml_X6_nearest_21 rfl rfl dX6_nearest_52 ?_
        refine vg_aload X dX6_nearest_55 0 rfl ?_
        refine vg_get X in_X6_nearest_X5 (uq i) ui2b rfl 4 (by decide) ml_X6_nearest_144 rfl rfl dX6_nearest_57 ?_
        refine vg_aload X dX6_nearest_60 0 rfl ?_
        refine vg_iload_n X dX6_nearest_62 6 rfl rfl ?_
        refine vg_iconst X (nI 1) dX6_nearest_63 (by decide) ?_
        refine vg_callv (vg_runV X (c_X3_spread l xI (cw_N_n xN0) ui2 ui1 ui3 htx ui4 (k := 1) ⟨by omega, by omega⟩) (cwV 4 X.2.2.2.2.1 gX6_nearest_X3_spread rfl rfl rfl (by decide +kernel) ⟨Nat.le_of_ble_eq_true rfl, Nat.le_of_ble_eq_true rfl⟩) 6 s6 rfl rfl rfl (Nat.le_of_ble_eq_true rfl) dX6_nearest_64 ⟨(Nat.le_of_ble_eq_true rfl), (Nat.le_of_ble_eq_true rfl)⟩) (fun wz13 PP14 => ?_)
        obtain ⟨kn, st9, wk9, hn8, pl8, key8, gR, gC, gres, gfr⟩ := PP14
        have hS2 := cw_S_search hS1 (cs_R_I gR gC) gfr
        have hW2 := cw_fr_tr hW1 (cw_fr_search gfr)
        have y0 := hS2.1
        obtain ⟨aq1, aC1, aW1, aK1, aT1, fw1, fk1, ft1, s61, _⟩ := id gR
        refine vg_aload_n X dX6_nearest_67 4 rfl rfl ?_
        refine vg_get X in_X6_nearest_X6 0 y0 rfl 1 (by decide) ml_X6_nearest_21 rfl rfl dX6_nearest_68 ?_
        refine vg_iload_n X dX6_nearest_71 5 rfl rfl ?_
        refine vg_calll (vg_runV X (c_X3_leastTo l gR hB.1 ⟨by decide, by decide⟩ hbx (by have := (gres bx hbx).1; omega)) (cwV 1 X.2.2.2.2.1 gX6_nearest_X3_leastTo rfl rfl rfl (by decide +kernel) ⟨Nat.le_of_ble_eq_true rfl, Nat.le_of_ble_eq_true rfl⟩) 6 s61 rfl rfl rfl (Nat.le_of_ble_eq_true rfl) dX6_nearest_72 ⟨(Nat.le_of_ble_eq_true rfl), (Nat.le_of_ble_eq_true rfl)⟩) (fun rr18 wz16 PP17 => ?_)
        obtain ⟨ew, er1, er2⟩ := PP17
        have er : rr18 = vs_rep (D9 i) := by rw [hD9]; exact cs_rep gres hbx er1 er2
        rw [ew, er]
        have hDi : D9 i ≤ ma_B := by rw [hD9]; exact ma_d_leB _ _
        refine vg_lstore X [(8, .long (vs_rep (D9 i))), (7, .ref (ua i)), (6, .int (nI i)), (4, .long (vs_rep (nr_b D9 i).2)), (3, .int (nr_i (nr_b D9 i).1)), (0, .ref ax), (1, .int (nI bx)), (2, .int (nI tx))] dX6_nearest_75 (by decide) rfl ?_
        refine vg_lload X dX6_nearest_77 0 rfl ?_
        refine vg_ldc2 X (-1) dX6_nearest_79 mk_X6_nearest_187 ?_
        refine vg_lcmp_eq X 106 dX6_nearest_82 dX6_nearest_83 (by decide) (fun c82 => ?_) (fun c82 => ?_)
        · skip
          refine vg_iinc X (v := nI (i + 1)) [(6, .int (nI (i + 1))), (8, .long (vs_rep (D9 i))), (7, .ref (ua i)), (4, .long (vs_rep (nr_b D9 i).2)), (3, .int (nr_i (nr_b D9 i).1)), (0, .ref ax), (1, .int (nI bx)), (2, .int (nI tx))] dX6_nearest_106 2 rfl (by rw [show Int32.ofInt 1 = nI 1 by decide, nI_add]) (by decide) rfl ?_
          refine vg_goto X 19 dX6_nearest_109 (by decide) ?_
          refine vg_locals [0, 3, 4, 5, 6, 7] rfl ?_
          have htk : ¬ D9 i < (nr_b D9 i).2 := (by have := vs_rep_m1 c82; have := hnb.2.1; omega)
          have L1 := ih (k - 1) (by omega) (i + 1) wz13 (by omega) hS2 hW2
          rw [nr_b_no htk] at L1
          exact L1
        · skip
          refine vg_iload_n X dX6_nearest_86 4 rfl rfl ?_
          refine vg_iconst X (-1) dX6_nearest_87 (by decide) ?_
          refine vg_icmp_eq X 99 dX6_nearest_88 (by decide) (fun c88 => ?_) (fun c88 => ?_)
          · skip
            refine vg_iload X dX6_nearest_99 2 rfl ?_
            refine vg_istore_n X [(3, .int (nI i)), (8, .long (vs_rep (D9 i))), (7, .ref (ua i)), (6, .int (nI i)), (4, .long (vs_rep (nr_b D9 i).2)), (0, .ref ax), (1, .int (nI bx)), (2, .int (nI tx))] dX6_nearest_101 rfl (by decide) rfl ?_
            refine vg_lload X dX6_nearest_102 1 rfl ?_
            refine vg_lstore X [(4, .long (vs_rep (D9 i))), (3, .int (nI i)), (8, .long (vs_rep (D9 i))), (7, .ref (ua i)), (6, .int (nI i)), (0, .ref ax), (1, .int (nI bx)), (2, .int (nI tx))] dX6_nearest_104 (by decide) rfl ?_
            refine vg_iinc X (v := nI (i + 1)) [(6, .int (nI (i + 1))), (4, .long (vs_rep (D9 i))), (3, .int (nI i)), (8, .long (vs_rep (D9 i))), (7, .ref (ua i)), (0, .ref ax), (1, .int (nI bx)), (2, .int (nI tx))] dX6_nearest_106 4 rfl (by rw [show Int32.ofInt 1 = nI 1 by decide, nI_add]) (by decide) rfl ?_
            refine vg_goto X 19 dX6_nearest_109 (by decide) ?_
            refine vg_locals [0, 1, 2, 5, 6, 7] rfl ?_
            have htk : D9 i < (nr_b D9 i).2 := nr_t1 hnb (by omega) c82 c88
            have L1 := ih (k - 1) (by omega) (i + 1) wz13 (by omega) hS2 hW2
            rw [show nr_i (nr_b D9 (i + 1)).1 = nI i by rw [nr_b_yes htk]; exact nr_i_s i, show (nr_b D9 (i + 1)).2 = D9 i by rw [nr_b_yes htk]] at L1
            exact L1
          · skip
            refine vg_lload X dX6_nearest_91 0 rfl ?_
            refine vg_lload X dX6_nearest_93 3 rfl ?_
            refine vg_lcmp_ge X 106 dX6_nearest_95 dX6_nearest_96 (by decide) (fun c95 => ?_) (fun c95 => ?_)
            · skip
              refine vg_iinc X (v := nI (i + 1)) [(6, .int (nI (i + 1))), (8, .long (vs_rep (D9 i))), (7, .ref (ua i)), (4, .long (vs_rep (nr_b D9 i).2)), (3, .int (nr_i (nr_b D9 i).1)), (0, .ref ax), (1, .int (nI bx)), (2, .int (nI tx))] dX6_nearest_106 2 rfl (by rw [show Int32.ofInt 1 = nI 1 by decide, nI_add]) (by decide) rfl ?_
              refine vg_goto X 19 dX6_nearest_109 (by decide) ?_
              refine vg_locals [0, 3, 4, 5, 6, 7] rfl ?_
              have htk : ¬ D9 i < (nr_b D9 i).2 := nr_t3 hnb hDi c82 c88 c95
              have L1 := ih (k - 1) (by omega) (i + 1) wz13 (by omega) hS2 hW2
              rw [nr_b_no htk] at L1
              exact L1
            · skip
              refine vg_iload X dX6_nearest_99 2 rfl ?_
              refine vg_istore_n X [(3, .int (nI i)), (8, .long (vs_rep (D9 i))), (7, .ref (ua i)), (6, .int (nI i)), (4, .long (vs_rep (nr_b D9 i).2)), (0, .ref ax), (1, .int (nI bx)), (2, .int (nI tx))] dX6_nearest_101 rfl (by decide) rfl ?_
              refine vg_lload X dX6_nearest_102 1 rfl ?_
              refine vg_lstore X [(4, .long (vs_rep (D9 i))), (3, .int (nI i)), (8, .long (vs_rep (D9 i))), (7, .ref (ua i)), (6, .int (nI i)), (0, .ref ax), (1, .int (nI bx)), (2, .int (nI tx))] dX6_nearest_104 (by decide) rfl ?_
              refine vg_iinc X (v := nI (i + 1)) [(6, .int (nI (i + 1))), (4, .long (vs_rep (D9 i))), (3, .int (nI i)), (8, .long (vs_rep (D9 i))), (7, .ref (ua i)), (0, .ref ax), (1, .int (nI bx)), (2, .int (nI tx))] dX6_nearest_106 4 rfl (by rw [show Int32.ofInt 1 = nI 1 by decide, nI_add]) (by decide) rfl ?_
              refine vg_goto X 19 dX6_nearest_109 (by decide) ?_
              refine vg_locals [0, 1, 2, 5, 6, 7] rfl ?_
              have htk : D9 i < (nr_b D9 i).2 := nr_t2 hnb c82 c88 c95
              have L1 := ih (k - 1) (by omega) (i + 1) wz13 (by omega) hS2 hW2
              rw [show nr_i (nr_b D9 (i + 1)).1 = nI i by rw [nr_b_yes htk]; exact nr_i_s i, show (nr_b D9 (i + 1)).2 = D9 i by rw [nr_b_yes htk]] at L1
              exact L1
  have e1 : nr_i (nr_b D9 0).1 = -1 := rfl
  have e2 : vs_rep (nr_b D9 0).2 = -1 := vs_rep_B
  have L0 := loop U 0 ws (by omega) hS (cw_fr_rf ws)
  rw [e1, e2] at L0
  exact L0
