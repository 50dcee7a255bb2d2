theorem cl_at_mono {ay : Nat → ClassId} {ws u : va_W} {q aL tE aE cnt : Nat} {el : Nat → Nat} (h : cl_at ay ws q aL tE aE cnt el) (he : ∀ (j : Nat) (y : Nat × va_E), ws[j]? = some y → u[j]? = some y) : cl_at ay u q aL tE aE cnt el := by
  obtain ⟨⟨mo, g1⟩, g2⟩ := h
  exact ⟨⟨mo, he _ _ g1⟩, g2.imp id (fun ⟨qE, cap, f, k1, k2⟩ => ⟨qE, cap, f, he _ _ k1, k2⟩)⟩
theorem cw_N_mono {ay : Nat → ClassId} {ws u : va_W} {aN tE n P U : Nat} {el qp ua uq : Nat → Nat} {d fr to pe uv : Nat → Nat → Nat} (h : cw_N ay ws aN tE n P U el qp ua uq d fr to pe uv) (he : ∀ (j : Nat) (y : Nat × va_E), ws[j]? = some y → u[j]? = some y) : cw_N ay u aN tE n P U el qp ua uq d fr to pe uv := by
  obtain ⟨aP, aU, aH, aO, aE1, aE2, fh, fo, h1, h4, h5, ⟨l1, l2, l3, l4, l5, l6⟩, c1⟩ := h
  refine ⟨aP, aU, aH, aO, aE1, aE2, fh, fo, he _ _ h1, he _ _ h4, he _ _ h5, ⟨cl_at_mono l1 he, cl_at_mono l2 he, l3, fun i hi => ⟨(l4 i hi).1, ?_, (l4 i hi).2.2⟩, fun j hj => ⟨(l5 j hj).1, he _ _ (l5 j hj).2.1, (l5 j hj).2.2⟩, l6⟩, c1⟩
  obtain ⟨af, at2, ag, ff, ft, fg, k0, k1, k2, k3, hr⟩ := (l4 i hi).2.1
  exact ⟨af, at2, ag, ff, ft, fg, he _ _ k0, he _ _ k1, he _ _ k2, he _ _ k3, hr⟩
theorem cw_N_q {ay : Nat → ClassId} {ws : va_W} {aN tE n P U : Nat} {el qp ua uq : Nat → Nat} {d fr to pe uv : Nat → Nat → Nat} (h : cw_N ay ws aN tE n P U el qp ua uq d fr to pe uv) : (∀ i, i < P → qp i + 4 ≤ ws.length) ∧ ∀ j, j < U → uq j < ws.length := by
  obtain ⟨aP, aU, aH, aO, aE1, aE2, fh, fo, h1, h4, h5, ⟨l1, l2, l3, l4, l5, l6⟩, c1⟩ := h
  refine ⟨fun i hi => ?_, fun j hj => (List.getElem?_eq_some_iff.mp (l5 j hj).2.1).1⟩
  obtain ⟨_, _, _, _, _, _, _, _, _, k3, _⟩ := (l4 i hi).2.1
  have := (List.getElem?_eq_some_iff.mp k3).1
  omega
theorem vg_gr_he {ws ws1 u : va_W} {x : Nat × va_E} (e : ws1 = ws ++ [x]) (h : vg_gr ws1 u [ws.length]) : ∀ (j : Nat) (y : Nat × va_E), ws[j]? = some y → u[j]? = some y := fun j y hy => by
  have hj := (List.getElem?_eq_some_iff.mp hy).1
  refine (h.2 j ?_ (fun z => by have := List.mem_singleton.mp z; omega)).trans (vg_pn e hy)
  have := vg_plen e
  omega
theorem cs_repk {n k : Nat} {kn : Nat → Nat} {wk T : Nat → Nat → Nat} (h : cs_res n k kn wk T) {v : Nat} (hv : v < n) (hk : 1 ≤ k) {r : Int64} (h1 : k ≤ kn v → r = lN (wk v (k - 1))) (h2 : ¬ k ≤ kn v → r = -1) : r = vs_rep (ma_d (T v) k) := by
  have eB : ma_B = 2 ^ 60 := rfl
  have g := (h v hv).2 k hk (Nat.le_refl _)
  by_cases q : k ≤ kn v
  · rw [h1 q, (g.1 q).1, vs_rep_lt (by have := (g.1 q).2; omega)]
  · rw [h2 q, g.2 q, vs_rep_B]
/-- a search was made: the state is as it was -/
theorem cw_S_search {ay : Nat → ClassId} {ws u : va_W} {ax tE : Nat} {aN asr aTs aWB : Nat} {el qp ua uq : Nat → Nat} {fb : Nat → Int32} {n P U : Nat} {d fr to pe uv : Nat → Nat → Nat} {ku ks kt : Nat → Nat} {sk : Nat → Nat → Nat} {wl : Nat} {wp : Nat → Nat} (h : cw_S ay ws ax tE aN asr aTs aWB el qp ua uq fb n P U d fr to pe uv ku ks kt sk wl wp) (hI : cs_I ay u asr aN) (hf : vg_fr ws u [6, 7, 8, 9, 10, 11, 12, 13, 14]) : cw_S ay u ax tE aN asr aTs aWB el qp ua uq fb n P U d fr to pe uv ku ks kt sk wl wp := by
  obtain ⟨h0, _, hN, hTT, hK, h16, hwl, hwp, h56⟩ := h
  have g : ∀ j, j < 6 ∨ 15 ≤ j → u[j]? = ws[j]? := fun j hj => hf.2 j (fun z => by simp only [List.mem_cons, List.not_mem_nil, or_false] at z; omega)
  exact ⟨(g 0 (by omega)).trans h0, hI, cw_N_fr hN (fun j q1 q2 => g j (by omega)) (fun j q1 => g j (by omega)), ct_T_fr hTT (fun j hj => g j (by omega)), hK, (g 16 (by omega)).trans h16, hwl, hwp, by rw [hf.1]; exact h56⟩
theorem cw_fr_search {ws u : va_W} (hf : vg_fr ws u [6, 7, 8, 9, 10, 11, 12, 13, 14]) : cw_fr ws u := cw_fr_of hf (by decide)
theorem kt_no {k : Int32} {ku : Nat → Nat} (h : k < nI 0) : ¬ ((nI 0 ≤ k ∧ k ≤ nI 5) ∧ (∃ i, i < 6 ∧ k = nI i ∧ ku i ≠ 0)) := fun z => absurd h (Int32.not_lt.mpr z.1.1)
theorem kt_no2 {k : Int32} {ku : Nat → Nat} (h : k ≥ nI 6) : ¬ ((nI 0 ≤ k ∧ k ≤ nI 5) ∧ (∃ i, i < 6 ∧ k = nI i ∧ ku i ≠ 0)) := fun z => by
  have h1 : nI 6 ≤ nI 5 := Int32.le_trans h z.1.2
  exact absurd ((nI_leI (by omega) (by omega)).mp h1) (by omega)
theorem kt_no3 {kx : Nat} {ku : Nat → Nat} (hk : kx < 6) (h : ku kx = 0) : ¬ ((nI 0 ≤ nI kx ∧ nI kx ≤ nI 5) ∧ (∃ i, i < 6 ∧ nI kx = nI i ∧ ku i ≠ 0)) := fun z => by
  obtain ⟨i, h1, h2, h3⟩ := z.2
  have e := (nI_eq (by omega) (by omega)).mp h2
  subst e
  exact h3 h
theorem kt_yes {kx : Nat} {ku : Nat → Nat} (hk : kx < 6) (h : ku kx ≠ 0) : (nI 0 ≤ nI kx ∧ nI kx ≤ nI 5) ∧ (∃ i, i < 6 ∧ nI kx = nI i ∧ ku i ≠ 0) := ⟨⟨(nI_leI (by omega) (by omega)).mpr (by omega), (nI_leI (by omega) (by omega)).mpr (by omega)⟩, kx, hk, rfl, h⟩
theorem tl_X6_kept_36 : Cond.classLink RX6 36 "java/lang/IllegalArgumentException" ∈ wsX6_kept := by decide +kernel
theorem ti_X6_kept_36 : Cond.initialized "java/lang/IllegalArgumentException" ∈ wsX6_kept := by decide +kernel
theorem in_X6_kept_X6 : ∀ w ∈ u_ws RX6 TX6 5, w ∈ wsX6_kept := by decide +kernel
theorem ml_X6_kept_27 : Cond.fieldLink RX6 27 "WayTimes" "trees" "[LWayTimes$Tree;" ∈ wsX6_kept := by decide +kernel
theorem in_X6_kept_X4 : ∀ w ∈ u_ws RX4 TX4 4, w ∈ wsX6_kept := by decide +kernel
theorem ml_X6_kept_216 : Cond.fieldLink RX6 216 "WayTimes$Tree" "unit" "LWayTimes$Unit;" ∈ wsX6_kept := by decide +kernel
theorem tl_X6_kept_225 : Cond.classLink RX6 225 "java/lang/ArrayIndexOutOfBoundsException" ∈ wsX6_kept := by decide +kernel
theorem ti_X6_kept_225 : Cond.initialized "java/lang/ArrayIndexOutOfBoundsException" ∈ wsX6_kept := by decide +kernel
theorem ml_X6_kept_10 : Cond.fieldLink RX6 10 "WayTimes" "net" "LWayTimes$Net;" ∈ wsX6_kept := by decide +kernel
theorem in_X6_kept_X0 : ∀ w ∈ u_ws RX0 TX0 5, w ∈ wsX6_kept := by decide +kernel
theorem ml_X6_kept_222 : Cond.fieldLink RX6 222 "WayTimes$Net" "nodes" "I" ∈ wsX6_kept := by decide +kernel
theorem ml_X6_kept_230 : Cond.fieldLink RX6 230 "WayTimes$Tree" "seconds" "[J" ∈ wsX6_kept := by decide +kernel
theorem in_X6_unit_X6 : ∀ w ∈ u_ws RX6 TX6 5, w ∈ wsX6_unit := by decide +kernel
theorem ml_X6_unit_10 : Cond.fieldLink RX6 10 "WayTimes" "net" "LWayTimes$Net;" ∈ wsX6_unit := by decide +kernel
theorem in_X6_unit_X0 : ∀ w ∈ u_ws RX0 TX0 5, w ∈ wsX6_unit := by decide +kernel
theorem ml_X6_unit_126 : Cond.fieldLink RX6 126 "WayTimes$Net" "units" "Ljava/util/ArrayList;" ∈ wsX6_unit := by decide +kernel
theorem dfX5_X6_unit : ∀ j, j < 5 → defaultValue (tyX5 j) = vp_V [.int 0, .int 0, .int 0, .int 0, .int 0] j := fun j hj => by
  rcases (show j = 0 ∨ j = 1 ∨ j = 2 ∨ j = 3 ∨ j = 4 by omega) with rfl | rfl | rfl | rfl | rfl <;> rfl
theorem nc_X6_unit_131 : Cond.classLink RX6 131 RX5 ∈ wsX6_unit := by decide +kernel
theorem ni_X6_unit_X5 : Cond.instantiable RX5 5 ∈ wsX6_unit := by decide +kernel
theorem nn_X6_unit_X5 : Cond.initialized RX5 ∈ wsX6_unit := by decide +kernel
theorem in_X6_unit_X5 : ∀ w ∈ u_ws RX5 TX5 5, w ∈ wsX6_unit := by decide +kernel
theorem ci_X6_unit_X5 : Cond.initialized RX5 ∈ wsX6_unit := by decide +kernel
theorem cj_X6_unit_X5_init : Cond.instanceMethod yX5_init ∈ wsX6_unit := by decide +kernel
theorem ck_X6_unit_133 : Cond.methodLink RX6 133 yX5_init ∈ wsX6_unit := by decide +kernel
theorem tl_X6_unit_79 : Cond.classLink RX6 79 "java/lang/UnsupportedOperationException" ∈ wsX6_unit := by decide +kernel
theorem ti_X6_unit_79 : Cond.initialized "java/lang/UnsupportedOperationException" ∈ wsX6_unit := by decide +kernel
set_option maxHeartbeats 4000000 in
set_option maxRecDepth 100000 in
/-- X6_kept -/
theorem c_X6_kept (l : Launch) {D : va_G} {ay : Nat → ClassId} {base : Nat} {Gx : State → Prop} {tE mi : Nat} {ws : va_W} {ax : Nat} {n P U : Nat} {d fr to pe uv : Nat → Nat → Nat} {ku ks kt : Nat → Nat} {sk : Nat → Nat → Nat} {wl : Nat} {wp : Nat → Nat} {k v : Int32} (hl9 : l.stackTraces = false) (hG2 : ∀ U, Gx U → vh_G2 base tE mi U) (hS : cw_St ay ws ax tE n P U d fr to pe uv ku ks kt sk wl wp) : vx_Met l yX6_kept wsX6_kept ({ frames := 8, cells := 8, slots := 60, locals := 210 } : Room) (fun a9 s9 => va_Pc [.ref ax, .int k, .int v] (vg_B D ay base Gx ws) a9 s9 ∧ vs_W s9) (va_Ql (fun r u => u = ws ∧ ∃ kx vx : Nat, k = nI kx ∧ kx < 6 ∧ ku kx ≠ 0 ∧ v = nI vx ∧ vx < n ∧ r = vs_rep (sk kx vx)) (vg_B D ay base Gx) (vg_A base)) (vg_XC D ay base Gx ws (fun E => (E = "java/lang/IllegalArgumentException" ∧ ¬ ((nI 0 ≤ k ∧ k ≤ nI 5) ∧ (∃ i, i < 6 ∧ k = nI i ∧ ku i ≠ 0))) ∨ (E = "java/lang/ArrayIndexOutOfBoundsException" ∧ ((nI 0 ≤ k ∧ k ≤ nI 5) ∧ (∃ i, i < 6 ∧ k = nI i ∧ ku i ≠ 0)) ∧ ¬ cm_in v n))) 8 60 (vg_A base) := by
  refine vg_metX (cc := cX6_kept) (maxL := 3) (ret := (some .long)) (own := RX6) (lv := [(0, .ref ax), (1, .int k), (2, .int v)]) (by decide) rfl rfl (Nat.le_of_ble_eq_true rfl) rfl ?_
  intro p e s m args below meth c X hT hWm9
  obtain ⟨aN, asr, aTs, aWB, el, qp, ua, uq, fb, hS⟩ := hS
  have hS0 := hS
  obtain ⟨h0, hI, hN, hTT, hK, h16, hwl, hwp, h56⟩ := hS0
  have hB := cw_N_b hN
  have hN0 := hN
  obtain ⟨aP, aU, aH, aO, aE1, aE2, fh, fo, n1, n4, n5, ⟨⟨⟨mo1, n2⟩, alt1⟩, ⟨⟨mo2, n3⟩, alt2⟩, hap, hp, hu, hqp, huq, hn, hP, hU⟩, hch⟩ := hN
  refine vg_iload_n X dX6_kept_0 1 rfl rfl ?_
  refine vg_if_lt X 22 dX6_kept_1 (by decide) (fun c1 => ?_) (fun c1 => ?_)
  · skip
    obtain ⟨sa22, hsa22⟩ := hWm9.1 (220, "nothing is kept there") (by decide)
    exact vg_throwS X (cls := "java/lang/IllegalArgumentException") (names := ["java/lang/RuntimeException", "java/lang/Exception"]) hT hl9 (by decide +kernel) (by decide +kernel) tl_X6_kept_36 ti_X6_kept_36 hsa22 (vs_hat hWm9 (by decide +kernel)) (vs_gd (by decide +kernel) rfl rfl) (hG2 s X.2.2.2.2.2.2.2.2.2.2).2.1 (hG2 s X.2.2.2.2.2.2.2.2.2.2).2.2 dX6_kept_22 dX6_kept_25 dX6_kept_26 dX6_kept_28 dX6_kept_31 (Nat.le_of_ble_eq_true rfl) (Nat.le_of_ble_eq_true rfl) (Nat.le_of_ble_eq_true rfl) (Nat.le_of_ble_eq_true rfl) (Or.inl ⟨rfl, kt_no c1⟩) (Nat.le_of_ble_eq_true rfl) (Nat.le_of_ble_eq_true rfl)
  · skip
    refine vg_iload_n X dX6_kept_4 1 rfl rfl ?_
    refine vg_bipush X (nI 6) dX6_kept_5 (by decide) ?_
    refine vg_icmp_ge X 22 dX6_kept_7 (by decide) (fun c7 => ?_) (fun c7 => ?_)
    · skip
      obtain ⟨sa22, hsa22⟩ := hWm9.1 (220, "nothing is kept there") (by decide)
      exact vg_throwS X (cls := "java/lang/IllegalArgumentException") (names := ["java/lang/RuntimeException", "java/lang/Exception"]) hT hl9 (by decide +kernel) (by decide +kernel) tl_X6_kept_36 ti_X6_kept_36 hsa22 (vs_hat hWm9 (by decide +kernel)) (vs_gd (by decide +kernel) rfl rfl) (hG2 s X.2.2.2.2.2.2.2.2.2.2).2.1 (hG2 s X.2.2.2.2.2.2.2.2.2.2).2.2 dX6_kept_22 dX6_kept_25 dX6_kept_26 dX6_kept_28 dX6_kept_31 (Nat.le_of_ble_eq_true rfl) (Nat.le_of_ble_eq_true rfl) (Nat.le_of_ble_eq_true rfl) (Nat.le_of_ble_eq_true rfl) (Or.inl ⟨rfl, kt_no2 c7⟩) (Nat.le_of_ble_eq_true rfl) (Nat.le_of_ble_eq_true rfl)
    · skip
      obtain ⟨kx, hkx, ekx⟩ := cm_in_yes c1 (Int32.not_le.mp c7) (by decide)
      subst ekx
      obtain ⟨ta, ts, f9, m15, ht9⟩ := hTT
      obtain ⟨ef, fs, tq, tS, tk⟩ := ht9 kx hkx
      refine vg_aload_n X dX6_kept_10 0 rfl rfl ?_
      refine vg_get X in_X6_kept_X6 0 h0 rfl 2 (by decide) ml_X6_kept_27 rfl rfl dX6_kept_11 ?_
      refine vg_iload_n X dX6_kept_14 1 rfl rfl ?_
      refine vg_aaldT X (.ref (ta kx)) 15 m15 rfl (by omega) (by decide) (by rw [ef]; rfl) dX6_kept_15 ?_
      by_cases q0 : ku kx = 0
      · rw [if_pos q0] at tq
        refine vg_get X in_X6_kept_X4 (17 + 2 * kx) tq rfl 1 (by decide) ml_X6_kept_216 rfl rfl dX6_kept_16 ?_
        refine vg_nonnullN X dX6_kept_19 ?_
        obtain ⟨sa22, hsa22⟩ := hWm9.1 (220, "nothing is kept there") (by decide)
        exact vg_throwS X (cls := "java/lang/IllegalArgumentException") (names := ["java/lang/RuntimeException", "java/lang/Exception"]) hT hl9 (by decide +kernel) (by decide +kernel) tl_X6_kept_36 ti_X6_kept_36 hsa22 (vs_hat hWm9 (by decide +kernel)) (vs_gd (by decide +kernel) rfl rfl) (hG2 s X.2.2.2.2.2.2.2.2.2.2).2.1 (hG2 s X.2.2.2.2.2.2.2.2.2.2).2.2 dX6_kept_22 dX6_kept_25 dX6_kept_26 dX6_kept_28 dX6_kept_31 (Nat.le_of_ble_eq_true rfl) (Nat.le_of_ble_eq_true rfl) (Nat.le_of_ble_eq_true rfl) (Nat.le_of_ble_eq_true rfl) (Or.inl ⟨rfl, kt_no3 hkx q0⟩) (Nat.le_of_ble_eq_true rfl) (Nat.le_of_ble_eq_true rfl)
      · rw [if_neg q0] at tq
        refine vg_get X in_X6_kept_X4 (17 + 2 * kx) tq rfl 1 (by decide) ml_X6_kept_216 rfl rfl dX6_kept_16 ?_
        refine vg_nonnull X 32 dX6_kept_19 (by decide) ?_
        refine vg_iload_n X dX6_kept_32 2 rfl rfl ?_
        refine vg_if_lt X 47 dX6_kept_33 (by decide) (fun c33 => ?_) (fun c33 => ?_)
        · skip
          obtain ⟨sa47, hsa47⟩ := hWm9.1 (227, "no such node") (by decide)
          exact vg_throwS X (cls := "java/lang/ArrayIndexOutOfBoundsException") (names := ["java/lang/IndexOutOfBoundsException", "java/lang/RuntimeException", "java/lang/Exception"]) hT hl9 (by decide +kernel) (by decide +kernel) tl_X6_kept_225 ti_X6_kept_225 hsa47 (vs_hat hWm9 (by decide +kernel)) (vs_gd (by decide +kernel) rfl rfl) (hG2 s X.2.2.2.2.2.2.2.2.2.2).2.1 (hG2 s X.2.2.2.2.2.2.2.2.2.2).2.2 dX6_kept_47 dX6_kept_50 dX6_kept_51 dX6_kept_53 dX6_kept_56 (Nat.le_of_ble_eq_true rfl) (Nat.le_of_ble_eq_true rfl) (Nat.le_of_ble_eq_true rfl) (Nat.le_of_ble_eq_true rfl) (Or.inr ⟨rfl, kt_yes hkx q0, cm_in_no c33 (by omega)⟩) (Nat.le_of_ble_eq_true rfl) (Nat.le_of_ble_eq_true rfl)
        · skip
          refine vg_iload_n X dX6_kept_36 2 rfl rfl ?_
          refine vg_aload_n X dX6_kept_37 0 rfl rfl ?_
          refine vg_get X in_X6_kept_X6 0 h0 rfl 0 (by decide) ml_X6_kept_10 rfl rfl dX6_kept_38 ?_
          refine vg_get X in_X6_kept_X0 1 n1 rfl 4 (by decide) ml_X6_kept_222 rfl rfl dX6_kept_41 ?_
          refine vg_icmp_lt X 57 dX6_kept_44 (by decide) (fun c44 => ?_) (fun c44 => ?_)
          · skip
            obtain ⟨vx, hvx, evx⟩ := cm_in_yes c33 c44 (by omega)
            subst evx
            refine vg_aload_n X dX6_kept_57 0 rfl rfl ?_
            refine vg_get X in_X6_kept_X6 0 h0 rfl 2 (by decide) ml_X6_kept_27 rfl rfl dX6_kept_58 ?_
            refine vg_iload_n X dX6_kept_61 1 rfl rfl ?_
            refine vg_aaldT X (.ref (ta kx)) 15 m15 rfl (by omega) (by decide) (by rw [ef]; rfl) dX6_kept_62 ?_
            refine vg_get X in_X6_kept_X4 (17 + 2 * kx) tq rfl 0 (by decide) ml_X6_kept_230 rfl rfl dX6_kept_63 ?_
            refine vg_iload_n X dX6_kept_66 2 rfl rfl ?_
            refine vg_lald X (fs vx) (17 + 2 * kx + 1) tS rfl (by omega) (by decide) rfl dX6_kept_67 ?_
            exact vg_xret (vg_lret X rfl ⟨rfl, kx, vx, rfl, hkx, q0, rfl, hvx, (tk q0 vx hvx).1⟩ (Nat.le_of_ble_eq_true rfl) (Nat.le_of_ble_eq_true rfl) dX6_kept_68)
          · skip
            obtain ⟨sa47, hsa47⟩ := hWm9.1 (227, "no such node") (by decide)
            exact vg_throwS X (cls := "java/lang/ArrayIndexOutOfBoundsException") (names := ["java/lang/IndexOutOfBoundsException", "java/lang/RuntimeException", "java/lang/Exception"]) hT hl9 (by decide +kernel) (by decide +kernel) tl_X6_kept_225 ti_X6_kept_225 hsa47 (vs_hat hWm9 (by decide +kernel)) (vs_gd (by decide +kernel) rfl rfl) (hG2 s X.2.2.2.2.2.2.2.2.2.2).2.1 (hG2 s X.2.2.2.2.2.2.2.2.2.2).2.2 dX6_kept_47 dX6_kept_50 dX6_kept_51 dX6_kept_53 dX6_kept_56 (Nat.le_of_ble_eq_true rfl) (Nat.le_of_ble_eq_true rfl) (Nat.le_of_ble_eq_true rfl) (Nat.le_of_ble_eq_true rfl) (Or.inr ⟨rfl, kt_yes hkx q0, cm_in_no2 c44 (by omega)⟩) (Nat.le_of_ble_eq_true rfl) (Nat.le_of_ble_eq_true rfl)
set_option maxHeartbeats 4000000 in
set_option maxRecDepth 100000 in
/-- X6_unit -/
theorem c_X6_unit (l : Launch) {D : va_G} {ay : Nat → ClassId} {base : Nat} {Gx : State → Prop} {tE mi : Nat} {ws : va_W} {ax : Nat} {n P U : Nat} {d fr to pe uv : Nat → Nat → Nat} {ku ks kt : Nat → Nat} {sk : Nat → Nat → Nat} {wl : Nat} {wp : Nat → Nat} {v w h pf qf : Int32} (hl9 : l.stackTraces = false) (hG2 : ∀ U, Gx U → vh_G2 base tE mi U) (hS : cw_St ay ws ax tE n P U d fr to pe uv ku ks kt sk wl wp) : vx_Met l yX6_unit wsX6_unit ({ frames := 8, cells := 10, slots := 400, locals := 210 } : Room) (fun a9 s9 => va_Pc [.ref ax, .int v, .int w, .int h, .int pf, .int qf] (vg_B D ay base Gx ws) a9 s9 ∧ vs_W s9) (va_Qi (fun r u => ∃ vx wx hx px qx : Nat, v = nI vx ∧ vx < n ∧ w = nI wx ∧ wx ≤ 1000 ∧ h = nI hx ∧ hx ≤ 1000 ∧ pf = nI px ∧ 1 ≤ px ∧ px ≤ 20 ∧ qf = nI qx ∧ 1 ≤ qx ∧ qx ≤ 20 ∧ U < 12 ∧ cw_St ay u ax tE n P (U + 1) d fr to pe (va_up uv U (cu_new vx wx hx px qx)) ku ks kt sk wl wp ∧ cw_fr ws u ∧ r = nI U) (vg_B D ay base Gx) (vg_A base)) (vg_XC D ay base Gx ws (fun E => (E = "java/lang/IllegalArgumentException" ∧ ¬ cm_in v n) ∨ (E = "java/lang/IndexOutOfBoundsException" ∧ cm_in v n ∧ ¬ ((nI 0 ≤ w ∧ w ≤ nI 1000) ∧ (nI 0 ≤ h ∧ h ≤ nI 1000) ∧ (nI 1 ≤ pf ∧ pf ≤ nI 20) ∧ (nI 1 ≤ qf ∧ qf ≤ nI 20))) ∨ (E = "java/lang/UnsupportedOperationException" ∧ cm_in v n ∧ ((nI 0 ≤ w ∧ w ≤ nI 1000) ∧ (nI 0 ≤ h ∧ h ≤ nI 1000) ∧ (nI 1 ≤ pf ∧ pf ≤ nI 20) ∧ (nI 1 ≤ qf ∧ qf ≤ nI 20)) ∧ ¬ U < 12))) 10 400 (vg_A base) := by
  refine vg_metX (cc := cX6_unit) (maxL := 6) (ret := (some .int)) (own := RX6) (lv := [(0, .ref ax), (1, .int v), (2, .int w), (3, .int h), (4, .int pf), (5, .int qf)]) (by decide) rfl rfl (Nat.le_of_ble_eq_true rfl) rfl ?_
  intro p e s m args below meth c X hT hWm9
  obtain ⟨aN, asr, aTs, aWB, el, qp, ua, uq, fb, hS⟩ := hS
  have hS0 := hS
  obtain ⟨h0, hI, hN, hTT, hK, h16, hwl, hwp, h56⟩ := hS0
  have hB := cw_N_b hN
  have hN0 := hN
  have hNq := cw_N_q hN
  obtain ⟨⟨_, _, _, _, _, _, _, _⟩, hTTx⟩ := And.intro (hG2 s X.2.2.2.2.2.2.2.2.2.2).1 (hG2 s X.2.2.2.2.2.2.2.2.2.2).1.2.1
  obtain ⟨ft9, hTE⟩ := hTTx
  obtain ⟨aP, aU, aH, aO, aE1, aE2, fh, fo, n1, n4, n5, ⟨⟨⟨mo1, n2⟩, alt1⟩, ⟨⟨mo2, n3⟩, alt2⟩, hap, hp, hu, hqp, huq, hn, hP, hU⟩, hch⟩ := hN
  refine vg_aload_n X dX6_unit_0 0 rfl rfl ?_
  refine vg_iload_n X dX6_unit_1 1 rfl rfl ?_
  refine vg_callvX X (vg_runVX X vs_st hWm9 (c_X6_needNode l hl9 hG2 hS (x := v)) (cwV 1 X.2.2.2.2.1 gX6_unit_X6_needNode rfl rfl rfl (by decide +kernel) ⟨(Nat.le_of_ble_eq_true rfl), (Nat.le_of_ble_eq_true rfl)⟩) 0 h0 rfl rfl rfl (Nat.le_of_ble_eq_true rfl) dX6_unit_2 ⟨(Nat.le_of_ble_eq_true rfl), (Nat.le_of_ble_eq_true rfl)⟩) hT (fun E hE => Or.inl hE) (Nat.le_of_ble_eq_true rfl) (Nat.le_of_ble_eq_true rfl) (fun wz1 PP2 => ?_)
  obtain ⟨ew_v, vx, hvx, evx⟩ := PP2
  rw [ew_v]
  subst evx
  refine vg_iload_n X dX6_unit_5 2 rfl rfl ?_
  refine vg_iconst X (nI 0) dX6_unit_6 (by decide) ?_
  refine vg_sipush X (nI 1000) dX6_unit_7 (by decide) ?_
  refine vg_callvX X (vg_runSX X vs_st hWm9 (c_X6_needWithin l hl9 hG2 (x := w) (lo := nI 0) (hi := nI 1000)) (cwS 3 X.2.2.2.2.1 gX6_unit_X6_needWithin rfl rfl rfl (by decide +kernel) ⟨(Nat.le_of_ble_eq_true rfl), (Nat.le_of_ble_eq_true rfl)⟩) rfl rfl (Nat.le_of_ble_eq_true rfl) dX6_unit_10 ⟨(Nat.le_of_ble_eq_true rfl), (Nat.le_of_ble_eq_true rfl)⟩) hT (fun E hE => Or.inr (Or.inl ⟨hE.1, ⟨vx, hvx, rfl⟩, fun z9 => hE.2 z9.1⟩)) (Nat.le_of_ble_eq_true rfl) (Nat.le_of_ble_eq_true rfl) (fun wz4 PP5 => ?_)
  obtain ⟨ew_w, hr_w⟩ := PP5
  rw [ew_w]
  refine vg_iload_n X dX6_unit_13 3 rfl rfl ?_
  refine vg_iconst X (nI 0) dX6_unit_14 (by decide) ?_
  refine vg_sipush X (nI 1000) dX6_unit_15 (by decide) ?_
  refine vg_callvX X (vg_runSX X vs_st hWm9 (c_X6_needWithin l hl9 hG2 (x := h) (lo := nI 0) (hi := nI 1000)) (cwS 3 X.2.2.2.2.1 gX6_unit_X6_needWithin rfl rfl rfl (by decide +kernel) ⟨(Nat.le_of_ble_eq_true rfl), (Nat.le_of_ble_eq_true rfl)⟩) rfl rfl (Nat.le_of_ble_eq_true rfl) dX6_unit_18 ⟨(Nat.le_of_ble_eq_true rfl), (Nat.le_of_ble_eq_true rfl)⟩) hT (fun E hE => Or.inr (Or.inl ⟨hE.1, ⟨vx, hvx, rfl⟩, fun z9 => hE.2 z9.2.1⟩)) (Nat.le_of_ble_eq_true rfl) (Nat.le_of_ble_eq_true rfl) (fun wz7 PP8 => ?_)
  obtain ⟨ew_h, hr_h⟩ := PP8
  rw [ew_h]
  refine vg_iload X dX6_unit_21 4 rfl ?_
  refine vg_iconst X (nI 1) dX6_unit_23 (by decide) ?_
  refine vg_bipush X (nI 20) dX6_unit_24 (by decide) ?_
  refine vg_callvX X (vg_runSX X vs_st hWm9 (c_X6_needWithin l hl9 hG2 (x := pf) (lo := nI 1) (hi := nI 20)) (cwS 3 X.2.2.2.2.1 gX6_unit_X6_needWithin rfl rfl rfl (by decide +kernel) ⟨(Nat.le_of_ble_eq_true rfl), (Nat.le_of_ble_eq_true rfl)⟩) rfl rfl (Nat.le_of_ble_eq_true rfl) dX6_unit_26 ⟨(Nat.le_of_ble_eq_true rfl), (Nat.le_of_ble_eq_true rfl)⟩) hT (fun E hE => Or.inr (Or.inl ⟨hE.1, ⟨vx, hvx, rfl⟩, fun z9 => hE.2 z9.2.2.1⟩)) (Nat.le_of_ble_eq_true rfl) (Nat.le_of_ble_eq_true rfl) (fun wz10 PP11 => ?_)
  obtain ⟨ew_pf, hr_pf⟩ := PP11
  rw [ew_pf]
  refine vg_iload X dX6_unit_29 5 rfl ?_
  refine vg_iconst X (nI 1) dX6_unit_31 (by decide) ?_
  refine vg_bipush X (nI 20) dX6_unit_32 (by decide) ?_
  refine vg_callvX X (vg_runSX X vs_st hWm9 (c_X6_needWithin l hl9 hG2 (x := qf) (lo := nI 1) (hi := nI 20)) (cwS 3 X.2.2.2.2.1 gX6_unit_X6_needWithin rfl rfl rfl (by decide +kernel) ⟨(Nat.le_of_ble_eq_true rfl), (Nat.le_of_ble_eq_true rfl)⟩) rfl rfl (Nat.le_of_ble_eq_true rfl) dX6_unit_34 ⟨(Nat.le_of_ble_eq_true rfl), (Nat.le_of_ble_eq_true rfl)⟩) hT (fun E hE => Or.inr (Or.inl ⟨hE.1, ⟨vx, hvx, rfl⟩, fun z9 => hE.2 z9.2.2.2⟩)) (Nat.le_of_ble_eq_true rfl) (Nat.le_of_ble_eq_true rfl) (fun wz13 PP14 => ?_)
  obtain ⟨ew_qf, hr_qf⟩ := PP14
  rw [ew_qf]
  have hRU := And.intro hr_w (And.intro hr_h (And.intro hr_pf hr_qf))
  obtain ⟨wx, lwx, hwx, ewx⟩ := cm_rng hr_w (a := 0) (b := 1000) (by decide) (by decide)
  subst ewx
  obtain ⟨hx, lhx, hhx, ehx⟩ := cm_rng hr_h (a := 0) (b := 1000) (by decide) (by decide)
  subst ehx
  obtain ⟨px, lpx, hpx, epx⟩ := cm_rng hr_pf (a := 1) (b := 20) (by decide) (by decide)
  subst epx
  obtain ⟨qx, lqx, hqx, eqx⟩ := cm_rng hr_qf (a := 1) (b := 20) (by decide) (by decide)
  subst eqx
  refine vg_aload_n X dX6_unit_37 0 rfl rfl ?_
  refine vg_get X in_X6_unit_X6 0 h0 rfl 0 (by decide) ml_X6_unit_10 rfl rfl dX6_unit_38 ?_
  refine vg_get X in_X6_unit_X0 1 n1 rfl 1 (by decide) ml_X6_unit_126 rfl rfl dX6_unit_41 ?_
  refine vg_calli (vg_runV X (c_Jx4a65c_size_8abf5 l (cl_at_L ⟨⟨mo2, n3⟩, alt2⟩)) (cwV 0 X.2.2.2.2.1 gX6_unit_Jx4a65c_size_8abf5 rfl rfl rfl (by decide +kernel) ⟨Nat.le_of_ble_eq_true rfl, Nat.le_of_ble_eq_true rfl⟩) 3 n3 rfl rfl rfl (Nat.le_of_ble_eq_true rfl) dX6_unit_44 ⟨(Nat.le_of_ble_eq_true rfl), (Nat.le_of_ble_eq_true rfl)⟩) (fun rr18 wz16 PP17 => ?_)
  obtain ⟨ew, er⟩ := PP17
  rw [ew, er]
  refine vg_bipush X (nI 12) dX6_unit_47 (by decide) ?_
  refine vg_icmp_lt X 62 dX6_unit_49 (by decide) (fun c49 => ?_) (fun c49 => ?_)
  · have c49 : U < 12 := (nI_ltI (by omega) (by omega)).mp c49
    refine vg_aload_n X dX6_unit_62 0 rfl rfl ?_
    refine vg_get X in_X6_unit_X6 0 h0 rfl 0 (by decide) ml_X6_unit_10 rfl rfl dX6_unit_63 ?_
    refine vg_get X in_X6_unit_X0 1 n1 rfl 1 (by decide) ml_X6_unit_126 rfl rfl dX6_unit_66 ?_
    refine vg_new X (ci := 8) (C := RX5) (T := TX5) (N := 5) [.int 0, .int 0, .int 0, .int 0, .int 0] in_X6_unit_X5 tyX5 tyX5_ok nc_X6_unit_131 ni_X6_unit_X5 nn_X6_unit_X5 rfl dfX5_X6_unit (Nat.le_of_ble_eq_true rfl) (Nat.le_of_ble_eq_true rfl) dX6_unit_69 (fun aq19 wz20 ez21 => ?_)
    have fh22 : wz20[ws.length]? = some (aq19, .inr (8, [.int 0, .int 0, .int 0, .int 0, .int 0])) := vg_pl ez21
    refine vg_dup X dX6_unit_72 rfl ?_
    refine vg_iload_n X dX6_unit_73 1 rfl rfl ?_
    refine vg_iload_n X dX6_unit_74 2 rfl rfl ?_
    refine vg_iload_n X dX6_unit_75 3 rfl rfl ?_
    refine vg_iload X dX6_unit_76 4 rfl ?_
    refine vg_iload X dX6_unit_78 5 rfl ?_
    refine vg_callv (vg_runI X (c_X5_init l fh22 (v := vx) (w := wx) (h := hx) (f := px) (g := qx)) (cwI 5 X.2.2.2.2.1 gX6_unit_X5_init rfl rfl rfl (X.2.2.2.2.1 _ ci_X6_unit_X5) (X.2.2.2.2.1 _ ck_X6_unit_133) (X.2.2.2.2.1 _ cj_X6_unit_X5_init) rfl (by decide +kernel) ⟨(Nat.le_of_ble_eq_true rfl), (Nat.le_of_ble_eq_true rfl)⟩) rfl rfl (Nat.le_of_ble_eq_true rfl) dX6_unit_80 ⟨(Nat.le_of_ble_eq_true rfl), (Nat.le_of_ble_eq_true rfl)⟩) (fun wz23 PP24 => ?_)
    obtain ⟨gu, gf⟩ := PP24
    have he := vg_gr_he ez21 (vg_gr_fr gf)
    have hN1 := cw_N_mono hN0 he
    have hlw : 56 ≤ wz23.length := by rw [gf.1, vg_plen ez21]; omega
    obtain ⟨bP, bU, bH, bO, bE1, bE2, gh, go, b1, b4, b5, bL, bch⟩ := hN1
    have eU := (he _ _ n1).symm.trans b1
    cases eU
    have bL0 := bL
    obtain ⟨⟨⟨bo1, b2⟩, balt1⟩, ⟨⟨bo2, b3⟩, balt2⟩, bap, bp, bu, bqp, buq, bn, bP9, bU9⟩ := bL
    unfold cu_P at gu
    refine vg_useD (fun hD9 => ?_)
    refine vg_calli (vg_runV X (c_add l b3 balt2 (by omega) (fun i hi => ⟨_, _, (bu i hi).2.1⟩) (ci := 8) rfl (fun U9 hU9 => (hG2 U9 hU9).1.2.2.2.2.2.2.2) (fun U9 hU9 => (hG2 U9 hU9).1) gu hlw (by decide)) (cwV 1 X.2.2.2.2.1 gX6_unit_Jx4a65c_add_9ea2d rfl rfl rfl (by decide +kernel) ⟨Nat.le_of_ble_eq_true rfl, Nat.le_of_ble_eq_true rfl⟩) 3 b3 rfl rfl rfl (Nat.le_of_ble_eq_true rfl) dX6_unit_83 ⟨(Nat.le_of_ble_eq_true rfl), (Nat.le_of_ble_eq_true rfl)⟩) (fun rr27 wz25 PP26 => ?_)
    obtain ⟨er2, had⟩ := PP26
    have gg := cl_ad_gr had
    obtain ⟨aE3, hL3⟩ := cw_L_addU bL0 had h56 (vv := cu_new vx wx hx px qx) gu ⟨by show wx ≤ 1000; omega, by show hx ≤ 1000; omega, by show 1 ≤ px; omega, by show px ≤ 20; omega, by show 1 ≤ qx; omega, by show qx ≤ 20; omega, by show vx < 200; omega⟩ (by show vx < n; omega) c49 hNq.2
    have F0 : ∀ j, j < 56 → j ≠ 3 → wz25[j]? = wz23[j]? := fun j q1 q2 => cl_low hD9 hTE balt2 gg hlw q1 q2
    have F1 : ∀ (j : Nat) (y : Nat × va_E), j < 56 → j ≠ 3 → ws[j]? = some y → wz25[j]? = some y := fun j y q1 q2 q3 => (F0 j q1 q2).trans (he j y q3)
    have F2 : ∀ j, j < 56 → j ≠ 3 → wz25[j]? = ws[j]? := fun j q1 q2 => by obtain ⟨y, hy⟩ : ∃ y, ws[j]? = some y := ⟨_, List.getElem?_eq_getElem (by omega)⟩; rw [hy]; exact F1 j y q1 q2 hy
    have hN3 : cw_N ay wz25 aN tE n P (U + 1) el qp (va_up ua U aq19) (va_up uq U ws.length) d fr to pe (va_up uv U (cu_new vx wx hx px qx)) := ⟨aP, aU, aH, aO, _, aE3, gh, go, (F0 1 (by decide) (by decide)).trans b1, (F0 4 (by decide) (by decide)).trans b4, (F0 5 (by decide) (by decide)).trans b5, hL3, bch⟩
    have hl3 := hL3.2.1
    obtain ⟨⟨mo3, y3⟩, alt3⟩ := id hl3
    refine vg_pop X dX6_unit_86 rfl ?_
    refine vg_aload_n X dX6_unit_87 0 rfl rfl ?_
    refine vg_get X in_X6_unit_X6 0 (F1 _ _ (by decide) (by decide) h0) rfl 0 (by decide) ml_X6_unit_10 rfl rfl dX6_unit_88 ?_
    refine vg_get X in_X6_unit_X0 1 ((F0 1 (by decide) (by decide)).trans b1) rfl 1 (by decide) ml_X6_unit_126 rfl rfl dX6_unit_91 ?_
    refine vg_calli (vg_runV X (c_Jx4a65c_size_8abf5 l (cl_at_L hl3)) (cwV 0 X.2.2.2.2.1 gX6_unit_Jx4a65c_size_8abf5 rfl rfl rfl (by decide +kernel) ⟨Nat.le_of_ble_eq_true rfl, Nat.le_of_ble_eq_true rfl⟩) 3 y3 rfl rfl rfl (Nat.le_of_ble_eq_true rfl) dX6_unit_94 ⟨(Nat.le_of_ble_eq_true rfl), (Nat.le_of_ble_eq_true rfl)⟩) (fun rr30 wz28 PP29 => ?_)
    obtain ⟨ew, er⟩ := PP29
    rw [ew, er]
    refine vg_iconst X (nI 1) dX6_unit_97 (by decide) ?_
    refine vg_isub X (nI U) dX6_unit_98 (by rw [pk_sub (by omega), Nat.add_sub_cancel]) ?_
    exact vg_xret (vg_iret X rfl ⟨vx, wx, hx, px, qx, rfl, hvx, rfl, by omega, rfl, by omega, rfl, by omega, by omega, rfl, by omega, by omega, c49, ⟨_, _, _, _, _, _, _, _, _, F1 _ _ (by decide) (by decide) h0, cs_I_f6 hI (fun j q1 q2 => F2 j (by omega) (by omega)), hN3, ct_T_ua (ct_T_fr hTT (fun j hj => F2 j (by omega) (by omega))) (fun k9 hk9 q0 => vu_n (by have := (hK k9 hk9 q0).1; omega)), fun k9 hk9 q0 => ⟨by have := (hK k9 hk9 q0).1; omega, (hK k9 hk9 q0).2⟩, F1 _ _ (by decide) (by decide) h16, hwl, hwp, Nat.le_trans hlw gg.1⟩, ⟨by have := gg.1; have := gf.1; have := vg_plen ez21; omega, fun j q1 q2 => F2 j (by omega) (by omega)⟩, rfl⟩ (Nat.le_of_ble_eq_true rfl) (Nat.le_of_ble_eq_true rfl) dX6_unit_99)
  · have c49 : ¬ U < 12 := fun z => c49 ((nI_ltI (by omega) (by omega)).mpr z)
    obtain ⟨sa52, hsa52⟩ := hWm9.1 (129, "no room for a unit") (by decide)
    exact vg_throwS X (cls := "java/lang/UnsupportedOperationException") (names := ["java/lang/RuntimeException", "java/lang/Exception"]) hT hl9 (by decide +kernel) (by decide +kernel) tl_X6_unit_79 ti_X6_unit_79 hsa52 (vs_hat hWm9 (by decide +kernel)) (vs_gd (by decide +kernel) rfl rfl) (hG2 s X.2.2.2.2.2.2.2.2.2.2).2.1 (hG2 s X.2.2.2.2.2.2.2.2.2.2).2.2 dX6_unit_52 dX6_unit_55 dX6_unit_56 dX6_unit_58 dX6_unit_61 (Nat.le_of_ble_eq_true rfl) (Nat.le_of_ble_eq_true rfl) (Nat.le_of_ble_eq_true rfl) (Nat.le_of_ble_eq_true rfl) (Or.inr (Or.inr ⟨rfl, ⟨vx, hvx, rfl⟩, hRU, c49⟩)) (Nat.le_of_ble_eq_true rfl) (Nat.le_of_ble_eq_true rfl)
