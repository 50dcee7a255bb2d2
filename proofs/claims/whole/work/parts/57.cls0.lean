/-- the class's whole state, with the addresses and places of its cells -/
def cw_S (ay : Nat → ClassId) (ws : va_W) (ax tE aN asr aTs aWB : Nat) (el qp ua uq : Nat → Nat) (fb : Nat → Int32) (n P U : Nat) (d fr to pe uv : Nat → Nat → Nat) (ku ks kt : Nat → Nat) (sk : Nat → Nat → Nat) (wl : Nat) (wp : Nat → Nat) : Prop :=
  ws[0]? = some (ax, .inr (9, [.ref aN, .ref asr, .ref aTs, .ref aWB, .int (nI wl)])) ∧ cs_I ay ws asr aN ∧ cw_N ay ws aN tE n P U el qp ua uq d fr to pe uv ∧ ct_T ay ws aTs n ua ku ks kt sk ∧ ct_k n U ku ks kt ∧ ws[16]? = some (aWB, .inl (ay 0, 150, .inl fb)) ∧ wl ≤ 150 ∧ (∀ j, j < wl → fb j = nI (wp j)) ∧ 56 ≤ ws.length
/-- the class's whole state -/
def cw_St (ay : Nat → ClassId) (ws : va_W) (ax tE n P U : Nat) (d fr to pe uv : Nat → Nat → Nat) (ku ks kt : Nat → Nat) (sk : Nat → Nat → Nat) (wl : Nat) (wp : Nat → Nat) : Prop :=
  ∃ (aN asr aTs aWB : Nat) (el qp ua uq : Nat → Nat) (fb : Nat → Int32), cw_S ay ws ax tE aN asr aTs aWB el qp ua uq fb n P U d fr to pe uv ku ks kt sk wl wp
/-- the reference's cells and the law's are as they were -/
def cw_fr (ws u : va_W) : Prop := ws.length ≤ u.length ∧ ∀ j, 29 ≤ j → j < 56 → u[j]? = ws[j]?
theorem cw_fr_rf (ws : va_W) : cw_fr ws ws := ⟨Nat.le_refl _, fun _ _ _ => rfl⟩
theorem cw_fr_tr {ws u v : va_W} (h : cw_fr ws u) (h2 : cw_fr u v) : cw_fr ws v := ⟨Nat.le_trans h.1 h2.1, fun j q1 q2 => (h2.2 j q1 q2).trans (h.2 j q1 q2)⟩
theorem cw_fr_of {ws u : va_W} {L : List Nat} (h : vg_fr ws u L) (hL : ∀ j ∈ L, j < 29 ∨ 56 ≤ j) : cw_fr ws u := ⟨Nat.le_of_eq h.1.symm, fun j q1 q2 => h.2 j (fun z => by have := hL j z; omega)⟩
theorem cs_I_f6 {ay : Nat → ClassId} {ws u : va_W} {asr aN : Nat} (h : cs_I ay ws asr aN) (hf : ∀ j, 6 ≤ j → j < 15 → u[j]? = ws[j]?) : cs_I ay u asr aN := by
  obtain ⟨aq, aC, aW, aK, aT, k0, fc, fw, fk, ft, hn, pl, key, h6, h11, h12, h13, h14, hQ⟩ := h
  exact ⟨aq, aC, aW, aK, aT, k0, fc, fw, fk, ft, hn, pl, key, (hf 6 (by decide) (by decide)).trans h6, (hf 11 (by decide) (by decide)).trans h11, (hf 12 (by decide) (by decide)).trans h12, (hf 13 (by decide) (by decide)).trans h13, (hf 14 (by decide) (by decide)).trans h14, cq_St_fr hQ (hf 7 (by decide) (by decide)) (hf 8 (by decide) (by decide)) (hf 9 (by decide) (by decide)) (hf 10 (by decide) (by decide))⟩
theorem vg_oo {a b ci cj : Nat} {f g : List Value} (h : ci ≠ cj) : ((a, .inr (ci, f)) : Nat × va_E) ≠ (b, .inr (cj, g)) := fun z => h (Prod.mk.inj (Sum.inr.inj (Prod.mk.inj z).2)).1
theorem ct_T_fr {ay : Nat → ClassId} {ws u : va_W} {aTs n : Nat} {ua ku ks kt : Nat → Nat} {sk : Nat → Nat → Nat} (h : ct_T ay ws aTs n ua ku ks kt sk) (hf : ∀ j, j = 15 ∨ (17 ≤ j ∧ j < 29) → u[j]? = ws[j]?) : ct_T ay u aTs n ua ku ks kt sk := by
  obtain ⟨ta, ts, f, h15, hk⟩ := h
  refine ⟨ta, ts, f, (hf 15 (by omega)).trans h15, fun k h6 => ?_⟩
  obtain ⟨g1, fs, g2, g3, g4⟩ := hk k h6
  exact ⟨g1, fs, (hf _ (by omega)).trans g2, (hf _ (by omega)).trans g3, g4⟩
theorem ct_T_ua {ay : Nat → ClassId} {ws : va_W} {aTs n : Nat} {ua ua2 ku ks kt : Nat → Nat} {sk : Nat → Nat → Nat} (h : ct_T ay ws aTs n ua ku ks kt sk) (he : ∀ k, k < 6 → ku k ≠ 0 → ua2 (ku k - 1) = ua (ku k - 1)) : ct_T ay ws aTs n ua2 ku ks kt sk := by
  obtain ⟨ta, ts, f, h15, hk⟩ := h
  refine ⟨ta, ts, f, h15, fun k h6 => ?_⟩
  obtain ⟨g1, fs, g2, g3, g4⟩ := hk k h6
  refine ⟨g1, fs, ?_, g3, g4⟩
  by_cases c9 : ku k = 0
  · rw [if_pos c9]; rw [if_pos c9] at g2; exact g2
  · rw [if_neg c9, he k h6 c9]; rw [if_neg c9] at g2; exact g2
theorem cw_St_fr {ay : Nat → ClassId} {ws u : va_W} {ax tE : Nat} {n P U : Nat} {d fr to pe uv : Nat → Nat → Nat} {ku ks kt : Nat → Nat} {sk : Nat → Nat → Nat} {wl : Nat} {wp : Nat → Nat} (h : cw_St ay ws ax tE n P U d fr to pe uv ku ks kt sk wl wp) (hl : ws.length ≤ u.length) (hf : ∀ j, j < 29 ∨ 56 ≤ j → u[j]? = ws[j]?) : cw_St ay u ax tE n P U d fr to pe uv ku ks kt sk wl wp := by
  obtain ⟨aN, asr, aTs, aWB, el, qp, ua, uq, fb, h0, hI, hN, hT, hK, h16, hwl, hwp, h56⟩ := h
  exact ⟨aN, asr, aTs, aWB, el, qp, ua, uq, fb, (hf 0 (by omega)).trans h0, cs_I_f6 hI (fun j q1 q2 => hf j (by omega)), cw_N_fr hN (fun j q1 q2 => hf j (by omega)) (fun j q1 => hf j (by omega)), ct_T_fr hT (fun j hj => hf j (by omega)), hK, (hf 16 (by omega)).trans h16, hwl, hwp, by omega⟩
theorem cw_N_R {ay : Nat → ClassId} {ws : va_W} {aN tE n P U : Nat} {el qp ua uq : Nat → Nat} {d fr to pe uv : Nat → Nat → Nat} (h : cw_N ay ws aN tE n P U el qp ua uq d fr to pe uv) : cm_R n P U d fr to pe uv := by
  obtain ⟨aP, aU, aH, aO, aE1, aE2, fh, fo, h1, h4, h5, ⟨l1, l2, l3, l4, l5, l6, l7, l8, l9, l10⟩, c1⟩ := h
  exact ⟨l8, l9, l10, fun i hi => (l4 i hi).2.2, fun j hj => (l5 j hj).2.2⟩
theorem vu_id {α : Type} (f : Nat → α) (i : Nat) : va_up f i (f i) = f := funext fun j => by
  by_cases c9 : j = i
  · subst c9; exact vu_s
  · exact vu_n c9
/-- one piece is another now: its four cells alone have changed -/
theorem cw_N_pu {ay : Nat → ClassId} {ws u : va_W} {aN tE n P U : Nat} {el qp ua uq : Nat → Nat} {d fr to pe uv : Nat → Nat → Nat} {i : Nat} {di f2 t2 p2 : Nat → Nat} (h : cw_N ay ws aN tE n P U el qp ua uq d fr to pe uv) (hi : i < P) (hp : cp_P ay u (qp i) (el i) di f2 t2 p2) (hr : cp_R di f2 t2 p2) (e0 : di 0 = d i 0) (e1 : di 1 = d i 1) (hf : ∀ j, j < qp i ∨ qp i + 4 ≤ j → u[j]? = ws[j]?) : cw_N ay u aN tE n P U el qp ua uq (va_up d i di) (va_up fr i f2) (va_up to i t2) (va_up pe i p2) uv := by
  obtain ⟨aP, aU, aH, aO, aE1, aE2, fh, fo, h1, h4, h5, ⟨l1, l2, l3, l4, l5, l6, l7, l8, l9, l10⟩, c1⟩ := h
  have hq := (l4 i hi).1
  obtain ⟨_, _, _, _, _, _, k0, k1, k2, k3, _⟩ := (l4 i hi).2.1
  have hat : ∀ {q aL aE cnt : Nat} {el2 : Nat → Nat}, q < 56 → cl_at ay ws q aL tE aE cnt el2 → cl_at ay u q aL tE aE cnt el2 := fun {q aL aE cnt el2} hq9 hc => by
    obtain ⟨⟨mo, g1⟩, g2⟩ := hc
    refine ⟨⟨mo, (hf q (by omega)).trans g1⟩, g2.imp id (fun ⟨qE, cap, f, x1, x2, x3⟩ => ⟨qE, cap, f, (hf qE ?_).trans x1, x2, x3⟩)⟩
    by_cases z0 : qE = qp i
    · rw [z0, k0] at x1; cases x1
    · by_cases z1 : qE = qp i + 1
      · rw [z1, k1] at x1; exact absurd (Option.some.inj x1) vg_ii
      · by_cases z2 : qE = qp i + 2
        · rw [z2, k2] at x1; exact absurd (Option.some.inj x1) vg_ii
        · by_cases z3 : qE = qp i + 3
          · rw [z3, k3] at x1; exact absurd (Option.some.inj x1) vg_ii
          · omega
  refine ⟨aP, aU, aH, aO, aE1, aE2, fh, fo, (hf 1 (by omega)).trans h1, (hf 4 (by omega)).trans h4, (hf 5 (by omega)).trans h5, ⟨hat (by decide) l1, hat (by decide) l2, l3, fun k hk => ?_, fun j hj => ?_, l6, l7, l8, l9, l10⟩, ?_⟩
  · by_cases c9 : k = i
    · subst c9
      simp only [vu_s]
      exact ⟨hq, hp, hr, by rw [e0]; exact (l4 k hi).2.2.2.1, by rw [e1]; exact (l4 k hi).2.2.2.2.1, by rw [e0, e1]; exact (l4 k hi).2.2.2.2.2⟩
    · simp only [vu_n c9]
      have g := l4 k hk
      have hap : qp k + 4 ≤ qp i ∨ qp i + 4 ≤ qp k := by
        rcases Nat.lt_or_gt_of_ne c9 with z | z
        · exact Or.inl (l6 k i z hi)
        · exact Or.inr (l6 i k z hk)
      obtain ⟨af, at2, ag, ff, ft, fg, x0, x1, x2, x3, hr9⟩ := g.2.1
      exact ⟨g.1, ⟨af, at2, ag, ff, ft, fg, (hf _ (by omega)).trans x0, (hf _ (by omega)).trans x1, (hf _ (by omega)).trans x2, (hf _ (by omega)).trans x3, hr9⟩, g.2.2⟩
  · have g := l5 j hj
    refine ⟨g.1, (hf _ ?_).trans g.2.1, g.2.2⟩
    have x1 := g.2.1
    unfold cu_P at x1
    by_cases z0 : uq j = qp i
    · rw [z0, k0] at x1; exact absurd (Option.some.inj x1) (vg_oo (by decide))
    · by_cases z1 : uq j = qp i + 1
      · rw [z1, k1] at x1; cases x1
      · by_cases z2 : uq j = qp i + 2
        · rw [z2, k2] at x1; cases x1
        · by_cases z3 : uq j = qp i + 3
          · rw [z3, k3] at x1; cases x1
          · omega
  · have q0 : (fun k => va_up d i di k 0) = fun k => d k 0 := funext fun k => by
      by_cases c9 : k = i
      · subst c9; rw [vu_s]; exact e0
      · rw [vu_n c9]
    have q1 : (fun k => va_up d i di k 1) = fun k => d k 1 := funext fun k => by
      by_cases c9 : k = i
      · subst c9; rw [vu_s]; exact e1
      · rw [vu_n c9]
    unfold cw_H
    rw [q0, q1]
    exact c1
/-- one unit is another now -/
theorem cw_N_uu {ay : Nat → ClassId} {ws u : va_W} {aN tE n P U : Nat} {el qp ua uq : Nat → Nat} {d fr to pe uv : Nat → Nat → Nat} {i : Nat} {vi : Nat → Nat} (h : cw_N ay ws aN tE n P U el qp ua uq d fr to pe uv) (hi : i < U) (hp : cu_P u (uq i) (ua i) vi) (hr : cu_R vi) (h4 : vi 4 < n) (hf : ∀ j, j ≠ uq i → u[j]? = ws[j]?) : cw_N ay u aN tE n P U el qp ua uq d fr to pe (va_up uv i vi) := by
  obtain ⟨aP, aU, aH, aO, aE1, aE2, fh, fo, h1, h49, h5, ⟨l1, l2, l3, l4, l5, l6, l7, l8, l9, l10⟩, c1⟩ := h
  have hq := (l5 i hi).1
  have k0 := (l5 i hi).2.1
  unfold cu_P at k0
  have hat : ∀ {q aL aE cnt : Nat} {el2 : Nat → Nat}, q < 56 → cl_at ay ws q aL tE aE cnt el2 → cl_at ay u q aL tE aE cnt el2 := fun {q aL aE cnt el2} hq9 hc => by
    obtain ⟨⟨mo, g1⟩, g2⟩ := hc
    exact ⟨⟨mo, (hf q (by omega)).trans g1⟩, g2.imp id (fun ⟨qE, cap, f, x1, x2, x3⟩ => ⟨qE, cap, f, (hf qE (fun z0 => by rw [z0, k0] at x1; cases x1)).trans x1, x2, x3⟩)⟩
  refine ⟨aP, aU, aH, aO, aE1, aE2, fh, fo, (hf 1 (by omega)).trans h1, (hf 4 (by omega)).trans h49, (hf 5 (by omega)).trans h5, ⟨hat (by decide) l1, hat (by decide) l2, l3, fun k hk => ?_, fun j hj => ?_, l6, l7, l8, l9, l10⟩, c1⟩
  · have g := l4 k hk
    obtain ⟨af, at2, ag, ff, ft, fg, x0, x1, x2, x3, hr9⟩ := g.2.1
    exact ⟨g.1, ⟨af, at2, ag, ff, ft, fg, (hf _ (fun z0 => by rw [z0, k0] at x0; exact absurd (Option.some.inj x0) (vg_oo (by decide)))).trans x0, (hf _ (fun z0 => by rw [z0, k0] at x1; cases x1)).trans x1, (hf _ (fun z0 => by rw [z0, k0] at x2; cases x2)).trans x2, (hf _ (fun z0 => by rw [z0, k0] at x3; cases x3)).trans x3, hr9⟩, g.2.2⟩
  · by_cases c9 : j = i
    · subst c9
      simp only [vu_s]
      exact ⟨hq, hp, hr, h4⟩
    · simp only [vu_n c9]
      have g := l5 j hj
      have hap : uq j ≠ uq i := by
        rcases Nat.lt_or_gt_of_ne c9 with z | z
        · have := l7 j i z hi; omega
        · have := l7 i j z hj; omega
      exact ⟨g.1, (hf _ hap).trans g.2.1, g.2.2⟩
theorem cm_in_no {k : Int32} {n : Nat} (h : k < nI 0) (hn : n < 2 ^ 31) : ¬ cm_in k n := fun ⟨j, h1, h2⟩ => by
  rw [h2] at h
  exact absurd ((nI_ltI (by omega) (by omega)).mp h) (by omega)
theorem cm_in_no2 {k : Int32} {n : Nat} (h : ¬ k < nI n) (hn : n < 2 ^ 31) : ¬ cm_in k n := fun ⟨j, h1, h2⟩ => by
  rw [h2] at h
  exact h ((nI_ltI (by omega) (by omega)).mpr h1)
theorem cm_in_yes {k : Int32} {n : Nat} (h : ¬ k < nI 0) (h2 : k < nI n) (hn : n < 2 ^ 31) : cm_in k n := by
  obtain ⟨j, g1, g2, g3⟩ := cm_rng (x := k) (a := 0) (b := n) ⟨Int32.not_lt.mp h, Int32.le_of_lt h2⟩ (by omega) hn
  refine ⟨j, ?_, g3⟩
  rw [g3] at h2
  exact (nI_ltI (by omega) (by omega)).mp h2
theorem i32_max (x : Int32) : x ≤ nI 2147483647 := by
  rw [show nI 2147483647 = Int32.maxValue by decide]; exact Int32.le_maxValue x
theorem tl_X6_needWithin_174 : Cond.classLink RX6 174 "java/lang/IndexOutOfBoundsException" ∈ wsX6_needWithin := by decide +kernel
theorem ti_X6_needWithin_174 : Cond.initialized "java/lang/IndexOutOfBoundsException" ∈ wsX6_needWithin := by decide +kernel
theorem mk_X6_needTime_240 : Jvm.Cond.constant RX6 240 (nI 2147483647) ∈ wsX6_needTime := by decide +kernel
theorem tl_X6_needNode_36 : Cond.classLink RX6 36 "java/lang/IllegalArgumentException" ∈ wsX6_needNode := by decide +kernel
theorem ti_X6_needNode_36 : Cond.initialized "java/lang/IllegalArgumentException" ∈ wsX6_needNode := by decide +kernel
theorem in_X6_needNode_X6 : ∀ w ∈ u_ws RX6 TX6 5, w ∈ wsX6_needNode := by decide +kernel
theorem ml_X6_needNode_10 : Cond.fieldLink RX6 10 "WayTimes" "net" "LWayTimes$Net;" ∈ wsX6_needNode := by decide +kernel
theorem in_X6_needNode_X0 : ∀ w ∈ u_ws RX0 TX0 5, w ∈ wsX6_needNode := by decide +kernel
theorem ml_X6_needNode_222 : Cond.fieldLink RX6 222 "WayTimes$Net" "nodes" "I" ∈ wsX6_needNode := by decide +kernel
theorem tl_X6_knownPiece_36 : Cond.classLink RX6 36 "java/lang/IllegalArgumentException" ∈ wsX6_knownPiece := by decide +kernel
theorem ti_X6_knownPiece_36 : Cond.initialized "java/lang/IllegalArgumentException" ∈ wsX6_knownPiece := by decide +kernel
theorem in_X6_knownPiece_X6 : ∀ w ∈ u_ws RX6 TX6 5, w ∈ wsX6_knownPiece := by decide +kernel
theorem ml_X6_knownPiece_10 : Cond.fieldLink RX6 10 "WayTimes" "net" "LWayTimes$Net;" ∈ wsX6_knownPiece := by decide +kernel
theorem in_X6_knownPiece_X0 : ∀ w ∈ u_ws RX0 TX0 5, w ∈ wsX6_knownPiece := by decide +kernel
theorem ml_X6_knownPiece_69 : Cond.fieldLink RX6 69 "WayTimes$Net" "pieces" "Ljava/util/ArrayList;" ∈ wsX6_knownPiece := by decide +kernel
theorem mc_X6_knownPiece_84 : Cond.classLink RX6 84 "WayTimes$Piece" ∈ wsX6_knownPiece := by decide +kernel
theorem tl_X6_knownUnit_36 : Cond.classLink RX6 36 "java/lang/IllegalArgumentException" ∈ wsX6_knownUnit := by decide +kernel
theorem ti_X6_knownUnit_36 : Cond.initialized "java/lang/IllegalArgumentException" ∈ wsX6_knownUnit := by decide +kernel
theorem in_X6_knownUnit_X6 : ∀ w ∈ u_ws RX6 TX6 5, w ∈ wsX6_knownUnit := by decide +kernel
theorem ml_X6_knownUnit_10 : Cond.fieldLink RX6 10 "WayTimes" "net" "LWayTimes$Net;" ∈ wsX6_knownUnit := by decide +kernel
theorem in_X6_knownUnit_X0 : ∀ w ∈ u_ws RX0 TX0 5, w ∈ wsX6_knownUnit := by decide +kernel
theorem ml_X6_knownUnit_126 : Cond.fieldLink RX6 126 "WayTimes$Net" "units" "Ljava/util/ArrayList;" ∈ wsX6_knownUnit := by decide +kernel
theorem mc_X6_knownUnit_131 : Cond.classLink RX6 131 "WayTimes$Unit" ∈ wsX6_knownUnit := by decide +kernel
set_option maxHeartbeats 4000000 in
set_option maxRecDepth 100000 in
/-- needWithin -/
theorem c_X6_needWithin (l : Launch) {D : va_G} {ay : Nat → ClassId} {base : Nat} {Gx : State → Prop} {tE mi : Nat} {ws : va_W} {x lo hi : Int32} (hl9 : l.stackTraces = false) (hG2 : ∀ U, Gx U → vh_G2 base tE mi U)  : vx_Met l yX6_needWithin wsX6_needWithin ({ frames := 6, cells := 1, slots := 6, locals := 82 } : Room) (fun a9 s9 => va_Pc [.int x, .int lo, .int hi] (vg_B D ay base Gx ws) a9 s9 ∧ vs_W s9) (va_Qv (fun u => u = ws ∧ (lo ≤ x ∧ x ≤ hi)) (vg_B D ay base Gx) (vg_A base)) (vg_XC D ay base Gx ws (fun E => E = "java/lang/IndexOutOfBoundsException" ∧ ¬ (lo ≤ x ∧ x ≤ hi))) 1 6 (vg_A base) := by
  refine vg_metX (cc := cX6_needWithin) (maxL := 3) (ret := none) (own := RX6) (lv := [(0, .int x), (1, .int lo), (2, .int hi)]) (by decide) rfl rfl (Nat.le_of_ble_eq_true rfl) rfl ?_
  intro p e s m args below meth c X hT hWm9
  refine vg_iload_n X dX6_needWithin_0 0 rfl rfl ?_
  refine vg_iload_n X dX6_needWithin_1 1 rfl rfl ?_
  refine vg_icmp_lt X 10 dX6_needWithin_2 (by decide) (fun c2 => ?_) (fun c2 => ?_)
  · skip
    obtain ⟨sa10, hsa10⟩ := hWm9.1 (241, "outside of its range") (by decide)
    exact vg_throwS X (cls := "java/lang/IndexOutOfBoundsException") (names := ["java/lang/RuntimeException", "java/lang/Exception"]) hT hl9 (by decide +kernel) (by decide +kernel) tl_X6_needWithin_174 ti_X6_needWithin_174 hsa10 (vs_hat hWm9 (by decide +kernel)) (vs_gd (by decide +kernel) rfl rfl) (hG2 s X.2.2.2.2.2.2.2.2.2.2).2.1 (hG2 s X.2.2.2.2.2.2.2.2.2.2).2.2 dX6_needWithin_10 dX6_needWithin_13 dX6_needWithin_14 dX6_needWithin_16 dX6_needWithin_19 (Nat.le_of_ble_eq_true rfl) (Nat.le_of_ble_eq_true rfl) (Nat.le_of_ble_eq_true rfl) (Nat.le_of_ble_eq_true rfl) ⟨rfl, fun z9 => absurd c2 (Int32.not_lt.mpr z9.1)⟩ (Nat.le_of_ble_eq_true rfl) (Nat.le_of_ble_eq_true rfl)
  · skip
    refine vg_iload_n X dX6_needWithin_5 0 rfl rfl ?_
    refine vg_iload_n X dX6_needWithin_6 2 rfl rfl ?_
    refine vg_icmp_le X 20 dX6_needWithin_7 (by decide) (fun c7 => ?_) (fun c7 => ?_)
    · skip
      exact vg_xret (vg_vret X rfl ⟨rfl, Int32.not_lt.mp c2, c7⟩ (Nat.le_of_ble_eq_true rfl) (Nat.le_of_ble_eq_true rfl) dX6_needWithin_20)
    · skip
      obtain ⟨sa10, hsa10⟩ := hWm9.1 (241, "outside of its range") (by decide)
      exact vg_throwS X (cls := "java/lang/IndexOutOfBoundsException") (names := ["java/lang/RuntimeException", "java/lang/Exception"]) hT hl9 (by decide +kernel) (by decide +kernel) tl_X6_needWithin_174 ti_X6_needWithin_174 hsa10 (vs_hat hWm9 (by decide +kernel)) (vs_gd (by decide +kernel) rfl rfl) (hG2 s X.2.2.2.2.2.2.2.2.2.2).2.1 (hG2 s X.2.2.2.2.2.2.2.2.2.2).2.2 dX6_needWithin_10 dX6_needWithin_13 dX6_needWithin_14 dX6_needWithin_16 dX6_needWithin_19 (Nat.le_of_ble_eq_true rfl) (Nat.le_of_ble_eq_true rfl) (Nat.le_of_ble_eq_true rfl) (Nat.le_of_ble_eq_true rfl) ⟨rfl, fun z9 => c7 z9.2⟩ (Nat.le_of_ble_eq_true rfl) (Nat.le_of_ble_eq_true rfl)
set_option maxHeartbeats 4000000 in
set_option maxRecDepth 100000 in
/-- needTime -/
theorem c_X6_needTime (l : Launch) {D : va_G} {ay : Nat → ClassId} {base : Nat} {Gx : State → Prop} {tE mi : Nat} {ws : va_W} {x : Int32} (hl9 : l.stackTraces = false) (hG2 : ∀ U, Gx U → vh_G2 base tE mi U)  : vx_Met l yX6_needTime wsX6_needTime ({ frames := 7, cells := 1, slots := 6, locals := 104 } : Room) (fun a9 s9 => va_Pc [.int x] (vg_B D ay base Gx ws) a9 s9 ∧ vs_W s9) (va_Qv (fun u => u = ws ∧ 0 ≤ x) (vg_B D ay base Gx) (vg_A base)) (vg_XC D ay base Gx ws (fun E => E = "java/lang/IndexOutOfBoundsException" ∧ ¬ 0 ≤ x)) 1 6 (vg_A base) := by
  refine vg_metX (cc := cX6_needTime) (maxL := 1) (ret := none) (own := RX6) (lv := [(0, .int x)]) (by decide) rfl rfl (Nat.le_of_ble_eq_true rfl) rfl ?_
  intro p e s m args below meth c X hT hWm9
  refine vg_iload_n X dX6_needTime_0 0 rfl rfl ?_
  refine vg_iconst X (nI 0) dX6_needTime_1 (by decide) ?_
  refine vg_ldc X (nI 2147483647) dX6_needTime_2 mk_X6_needTime_240 ?_
  refine vg_callvX X (vg_runSX X vs_st hWm9 (c_X6_needWithin l hl9 hG2 (x := x) (lo := nI 0) (hi := nI 2147483647)) (cwS 3 X.2.2.2.2.1 gX6_needTime_X6_needWithin rfl rfl rfl (by decide +kernel) ⟨(Nat.le_of_ble_eq_true rfl), (Nat.le_of_ble_eq_true rfl)⟩) rfl rfl (Nat.le_of_ble_eq_true rfl) dX6_needTime_4 ⟨(Nat.le_of_ble_eq_true rfl), (Nat.le_of_ble_eq_true rfl)⟩) hT (fun E hE => ⟨hE.1, fun z9 => hE.2 ⟨z9, i32_max x⟩⟩) (Nat.le_of_ble_eq_true rfl) (Nat.le_of_ble_eq_true rfl) (fun wz1 PP2 => ?_)
  obtain ⟨ew, er⟩ := PP2
  rw [ew]
  exact vg_xret (vg_vret X rfl ⟨rfl, er.1⟩ (Nat.le_of_ble_eq_true rfl) (Nat.le_of_ble_eq_true rfl) dX6_needTime_7)
set_option maxHeartbeats 4000000 in
set_option maxRecDepth 100000 in
/-- needNode -/
theorem c_X6_needNode (l : Launch) {D : va_G} {ay : Nat → ClassId} {base : Nat} {Gx : State → Prop} {tE mi : Nat} {ws : va_W} {ax : Nat} {aN asr aTs aWB : Nat} {el qp ua uq : Nat → Nat} {fb : Nat → Int32} {n P U : Nat} {d fr to pe uv : Nat → Nat → Nat} {ku ks kt : Nat → Nat} {sk : Nat → Nat → Nat} {wl : Nat} {wp : Nat → Nat} {x : Int32} (hl9 : l.stackTraces = false) (hG2 : ∀ U, Gx U → vh_G2 base tE mi U) (hS : cw_S ay ws ax tE aN asr aTs aWB el qp ua uq fb n P U d fr to pe uv ku ks kt sk wl wp) : vx_Met l yX6_needNode wsX6_needNode ({ frames := 6, cells := 1, slots := 6, locals := 82 } : Room) (fun a9 s9 => va_Pc [.ref ax, .int x] (vg_B D ay base Gx ws) a9 s9 ∧ vs_W s9) (va_Qv (fun u => u = ws ∧ cm_in x n) (vg_B D ay base Gx) (vg_A base)) (vg_XC D ay base Gx ws (fun E => E = "java/lang/IllegalArgumentException" ∧ ¬ cm_in x n)) 1 6 (vg_A base) := by
  refine vg_metX (cc := cX6_needNode) (maxL := 2) (ret := none) (own := RX6) (lv := [(0, .ref ax), (1, .int x)]) (by decide) rfl rfl (Nat.le_of_ble_eq_true rfl) rfl ?_
  intro p e s m args below meth c X hT hWm9
  obtain ⟨h0, hI, hN, hTT, hK, h16, hwl, hwp, h56⟩ := hS
  obtain ⟨aP, aU, aH, aO, aE1, aE2, fh, fo, n1, n4, n5, ⟨⟨⟨mo1, n2⟩, alt1⟩, ⟨⟨mo2, n3⟩, alt2⟩, hap, hp, hu, hqp, huq, hn, hP, hU⟩, hch⟩ := hN
  refine vg_iload_n X dX6_needNode_0 1 rfl rfl ?_
  refine vg_if_lt X 15 dX6_needNode_1 (by decide) (fun c1 => ?_) (fun c1 => ?_)
  · skip
    obtain ⟨sa15, hsa15⟩ := hWm9.1 (227, "no such node") (by decide)
    exact vg_throwS X (cls := "java/lang/IllegalArgumentException") (names := ["java/lang/RuntimeException", "java/lang/Exception"]) hT hl9 (by decide +kernel) (by decide +kernel) tl_X6_needNode_36 ti_X6_needNode_36 hsa15 (vs_hat hWm9 (by decide +kernel)) (vs_gd (by decide +kernel) rfl rfl) (hG2 s X.2.2.2.2.2.2.2.2.2.2).2.1 (hG2 s X.2.2.2.2.2.2.2.2.2.2).2.2 dX6_needNode_15 dX6_needNode_18 dX6_needNode_19 dX6_needNode_21 dX6_needNode_24 (Nat.le_of_ble_eq_true rfl) (Nat.le_of_ble_eq_true rfl) (Nat.le_of_ble_eq_true rfl) (Nat.le_of_ble_eq_true rfl) ⟨rfl, cm_in_no c1 (by omega)⟩ (Nat.le_of_ble_eq_true rfl) (Nat.le_of_ble_eq_true rfl)
  · skip
    refine vg_iload_n X dX6_needNode_4 1 rfl rfl ?_
    refine vg_aload_n X dX6_needNode_5 0 rfl rfl ?_
    refine vg_get X in_X6_needNode_X6 0 h0 rfl 0 (by decide) ml_X6_needNode_10 rfl rfl dX6_needNode_6 ?_
    refine vg_get X in_X6_needNode_X0 1 n1 rfl 4 (by decide) ml_X6_needNode_222 rfl rfl dX6_needNode_9 ?_
    refine vg_icmp_lt X 25 dX6_needNode_12 (by decide) (fun c12 => ?_) (fun c12 => ?_)
    · skip
      exact vg_xret (vg_vret X rfl ⟨rfl, cm_in_yes c1 c12 (by omega)⟩ (Nat.le_of_ble_eq_true rfl) (Nat.le_of_ble_eq_true rfl) dX6_needNode_25)
    · skip
      obtain ⟨sa15, hsa15⟩ := hWm9.1 (227, "no such node") (by decide)
      exact vg_throwS X (cls := "java/lang/IllegalArgumentException") (names := ["java/lang/RuntimeException", "java/lang/Exception"]) hT hl9 (by decide +kernel) (by decide +kernel) tl_X6_needNode_36 ti_X6_needNode_36 hsa15 (vs_hat hWm9 (by decide +kernel)) (vs_gd (by decide +kernel) rfl rfl) (hG2 s X.2.2.2.2.2.2.2.2.2.2).2.1 (hG2 s X.2.2.2.2.2.2.2.2.2.2).2.2 dX6_needNode_15 dX6_needNode_18 dX6_needNode_19 dX6_needNode_21 dX6_needNode_24 (Nat.le_of_ble_eq_true rfl) (Nat.le_of_ble_eq_true rfl) (Nat.le_of_ble_eq_true rfl) (Nat.le_of_ble_eq_true rfl) ⟨rfl, cm_in_no2 c12 (by omega)⟩ (Nat.le_of_ble_eq_true rfl) (Nat.le_of_ble_eq_true rfl)
set_option maxHeartbeats 4000000 in
set_option maxRecDepth 100000 in
/-- X6_knownPiece -/
theorem c_X6_knownPiece (l : Launch) {D : va_G} {ay : Nat → ClassId} {base : Nat} {Gx : State → Prop} {tE mi : Nat} {ws : va_W} {ax : Nat} {aN asr aTs aWB : Nat} {el qp ua uq : Nat → Nat} {fb : Nat → Int32} {n P U : Nat} {d fr to pe uv : Nat → Nat → Nat} {ku ks kt : Nat → Nat} {sk : Nat → Nat → Nat} {wl : Nat} {wp : Nat → Nat} {x : Int32} (hl9 : l.stackTraces = false) (hG2 : ∀ U, Gx U → vh_G2 base tE mi U) (hS : cw_S ay ws ax tE aN asr aTs aWB el qp ua uq fb n P U d fr to pe uv ku ks kt sk wl wp) : vx_Met l yX6_knownPiece wsX6_knownPiece ({ frames := 6, cells := 1, slots := 6, locals := 82 } : Room) (fun a9 s9 => va_Pc [.ref ax, .int x] (vg_B D ay base Gx ws) a9 s9 ∧ vs_W s9) (va_Qr (fun u => u = ws) (fun u a t => (fun _ a => ∃ i9 : Nat, x = nI i9 ∧ i9 < P ∧ a = el i9) u a ∧ vg_B D ay base Gx u t) (vg_A base)) (vg_XC D ay base Gx ws (fun E => E = "java/lang/IllegalArgumentException" ∧ ¬ cm_in x P)) 1 6 (vg_A base) := by
  refine vg_metX (cc := cX6_knownPiece) (maxL := 2) (ret := (some (.object "WayTimes$Piece"))) (own := RX6) (lv := [(0, .ref ax), (1, .int x)]) (by decide) rfl rfl (Nat.le_of_ble_eq_true rfl) rfl ?_
  intro p e s m args below meth c X hT hWm9
  have hS0 := hS
  obtain ⟨h0, hI, hN, hTT, hK, h16, hwl, hwp, h56⟩ := hS
  have hN0 := hN
  obtain ⟨aP, aU, aH, aO, aE1, aE2, fh, fo, n1, n4, n5, ⟨⟨⟨mo1, n2⟩, alt1⟩, ⟨⟨mo2, n3⟩, alt2⟩, hap, hp, hu, hqp, huq, hn, hP, hU⟩, hch⟩ := hN
  refine vg_iload_n X dX6_knownPiece_0 1 rfl rfl ?_
  refine vg_if_lt X 18 dX6_knownPiece_1 (by decide) (fun c1 => ?_) (fun c1 => ?_)
  · skip
    obtain ⟨sa18, hsa18⟩ := hWm9.1 (234, "no such piece") (by decide)
    exact vg_throwS X (cls := "java/lang/IllegalArgumentException") (names := ["java/lang/RuntimeException", "java/lang/Exception"]) hT hl9 (by decide +kernel) (by decide +kernel) tl_X6_knownPiece_36 ti_X6_knownPiece_36 hsa18 (vs_hat hWm9 (by decide +kernel)) (vs_gd (by decide +kernel) rfl rfl) (hG2 s X.2.2.2.2.2.2.2.2.2.2).2.1 (hG2 s X.2.2.2.2.2.2.2.2.2.2).2.2 dX6_knownPiece_18 dX6_knownPiece_21 dX6_knownPiece_22 dX6_knownPiece_24 dX6_knownPiece_27 (Nat.le_of_ble_eq_true rfl) (Nat.le_of_ble_eq_true rfl) (Nat.le_of_ble_eq_true rfl) (Nat.le_of_ble_eq_true rfl) ⟨rfl, cm_in_no c1 (by omega)⟩ (Nat.le_of_ble_eq_true rfl) (Nat.le_of_ble_eq_true rfl)
  · skip
    refine vg_iload_n X dX6_knownPiece_4 1 rfl rfl ?_
    refine vg_aload_n X dX6_knownPiece_5 0 rfl rfl ?_
    refine vg_get X in_X6_knownPiece_X6 0 h0 rfl 0 (by decide) ml_X6_knownPiece_10 rfl rfl dX6_knownPiece_6 ?_
    refine vg_get X in_X6_knownPiece_X0 1 n1 rfl 0 (by decide) ml_X6_knownPiece_69 rfl rfl dX6_knownPiece_9 ?_
    refine vg_calli (vg_runV X (c_Jx4a65c_size_8abf5 l (cl_at_L ⟨⟨mo1, n2⟩, alt1⟩)) (cwV 0 X.2.2.2.2.1 gX6_knownPiece_Jx4a65c_size_8abf5 rfl rfl rfl (by decide +kernel) ⟨Nat.le_of_ble_eq_true rfl, Nat.le_of_ble_eq_true rfl⟩) 2 n2 rfl rfl rfl (Nat.le_of_ble_eq_true rfl) dX6_knownPiece_12 ⟨(Nat.le_of_ble_eq_true rfl), (Nat.le_of_ble_eq_true rfl)⟩) (fun rr3 wz1 PP2 => ?_)
    obtain ⟨ew, er⟩ := PP2
    rw [ew, er]
    refine vg_icmp_lt X 28 dX6_knownPiece_15 (by decide) (fun c15 => ?_) (fun c15 => ?_)
    · skip
      refine vg_aload_n X dX6_knownPiece_28 0 rfl rfl ?_
      refine vg_get X in_X6_knownPiece_X6 0 h0 rfl 0 (by decide) ml_X6_knownPiece_10 rfl rfl dX6_knownPiece_29 ?_
      refine vg_get X in_X6_knownPiece_X0 1 n1 rfl 0 (by decide) ml_X6_knownPiece_69 rfl rfl dX6_knownPiece_32 ?_
      refine vg_iload_n X dX6_knownPiece_35 1 rfl rfl ?_
      obtain ⟨ix, hix, exx⟩ := cm_in_yes c1 c15 (by omega)
      subst exx
      refine vg_callr (vg_runV X (c_Jx4a65c_get_915e3 l (cl_at_L ⟨⟨mo1, n2⟩, alt1⟩) hix) (cwV 1 X.2.2.2.2.1 gX6_knownPiece_Jx4a65c_get_915e3 rfl rfl rfl (by decide +kernel) ⟨Nat.le_of_ble_eq_true rfl, Nat.le_of_ble_eq_true rfl⟩) 2 n2 rfl rfl rfl (Nat.le_of_ble_eq_true rfl) dX6_knownPiece_36 ⟨(Nat.le_of_ble_eq_true rfl), (Nat.le_of_ble_eq_true rfl)⟩) (fun rr6 wz4 PP5 PP5q => ?_)
      rw [PP5, PP5q]
      obtain ⟨af, at2, ag, ff, ft, fg, k0, _⟩ := (hp ix hix).2.1
      refine vg_cast X (qp ix) k0 rfl mc_X6_knownPiece_84 dX6_knownPiece_39 ?_
      exact vg_xret (vg_aret X rfl (Or.inl ⟨_, rfl⟩) rfl ⟨ix, rfl, hix, rfl⟩ (Nat.le_of_ble_eq_true rfl) (Nat.le_of_ble_eq_true rfl) dX6_knownPiece_42)
    · skip
      obtain ⟨sa18, hsa18⟩ := hWm9.1 (234, "no such piece") (by decide)
      exact vg_throwS X (cls := "java/lang/IllegalArgumentException") (names := ["java/lang/RuntimeException", "java/lang/Exception"]) hT hl9 (by decide +kernel) (by decide +kernel) tl_X6_knownPiece_36 ti_X6_knownPiece_36 hsa18 (vs_hat hWm9 (by decide +kernel)) (vs_gd (by decide +kernel) rfl rfl) (hG2 s X.2.2.2.2.2.2.2.2.2.2).2.1 (hG2 s X.2.2.2.2.2.2.2.2.2.2).2.2 dX6_knownPiece_18 dX6_knownPiece_21 dX6_knownPiece_22 dX6_knownPiece_24 dX6_knownPiece_27 (Nat.le_of_ble_eq_true rfl) (Nat.le_of_ble_eq_true rfl) (Nat.le_of_ble_eq_true rfl) (Nat.le_of_ble_eq_true rfl) ⟨rfl, cm_in_no2 c15 (by omega)⟩ (Nat.le_of_ble_eq_true rfl) (Nat.le_of_ble_eq_true rfl)
set_option maxHeartbeats 4000000 in
set_option maxRecDepth 100000 in
/-- X6_knownUnit -/
theorem c_X6_knownUnit (l : Launch) {D : va_G} {ay : Nat → ClassId} {base : Nat} {Gx : State → Prop} {tE mi : Nat} {ws : va_W} {ax : Nat} {aN asr aTs aWB : Nat} {el qp ua uq : Nat → Nat} {fb : Nat → Int32} {n P U : Nat} {d fr to pe uv : Nat → Nat → Nat} {ku ks kt : Nat → Nat} {sk : Nat → Nat → Nat} {wl : Nat} {wp : Nat → Nat} {x : Int32} (hl9 : l.stackTraces = false) (hG2 : ∀ U, Gx U → vh_G2 base tE mi U) (hS : cw_S ay ws ax tE aN asr aTs aWB el qp ua uq fb n P U d fr to pe uv ku ks kt sk wl wp) : vx_Met l yX6_knownUnit wsX6_knownUnit ({ frames := 6, cells := 1, slots := 6, locals := 82 } : Room) (fun a9 s9 => va_Pc [.ref ax, .int x] (vg_B D ay base Gx ws) a9 s9 ∧ vs_W s9) (va_Qr (fun u => u = ws) (fun u a t => (fun _ a => ∃ i9 : Nat, x = nI i9 ∧ i9 < U ∧ a = ua i9) u a ∧ vg_B D ay base Gx u t) (vg_A base)) (vg_XC D ay base Gx ws (fun E => E = "java/lang/IllegalArgumentException" ∧ ¬ cm_in x U)) 1 6 (vg_A base) := by
  refine vg_metX (cc := cX6_knownUnit) (maxL := 2) (ret := (some (.object "WayTimes$Unit"))) (own := RX6) (lv := [(0, .ref ax), (1, .int x)]) (by decide) rfl rfl (Nat.le_of_ble_eq_true rfl) rfl ?_
  intro p e s m args below meth c X hT hWm9
  have hS0 := hS
  obtain ⟨h0, hI, hN, hTT, hK, h16, hwl, hwp, h56⟩ := hS
  have hN0 := hN
  obtain ⟨aP, aU, aH, aO, aE1, aE2, fh, fo, n1, n4, n5, ⟨⟨⟨mo1, n2⟩, alt1⟩, ⟨⟨mo2, n3⟩, alt2⟩, hap, hp, hu, hqp, huq, hn, hP, hU⟩, hch⟩ := hN
  refine vg_iload_n X dX6_knownUnit_0 1 rfl rfl ?_
  refine vg_if_lt X 18 dX6_knownUnit_1 (by decide) (fun c1 => ?_) (fun c1 => ?_)
  · skip
    obtain ⟨sa18, hsa18⟩ := hWm9.1 (236, "no such unit") (by decide)
    exact vg_throwS X (cls := "java/lang/IllegalArgumentException") (names := ["java/lang/RuntimeException", "java/lang/Exception"]) hT hl9 (by decide +kernel) (by decide +kernel) tl_X6_knownUnit_36 ti_X6_knownUnit_36 hsa18 (vs_hat hWm9 (by decide +kernel)) (vs_gd (by decide +kernel) rfl rfl) (hG2 s X.2.2.2.2.2.2.2.2.2.2).2.1 (hG2 s X.2.2.2.2.2.2.2.2.2.2).2.2 dX6_knownUnit_18 dX6_knownUnit_21 dX6_knownUnit_22 dX6_knownUnit_24 dX6_knownUnit_27 (Nat.le_of_ble_eq_true rfl) (Nat.le_of_ble_eq_true rfl) (Nat.le_of_ble_eq_true rfl) (Nat.le_of_ble_eq_true rfl) ⟨rfl, cm_in_no c1 (by omega)⟩ (Nat.le_of_ble_eq_true rfl) (Nat.le_of_ble_eq_true rfl)
  · skip
    refine vg_iload_n X dX6_knownUnit_4 1 rfl rfl ?_
    refine vg_aload_n X dX6_knownUnit_5 0 rfl rfl ?_
    refine vg_get X in_X6_knownUnit_X6 0 h0 rfl 0 (by decide) ml_X6_knownUnit_10 rfl rfl dX6_knownUnit_6 ?_
    refine vg_get X in_X6_knownUnit_X0 1 n1 rfl 1 (by decide) ml_X6_knownUnit_126 rfl rfl dX6_knownUnit_9 ?_
    refine vg_calli (vg_runV X (c_Jx4a65c_size_8abf5 l (cl_at_L ⟨⟨mo2, n3⟩, alt2⟩)) (cwV 0 X.2.2.2.2.1 gX6_knownUnit_Jx4a65c_size_8abf5 rfl rfl rfl (by decide +kernel) ⟨Nat.le_of_ble_eq_true rfl, Nat.le_of_ble_eq_true rfl⟩) 3 n3 rfl rfl rfl (Nat.le_of_ble_eq_true rfl) dX6_knownUnit_12 ⟨(Nat.le_of_ble_eq_true rfl), (Nat.le_of_ble_eq_true rfl)⟩) (fun rr3 wz1 PP2 => ?_)
    obtain ⟨ew, er⟩ := PP2
    rw [ew, er]
    refine vg_icmp_lt X 28 dX6_knownUnit_15 (by decide) (fun c15 => ?_) (fun c15 => ?_)
    · skip
      refine vg_aload_n X dX6_knownUnit_28 0 rfl rfl ?_
      refine vg_get X in_X6_knownUnit_X6 0 h0 rfl 0 (by decide) ml_X6_knownUnit_10 rfl rfl dX6_knownUnit_29 ?_
      refine vg_get X in_X6_knownUnit_X0 1 n1 rfl 1 (by decide) ml_X6_knownUnit_126 rfl rfl dX6_knownUnit_32 ?_
      refine vg_iload_n X dX6_knownUnit_35 1 rfl rfl ?_
      obtain ⟨ix, hix, exx⟩ := cm_in_yes c1 c15 (by omega)
      subst exx
      refine vg_callr (vg_runV X (c_Jx4a65c_get_915e3 l (cl_at_L ⟨⟨mo2, n3⟩, alt2⟩) hix) (cwV 1 X.2.2.2.2.1 gX6_knownUnit_Jx4a65c_get_915e3 rfl rfl rfl (by decide +kernel) ⟨Nat.le_of_ble_eq_true rfl, Nat.le_of_ble_eq_true rfl⟩) 3 n3 rfl rfl rfl (Nat.le_of_ble_eq_true rfl) dX6_knownUnit_36 ⟨(Nat.le_of_ble_eq_true rfl), (Nat.le_of_ble_eq_true rfl)⟩) (fun rr6 wz4 PP5 PP5q => ?_)
      rw [PP5, PP5q]
      have k0 := (hu ix hix).2.1
      unfold cu_P at k0
      refine vg_cast X (uq ix) k0 rfl mc_X6_knownUnit_131 dX6_knownUnit_39 ?_
      exact vg_xret (vg_aret X rfl (Or.inl ⟨_, rfl⟩) rfl ⟨ix, rfl, hix, rfl⟩ (Nat.le_of_ble_eq_true rfl) (Nat.le_of_ble_eq_true rfl) dX6_knownUnit_42)
    · skip
      obtain ⟨sa18, hsa18⟩ := hWm9.1 (236, "no such unit") (by decide)
      exact vg_throwS X (cls := "java/lang/IllegalArgumentException") (names := ["java/lang/RuntimeException", "java/lang/Exception"]) hT hl9 (by decide +kernel) (by decide +kernel) tl_X6_knownUnit_36 ti_X6_knownUnit_36 hsa18 (vs_hat hWm9 (by decide +kernel)) (vs_gd (by decide +kernel) rfl rfl) (hG2 s X.2.2.2.2.2.2.2.2.2.2).2.1 (hG2 s X.2.2.2.2.2.2.2.2.2.2).2.2 dX6_knownUnit_18 dX6_knownUnit_21 dX6_knownUnit_22 dX6_knownUnit_24 dX6_knownUnit_27 (Nat.le_of_ble_eq_true rfl) (Nat.le_of_ble_eq_true rfl) (Nat.le_of_ble_eq_true rfl) (Nat.le_of_ble_eq_true rfl) ⟨rfl, cm_in_no2 c15 (by omega)⟩ (Nat.le_of_ble_eq_true rfl) (Nat.le_of_ble_eq_true rfl)
