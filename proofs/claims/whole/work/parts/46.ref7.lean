theorem in_X7_stand_X7 : ∀ w ∈ u_ws RX7 TX7 30, w ∈ wsX7_stand := by decide +kernel
theorem ml_X7_stand_44 : Cond.fieldLink RX7 44 "WayTimesModel" "at" "[I" ∈ wsX7_stand := by decide +kernel
theorem in_X7_step_X7 : ∀ w ∈ u_ws RX7 TX7 30, w ∈ wsX7_step := by decide +kernel
theorem ml_X7_step_100 : Cond.fieldLink RX7 100 "WayTimesModel" "steps" "I" ∈ wsX7_step := by decide +kernel
theorem ml_X7_step_84 : Cond.fieldLink RX7 84 "WayTimesModel" "step" "[I" ∈ wsX7_step := by decide +kernel
set_option maxHeartbeats 4000000 in
set_option maxRecDepth 100000 in
/-- stand(..) -/
theorem c_X7_stand (l : Launch) {D : va_G} {ay : Nat → ClassId} {base : Nat} {Gx : State → Prop} {ws : va_W} {am : Nat} {aa : Nat → Nat} {n P U th wl : Nat} {d fr to pe uv : Nat → Nat → Nat} {ku ks kt wp : Nat → Nat} {sk : Nat → Nat → Nat} {u x : Int32} (hS : cm_St ay ws am aa th n P U d fr to pe uv ku ks kt sk wl wp) (hR : cm_R n P U d fr to pe uv)  : Met l yX7_stand wsX7_stand ({ frames := 2, cells := 0, slots := 0, locals := 46 } : Room) (va_Pc [.ref am, .int u, .int x] (vg_B D ay base Gx ws)) (va_Qv (fun u2 => (¬ (cm_in u U ∧ cm_in x n) ∧ cm_St ay u2 am aa 1 n P U d fr to pe uv ku ks kt sk wl wp ∧ cm_fr ws u2) ∨ (∃ jx vx : Nat, u = nI jx ∧ jx < U ∧ x = nI vx ∧ vx < n ∧ cm_St ay u2 am aa 0 n P U d fr to pe (va_up uv jx (va_up (uv jx) 4 vx)) ku ks kt sk wl wp ∧ cm_fr ws u2)) (vg_B D ay base Gx) (vg_A base)) 0 0 (vg_A base) := by
  refine vg_met (cc := cX7_stand) (maxL := 3) (ret := none) (own := RX7) (lv := [(0, .ref am), (1, .int u), (2, .int x)]) (by decide) rfl rfl (Nat.le_of_ble_eq_true rfl) rfl ?_
  intro p e s m args below meth c X hinit
  obtain ⟨fl, fm, fn, fs, hO, hD, hT, h51, h52, h53, h54, hwl, hwp⟩ := id hS
  have nn := hR.1
  have nP := hR.2.1
  have nU := hR.2.2.1
  have eB : ma_B = 2 ^ 60 := rfl
  have hO3 := hO
  unfold cm_O at hO3
  have j22 : ∀ b9 : Int32, ((cm_in u U ∧ cm_in x n) → b9 = 1) → (¬ (cm_in u U ∧ cm_in x n) → b9 = 0) → vg_V D base p l e ({ frames := 2, cells := 0, slots := 0, locals := 46 } : Room) s m args below meth c 3 0 0 (MQ below (va_Qv (fun u2 => (¬ (cm_in u U ∧ cm_in x n) ∧ cm_St ay u2 am aa 1 n P U d fr to pe uv ku ks kt sk wl wp ∧ cm_fr ws u2) ∨ (∃ jx vx : Nat, u = nI jx ∧ jx < U ∧ x = nI vx ∧ vx < n ∧ cm_St ay u2 am aa 0 n P U d fr to pe (va_up uv jx (va_up (uv jx) 4 vx)) ku ks kt sk wl wp ∧ cm_fr ws u2)) (vg_B D ay base Gx) (vg_A base)) args s 0 0 (vg_A base)) [(0, .ref am), (1, .int u), (2, .int x)] [.int b9, .ref am] ws 22 := by
    intro b22 y22 n22
    refine vg_iconst X (nI 1) dX7_stand_22 (by decide) ?_
    refine vg_iconst X (nI 1) dX7_stand_23 (by decide) ?_
    refine vg_calli (vg_runV X (c_X7_goes l hO (b1 := b22) (b2 := nI 1) (b3 := nI 1)) (cwV 3 X.2.2.2.2.1 gX7_stand_X7_goes rfl rfl rfl (by decide +kernel) ⟨Nat.le_of_ble_eq_true rfl, Nat.le_of_ble_eq_true rfl⟩) 29 hO3 rfl rfl rfl (Nat.le_of_ble_eq_true rfl) dX7_stand_24 ⟨Nat.zero_le _, Nat.zero_le _⟩) (fun rr3 wz1 PP2 => ?_)
    obtain ⟨gO, gfr0, gy, gn⟩ := PP2
    have e0 : ∀ q, q ≠ 29 → wz1[q]? = ws[q]? := fun q hq => gfr0.2 q (by simpa using hq)
    have gD : cm_D ay wz1 aa n P U d fr to pe uv := cm_D_fr hD (fun q h1 h2 => e0 q (by omega))
    have gT : cm_T ay wz1 aa n ku ks kt sk := cm_T_fr hT (fun q h1 h2 => e0 q (by omega))
    have gF := cm_fr_of gfr0 (by decide)
    have g51 := (e0 51 (by decide)).trans h51
    have g52 := (e0 52 (by decide)).trans h52
    have g53 := (e0 53 (by decide)).trans h53
    have g54 := (e0 54 (by decide)).trans h54
    refine vg_if_eq X 37 dX7_stand_27 (by decide) (fun c27 => ?_) (fun c27 => ?_)
    · skip
      have ng : go_c b22 (nI 1) (nI 1) ≠ 0 := fun q9 => by have := gy q9; rw [c27] at this; exact absurd this (by decide)
      by_cases p0 : cm_in u U ∧ cm_in x n
      · skip
        exact absurd (by unfold go_c; rw [if_neg (by rw [y22 p0]; decide), if_neg (by decide), if_neg (by decide)]) ng
      · skip
        have g9 : go_c b22 (nI 1) (nI 1) = 1 := by unfold go_c; rw [if_pos (n22 p0)]
        rw [g9] at gO
        exact vg_vret X rfl (Or.inl ⟨p0, ⟨_, _, _, _, gO, gD, gT, g51, g52, g53, g54, hwl, hwp⟩, gF⟩) (Nat.le_refl _) (Nat.le_refl _) dX7_stand_37
    · skip
      have g0 : go_c b22 (nI 1) (nI 1) = 0 := Classical.byContradiction (fun q9 => c27 (gn q9))
      rw [g0] at gO
      have p0 : cm_in u U ∧ cm_in x n := Classical.byContradiction (fun q9 => by have := n22 q9; unfold go_c at g0; rw [if_pos this] at g0; exact absurd g0 (by decide))
      have gO3 := gO
      unfold cm_O at gO3
      obtain ⟨⟨j, hj, rfl⟩, ⟨v, hv, rfl⟩⟩ := p0
      obtain ⟨f0, f1, f2, f3, f4, f5, f6, f7, f8, f9, f10, f11, f12, f13, f14, f15, hh0, hh1, hh2, hh3, hh4, hh5, hh6, hh7, hh8, hh9, hh10, hh11, hh12, hh13, hh14, hh15, hp, hu⟩ := id gD
      refine vg_aload_n X dX7_stand_30 0 rfl rfl ?_
      refine vg_get X in_X7_stand_X7 29 gO3 rfl 15 (by decide) ml_X7_stand_44 rfl rfl dX7_stand_31 ?_
      refine vg_iload_n X dX7_stand_34 1 rfl rfl ?_
      refine vg_iload_n X dX7_stand_35 2 rfl rfl ?_
      refine vg_iast X 41 hh11 rfl (by omega) (by decide) dX7_stand_36 (fun wz4 ez5 => ?_)
      have fh6 : wz4[41]? = some ((aa 11), .inl (ay 0, 12, .inl (upd f11 j (nI v)))) := vg_se ez5 hh11
      have fh7 : wz4[29]? = some (am, .inr (10, [.int (nI 0), .int (nI n), .int (nI P), .ref (aa 0), .ref (aa 1), .ref (aa 2), .ref (aa 3), .ref (aa 4), .ref (aa 5), .ref (aa 6), .ref (aa 7), .ref (aa 8), .ref (aa 9), .ref (aa 10), .int (nI U), .ref (aa 11), .ref (aa 12), .ref (aa 13), .ref (aa 14), .ref (aa 15), .ref (aa 16), .ref (aa 17), .ref (aa 18), .ref (aa 19), .ref (aa 20), .ref (aa 21), .ref (aa 22), .ref (aa 23), .int (nI wl), .ref (aa 24)])) := (vg_sn ez5 (by decide)).trans (gO3)
      have D2 : cm_D ay wz4 aa n P U d fr to pe (va_up uv j (va_up (uv j) 4 v)) := ⟨f0, f1, f2, f3, f4, f5, f6, f7, f8, f9, f10, _, f12, f13, f14, f15, (vg_sn (j := 30) ez5 (by decide)).trans hh0, (vg_sn (j := 31) ez5 (by decide)).trans hh1, (vg_sn (j := 32) ez5 (by decide)).trans hh2, (vg_sn (j := 33) ez5 (by decide)).trans hh3, (vg_sn (j := 34) ez5 (by decide)).trans hh4, (vg_sn (j := 35) ez5 (by decide)).trans hh5, (vg_sn (j := 36) ez5 (by decide)).trans hh6, (vg_sn (j := 37) ez5 (by decide)).trans hh7, (vg_sn (j := 38) ez5 (by decide)).trans hh8, (vg_sn (j := 39) ez5 (by decide)).trans hh9, (vg_sn (j := 40) ez5 (by decide)).trans hh10, fh6, (vg_sn (j := 42) ez5 (by decide)).trans hh12, (vg_sn (j := 43) ez5 (by decide)).trans hh13, (vg_sn (j := 44) ez5 (by decide)).trans hh14, (vg_sn (j := 45) ez5 (by decide)).trans hh15, hp, fun j2 hj2 => by
        by_cases q9 : j2 = j
        · subst q9; rw [pk_us, va_up_self]; obtain ⟨a4, a0, a1, a2, a3⟩ := hu j2 hj2; exact ⟨by rw [va_up_self], a0, a1, a2, a3⟩
        · rw [pk_un q9, va_up_ne _ _ q9]; exact hu j2 hj2⟩
      exact vg_vret X rfl (Or.inr (⟨j, v, rfl, hj, rfl, hv, ⟨_, _, _, _, fh7, D2, cm_T_fr gT (fun q h1 h2 => vg_sn ez5 (by omega)), (vg_sn (j := 51) ez5 (by decide)).trans g51, (vg_sn (j := 52) ez5 (by decide)).trans g52, (vg_sn (j := 53) ez5 (by decide)).trans g53, (vg_sn (j := 54) ez5 (by decide)).trans g54, hwl, hwp⟩, cm_fr_tr gF (cm_fr_of (vg_fr_set (vg_fr_rf _ [41]) ez5 (by decide)) (by decide))⟩)) (Nat.le_refl _) (Nat.le_refl _) dX7_stand_37
  refine vg_aload_n X dX7_stand_0 0 rfl rfl ?_
  refine vg_aload_n X dX7_stand_1 0 rfl rfl ?_
  refine vg_iload_n X dX7_stand_2 1 rfl rfl ?_
  refine vg_calli (vg_runV X (c_X7_isUnit l hO (k := u) (by omega)) (cwV 1 X.2.2.2.2.1 gX7_stand_X7_isUnit rfl rfl rfl (by decide +kernel) ⟨Nat.le_of_ble_eq_true rfl, Nat.le_of_ble_eq_true rfl⟩) 29 hO3 rfl rfl rfl (Nat.le_of_ble_eq_true rfl) dX7_stand_3 ⟨Nat.zero_le _, Nat.zero_le _⟩) (fun rr10 wz8 PP9 => ?_)
  obtain ⟨hw9, yrr10, nrr10⟩ := PP9
  rw [hw9]
  skip
  refine vg_if_eq X 21 dX7_stand_6 (by decide) (fun c6 => ?_) (fun c6 => ?_)
  · have k6 : ¬ (cm_in u U) := fun q9 => by have := yrr10 q9; rw [c6] at this; exact absurd this (by decide)
    refine vg_iconst X (nI 0) dX7_stand_21 (by decide) ?_
    exact j22 _ (fun q9 => absurd (q9.1) k6) (fun _ => by decide)
  · have k6 : cm_in u U := Classical.byContradiction (fun q9 => c6 (nrr10 q9))
    refine vg_aload_n X dX7_stand_9 0 rfl rfl ?_
    refine vg_iload_n X dX7_stand_10 2 rfl rfl ?_
    refine vg_calli (vg_runV X (c_X7_isNode l hO (k := x) (by omega)) (cwV 1 X.2.2.2.2.1 gX7_stand_X7_isNode rfl rfl rfl (by decide +kernel) ⟨Nat.le_of_ble_eq_true rfl, Nat.le_of_ble_eq_true rfl⟩) 29 hO3 rfl rfl rfl (Nat.le_of_ble_eq_true rfl) dX7_stand_11 ⟨Nat.zero_le _, Nat.zero_le _⟩) (fun rr13 wz11 PP12 => ?_)
    obtain ⟨hw9, yrr13, nrr13⟩ := PP12
    rw [hw9]
    skip
    refine vg_if_eq X 21 dX7_stand_14 (by decide) (fun c14 => ?_) (fun c14 => ?_)
    · have k14 : ¬ (cm_in x n) := fun q9 => by have := yrr13 q9; rw [c14] at this; exact absurd this (by decide)
      refine vg_iconst X (nI 0) dX7_stand_21 (by decide) ?_
      exact j22 _ (fun q9 => absurd (q9.2) k14) (fun _ => by decide)
    · have k14 : cm_in x n := Classical.byContradiction (fun q9 => c14 (nrr13 q9))
      refine vg_iconst X (nI 1) dX7_stand_17 (by decide) ?_
      refine vg_goto X 22 dX7_stand_18 (by decide) ?_
      exact j22 _ (fun _ => by decide) (fun q9 => absurd (show cm_in u U ∧ cm_in x n from ⟨by assumption, by assumption⟩) q9)
set_option maxHeartbeats 4000000 in
set_option maxRecDepth 100000 in
/-- step(..) -/
theorem c_X7_step (l : Launch) {D : va_G} {ay : Nat → ClassId} {base : Nat} {Gx : State → Prop} {ws : va_W} {am : Nat} {aa : Nat → Nat} {n P U th wl : Nat} {d fr to pe uv : Nat → Nat → Nat} {ku ks kt wp : Nat → Nat} {sk : Nat → Nat → Nat} {x : Int32} (hS : cm_St ay ws am aa th n P U d fr to pe uv ku ks kt sk wl wp) (hR : cm_R n P U d fr to pe uv)  : Met l yX7_step wsX7_step ({ frames := 1, cells := 0, slots := 0, locals := 23 } : Room) (va_Pc [.ref am, .int x] (vg_B D ay base Gx ws)) (va_Qi (fun r u2 => (¬ (0 ≤ x) ∧ cm_St ay u2 am aa 1 n P U d fr to pe uv ku ks kt sk wl wp ∧ cm_fr ws u2) ∨ (cm_St ay u2 am aa 0 n P U d fr to pe uv ku ks kt sk wl wp ∧ cm_fr ws u2 ∧ ∃ ix : Nat, x = nI ix ∧ ix < 2 ^ 31 ∧ (ix < wl → r = nI (wp (wl - 1 - ix))) ∧ (¬ ix < wl → r = -1))) (vg_B D ay base Gx) (vg_A base)) 0 0 (vg_A base) := by
  refine vg_met (cc := cX7_step) (maxL := 2) (ret := (some .int)) (own := RX7) (lv := [(0, .ref am), (1, .int x)]) (by decide) rfl rfl (Nat.le_of_ble_eq_true rfl) rfl ?_
  intro p e s m args below meth c X hinit
  obtain ⟨fl, fm, fn, fs, hO, hD, hT, h51, h52, h53, h54, hwl, hwp⟩ := id hS
  have nn := hR.1
  have nP := hR.2.1
  have nU := hR.2.2.1
  have eB : ma_B = 2 ^ 60 := rfl
  have hO3 := hO
  unfold cm_O at hO3
  have j10 : ∀ b9 : Int32, ((0 ≤ x) → b9 = 1) → (¬ (0 ≤ x) → b9 = 0) → vg_V D base p l e ({ frames := 1, cells := 0, slots := 0, locals := 23 } : Room) s m args below meth c 2 0 0 (MQ below (va_Qi (fun r u2 => (¬ (0 ≤ x) ∧ cm_St ay u2 am aa 1 n P U d fr to pe uv ku ks kt sk wl wp ∧ cm_fr ws u2) ∨ (cm_St ay u2 am aa 0 n P U d fr to pe uv ku ks kt sk wl wp ∧ cm_fr ws u2 ∧ ∃ ix : Nat, x = nI ix ∧ ix < 2 ^ 31 ∧ (ix < wl → r = nI (wp (wl - 1 - ix))) ∧ (¬ ix < wl → r = -1))) (vg_B D ay base Gx) (vg_A base)) args s 0 0 (vg_A base)) [(0, .ref am), (1, .int x)] [.int b9, .ref am] ws 10 := by
    intro b10 y10 n10
    refine vg_iconst X (nI 1) dX7_step_10 (by decide) ?_
    refine vg_iconst X (nI 1) dX7_step_11 (by decide) ?_
    refine vg_calli (vg_runV X (c_X7_goes l hO (b1 := b10) (b2 := nI 1) (b3 := nI 1)) (cwV 3 X.2.2.2.2.1 gX7_step_X7_goes rfl rfl rfl (by decide +kernel) ⟨Nat.le_of_ble_eq_true rfl, Nat.le_of_ble_eq_true rfl⟩) 29 hO3 rfl rfl rfl (Nat.le_of_ble_eq_true rfl) dX7_step_12 ⟨Nat.zero_le _, Nat.zero_le _⟩) (fun rr3 wz1 PP2 => ?_)
    obtain ⟨gO, gfr0, gy, gn⟩ := PP2
    have e0 : ∀ q, q ≠ 29 → wz1[q]? = ws[q]? := fun q hq => gfr0.2 q (by simpa using hq)
    have gD : cm_D ay wz1 aa n P U d fr to pe uv := cm_D_fr hD (fun q h1 h2 => e0 q (by omega))
    have gT : cm_T ay wz1 aa n ku ks kt sk := cm_T_fr hT (fun q h1 h2 => e0 q (by omega))
    have gF := cm_fr_of gfr0 (by decide)
    have g51 := (e0 51 (by decide)).trans h51
    have g52 := (e0 52 (by decide)).trans h52
    have g53 := (e0 53 (by decide)).trans h53
    have g54 := (e0 54 (by decide)).trans h54
    refine vg_if_ne X 20 dX7_step_15 (by decide) (fun c15 => ?_) (fun c15 => ?_)
    · skip
      have g0 : go_c b10 (nI 1) (nI 1) = 0 := Classical.byContradiction (fun q9 => c15 (gn q9))
      rw [g0] at gO
      have p0 : 0 ≤ x := Classical.byContradiction (fun q9 => by have := n10 q9; unfold go_c at g0; rw [if_pos this] at g0; exact absurd g0 (by decide))
      have gO3 := gO
      unfold cm_O at gO3
      obtain ⟨i, hi, rfl⟩ := nI_of (x := x) (fun q9 => absurd p0 (Int32.not_le.mpr q9))
      refine vg_iload_n X dX7_step_20 1 rfl rfl ?_
      refine vg_aload_n X dX7_step_21 0 rfl rfl ?_
      refine vg_get X in_X7_step_X7 29 gO3 rfl 28 (by decide) ml_X7_step_100 rfl rfl dX7_step_22 ?_
      refine vg_icmp_ge X 37 dX7_step_25 (by decide) (fun c25 => ?_) (fun c25 => ?_)
      · have c25 : wl ≤ i := (nI_leI (by omega) (by omega)).mp c25
        refine vg_iconst X (-1) dX7_step_37 (by decide) ?_
        exact vg_iret X rfl (Or.inr (⟨⟨_, _, _, _, gO, gD, gT, g51, g52, g53, g54, hwl, hwp⟩, gF, i, rfl, hi, fun q9 => absurd q9 (by omega), fun _ => rfl⟩)) (Nat.le_refl _) (Nat.le_refl _) dX7_step_38
      · have c25 : ¬ wl ≤ i := fun z => c25 ((nI_leI (by omega) (by omega)).mpr z)
        refine vg_aload_n X dX7_step_28 0 rfl rfl ?_
        refine vg_get X in_X7_step_X7 29 gO3 rfl 29 (by decide) ml_X7_step_84 rfl rfl dX7_step_29 ?_
        refine vg_iload_n X dX7_step_32 1 rfl rfl ?_
        refine vg_iald X (nI (wp (wl - 1 - i))) 54 g54 rfl (by omega) (by decide) (hwp i (by omega)) dX7_step_33 ?_
        refine vg_goto X 38 dX7_step_34 (by decide) ?_
        exact vg_iret X rfl (Or.inr (⟨⟨_, _, _, _, gO, gD, gT, g51, g52, g53, g54, hwl, hwp⟩, gF, i, rfl, hi, fun _ => rfl, fun q9 => absurd q9 (by omega)⟩)) (Nat.le_refl _) (Nat.le_refl _) dX7_step_38
    · skip
      have ng : go_c b10 (nI 1) (nI 1) ≠ 0 := fun q9 => by have := gy q9; rw [c15] at this; exact absurd this (by decide)
      by_cases p0 : 0 ≤ x
      · skip
        exact absurd (by unfold go_c; rw [if_neg (by rw [y10 p0]; decide), if_neg (by decide), if_neg (by decide)]) ng
      · skip
        have g9 : go_c b10 (nI 1) (nI 1) = 1 := by unfold go_c; rw [if_pos (n10 p0)]
        rw [g9] at gO
        refine vg_iconst X (nI 0) dX7_step_18 (by decide) ?_
        exact vg_iret X rfl (Or.inl ⟨p0, ⟨_, _, _, _, gO, gD, gT, g51, g52, g53, g54, hwl, hwp⟩, gF⟩) (Nat.le_refl _) (Nat.le_refl _) dX7_step_19
  refine vg_aload_n X dX7_step_0 0 rfl rfl ?_
  refine vg_iload_n X dX7_step_1 1 rfl rfl ?_
  skip
  refine vg_if_lt X 9 dX7_step_2 (by decide) (fun c2 => ?_) (fun c2 => ?_)
  · have k2 : ¬ (0 ≤ x) := Int32.not_le.mpr c2
    refine vg_iconst X (nI 0) dX7_step_9 (by decide) ?_
    exact j10 _ (fun q9 => absurd (q9) k2) (fun _ => by decide)
  · have k2 : 0 ≤ x := Int32.not_lt.mp c2
    refine vg_iconst X (nI 1) dX7_step_5 (by decide) ?_
    refine vg_goto X 10 dX7_step_6 (by decide) ?_
    exact j10 _ (fun _ => by decide) (fun q9 => absurd (show 0 ≤ x from (by assumption)) q9)
