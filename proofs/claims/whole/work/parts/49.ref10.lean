/-- the first among those with the fewest seconds: 0 none, else its number plus 1; and how many -/
def nr_b (D : Nat → Nat) : Nat → Nat × Nat
  | 0 => (0, ma_B)
  | k + 1 => if D k < (nr_b D k).2 then (k + 1, D k) else nr_b D k
def nr_i (x : Nat) : Int32 := if x = 0 then -1 else nI (x - 1)
theorem nr_b_yes {D : Nat → Nat} {k : Nat} (h : D k < (nr_b D k).2) : nr_b D (k + 1) = (k + 1, D k) := if_pos h
theorem nr_b_no {D : Nat → Nat} {k : Nat} (h : ¬ D k < (nr_b D k).2) : nr_b D (k + 1) = nr_b D k := if_neg h
theorem nr_b_congr {D E : Nat → Nat} : ∀ {k : Nat}, (∀ i, i < k → D i = E i) → nr_b D k = nr_b E k
  | 0, _ => rfl
  | k + 1, h => by
    have e := nr_b_congr (k := k) (fun i hi => h i (by omega))
    unfold nr_b
    rw [e, h k (by omega)]
theorem nr_b_in (D : Nat → Nat) : ∀ k : Nat, (nr_b D k).1 ≤ k ∧ (nr_b D k).2 ≤ ma_B ∧ ((nr_b D k).1 = 0 ↔ (nr_b D k).2 = ma_B)
  | 0 => ⟨Nat.le_refl _, Nat.le_refl _, ⟨fun _ => rfl, fun _ => rfl⟩⟩
  | k + 1 => by
    obtain ⟨h1, h2, h3⟩ := nr_b_in D k
    by_cases h : D k < (nr_b D k).2
    · rw [nr_b_yes h]; exact ⟨Nat.le_refl _, (show D k ≤ ma_B by omega), ⟨fun q => absurd q (Nat.succ_ne_zero k), fun q => absurd (show D k = ma_B from q) (by omega)⟩⟩
    · rw [nr_b_no h]; exact ⟨by omega, h2, h3⟩
theorem in_X7_kept_X7 : ∀ w ∈ u_ws RX7 TX7 30, w ∈ wsX7_kept := by decide +kernel
theorem ml_X7_kept_71 : Cond.fieldLink RX7 71 "WayTimesModel" "tree" "[J" ∈ wsX7_kept := by decide +kernel
theorem mk_X7_kept_113 : Jvm.Cond.constantLong RX7 113 (lN ma_B) ∈ wsX7_kept := by decide +kernel
theorem mk_X7_kept_146 : Jvm.Cond.constantLong RX7 146 (-1) ∈ wsX7_kept := by decide +kernel
theorem ml_X7_kept_59 : Cond.fieldLink RX7 59 "WayTimesModel" "has" "[Z" ∈ wsX7_kept := by decide +kernel
theorem in_X7_keep_X7 : ∀ w ∈ u_ws RX7 TX7 30, w ∈ wsX7_keep := by decide +kernel
theorem ml_X7_keep_59 : Cond.fieldLink RX7 59 "WayTimesModel" "has" "[Z" ∈ wsX7_keep := by decide +kernel
theorem ml_X7_keep_62 : Cond.fieldLink RX7 62 "WayTimesModel" "root" "[I" ∈ wsX7_keep := by decide +kernel
theorem ml_X7_keep_65 : Cond.fieldLink RX7 65 "WayTimesModel" "rider" "[I" ∈ wsX7_keep := by decide +kernel
theorem ml_X7_keep_68 : Cond.fieldLink RX7 68 "WayTimesModel" "when" "[I" ∈ wsX7_keep := by decide +kernel
theorem ml_X7_keep_91 : Cond.fieldLink RX7 91 "WayTimesModel" "nodes" "I" ∈ wsX7_keep := by decide +kernel
theorem ml_X7_keep_71 : Cond.fieldLink RX7 71 "WayTimesModel" "tree" "[J" ∈ wsX7_keep := by decide +kernel
theorem ml_X7_keep_75 : Cond.fieldLink RX7 75 "WayTimesModel" "least" "[J" ∈ wsX7_keep := by decide +kernel
theorem mk_X7_nearest_113 : Jvm.Cond.constantLong RX7 113 (lN ma_B) ∈ wsX7_nearest := by decide +kernel
theorem in_X7_nearest_X7 : ∀ w ∈ u_ws RX7 TX7 30, w ∈ wsX7_nearest := by decide +kernel
theorem ml_X7_nearest_97 : Cond.fieldLink RX7 97 "WayTimesModel" "units" "I" ∈ wsX7_nearest := by decide +kernel
theorem ml_X7_nearest_75 : Cond.fieldLink RX7 75 "WayTimesModel" "least" "[J" ∈ wsX7_nearest := by decide +kernel
theorem ml_X7_nearest_44 : Cond.fieldLink RX7 44 "WayTimesModel" "at" "[I" ∈ wsX7_nearest := by decide +kernel
set_option maxHeartbeats 4000000 in
set_option maxRecDepth 100000 in
/-- kept(..) -/
theorem c_X7_kept (l : Launch) {D : va_G} {ay : Nat → ClassId} {base : Nat} {Gx : State → Prop} {ws : va_W} {am : Nat} {aa : Nat → Nat} {n P U th wl : Nat} {d fr to pe uv : Nat → Nat → Nat} {ku ks kt wp : Nat → Nat} {sk : Nat → Nat → Nat} {k v : Int32} (hS : cm_St ay ws am aa th n P U d fr to pe uv ku ks kt sk wl wp) (hR : cm_R n P U d fr to pe uv)  : Met l yX7_kept wsX7_kept ({ frames := 2, cells := 0, slots := 0, locals := 46 } : Room) (va_Pc [.ref am, .int k, .int v] (vg_B D ay base Gx ws)) (va_Ql (fun r u2 => (¬ ((nI 0 ≤ k ∧ k ≤ nI 5) ∧ (∃ i, i < 6 ∧ k = nI i ∧ ku i ≠ 0)) ∧ cm_St ay u2 am aa 1 n P U d fr to pe uv ku ks kt sk wl wp ∧ cm_fr ws u2) ∨ (((nI 0 ≤ k ∧ k ≤ nI 5) ∧ (∃ i, i < 6 ∧ k = nI i ∧ ku i ≠ 0)) ∧ ¬ (cm_in v n) ∧ cm_St ay u2 am aa 2 n P U d fr to pe uv ku ks kt sk wl wp ∧ cm_fr ws u2) ∨ (cm_St ay u2 am aa 0 n P U d fr to pe uv ku ks kt sk wl wp ∧ cm_fr ws u2 ∧ ∃ kx vx : Nat, k = nI kx ∧ kx < 6 ∧ ku kx ≠ 0 ∧ v = nI vx ∧ vx < n ∧ r = vs_rep (sk kx vx))) (vg_B D ay base Gx) (vg_A base)) 0 0 (vg_A base) := by
  refine vg_met (cc := cX7_kept) (maxL := 6) (ret := (some .long)) (own := RX7) (lv := [(0, .ref am), (1, .int k), (2, .int v)]) (by decide) rfl rfl (Nat.le_of_ble_eq_true rfl) rfl ?_
  intro p e s m args below meth c X hinit
  obtain ⟨fl, fm, fn, fs, hO, hD, hT, h51, h52, h53, h54, hwl, hwp⟩ := id hS
  have nn := hR.1
  have nP := hR.2.1
  have nU := hR.2.2.1
  have eB : ma_B = 2 ^ 60 := rfl
  have hO3 := hO
  unfold cm_O at hO3
  obtain ⟨e16, e17, e18, e19, e20, hh16, hh17, hh18, hh19, hh20, ht0⟩ := id hT
  have j36 : ∀ b9 : Int32, (((nI 0 ≤ k ∧ k ≤ nI 5) ∧ (∃ i, i < 6 ∧ k = nI i ∧ ku i ≠ 0)) → b9 = 1) → (¬ ((nI 0 ≤ k ∧ k ≤ nI 5) ∧ (∃ i, i < 6 ∧ k = nI i ∧ ku i ≠ 0)) → b9 = 0) → vg_V D base p l e ({ frames := 2, cells := 0, slots := 0, locals := 46 } : Room) s m args below meth c 6 0 0 (MQ below (va_Ql (fun r u2 => (¬ ((nI 0 ≤ k ∧ k ≤ nI 5) ∧ (∃ i, i < 6 ∧ k = nI i ∧ ku i ≠ 0)) ∧ cm_St ay u2 am aa 1 n P U d fr to pe uv ku ks kt sk wl wp ∧ cm_fr ws u2) ∨ (((nI 0 ≤ k ∧ k ≤ nI 5) ∧ (∃ i, i < 6 ∧ k = nI i ∧ ku i ≠ 0)) ∧ ¬ (cm_in v n) ∧ cm_St ay u2 am aa 2 n P U d fr to pe uv ku ks kt sk wl wp ∧ cm_fr ws u2) ∨ (cm_St ay u2 am aa 0 n P U d fr to pe uv ku ks kt sk wl wp ∧ cm_fr ws u2 ∧ ∃ kx vx : Nat, k = nI kx ∧ kx < 6 ∧ ku kx ≠ 0 ∧ v = nI vx ∧ vx < n ∧ r = vs_rep (sk kx vx))) (vg_B D ay base Gx) (vg_A base)) args s 0 0 (vg_A base)) [(0, .ref am), (1, .int k), (2, .int v)] [.int b9] ws 36 := by
    intro b36 y36 n36
    refine vg_istore_n X [(3, .int b36), (0, .ref am), (1, .int k), (2, .int v)] dX7_kept_36 rfl (by decide) rfl ?_
    refine vg_aload_n X dX7_kept_37 1 rfl rfl ?_
    refine vg_iload_n X dX7_kept_38 0 rfl rfl ?_
    refine vg_aload_n X dX7_kept_39 1 rfl rfl ?_
    refine vg_iload_n X dX7_kept_40 3 rfl rfl ?_
    refine vg_calli (vg_runV X (c_X7_isNode l hO (k := v) (by omega)) (cwV 1 X.2.2.2.2.1 gX7_kept_X7_isNode rfl rfl rfl (by decide +kernel) ⟨Nat.le_of_ble_eq_true rfl, Nat.le_of_ble_eq_true rfl⟩) 29 hO3 rfl rfl rfl (Nat.le_of_ble_eq_true rfl) dX7_kept_41 ⟨Nat.zero_le _, Nat.zero_le _⟩) (fun rr3 wz1 PP2 => ?_)
    obtain ⟨hw9, yrr3, nrr3⟩ := PP2
    rw [hw9]
    refine vg_iconst X (nI 1) dX7_kept_44 (by decide) ?_
    refine vg_calli (vg_runV X (c_X7_goes l hO (b1 := b36) (b2 := rr3) (b3 := nI 1)) (cwV 3 X.2.2.2.2.1 gX7_kept_X7_goes rfl rfl rfl (by decide +kernel) ⟨Nat.le_of_ble_eq_true rfl, Nat.le_of_ble_eq_true rfl⟩) 29 hO3 rfl rfl rfl (Nat.le_of_ble_eq_true rfl) dX7_kept_45 ⟨Nat.zero_le _, Nat.zero_le _⟩) (fun rr6 wz4 PP5 => ?_)
    obtain ⟨gO, gfr0, gy, gn⟩ := PP5
    have e0 : ∀ q, q ≠ 29 → wz4[q]? = ws[q]? := fun q hq => gfr0.2 q (by simpa using hq)
    have gD : cm_D ay wz4 aa n P U d fr to pe uv := cm_D_fr hD (fun q h1 h2 => e0 q (by omega))
    have gT : cm_T ay wz4 aa n ku ks kt sk := cm_T_fr hT (fun q h1 h2 => e0 q (by omega))
    have gF := cm_fr_of gfr0 (by decide)
    have g51 := (e0 51 (by decide)).trans h51
    have g52 := (e0 52 (by decide)).trans h52
    have g53 := (e0 53 (by decide)).trans h53
    have g54 := (e0 54 (by decide)).trans h54
    refine vg_if_ne X 53 dX7_kept_48 (by decide) (fun c48 => ?_) (fun c48 => ?_)
    · skip
      have g0 : go_c b36 rr3 (nI 1) = 0 := Classical.byContradiction (fun q9 => c48 (gn q9))
      rw [g0] at gO
      have p0 : (nI 0 ≤ k ∧ k ≤ nI 5) ∧ (∃ i, i < 6 ∧ k = nI i ∧ ku i ≠ 0) := Classical.byContradiction (fun q9 => by have := n36 q9; unfold go_c at g0; rw [if_pos this] at g0; exact absurd g0 (by decide))
      have p1 : cm_in v n := Classical.byContradiction (fun q9 => by have := nrr3 q9; unfold go_c at g0; rw [if_neg (by rw [y36 p0]; decide), if_pos this] at g0; exact absurd g0 (by decide))
      have gO3 := gO
      unfold cm_O at gO3
      obtain ⟨p0a, i, hi, rfl, hki⟩ := p0
      obtain ⟨v1, hv1, rfl⟩ := p1
      obtain ⟨f16, f17, f18, f19, f20, hh16, hh17, hh18, hh19, hh20, ht5⟩ := id gT
      obtain ⟨_, _, _, _, hs5⟩ := (ht5 i hi).2 hki
      have hs6 := hs5 v1 hv1
      refine vg_aload_n X dX7_kept_53 1 rfl rfl ?_
      refine vg_get X in_X7_kept_X7 29 gO3 rfl 24 (by decide) ml_X7_kept_71 rfl rfl dX7_kept_54 ?_
      refine vg_iload_n X dX7_kept_57 2 rfl rfl ?_
      refine vg_sipush X (nI 200) dX7_kept_58 (by decide) ?_
      refine vg_imul X (nI (i * 200)) dX7_kept_61 (pk_mul _ _) ?_
      refine vg_iload_n X dX7_kept_62 3 rfl rfl ?_
      refine vg_iadd X (nI (i * 200 + v1)) dX7_kept_63 (nI_add _ _) ?_
      refine vg_lald X (lN (sk i v1)) 50 hh20 rfl (by omega) (by decide) hs6.1 dX7_kept_64 ?_
      refine vg_lstore X [(4, .long (lN (sk i v1))), (3, .int b36), (0, .ref am), (1, .int (nI i)), (2, .int (nI v1))] dX7_kept_65 (by decide) rfl ?_
      refine vg_lload X dX7_kept_67 0 rfl ?_
      refine vg_ldc2 X (lN ma_B) dX7_kept_69 mk_X7_kept_113 ?_
      refine vg_lcmp_ge X 81 dX7_kept_72 dX7_kept_73 (by decide) (fun c72 => ?_) (fun c72 => ?_)
      · have c72 : ma_B ≤ sk i v1 := (pk_lLE (by omega) (by omega)).mp c72
        refine vg_ldc2 X (-1) dX7_kept_81 mk_X7_kept_146 ?_
        exact vg_lret X rfl (Or.inr (Or.inr (⟨⟨_, _, _, _, gO, gD, gT, g51, g52, g53, g54, hwl, hwp⟩, gF, i, v1, rfl, hi, hki, rfl, hv1, by rw [show sk i v1 = ma_B by omega, vs_rep_B]⟩))) (Nat.le_refl _) (Nat.le_refl _) dX7_kept_84
      · have c72 : ¬ ma_B ≤ sk i v1 := fun z => c72 ((pk_lLE (by omega) (by omega)).mpr z)
        refine vg_lload X dX7_kept_76 0 rfl ?_
        refine vg_goto X 84 dX7_kept_78 (by decide) ?_
        exact vg_lret X rfl (Or.inr (Or.inr (⟨⟨_, _, _, _, gO, gD, gT, g51, g52, g53, g54, hwl, hwp⟩, gF, i, v1, rfl, hi, hki, rfl, hv1, by rw [vs_rep_lt (by omega)]⟩))) (Nat.le_refl _) (Nat.le_refl _) dX7_kept_84
    · skip
      have ng : go_c b36 rr3 (nI 1) ≠ 0 := fun q9 => by have := gy q9; rw [c48] at this; exact absurd this (by decide)
      by_cases p0 : (nI 0 ≤ k ∧ k ≤ nI 5) ∧ (∃ i, i < 6 ∧ k = nI i ∧ ku i ≠ 0)
      · skip
        by_cases p1 : cm_in v n
        · skip
          exact absurd (by unfold go_c; rw [if_neg (by rw [y36 p0]; decide), if_neg (by rw [yrr3 p1]; decide), if_neg (by decide)]) ng
        · skip
          have g9 : go_c b36 rr3 (nI 1) = 2 := by unfold go_c; rw [if_neg (by rw [y36 p0]; decide), if_pos (nrr3 p1)]
          rw [g9] at gO
          refine vg_lconst X (lN 0) dX7_kept_51 (by decide) ?_
          exact vg_lret X rfl (Or.inr (Or.inl ⟨p0, p1, ⟨_, _, _, _, gO, gD, gT, g51, g52, g53, g54, hwl, hwp⟩, gF⟩)) (Nat.le_refl _) (Nat.le_refl _) dX7_kept_52
      · skip
        have g9 : go_c b36 rr3 (nI 1) = 1 := by unfold go_c; rw [if_pos (n36 p0)]
        rw [g9] at gO
        refine vg_lconst X (lN 0) dX7_kept_51 (by decide) ?_
        exact vg_lret X rfl (Or.inl ⟨p0, ⟨_, _, _, _, gO, gD, gT, g51, g52, g53, g54, hwl, hwp⟩, gF⟩) (Nat.le_refl _) (Nat.le_refl _) dX7_kept_52
  refine vg_iload_n X dX7_kept_0 1 rfl rfl ?_
  refine vg_iconst X (nI 0) dX7_kept_1 (by decide) ?_
  refine vg_iconst X (nI 5) dX7_kept_2 (by decide) ?_
  refine vg_calli (vg_runS X (c_X7_in l (x := k) (a := nI 0) (b := nI 5)) (va_cwS 3 X.2.2.2.2.1 gX7_kept_X7_in rfl rfl rfl (by decide +kernel) ⟨Nat.le_of_ble_eq_true rfl, Nat.le_of_ble_eq_true rfl⟩) rfl rfl (Nat.le_of_ble_eq_true rfl) dX7_kept_3 ⟨Nat.zero_le _, Nat.zero_le _⟩) (fun rr9 wz7 PP8 => ?_)
  obtain ⟨hw9, yrr9, nrr9⟩ := PP8
  rw [hw9]
  skip
  refine vg_if_eq X 35 dX7_kept_6 (by decide) (fun c6 => ?_) (fun c6 => ?_)
  · have k6 : ¬ ((nI 0) ≤ k ∧ k ≤ (nI 5)) := fun q9 => by have := yrr9 q9; rw [c6] at this; exact absurd this (by decide)
    refine vg_iconst X (nI 0) dX7_kept_35 (by decide) ?_
    exact j36 _ (fun q9 => absurd (q9.1) k6) (fun _ => by decide)
  · have k6 : (nI 0) ≤ k ∧ k ≤ (nI 5) := Classical.byContradiction (fun q9 => c6 (nrr9 q9))
    refine vg_aload_n X dX7_kept_9 0 rfl rfl ?_
    refine vg_get X in_X7_kept_X7 29 hO3 rfl 20 (by decide) ml_X7_kept_59 rfl rfl dX7_kept_10 ?_
    refine vg_iload_n X dX7_kept_13 1 rfl rfl ?_
    refine vg_iconst X (nI 0) dX7_kept_14 (by decide) ?_
    refine vg_iconst X (nI 5) dX7_kept_15 (by decide) ?_
    refine vg_calli (vg_runS X (c_X7_in l (x := k) (a := nI 0) (b := nI 5)) (va_cwS 3 X.2.2.2.2.1 gX7_kept_X7_in rfl rfl rfl (by decide +kernel) ⟨Nat.le_of_ble_eq_true rfl, Nat.le_of_ble_eq_true rfl⟩) rfl rfl (Nat.le_of_ble_eq_true rfl) dX7_kept_16 ⟨Nat.zero_le _, Nat.zero_le _⟩) (fun rr12 wz10 PP11 => ?_)
    obtain ⟨hw9, yrr12, nrr12⟩ := PP11
    rw [hw9]
    skip
    refine vg_if_eq X 26 dX7_kept_19 (by decide) (fun c19 => ?_) (fun c19 => ?_)
    · exact absurd (yrr12 k6) (by rw [c19]; decide)
    · have k19 : (nI 0) ≤ k ∧ k ≤ (nI 5) := Classical.byContradiction (fun q9 => c19 (nrr12 q9))
      refine vg_iload_n X dX7_kept_22 1 rfl rfl ?_
      refine vg_goto X 27 dX7_kept_23 (by decide) ?_
      obtain ⟨i9, _, hi9, ei9⟩ := cm_rng k19 (by decide) (by decide)
      refine vg_same rfl (st2 := [.int (nI i9), .ref (aa 16)]) (by rw [ei9]) ?_
      by_cases q0 : ku i9 = 0
      · skip
        refine vg_zald X (nI 0) 46 hh16 rfl (by omega) (by decide) ((ht0 i9 (by omega)).1 q0) dX7_kept_27 ?_
        refine vg_if_eq X 35 dX7_kept_28 (by decide) (fun c28 => ?_) (fun c28 => ?_)
        · have c28 : 0 = 0 := (vg_eq0 (by omega)).mp c28
          have k28 : ¬ (∃ i, i < 6 ∧ k = nI i ∧ ku i ≠ 0) := fun ⟨i8, h8a, h8b, h8c⟩ => by have h8 := (nI_eq (by omega) (by omega)).mp (ei9.symm.trans h8b); subst h8; exact h8c q0
          refine vg_iconst X (nI 0) dX7_kept_35 (by decide) ?_
          exact j36 _ (fun q9 => absurd (q9.2) k28) (fun _ => by decide)
        · have c28 : ¬ 0 = 0 := fun z => c28 ((vg_eq0 (by omega)).mpr z)
          exact absurd rfl c28
      · skip
        refine vg_zald X (nI 1) 46 hh16 rfl (by omega) (by decide) ((ht0 i9 (by omega)).2 q0).1 dX7_kept_27 ?_
        refine vg_if_eq X 35 dX7_kept_28 (by decide) (fun c28 => ?_) (fun c28 => ?_)
        · have c28 : 1 = 0 := (vg_eq0 (by omega)).mp c28
          exact absurd c28 (by decide)
        · have c28 : ¬ 1 = 0 := fun z => c28 ((vg_eq0 (by omega)).mpr z)
          have k28 : ∃ i, i < 6 ∧ k = nI i ∧ ku i ≠ 0 := ⟨i9, by omega, ei9, q0⟩
          refine vg_iconst X (nI 1) dX7_kept_31 (by decide) ?_
          refine vg_goto X 36 dX7_kept_32 (by decide) ?_
          exact j36 _ (fun _ => by decide) (fun q9 => absurd (show (nI 0 ≤ k ∧ k ≤ nI 5) ∧ (∃ i, i < 6 ∧ k = nI i ∧ ku i ≠ 0) from ⟨by assumption, by assumption⟩) q9)
set_option maxHeartbeats 4000000 in
set_option maxRecDepth 100000 in
/-- keep(..) -/
theorem c_X7_keep (l : Launch) {D : va_G} {ay : Nat → ClassId} {base : Nat} {Gx : State → Prop} {ws : va_W} {am : Nat} {aa : Nat → Nat} {n P U th wl : Nat} {d fr to pe uv : Nat → Nat → Nat} {ku ks kt wp : Nat → Nat} {sk : Nat → Nat → Nat} {k v u t : Int32} (hS : cm_St ay ws am aa th n P U d fr to pe uv ku ks kt sk wl wp) (hR : cm_R n P U d fr to pe uv)  : Met l yX7_keep wsX7_keep ({ frames := 4, cells := 0, slots := 0, locals := 103 } : Room) (va_Pc [.ref am, .int k, .int v, .int u, .int t] (vg_B D ay base Gx ws)) (va_Qv (fun u2 => (¬ ((nI 0 ≤ k ∧ k ≤ nI 5) ∧ cm_in v n ∧ cm_in u U) ∧ cm_St ay u2 am aa 1 n P U d fr to pe uv ku ks kt sk wl wp ∧ cm_fr ws u2) ∨ (((nI 0 ≤ k ∧ k ≤ nI 5) ∧ cm_in v n ∧ cm_in u U) ∧ ¬ (0 ≤ t) ∧ cm_St ay u2 am aa 2 n P U d fr to pe uv ku ks kt sk wl wp ∧ cm_fr ws u2) ∨ (∃ kx vx jx tx : Nat, k = nI kx ∧ kx < 6 ∧ v = nI vx ∧ vx < n ∧ u = nI jx ∧ jx < U ∧ t = nI tx ∧ tx < 2 ^ 31 ∧ cm_St ay u2 am aa 0 n P U d fr to pe uv (va_up ku kx (jx + 1)) (va_up ks kx vx) (va_up kt kx tx) (va_up sk kx (fun x => ma_d (ma_T P (fun i => d i 0) (fun i => d i 1) (fun i => ps_w (d i) (fr i) (to i) (pe i) (uv jx) tx) vx x) 1)) wl wp ∧ cm_fr ws u2)) (vg_B D ay base Gx) (vg_A base)) 0 0 (vg_A base) := by
  refine vg_met (cc := cX7_keep) (maxL := 6) (ret := none) (own := RX7) (lv := [(0, .ref am), (1, .int k), (2, .int v), (3, .int u), (4, .int t)]) (by decide) rfl rfl (Nat.le_of_ble_eq_true rfl) rfl ?_
  intro p e s m args below meth c X hinit
  obtain ⟨fl, fm, fn, fs, hO, hD, hT, h51, h52, h53, h54, hwl, hwp⟩ := id hS
  have nn := hR.1
  have nP := hR.2.1
  have nU := hR.2.2.1
  have eB : ma_B = 2 ^ 60 := rfl
  have hO3 := hO
  unfold cm_O at hO3
  have j31 : ∀ b9 : Int32, (((nI 0 ≤ k ∧ k ≤ nI 5) ∧ cm_in v n ∧ cm_in u U) → b9 = 1) → (¬ ((nI 0 ≤ k ∧ k ≤ nI 5) ∧ cm_in v n ∧ cm_in u U) → b9 = 0) → vg_V D base p l e ({ frames := 4, cells := 0, slots := 0, locals := 103 } : Room) s m args below meth c 6 0 0 (MQ below (va_Qv (fun u2 => (¬ ((nI 0 ≤ k ∧ k ≤ nI 5) ∧ cm_in v n ∧ cm_in u U) ∧ cm_St ay u2 am aa 1 n P U d fr to pe uv ku ks kt sk wl wp ∧ cm_fr ws u2) ∨ (((nI 0 ≤ k ∧ k ≤ nI 5) ∧ cm_in v n ∧ cm_in u U) ∧ ¬ (0 ≤ t) ∧ cm_St ay u2 am aa 2 n P U d fr to pe uv ku ks kt sk wl wp ∧ cm_fr ws u2) ∨ (∃ kx vx jx tx : Nat, k = nI kx ∧ kx < 6 ∧ v = nI vx ∧ vx < n ∧ u = nI jx ∧ jx < U ∧ t = nI tx ∧ tx < 2 ^ 31 ∧ cm_St ay u2 am aa 0 n P U d fr to pe uv (va_up ku kx (jx + 1)) (va_up ks kx vx) (va_up kt kx tx) (va_up sk kx (fun x => ma_d (ma_T P (fun i => d i 0) (fun i => d i 1) (fun i => ps_w (d i) (fr i) (to i) (pe i) (uv jx) tx) vx x) 1)) wl wp ∧ cm_fr ws u2)) (vg_B D ay base Gx) (vg_A base)) args s 0 0 (vg_A base)) [(0, .ref am), (1, .int k), (2, .int v), (3, .int u), (4, .int t)] [.int b9, .ref am] ws 31 := by
    intro b31 y31 n31
    have j41 : ∀ b9 : Int32, ((0 ≤ t) → b9 = 1) → (¬ (0 ≤ t) → b9 = 0) → vg_V D base p l e ({ frames := 4, cells := 0, slots := 0, locals := 103 } : Room) s m args below meth c 6 0 0 (MQ below (va_Qv (fun u2 => (¬ ((nI 0 ≤ k ∧ k ≤ nI 5) ∧ cm_in v n ∧ cm_in u U) ∧ cm_St ay u2 am aa 1 n P U d fr to pe uv ku ks kt sk wl wp ∧ cm_fr ws u2) ∨ (((nI 0 ≤ k ∧ k ≤ nI 5) ∧ cm_in v n ∧ cm_in u U) ∧ ¬ (0 ≤ t) ∧ cm_St ay u2 am aa 2 n P U d fr to pe uv ku ks kt sk wl wp ∧ cm_fr ws u2) ∨ (∃ kx vx jx tx : Nat, k = nI kx ∧ kx < 6 ∧ v = nI vx ∧ vx < n ∧ u = nI jx ∧ jx < U ∧ t = nI tx ∧ tx < 2 ^ 31 ∧ cm_St ay u2 am aa 0 n P U d fr to pe uv (va_up ku kx (jx + 1)) (va_up ks kx vx) (va_up kt kx tx) (va_up sk kx (fun x => ma_d (ma_T P (fun i => d i 0) (fun i => d i 1) (fun i => ps_w (d i) (fr i) (to i) (pe i) (uv jx) tx) vx x) 1)) wl wp ∧ cm_fr ws u2)) (vg_B D ay base Gx) (vg_A base)) args s 0 0 (vg_A base)) [(0, .ref am), (1, .int k), (2, .int v), (3, .int u), (4, .int t)] [.int b9, .int b31, .ref am] ws 41 := by
      intro b41 y41 n41
      refine vg_iconst X (nI 1) dX7_keep_41 (by decide) ?_
      refine vg_calli (vg_runV X (c_X7_goes l hO (b1 := b31) (b2 := b41) (b3 := nI 1)) (cwV 3 X.2.2.2.2.1 gX7_keep_X7_goes rfl rfl rfl (by decide +kernel) ⟨Nat.le_of_ble_eq_true rfl, Nat.le_of_ble_eq_true rfl⟩) 29 hO3 rfl rfl rfl (Nat.le_of_ble_eq_true rfl) dX7_keep_42 ⟨Nat.zero_le _, Nat.zero_le _⟩) (fun rr3 wz1 PP2 => ?_)
      obtain ⟨gO, gfr0, gy, gn⟩ := PP2
      have e0 : ∀ q, q ≠ 29 → wz1[q]? = ws[q]? := fun q hq => gfr0.2 q (by simpa using hq)
      have gD : cm_D ay wz1 aa n P U d fr to pe uv := cm_D_fr hD (fun q h1 h2 => e0 q (by omega))
      have gT : cm_T ay wz1 aa n ku ks kt sk := cm_T_fr hT (fun q h1 h2 => e0 q (by omega))
      have gF := cm_fr_of gfr0 (by decide)
      have g51 := (e0 51 (by decide)).trans h51
      have g52 := (e0 52 (by decide)).trans h52
      have g53 := (e0 53 (by decide)).trans h53
      have g54 := (e0 54 (by decide)).trans h54
      refine vg_if_ne X 49 dX7_keep_45 (by decide) (fun c45 => ?_) (fun c45 => ?_)
      · skip
        have g0 : go_c b31 b41 (nI 1) = 0 := Classical.byContradiction (fun q9 => c45 (gn q9))
        rw [g0] at gO
        have p0 : (nI 0 ≤ k ∧ k ≤ nI 5) ∧ cm_in v n ∧ cm_in u U := Classical.byContradiction (fun q9 => by have := n31 q9; unfold go_c at g0; rw [if_pos this] at g0; exact absurd g0 (by decide))
        have p1 : 0 ≤ t := Classical.byContradiction (fun q9 => by have := n41 q9; unfold go_c at g0; rw [if_neg (by rw [y31 p0]; decide), if_pos this] at g0; exact absurd g0 (by decide))
        have gO3 := gO
        unfold cm_O at gO3
        obtain ⟨⟨i, _, hi, rfl⟩, ⟨v1, hv1, rfl⟩, ⟨j, hj, rfl⟩⟩ : (∃ q, 0 ≤ q ∧ q ≤ 5 ∧ k = nI q) ∧ cm_in v n ∧ cm_in u U := ⟨cm_rng p0.1 (by decide) (by decide), p0.2⟩
        obtain ⟨t1, ht, rfl⟩ := nI_of (x := t) (fun q9 => absurd p1 (Int32.not_le.mpr q9))
        obtain ⟨f16, f17, f18, f19, f20, hh16, hh17, hh18, hh19, hh20, ht5⟩ := id gT
        refine vg_aload_n X dX7_keep_49 0 rfl rfl ?_
        refine vg_get X in_X7_keep_X7 29 gO3 rfl 20 (by decide) ml_X7_keep_59 rfl rfl dX7_keep_50 ?_
        refine vg_iload_n X dX7_keep_53 1 rfl rfl ?_
        refine vg_iconst X (nI 1) dX7_keep_54 (by decide) ?_
        refine vg_zast X 46 hh16 rfl (by omega) (by decide) (by decide) dX7_keep_55 (fun wz4 ez5 => ?_)
        have fh6 : wz4[46]? = some ((aa 16), .inl (ay 2, 6, .inl (upd f16 i (nI 1)))) := vg_se ez5 hh16
        refine vg_aload_n X dX7_keep_56 0 rfl rfl ?_
        have fh7 : wz4[29]? = some (am, .inr (10, [.int (nI 0), .int (nI n), .int (nI P), .ref (aa 0), .ref (aa 1), .ref (aa 2), .ref (aa 3), .ref (aa 4), .ref (aa 5), .ref (aa 6), .ref (aa 7), .ref (aa 8), .ref (aa 9), .ref (aa 10), .int (nI U), .ref (aa 11), .ref (aa 12), .ref (aa 13), .ref (aa 14), .ref (aa 15), .ref (aa 16), .ref (aa 17), .ref (aa 18), .ref (aa 19), .ref (aa 20), .ref (aa 21), .ref (aa 22), .ref (aa 23), .int (nI wl), .ref (aa 24)])) := (vg_sn ez5 (by decide)).trans (gO3)
        refine vg_get X in_X7_keep_X7 29 fh7 rfl 21 (by decide) ml_X7_keep_62 rfl rfl dX7_keep_57 ?_
        refine vg_iload_n X dX7_keep_60 1 rfl rfl ?_
        refine vg_iload_n X dX7_keep_61 2 rfl rfl ?_
        have fh8 : wz4[47]? = some ((aa 17), .inl (ay 0, 6, .inl f17)) := (vg_sn ez5 (by decide)).trans (hh17)
        refine vg_iast X 47 fh8 rfl (by omega) (by decide) dX7_keep_62 (fun wz9 ez10 => ?_)
        have fh11 : wz9[47]? = some ((aa 17), .inl (ay 0, 6, .inl (upd f17 i (nI v1)))) := vg_se ez10 fh8
        refine vg_aload_n X dX7_keep_63 0 rfl rfl ?_
        have fh12 : wz9[29]? = some (am, .inr (10, [.int (nI 0), .int (nI n), .int (nI P), .ref (aa 0), .ref (aa 1), .ref (aa 2), .ref (aa 3), .ref (aa 4), .ref (aa 5), .ref (aa 6), .ref (aa 7), .ref (aa 8), .ref (aa 9), .ref (aa 10), .int (nI U), .ref (aa 11), .ref (aa 12), .ref (aa 13), .ref (aa 14), .ref (aa 15), .ref (aa 16), .ref (aa 17), .ref (aa 18), .ref (aa 19), .ref (aa 20), .ref (aa 21), .ref (aa 22), .ref (aa 23), .int (nI wl), .ref (aa 24)])) := (vg_sn ez10 (by decide)).trans (fh7)
        refine vg_get X in_X7_keep_X7 29 fh12 rfl 22 (by decide) ml_X7_keep_65 rfl rfl dX7_keep_64 ?_
        refine vg_iload_n X dX7_keep_67 1 rfl rfl ?_
        refine vg_iload_n X dX7_keep_68 3 rfl rfl ?_
        have fh13 : wz9[48]? = some ((aa 18), .inl (ay 0, 6, .inl f18)) := (vg_sn ez10 (by decide)).trans ((vg_sn ez5 (by decide)).trans (hh18))
        refine vg_iast X 48 fh13 rfl (by omega) (by decide) dX7_keep_69 (fun wz14 ez15 => ?_)
        have fh16 : wz14[48]? = some ((aa 18), .inl (ay 0, 6, .inl (upd f18 i (nI j)))) := vg_se ez15 fh13
        refine vg_aload_n X dX7_keep_70 0 rfl rfl ?_
        have fh17 : wz14[29]? = some (am, .inr (10, [.int (nI 0), .int (nI n), .int (nI P), .ref (aa 0), .ref (aa 1), .ref (aa 2), .ref (aa 3), .ref (aa 4), .ref (aa 5), .ref (aa 6), .ref (aa 7), .ref (aa 8), .ref (aa 9), .ref (aa 10), .int (nI U), .ref (aa 11), .ref (aa 12), .ref (aa 13), .ref (aa 14), .ref (aa 15), .ref (aa 16), .ref (aa 17), .ref (aa 18), .ref (aa 19), .ref (aa 20), .ref (aa 21), .ref (aa 22), .ref (aa 23), .int (nI wl), .ref (aa 24)])) := (vg_sn ez15 (by decide)).trans (fh12)
        refine vg_get X in_X7_keep_X7 29 fh17 rfl 23 (by decide) ml_X7_keep_68 rfl rfl dX7_keep_71 ?_
        refine vg_iload_n X dX7_keep_74 1 rfl rfl ?_
        refine vg_iload X dX7_keep_75 4 rfl ?_
        have fh18 : wz14[49]? = some ((aa 19), .inl (ay 0, 6, .inl f19)) := (vg_sn ez15 (by decide)).trans ((vg_sn ez10 (by decide)).trans ((vg_sn ez5 (by decide)).trans (hh19)))
        refine vg_iast X 49 fh18 rfl (by omega) (by decide) dX7_keep_77 (fun wz19 ez20 => ?_)
        have fh21 : wz19[49]? = some ((aa 19), .inl (ay 0, 6, .inl (upd f19 i (nI t1)))) := vg_se ez20 fh18
        refine vg_aload_n X dX7_keep_78 0 rfl rfl ?_
        refine vg_iload_n X dX7_keep_79 3 rfl rfl ?_
        refine vg_iload_n X dX7_keep_80 2 rfl rfl ?_
        refine vg_iload X dX7_keep_81 4 rfl ?_
        have fh22 : wz19[29]? = some (am, .inr (10, [.int (nI 0), .int (nI n), .int (nI P), .ref (aa 0), .ref (aa 1), .ref (aa 2), .ref (aa 3), .ref (aa 4), .ref (aa 5), .ref (aa 6), .ref (aa 7), .ref (aa 8), .ref (aa 9), .ref (aa 10), .int (nI U), .ref (aa 11), .ref (aa 12), .ref (aa 13), .ref (aa 14), .ref (aa 15), .ref (aa 16), .ref (aa 17), .ref (aa 18), .ref (aa 19), .ref (aa 20), .ref (aa 21), .ref (aa 22), .ref (aa 23), .int (nI wl), .ref (aa 24)])) := (vg_sn ez20 (by decide)).trans (fh17)
        have fh23 : wz19[46]? = some ((aa 16), .inl (ay 2, 6, .inl (upd f16 i (nI 1)))) := (vg_sn ez20 (by decide)).trans ((vg_sn ez15 (by decide)).trans ((vg_sn ez10 (by decide)).trans (fh6)))
        have fh24 : wz19[47]? = some ((aa 17), .inl (ay 0, 6, .inl (upd f17 i (nI v1)))) := (vg_sn ez20 (by decide)).trans ((vg_sn ez15 (by decide)).trans (fh11))
        have fh25 : wz19[48]? = some ((aa 18), .inl (ay 0, 6, .inl (upd f18 i (nI j)))) := (vg_sn ez20 (by decide)).trans (fh16)
        have fh26 : wz19[50]? = some ((aa 20), .inl (ay 1, 1200, .inr (.inl f20))) := (vg_sn ez20 (by decide)).trans ((vg_sn ez15 (by decide)).trans ((vg_sn ez10 (by decide)).trans ((vg_sn ez5 (by decide)).trans (hh20))))
        have O2 : cm_O wz19 am aa (nI 0) n P U (nI wl) := fh22
        have D2 : cm_D ay wz19 aa n P U d fr to pe uv := cm_D_fr gD (fun q h1 h2 => ((vg_sn (j := q) ez20 (by omega)).trans ((vg_sn (j := q) ez15 (by omega)).trans ((vg_sn (j := q) ez10 (by omega)).trans (vg_sn (j := q) ez5 (by omega))))))
        have F2 : vg_fr wz1 wz19 [46, 47, 48, 49] := (vg_fr_set (vg_fr_set (vg_fr_set (vg_fr_set (vg_fr_rf _ [46, 47, 48, 49]) ez5 (by decide)) ez10 (by decide)) ez15 (by decide)) ez20 (by decide))
        refine vg_callv (vg_runV X (c_X7_spread l O2 D2 hR ((F2.2 51 (by decide)).trans g51) (j := j) (a := v1) (t := t1) hj hv1 ht) (cwV 3 X.2.2.2.2.1 gX7_keep_X7_spread rfl rfl rfl (by decide +kernel) ⟨Nat.le_of_ble_eq_true rfl, Nat.le_of_ble_eq_true rfl⟩) 29 fh22 rfl rfl rfl (Nat.le_of_ble_eq_true rfl) dX7_keep_83 ⟨Nat.zero_le _, Nat.zero_le _⟩) (fun wz27 PP28 => ?_)
        obtain ⟨fl2, y1, y2, y3⟩ := PP28
        refine vg_iconst X (nI 0) dX7_keep_86 (by decide) ?_
        refine vg_istore X [(5, .int (nI 0)), (0, .ref am), (1, .int (nI i)), (2, .int (nI v1)), (3, .int (nI j)), (4, .int (nI t1))] dX7_keep_87 (by decide) rfl ?_
        have e9 : ∀ q, q ≠ 51 → wz27[q]? = wz19[q]? := fun q hq => y3.2 q (by simpa using hq)
        have loop : ∀ (k9 x : Nat) (ft : Nat → Int64) (ws1 : va_W), x + k9 = n → ws1[50]? = some ((aa 20), .inl (ay 1, 1200, .inr (.inl ft))) → vg_fr wz27 ws1 [50] → (∀ q, q < x → ft (i * 200 + q) = fl2 q) → (∀ q, q < i * 200 ∨ i * 200 + x ≤ q → ft q = f20 q) → vg_V D base p l e ({ frames := 4, cells := 0, slots := 0, locals := 103 } : Room) s m args below meth c 6 0 0 (MQ below (va_Qv (fun u2 => (¬ ((nI 0 ≤ (nI i) ∧ (nI i) ≤ nI 5) ∧ cm_in (nI v1) n ∧ cm_in (nI j) U) ∧ cm_St ay u2 am aa 1 n P U d fr to pe uv ku ks kt sk wl wp ∧ cm_fr ws u2) ∨ (((nI 0 ≤ (nI i) ∧ (nI i) ≤ nI 5) ∧ cm_in (nI v1) n ∧ cm_in (nI j) U) ∧ ¬ (0 ≤ (nI t1)) ∧ cm_St ay u2 am aa 2 n P U d fr to pe uv ku ks kt sk wl wp ∧ cm_fr ws u2) ∨ (∃ kx vx jx tx : Nat, (nI i) = nI kx ∧ kx < 6 ∧ (nI v1) = nI vx ∧ vx < n ∧ (nI j) = nI jx ∧ jx < U ∧ (nI t1) = nI tx ∧ tx < 2 ^ 31 ∧ cm_St ay u2 am aa 0 n P U d fr to pe uv (va_up ku kx (jx + 1)) (va_up ks kx vx) (va_up kt kx tx) (va_up sk kx (fun x => ma_d (ma_T P (fun i => d i 0) (fun i => d i 1) (fun i => ps_w (d i) (fr i) (to i) (pe i) (uv jx) tx) vx x) 1)) wl wp ∧ cm_fr ws u2)) (vg_B D ay base Gx) (vg_A base)) args s 0 0 (vg_A base)) [(5, .int (nI x)), (0, .ref am), (1, .int (nI i)), (2, .int (nI v1)), (3, .int (nI j)), (4, .int (nI t1))] [] ws1 89 := by
          intro k9
          induction k9 using Nat.strongRecOn with
          | ind k9 ih =>
            intro x ft ws1 hk g50 gfr h8 h9
            have e1 : ∀ q, q ≠ 50 → ws1[q]? = wz27[q]? := fun q hq => gfr.2 q (by simpa using hq)
            have O3 : cm_O ws1 am aa (nI 0) n P U (nI wl) := (e1 29 (by decide)).trans ((e9 29 (by decide)).trans O2)
            have O4 := O3
            unfold cm_O at O4
            have y51 := (e1 51 (by decide)).trans y1
            refine vg_iload X dX7_keep_89 0 rfl ?_
            refine vg_aload_n X dX7_keep_91 1 rfl rfl ?_
            refine vg_get X in_X7_keep_X7 29 O4 rfl 1 (by decide) ml_X7_keep_91 rfl rfl dX7_keep_92 ?_
            refine vg_icmp_ge X 124 dX7_keep_95 (by decide) (fun c95 => ?_) (fun c95 => ?_)
            · have c95 : n ≤ x := (nI_leI (by omega) (by omega)).mp c95
              have T4 : cm_T ay ws1 aa n (va_up ku i (j + 1)) (va_up ks i v1) (va_up kt i t1) (va_up sk i (fun x => ma_d (ma_T P (fun i => d i 0) (fun i => d i 1) (fun i => ps_w (d i) (fr i) (to i) (pe i) (uv j) t1) v1 x) 1)) := by
                refine ⟨(upd f16 i (nI 1)), (upd f17 i (nI v1)), (upd f18 i (nI j)), (upd f19 i (nI t1)), ft, (e1 46 (by decide)).trans ((e9 46 (by decide)).trans fh23), (e1 47 (by decide)).trans ((e9 47 (by decide)).trans fh24), (e1 48 (by decide)).trans ((e9 48 (by decide)).trans fh25), (e1 49 (by decide)).trans ((e9 49 (by decide)).trans fh21), g50, fun q hq => ?_⟩
                by_cases q9 : q = i
                · subst q9; rw [va_up_self, va_up_self, va_up_self, va_up_self, pk_us, pk_us, pk_us, pk_us]; exact ⟨fun q8 => absurd q8 (Nat.succ_ne_zero j), fun _ => ⟨rfl, rfl, rfl, rfl, fun x9 hx9 => ⟨(h8 x9 (by omega)).trans (y2 x9 hx9), ma_d_leB _ _⟩⟩⟩
                · rw [va_up_ne _ _ q9, va_up_ne _ _ q9, va_up_ne _ _ q9, va_up_ne _ _ q9, pk_un q9, pk_un q9, pk_un q9, pk_un q9]
                  refine ⟨(ht5 q hq).1, fun q8 => ?_⟩
                  obtain ⟨w0, w1, w2, w3, w4⟩ := (ht5 q hq).2 q8
                  exact ⟨w0, w1, w2, w3, fun x9 hx9 => by rw [h9 _ (by omega)]; exact w4 x9 hx9⟩
              exact vg_vret X rfl (Or.inr (Or.inr (⟨i, v1, j, t1, rfl, by omega, rfl, hv1, rfl, hj, rfl, ht, ⟨fl2, _, _, _, O3, cm_D_fr D2 (fun q h1 h2 => (e1 q (by omega)).trans (e9 q (by omega))), T4, y51, (e1 52 (by decide)).trans ((e9 52 (by decide)).trans ((F2.2 52 (by decide)).trans g52)), (e1 53 (by decide)).trans ((e9 53 (by decide)).trans ((F2.2 53 (by decide)).trans g53)), (e1 54 (by decide)).trans ((e9 54 (by decide)).trans ((F2.2 54 (by decide)).trans g54)), hwl, hwp⟩, cm_fr_tr gF (cm_fr_tr (cm_fr_of F2 (by decide)) (cm_fr_tr (cm_fr_of y3 (by decide)) (cm_fr_of gfr (by decide))))⟩))) (Nat.le_refl _) (Nat.le_refl _) dX7_keep_124
            · have c95 : ¬ n ≤ x := fun z => c95 ((nI_leI (by omega) (by omega)).mpr z)
              refine vg_aload_n X dX7_keep_98 1 rfl rfl ?_
              refine vg_get X in_X7_keep_X7 29 O4 rfl 24 (by decide) ml_X7_keep_71 rfl rfl dX7_keep_99 ?_
              refine vg_iload_n X dX7_keep_102 2 rfl rfl ?_
              refine vg_sipush X (nI 200) dX7_keep_103 (by decide) ?_
              refine vg_imul X (nI (i * 200)) dX7_keep_106 (pk_mul _ _) ?_
              refine vg_iload X dX7_keep_107 0 rfl ?_
              refine vg_iadd X (nI (i * 200 + x)) dX7_keep_109 (nI_add _ _) ?_
              refine vg_aload_n X dX7_keep_110 1 rfl rfl ?_
              refine vg_get X in_X7_keep_X7 29 O4 rfl 25 (by decide) ml_X7_keep_75 rfl rfl dX7_keep_111 ?_
              refine vg_iload X dX7_keep_114 0 rfl ?_
              refine vg_lald X (fl2 x) 51 y51 rfl (by omega) (by decide) rfl dX7_keep_116 ?_
              refine vg_last X 50 g50 rfl (by omega) (by decide) dX7_keep_117 (fun wz30 ez31 => ?_)
              have fh32 : wz30[50]? = some ((aa 20), .inl (ay 1, 1200, .inr (.inl (vp_updL ft (i * 200 + x) (fl2 x))))) := vg_se ez31 g50
              refine vg_iinc X (v := nI (x + 1)) [(5, .int (nI (x + 1))), (0, .ref am), (1, .int (nI i)), (2, .int (nI v1)), (3, .int (nI j)), (4, .int (nI t1))] dX7_keep_118 0 rfl (by rw [show Int32.ofInt 1 = nI 1 by decide, nI_add]) (by decide) rfl ?_
              refine vg_goto X 89 dX7_keep_121 (by decide) ?_
              refine ih (k9 - 1) (by omega) (x + 1) _ _ (by omega) fh32 (vg_fr_set gfr ez31 (by decide)) (fun q hq => ?_) (fun q hq => ?_)
              · by_cases q9 : q = x
                · subst q9; exact pk_uLs
                · rw [pk_uLn (by omega)]; exact h8 q (by omega)
              · rw [pk_uLn (by omega)]; exact h9 q (by omega)
        exact loop n 0 f20 wz27 (by omega) ((e9 50 (by decide)).trans fh26) (vg_fr_rf _ _) (fun q hq => absurd hq (Nat.not_lt_zero q)) (fun q hq => rfl)
      · skip
        have ng : go_c b31 b41 (nI 1) ≠ 0 := fun q9 => by have := gy q9; rw [c45] at this; exact absurd this (by decide)
        by_cases p0 : (nI 0 ≤ k ∧ k ≤ nI 5) ∧ cm_in v n ∧ cm_in u U
        · skip
          by_cases p1 : 0 ≤ t
          · skip
            exact absurd (by unfold go_c; rw [if_neg (by rw [y31 p0]; decide), if_neg (by rw [y41 p1]; decide), if_neg (by decide)]) ng
          · skip
            have g9 : go_c b31 b41 (nI 1) = 2 := by unfold go_c; rw [if_neg (by rw [y31 p0]; decide), if_pos (n41 p1)]
            rw [g9] at gO
            exact vg_vret X rfl (Or.inr (Or.inl ⟨p0, p1, ⟨_, _, _, _, gO, gD, gT, g51, g52, g53, g54, hwl, hwp⟩, gF⟩)) (Nat.le_refl _) (Nat.le_refl _) dX7_keep_48
        · skip
          have g9 : go_c b31 b41 (nI 1) = 1 := by unfold go_c; rw [if_pos (n31 p0)]
          rw [g9] at gO
          exact vg_vret X rfl (Or.inl ⟨p0, ⟨_, _, _, _, gO, gD, gT, g51, g52, g53, g54, hwl, hwp⟩, gF⟩) (Nat.le_refl _) (Nat.le_refl _) dX7_keep_48
    refine vg_iload X dX7_keep_31 4 rfl ?_
    skip
    refine vg_if_lt X 40 dX7_keep_33 (by decide) (fun c33 => ?_) (fun c33 => ?_)
    · have k33 : ¬ (0 ≤ t) := Int32.not_le.mpr c33
      refine vg_iconst X (nI 0) dX7_keep_40 (by decide) ?_
      exact j41 _ (fun q9 => absurd (q9) k33) (fun _ => by decide)
    · have k33 : 0 ≤ t := Int32.not_lt.mp c33
      refine vg_iconst X (nI 1) dX7_keep_36 (by decide) ?_
      refine vg_goto X 41 dX7_keep_37 (by decide) ?_
      exact j41 _ (fun _ => by decide) (fun q9 => absurd (show 0 ≤ t from (by assumption)) q9)
  refine vg_aload_n X dX7_keep_0 0 rfl rfl ?_
  refine vg_iload_n X dX7_keep_1 1 rfl rfl ?_
  refine vg_iconst X (nI 0) dX7_keep_2 (by decide) ?_
  refine vg_iconst X (nI 5) dX7_keep_3 (by decide) ?_
  refine vg_calli (vg_runS X (c_X7_in l (x := k) (a := nI 0) (b := nI 5)) (va_cwS 3 X.2.2.2.2.1 gX7_keep_X7_in rfl rfl rfl (by decide +kernel) ⟨Nat.le_of_ble_eq_true rfl, Nat.le_of_ble_eq_true rfl⟩) rfl rfl (Nat.le_of_ble_eq_true rfl) dX7_keep_4 ⟨Nat.zero_le _, Nat.zero_le _⟩) (fun rr35 wz33 PP34 => ?_)
  obtain ⟨hw9, yrr35, nrr35⟩ := PP34
  rw [hw9]
  skip
  refine vg_if_eq X 30 dX7_keep_7 (by decide) (fun c7 => ?_) (fun c7 => ?_)
  · have k7 : ¬ ((nI 0) ≤ k ∧ k ≤ (nI 5)) := fun q9 => by have := yrr35 q9; rw [c7] at this; exact absurd this (by decide)
    refine vg_iconst X (nI 0) dX7_keep_30 (by decide) ?_
    exact j31 _ (fun q9 => absurd (q9.1) k7) (fun _ => by decide)
  · have k7 : (nI 0) ≤ k ∧ k ≤ (nI 5) := Classical.byContradiction (fun q9 => c7 (nrr35 q9))
    refine vg_aload_n X dX7_keep_10 0 rfl rfl ?_
    refine vg_iload_n X dX7_keep_11 2 rfl rfl ?_
    refine vg_calli (vg_runV X (c_X7_isNode l hO (k := v) (by omega)) (cwV 1 X.2.2.2.2.1 gX7_keep_X7_isNode rfl rfl rfl (by decide +kernel) ⟨Nat.le_of_ble_eq_true rfl, Nat.le_of_ble_eq_true rfl⟩) 29 hO3 rfl rfl rfl (Nat.le_of_ble_eq_true rfl) dX7_keep_12 ⟨Nat.zero_le _, Nat.zero_le _⟩) (fun rr38 wz36 PP37 => ?_)
    obtain ⟨hw9, yrr38, nrr38⟩ := PP37
    rw [hw9]
    skip
    refine vg_if_eq X 30 dX7_keep_15 (by decide) (fun c15 => ?_) (fun c15 => ?_)
    · have k15 : ¬ (cm_in v n) := fun q9 => by have := yrr38 q9; rw [c15] at this; exact absurd this (by decide)
      refine vg_iconst X (nI 0) dX7_keep_30 (by decide) ?_
      exact j31 _ (fun q9 => absurd (q9.2.1) k15) (fun _ => by decide)
    · have k15 : cm_in v n := Classical.byContradiction (fun q9 => c15 (nrr38 q9))
      refine vg_aload_n X dX7_keep_18 0 rfl rfl ?_
      refine vg_iload_n X dX7_keep_19 3 rfl rfl ?_
      refine vg_calli (vg_runV X (c_X7_isUnit l hO (k := u) (by omega)) (cwV 1 X.2.2.2.2.1 gX7_keep_X7_isUnit rfl rfl rfl (by decide +kernel) ⟨Nat.le_of_ble_eq_true rfl, Nat.le_of_ble_eq_true rfl⟩) 29 hO3 rfl rfl rfl (Nat.le_of_ble_eq_true rfl) dX7_keep_20 ⟨Nat.zero_le _, Nat.zero_le _⟩) (fun rr41 wz39 PP40 => ?_)
      obtain ⟨hw9, yrr41, nrr41⟩ := PP40
      rw [hw9]
      skip
      refine vg_if_eq X 30 dX7_keep_23 (by decide) (fun c23 => ?_) (fun c23 => ?_)
      · have k23 : ¬ (cm_in u U) := fun q9 => by have := yrr41 q9; rw [c23] at this; exact absurd this (by decide)
        refine vg_iconst X (nI 0) dX7_keep_30 (by decide) ?_
        exact j31 _ (fun q9 => absurd (q9.2.2) k23) (fun _ => by decide)
      · have k23 : cm_in u U := Classical.byContradiction (fun q9 => c23 (nrr41 q9))
        refine vg_iconst X (nI 1) dX7_keep_26 (by decide) ?_
        refine vg_goto X 31 dX7_keep_27 (by decide) ?_
        exact j31 _ (fun _ => by decide) (fun q9 => absurd (show (nI 0 ≤ k ∧ k ≤ nI 5) ∧ cm_in v n ∧ cm_in u U from ⟨by assumption, by assumption, by assumption⟩) q9)
set_option maxHeartbeats 4000000 in
set_option maxRecDepth 100000 in
/-- nearest(..) -/
theorem c_X7_nearest (l : Launch) {D : va_G} {ay : Nat → ClassId} {base : Nat} {Gx : State → Prop} {ws : va_W} {am : Nat} {aa : Nat → Nat} {n P U th wl : Nat} {d fr to pe uv : Nat → Nat → Nat} {ku ks kt wp : Nat → Nat} {sk : Nat → Nat → Nat} {b t : Int32} (hS : cm_St ay ws am aa th n P U d fr to pe uv ku ks kt sk wl wp) (hR : cm_R n P U d fr to pe uv)  : Met l yX7_nearest wsX7_nearest ({ frames := 4, cells := 0, slots := 0, locals := 103 } : Room) (va_Pc [.ref am, .int b, .int t] (vg_B D ay base Gx ws)) (va_Qi (fun r u2 => (¬ (cm_in b n) ∧ cm_St ay u2 am aa 1 n P U d fr to pe uv ku ks kt sk wl wp ∧ cm_fr ws u2) ∨ ((cm_in b n) ∧ ¬ (0 ≤ t) ∧ cm_St ay u2 am aa 2 n P U d fr to pe uv ku ks kt sk wl wp ∧ cm_fr ws u2) ∨ (cm_St ay u2 am aa 0 n P U d fr to pe uv ku ks kt sk wl wp ∧ cm_fr ws u2 ∧ ∃ bx tx : Nat, b = nI bx ∧ bx < n ∧ t = nI tx ∧ tx < 2 ^ 31 ∧ r = nr_i (nr_b (fun q => ma_d (ma_T P (fun i => d i 0) (fun i => d i 1) (fun i => ps_w (d i) (fr i) (to i) (pe i) (uv q) tx) bx (uv q 4)) 1) U).1)) (vg_B D ay base Gx) (vg_A base)) 0 0 (vg_A base) := by
  refine vg_met (cc := cX7_nearest) (maxL := 7) (ret := (some .int)) (own := RX7) (lv := [(0, .ref am), (1, .int b), (2, .int t)]) (by decide) rfl rfl (Nat.le_of_ble_eq_true rfl) rfl ?_
  intro p e s m args below meth c X hinit
  obtain ⟨fl, fm, fn, fs, hO, hD, hT, h51, h52, h53, h54, hwl, hwp⟩ := id hS
  have nn := hR.1
  have nP := hR.2.1
  have nU := hR.2.2.1
  have eB : ma_B = 2 ^ 60 := rfl
  have hO3 := hO
  unfold cm_O at hO3
  have j6 : ∀ b9 : Int32, ((cm_in b n) → b9 = 1) → (¬ (cm_in b n) → b9 = 0) → vg_V D base p l e ({ frames := 4, cells := 0, slots := 0, locals := 103 } : Room) s m args below meth c 7 0 0 (MQ below (va_Qi (fun r u2 => (¬ (cm_in b n) ∧ cm_St ay u2 am aa 1 n P U d fr to pe uv ku ks kt sk wl wp ∧ cm_fr ws u2) ∨ ((cm_in b n) ∧ ¬ (0 ≤ t) ∧ cm_St ay u2 am aa 2 n P U d fr to pe uv ku ks kt sk wl wp ∧ cm_fr ws u2) ∨ (cm_St ay u2 am aa 0 n P U d fr to pe uv ku ks kt sk wl wp ∧ cm_fr ws u2 ∧ ∃ bx tx : Nat, b = nI bx ∧ bx < n ∧ t = nI tx ∧ tx < 2 ^ 31 ∧ r = nr_i (nr_b (fun q => ma_d (ma_T P (fun i => d i 0) (fun i => d i 1) (fun i => ps_w (d i) (fr i) (to i) (pe i) (uv q) tx) bx (uv q 4)) 1) U).1)) (vg_B D ay base Gx) (vg_A base)) args s 0 0 (vg_A base)) [(0, .ref am), (1, .int b), (2, .int t)] [.int b9, .ref am] ws 6 := by
    intro b6 y6 n6
    have j15 : ∀ b9 : Int32, ((0 ≤ t) → b9 = 1) → (¬ (0 ≤ t) → b9 = 0) → vg_V D base p l e ({ frames := 4, cells := 0, slots := 0, locals := 103 } : Room) s m args below meth c 7 0 0 (MQ below (va_Qi (fun r u2 => (¬ (cm_in b n) ∧ cm_St ay u2 am aa 1 n P U d fr to pe uv ku ks kt sk wl wp ∧ cm_fr ws u2) ∨ ((cm_in b n) ∧ ¬ (0 ≤ t) ∧ cm_St ay u2 am aa 2 n P U d fr to pe uv ku ks kt sk wl wp ∧ cm_fr ws u2) ∨ (cm_St ay u2 am aa 0 n P U d fr to pe uv ku ks kt sk wl wp ∧ cm_fr ws u2 ∧ ∃ bx tx : Nat, b = nI bx ∧ bx < n ∧ t = nI tx ∧ tx < 2 ^ 31 ∧ r = nr_i (nr_b (fun q => ma_d (ma_T P (fun i => d i 0) (fun i => d i 1) (fun i => ps_w (d i) (fr i) (to i) (pe i) (uv q) tx) bx (uv q 4)) 1) U).1)) (vg_B D ay base Gx) (vg_A base)) args s 0 0 (vg_A base)) [(0, .ref am), (1, .int b), (2, .int t)] [.int b9, .int b6, .ref am] ws 15 := by
      intro b15 y15 n15
      refine vg_iconst X (nI 1) dX7_nearest_15 (by decide) ?_
      refine vg_calli (vg_runV X (c_X7_goes l hO (b1 := b6) (b2 := b15) (b3 := nI 1)) (cwV 3 X.2.2.2.2.1 gX7_nearest_X7_goes rfl rfl rfl (by decide +kernel) ⟨Nat.le_of_ble_eq_true rfl, Nat.le_of_ble_eq_true rfl⟩) 29 hO3 rfl rfl rfl (Nat.le_of_ble_eq_true rfl) dX7_nearest_16 ⟨Nat.zero_le _, Nat.zero_le _⟩) (fun rr3 wz1 PP2 => ?_)
      obtain ⟨gO, gfr0, gy, gn⟩ := PP2
      have e0 : ∀ q, q ≠ 29 → wz1[q]? = ws[q]? := fun q hq => gfr0.2 q (by simpa using hq)
      have gD : cm_D ay wz1 aa n P U d fr to pe uv := cm_D_fr hD (fun q h1 h2 => e0 q (by omega))
      have gT : cm_T ay wz1 aa n ku ks kt sk := cm_T_fr hT (fun q h1 h2 => e0 q (by omega))
      have gF := cm_fr_of gfr0 (by decide)
      have g51 := (e0 51 (by decide)).trans h51
      have g52 := (e0 52 (by decide)).trans h52
      have g53 := (e0 53 (by decide)).trans h53
      have g54 := (e0 54 (by decide)).trans h54
      refine vg_if_ne X 24 dX7_nearest_19 (by decide) (fun c19 => ?_) (fun c19 => ?_)
      · skip
        have g0 : go_c b6 b15 (nI 1) = 0 := Classical.byContradiction (fun q9 => c19 (gn q9))
        rw [g0] at gO
        have p0 : cm_in b n := Classical.byContradiction (fun q9 => by have := n6 q9; unfold go_c at g0; rw [if_pos this] at g0; exact absurd g0 (by decide))
        have p1 : 0 ≤ t := Classical.byContradiction (fun q9 => by have := n15 q9; unfold go_c at g0; rw [if_neg (by rw [y6 p0]; decide), if_pos this] at g0; exact absurd g0 (by decide))
        have gO3 := gO
        unfold cm_O at gO3
        obtain ⟨b1, hb1, rfl⟩ := p0
        obtain ⟨t1, ht, rfl⟩ := nI_of (x := t) (fun q9 => absurd p1 (Int32.not_le.mpr q9))
        obtain ⟨f0, f1, f2, f3, f4, f5, f6, f7, f8, f9, f10, f11, f12, f13, f14, f15, hh0, hh1, hh2, hh3, hh4, hh5, hh6, hh7, hh8, hh9, hh10, hh11, hh12, hh13, hh14, hh15, hp, hu⟩ := id gD
        obtain ⟨Dn, eDn⟩ : ∃ z : Nat → Nat, z = fun q => ma_d (ma_T P (fun i => d i 0) (fun i => d i 1) (fun i => ps_w (d i) (fr i) (to i) (pe i) (uv q) t1) b1 (uv q 4)) 1 := ⟨_, rfl⟩
        have hDn : ∀ q, Dn q ≤ ma_B := fun q => by rw [eDn]; exact ma_d_leB _ _
        refine vg_iconst X (-1) dX7_nearest_24 (by decide) ?_
        refine vg_istore_n X [(3, .int (-1)), (0, .ref am), (1, .int (nI b1)), (2, .int (nI t1))] dX7_nearest_25 rfl (by decide) rfl ?_
        refine vg_ldc2 X (lN ma_B) dX7_nearest_26 mk_X7_nearest_113 ?_
        refine vg_lstore X [(4, .long (lN ma_B)), (3, .int (-1)), (0, .ref am), (1, .int (nI b1)), (2, .int (nI t1))] dX7_nearest_29 (by decide) rfl ?_
        refine vg_iconst X (nI 0) dX7_nearest_31 (by decide) ?_
        refine vg_istore X [(6, .int (nI 0)), (4, .long (lN ma_B)), (3, .int (-1)), (0, .ref am), (1, .int (nI b1)), (2, .int (nI t1))] dX7_nearest_32 (by decide) rfl ?_
        refine vg_locals [0, 2, 1, 3, 4, 5] rfl ?_
        have loop : ∀ (k9 x : Nat) (fl1 : Nat → Int64) (ws1 : va_W), x + k9 = U → ws1[51]? = some ((aa 21), .inl (ay 1, 200, .inr (.inl fl1))) → vg_fr wz1 ws1 [51] → vg_V D base p l e ({ frames := 4, cells := 0, slots := 0, locals := 103 } : Room) s m args below meth c 7 0 0 (MQ below (va_Qi (fun r u2 => (¬ (cm_in (nI b1) n) ∧ cm_St ay u2 am aa 1 n P U d fr to pe uv ku ks kt sk wl wp ∧ cm_fr ws u2) ∨ ((cm_in (nI b1) n) ∧ ¬ (0 ≤ (nI t1)) ∧ cm_St ay u2 am aa 2 n P U d fr to pe uv ku ks kt sk wl wp ∧ cm_fr ws u2) ∨ (cm_St ay u2 am aa 0 n P U d fr to pe uv ku ks kt sk wl wp ∧ cm_fr ws u2 ∧ ∃ bx tx : Nat, (nI b1) = nI bx ∧ bx < n ∧ (nI t1) = nI tx ∧ tx < 2 ^ 31 ∧ r = nr_i (nr_b (fun q => ma_d (ma_T P (fun i => d i 0) (fun i => d i 1) (fun i => ps_w (d i) (fr i) (to i) (pe i) (uv q) tx) bx (uv q 4)) 1) U).1)) (vg_B D ay base Gx) (vg_A base)) args s 0 0 (vg_A base)) [(6, .int (nI x)), (3, .int (nr_i (nr_b Dn x).1)), (4, .long (lN ((nr_b Dn x).2))), (0, .ref am), (1, .int (nI b1)), (2, .int (nI t1))] [] ws1 34 := by
          intro k9
          induction k9 using Nat.strongRecOn with
          | ind k9 ih =>
            intro x fl1 ws1 hk y51 gfr
            obtain ⟨n1, n2, n3⟩ := nr_b_in Dn x
            have e1 : ∀ q, q ≠ 51 → ws1[q]? = wz1[q]? := fun q hq => gfr.2 q (by simpa using hq)
            have O3 : cm_O ws1 am aa (nI 0) n P U (nI wl) := (e1 29 (by decide)).trans gO
            have O4 := O3
            unfold cm_O at O4
            have D3 : cm_D ay ws1 aa n P U d fr to pe uv := cm_D_fr gD (fun q h1 h2 => e1 q (by omega))
            refine vg_iload X dX7_nearest_34 0 rfl ?_
            refine vg_aload_n X dX7_nearest_36 3 rfl rfl ?_
            refine vg_get X in_X7_nearest_X7 29 O4 rfl 14 (by decide) ml_X7_nearest_97 rfl rfl dX7_nearest_37 ?_
            refine vg_icmp_ge X 95 dX7_nearest_40 (by decide) (fun c40 => ?_) (fun c40 => ?_)
            · have c40 : U ≤ x := (nI_leI (by omega) (by omega)).mp c40
              refine vg_iload_n X dX7_nearest_95 1 rfl rfl ?_
              exact vg_iret X rfl (Or.inr (Or.inr (⟨⟨fl1, _, _, _, O3, D3, cm_T_fr gT (fun q h1 h2 => e1 q (by omega)), y51, (e1 52 (by decide)).trans g52, (e1 53 (by decide)).trans g53, (e1 54 (by decide)).trans g54, hwl, hwp⟩, cm_fr_tr gF (cm_fr_of gfr (by decide)), b1, t1, rfl, hb1, rfl, ht, by rw [← eDn, show U = x by omega]⟩))) (Nat.le_refl _) (Nat.le_refl _) dX7_nearest_96
            · have c40 : ¬ U ≤ x := fun z => c40 ((nI_leI (by omega) (by omega)).mpr z)
              refine vg_aload_n X dX7_nearest_43 3 rfl rfl ?_
              refine vg_iload X dX7_nearest_44 0 rfl ?_
              refine vg_iload_n X dX7_nearest_46 4 rfl rfl ?_
              refine vg_iload_n X dX7_nearest_47 5 rfl rfl ?_
              refine vg_callv (vg_runV X (c_X7_spread l O3 D3 hR y51 (j := x) (a := b1) (t := t1) (by omega) hb1 ht) (cwV 3 X.2.2.2.2.1 gX7_nearest_X7_spread rfl rfl rfl (by decide +kernel) ⟨Nat.le_of_ble_eq_true rfl, Nat.le_of_ble_eq_true rfl⟩) 29 O4 rfl rfl rfl (Nat.le_of_ble_eq_true rfl) dX7_nearest_48 ⟨Nat.zero_le _, Nat.zero_le _⟩) (fun wz4 PP5 => ?_)
              obtain ⟨fl2, y1, y2, y3⟩ := PP5
              have hux := (hR.2.2.2.2 x (by omega)).2
              have y4 : fl2 (uv x 4) = lN (Dn x) := by rw [eDn]; exact y2 _ hux
              have hDx := hDn x
              have fB : vg_fr wz1 wz4 [51] := vg_fr_trd gfr y3 (by decide)
              have O5 : cm_O wz4 am aa (nI 0) n P U (nI wl) := (fB.2 29 (by decide)).trans gO
              unfold cm_O at O5
              have h41 : wz4[41]? = some ((aa 11), .inl (ay 0, 12, .inl f11)) := (fB.2 41 (by decide)).trans hh11
              refine vg_aload_n X dX7_nearest_51 3 rfl rfl ?_
              refine vg_get X in_X7_nearest_X7 29 O5 rfl 25 (by decide) ml_X7_nearest_75 rfl rfl dX7_nearest_52 ?_
              refine vg_aload_n X dX7_nearest_55 3 rfl rfl ?_
              refine vg_get X in_X7_nearest_X7 29 O5 rfl 15 (by decide) ml_X7_nearest_44 rfl rfl dX7_nearest_56 ?_
              refine vg_iload X dX7_nearest_59 0 rfl ?_
              refine vg_iald X (nI (uv x 4)) 41 h41 rfl (by omega) (by decide) (hu x (by omega)).1 dX7_nearest_61 ?_
              refine vg_lald X (lN (Dn x)) 51 y1 rfl (by omega) (by decide) y4 dX7_nearest_62 ?_
              refine vg_lload X dX7_nearest_63 2 rfl ?_
              refine vg_lcmp_lt X 72 dX7_nearest_65 dX7_nearest_66 (by decide) (fun c65 => ?_) (fun c65 => ?_)
              · have c65 : Dn x < (nr_b Dn x).2 := (pk_lLT (by omega) (by omega)).mp c65
                skip
                refine vg_aload_n X dX7_nearest_72 3 rfl rfl ?_
                refine vg_get X in_X7_nearest_X7 29 O5 rfl 25 (by decide) ml_X7_nearest_75 rfl rfl dX7_nearest_73 ?_
                refine vg_aload_n X dX7_nearest_76 3 rfl rfl ?_
                refine vg_get X in_X7_nearest_X7 29 O5 rfl 15 (by decide) ml_X7_nearest_44 rfl rfl dX7_nearest_77 ?_
                refine vg_iload X dX7_nearest_80 0 rfl ?_
                refine vg_iald X (nI (uv x 4)) 41 h41 rfl (by omega) (by decide) (hu x (by omega)).1 dX7_nearest_82 ?_
                refine vg_lald X (lN (Dn x)) 51 y1 rfl (by omega) (by decide) y4 dX7_nearest_83 ?_
                refine vg_lstore X [(4, .long (lN (Dn x))), (6, .int (nI x)), (3, .int (nr_i (nr_b Dn x).1)), (0, .ref am), (1, .int (nI b1)), (2, .int (nI t1))] dX7_nearest_84 (by decide) rfl ?_
                refine vg_iload X dX7_nearest_86 1 rfl ?_
                refine vg_istore_n X [(3, .int (nI x)), (4, .long (lN (Dn x))), (6, .int (nI x)), (0, .ref am), (1, .int (nI b1)), (2, .int (nI t1))] dX7_nearest_88 rfl (by decide) rfl ?_
                refine vg_iinc X (v := nI (x + 1)) [(6, .int (nI (x + 1))), (3, .int (nI x)), (4, .long (lN (Dn x))), (0, .ref am), (1, .int (nI b1)), (2, .int (nI t1))] dX7_nearest_89 2 rfl (by rw [show Int32.ofInt 1 = nI 1 by decide, nI_add]) (by decide) rfl ?_
                refine vg_goto X 34 dX7_nearest_92 (by decide) ?_
                have g := ih (k9 - 1) (by omega) (x + 1) fl2 _ (by omega) y1 fB
                rw [nr_b_yes c65] at g
                exact g
              · have c65 : ¬ Dn x < (nr_b Dn x).2 := fun z => c65 ((pk_lLT (by omega) (by omega)).mpr z)
                skip
                refine vg_goto X 89 dX7_nearest_69 (by decide) ?_
                refine vg_iinc X (v := nI (x + 1)) [(6, .int (nI (x + 1))), (3, .int (nr_i (nr_b Dn x).1)), (4, .long (lN ((nr_b Dn x).2))), (0, .ref am), (1, .int (nI b1)), (2, .int (nI t1))] dX7_nearest_89 0 rfl (by rw [show Int32.ofInt 1 = nI 1 by decide, nI_add]) (by decide) rfl ?_
                refine vg_goto X 34 dX7_nearest_92 (by decide) ?_
                have g := ih (k9 - 1) (by omega) (x + 1) fl2 _ (by omega) y1 fB
                rw [nr_b_no c65] at g
                exact g
        exact loop U 0 fl wz1 (by omega) g51 (vg_fr_rf _ _)
      · skip
        have ng : go_c b6 b15 (nI 1) ≠ 0 := fun q9 => by have := gy q9; rw [c19] at this; exact absurd this (by decide)
        by_cases p0 : cm_in b n
        · skip
          by_cases p1 : 0 ≤ t
          · skip
            exact absurd (by unfold go_c; rw [if_neg (by rw [y6 p0]; decide), if_neg (by rw [y15 p1]; decide), if_neg (by decide)]) ng
          · skip
            have g9 : go_c b6 b15 (nI 1) = 2 := by unfold go_c; rw [if_neg (by rw [y6 p0]; decide), if_pos (n15 p1)]
            rw [g9] at gO
            refine vg_iconst X (nI 0) dX7_nearest_22 (by decide) ?_
            exact vg_iret X rfl (Or.inr (Or.inl ⟨p0, p1, ⟨_, _, _, _, gO, gD, gT, g51, g52, g53, g54, hwl, hwp⟩, gF⟩)) (Nat.le_refl _) (Nat.le_refl _) dX7_nearest_23
        · skip
          have g9 : go_c b6 b15 (nI 1) = 1 := by unfold go_c; rw [if_pos (n6 p0)]
          rw [g9] at gO
          refine vg_iconst X (nI 0) dX7_nearest_22 (by decide) ?_
          exact vg_iret X rfl (Or.inl ⟨p0, ⟨_, _, _, _, gO, gD, gT, g51, g52, g53, g54, hwl, hwp⟩, gF⟩) (Nat.le_refl _) (Nat.le_refl _) dX7_nearest_23
    refine vg_iload_n X dX7_nearest_6 2 rfl rfl ?_
    skip
    refine vg_if_lt X 14 dX7_nearest_7 (by decide) (fun c7 => ?_) (fun c7 => ?_)
    · have k7 : ¬ (0 ≤ t) := Int32.not_le.mpr c7
      refine vg_iconst X (nI 0) dX7_nearest_14 (by decide) ?_
      exact j15 _ (fun q9 => absurd (q9) k7) (fun _ => by decide)
    · have k7 : 0 ≤ t := Int32.not_lt.mp c7
      refine vg_iconst X (nI 1) dX7_nearest_10 (by decide) ?_
      refine vg_goto X 15 dX7_nearest_11 (by decide) ?_
      exact j15 _ (fun _ => by decide) (fun q9 => absurd (show 0 ≤ t from (by assumption)) q9)
  refine vg_aload_n X dX7_nearest_0 0 rfl rfl ?_
  refine vg_aload_n X dX7_nearest_1 0 rfl rfl ?_
  refine vg_iload_n X dX7_nearest_2 1 rfl rfl ?_
  refine vg_calli (vg_runV X (c_X7_isNode l hO (k := b) (by omega)) (cwV 1 X.2.2.2.2.1 gX7_nearest_X7_isNode rfl rfl rfl (by decide +kernel) ⟨Nat.le_of_ble_eq_true rfl, Nat.le_of_ble_eq_true rfl⟩) 29 hO3 rfl rfl rfl (Nat.le_of_ble_eq_true rfl) dX7_nearest_3 ⟨Nat.zero_le _, Nat.zero_le _⟩) (fun rr9 wz7 PP8 => ?_)
  obtain ⟨hw9, yrr9, nrr9⟩ := PP8
  rw [hw9]
  exact j6 _ yrr9 nrr9
