/-- which refusal: the first that is so -/
def go_c (b1 b2 b3 : Int32) : Nat := if b1 = 0 then 1 else if b2 = 0 then 2 else if b3 = 0 then 3 else 0
theorem in_X7_thrown_X7 : ∀ w ∈ u_ws RX7 TX7 30, w ∈ wsX7_thrown := by decide +kernel
theorem ml_X7_thrown_87 : Cond.fieldLink RX7 87 "WayTimesModel" "thrown" "I" ∈ wsX7_thrown := by decide +kernel
theorem in_X7_goes_X7 : ∀ w ∈ u_ws RX7 TX7 30, w ∈ wsX7_goes := by decide +kernel
theorem ml_X7_goes_87 : Cond.fieldLink RX7 87 "WayTimesModel" "thrown" "I" ∈ wsX7_goes := by decide +kernel
theorem in_X7_lastPiece_X7 : ∀ w ∈ u_ws RX7 TX7 30, w ∈ wsX7_lastPiece := by decide +kernel
theorem ml_X7_lastPiece_94 : Cond.fieldLink RX7 94 "WayTimesModel" "pieces" "I" ∈ wsX7_lastPiece := by decide +kernel
theorem ml_X7_lastPiece_7 : Cond.fieldLink RX7 7 "WayTimesModel" "first" "[I" ∈ wsX7_lastPiece := by decide +kernel
theorem ml_X7_lastPiece_13 : Cond.fieldLink RX7 13 "WayTimesModel" "second" "[I" ∈ wsX7_lastPiece := by decide +kernel
theorem ml_X7_lastPiece_75 : Cond.fieldLink RX7 75 "WayTimesModel" "least" "[J" ∈ wsX7_lastPiece := by decide +kernel
theorem mk_X7_lastPiece_113 : Jvm.Cond.constantLong RX7 113 (lN ma_B) ∈ wsX7_lastPiece := by decide +kernel
theorem ml_X7_lastPiece_16 : Cond.fieldLink RX7 16 "WayTimesModel" "metres" "[I" ∈ wsX7_lastPiece := by decide +kernel
set_option maxHeartbeats 4000000 in
set_option maxRecDepth 100000 in
/-- thrown() -/
theorem c_X7_thrown (l : Launch) {D : va_G} {ay : Nat → ClassId} {base : Nat} {Gx : State → Prop} {ws : va_W} {am : Nat} {aa : Nat → Nat} {th sp : Int32} {n P U : Nat} (hO : cm_O ws am aa th n P U sp) : Met l yX7_thrown wsX7_thrown ({ frames := 0, cells := 0, slots := 0, locals := 0 } : Room) (va_Pc [.ref am] (vg_B D ay base Gx ws)) (va_Qi (fun r u => u = ws ∧ r = th) (vg_B D ay base Gx) (vg_A base)) 0 0 (vg_A base) := by
  refine vg_met (cc := cX7_thrown) (maxL := 1) (ret := (some .int)) (own := RX7) (lv := [(0, .ref am)]) (by decide) rfl rfl (Nat.le_of_ble_eq_true rfl) rfl ?_
  intro p e s m args below meth c X hinit
  unfold cm_O at hO
  refine vg_aload_n X dX7_thrown_0 0 rfl rfl ?_
  refine vg_get X in_X7_thrown_X7 29 hO rfl 0 (by decide) ml_X7_thrown_87 rfl rfl dX7_thrown_1 ?_
  exact vg_iret X rfl ⟨rfl, rfl⟩ (Nat.le_refl _) (Nat.le_refl _) dX7_thrown_4
set_option maxHeartbeats 4000000 in
set_option maxRecDepth 100000 in
/-- goes(..) -/
theorem c_X7_goes (l : Launch) {D : va_G} {ay : Nat → ClassId} {base : Nat} {Gx : State → Prop} {ws : va_W} {am : Nat} {aa : Nat → Nat} {th sp : Int32} {n P U : Nat} {b1 b2 b3 : Int32} (hO : cm_O ws am aa th n P U sp) : Met l yX7_goes wsX7_goes ({ frames := 0, cells := 0, slots := 0, locals := 0 } : Room) (va_Pc [.ref am, .int b1, .int b2, .int b3] (vg_B D ay base Gx ws)) (va_Qi (fun r u => cm_O u am aa (nI (go_c b1 b2 b3)) n P U sp ∧ vg_fr ws u [29] ∧ (go_c b1 b2 b3 = 0 → r = 1) ∧ (go_c b1 b2 b3 ≠ 0 → r = 0)) (vg_B D ay base Gx) (vg_A base)) 0 0 (vg_A base) := by
  refine vg_met (cc := cX7_goes) (maxL := 4) (ret := (some .boolean)) (own := RX7) (lv := [(0, .ref am), (1, .int b1), (2, .int b2), (3, .int b3)]) (by decide) rfl rfl (Nat.le_of_ble_eq_true rfl) rfl ?_
  intro p e s m args below meth c X hinit
  unfold cm_O at hO
  refine vg_aload_n X dX7_goes_0 0 rfl rfl ?_
  refine vg_iload_n X dX7_goes_1 1 rfl rfl ?_
  refine vg_if_ne X 9 dX7_goes_2 (by decide) (fun c2 => ?_) (fun c2 => ?_)
  · skip
    refine vg_iload_n X dX7_goes_9 2 rfl rfl ?_
    refine vg_if_ne X 17 dX7_goes_10 (by decide) (fun c10 => ?_) (fun c10 => ?_)
    · skip
      refine vg_iload_n X dX7_goes_17 3 rfl rfl ?_
      refine vg_if_ne X 25 dX7_goes_18 (by decide) (fun c18 => ?_) (fun c18 => ?_)
      · have e9 : go_c b1 b2 b3 = 0 := by unfold go_c; rw [if_neg c2, if_neg c10, if_neg c18]
        refine vg_iconst X (nI 0) dX7_goes_25 (by decide) ?_
        refine vg_put X in_X7_goes_X7 tyX7 tyX7_ok nmX7 29 hO rfl 0 (by decide) ml_X7_goes_87 rfl rfl rfl rfl (Nat.le_of_ble_eq_true rfl) dX7_goes_26 (fun wz1 ez2 => ?_)
        have fh3 : wz1[29]? = some (am, .inr (10, [.int (nI 0), .int (nI n), .int (nI P), .ref (aa 0), .ref (aa 1), .ref (aa 2), .ref (aa 3), .ref (aa 4), .ref (aa 5), .ref (aa 6), .ref (aa 7), .ref (aa 8), .ref (aa 9), .ref (aa 10), .int (nI U), .ref (aa 11), .ref (aa 12), .ref (aa 13), .ref (aa 14), .ref (aa 15), .ref (aa 16), .ref (aa 17), .ref (aa 18), .ref (aa 19), .ref (aa 20), .ref (aa 21), .ref (aa 22), .ref (aa 23), .int sp, .ref (aa 24)])) := vg_se ez2 hO
        refine vg_aload_n X dX7_goes_29 0 rfl rfl ?_
        refine vg_get X in_X7_goes_X7 29 fh3 rfl 0 (by decide) ml_X7_goes_87 rfl rfl dX7_goes_30 ?_
        refine vg_if_ne X 40 dX7_goes_33 (by decide) (fun c33 => ?_) (fun c33 => ?_)
        · have c33 : ¬ 0 = 0 := fun z => c33 ((vg_eq0 (by omega)).mpr z)
          exact absurd rfl c33
        · have c33 : 0 = 0 := (vg_eq0 (by omega)).mp c33
          skip
          refine vg_iconst X (nI 1) dX7_goes_36 (by decide) ?_
          refine vg_goto X 41 dX7_goes_37 (by decide) ?_
          exact vg_zret X rfl rfl ⟨by rw [e9]; exact fh3, vg_fr_set (vg_fr_rf ws _) ez2 (by decide), fun _ => rfl, fun q9 => absurd e9 q9⟩ (Nat.le_refl _) (Nat.le_refl _) dX7_goes_41
      · have e9 : go_c b1 b2 b3 = 3 := by unfold go_c; rw [if_neg c2, if_neg c10, if_pos c18]
        refine vg_iconst X (nI 3) dX7_goes_21 (by decide) ?_
        refine vg_goto X 26 dX7_goes_22 (by decide) ?_
        refine vg_put X in_X7_goes_X7 tyX7 tyX7_ok nmX7 29 hO rfl 0 (by decide) ml_X7_goes_87 rfl rfl rfl rfl (Nat.le_of_ble_eq_true rfl) dX7_goes_26 (fun wz4 ez5 => ?_)
        have fh6 : wz4[29]? = some (am, .inr (10, [.int (nI 3), .int (nI n), .int (nI P), .ref (aa 0), .ref (aa 1), .ref (aa 2), .ref (aa 3), .ref (aa 4), .ref (aa 5), .ref (aa 6), .ref (aa 7), .ref (aa 8), .ref (aa 9), .ref (aa 10), .int (nI U), .ref (aa 11), .ref (aa 12), .ref (aa 13), .ref (aa 14), .ref (aa 15), .ref (aa 16), .ref (aa 17), .ref (aa 18), .ref (aa 19), .ref (aa 20), .ref (aa 21), .ref (aa 22), .ref (aa 23), .int sp, .ref (aa 24)])) := vg_se ez5 hO
        refine vg_aload_n X dX7_goes_29 0 rfl rfl ?_
        refine vg_get X in_X7_goes_X7 29 fh6 rfl 0 (by decide) ml_X7_goes_87 rfl rfl dX7_goes_30 ?_
        refine vg_if_ne X 40 dX7_goes_33 (by decide) (fun c33 => ?_) (fun c33 => ?_)
        · have c33 : ¬ 3 = 0 := fun z => c33 ((vg_eq0 (by omega)).mpr z)
          skip
          refine vg_iconst X (nI 0) dX7_goes_40 (by decide) ?_
          exact vg_zret X rfl rfl ⟨by rw [e9]; exact fh6, vg_fr_set (vg_fr_rf ws _) ez5 (by decide), fun q9 => absurd (e9.symm.trans q9) (by decide), fun _ => rfl⟩ (Nat.le_refl _) (Nat.le_refl _) dX7_goes_41
        · have c33 : 3 = 0 := (vg_eq0 (by omega)).mp c33
          exact absurd c33 (by decide)
    · have e9 : go_c b1 b2 b3 = 2 := by unfold go_c; rw [if_neg c2, if_pos c10]
      refine vg_iconst X (nI 2) dX7_goes_13 (by decide) ?_
      refine vg_goto X 26 dX7_goes_14 (by decide) ?_
      refine vg_put X in_X7_goes_X7 tyX7 tyX7_ok nmX7 29 hO rfl 0 (by decide) ml_X7_goes_87 rfl rfl rfl rfl (Nat.le_of_ble_eq_true rfl) dX7_goes_26 (fun wz7 ez8 => ?_)
      have fh9 : wz7[29]? = some (am, .inr (10, [.int (nI 2), .int (nI n), .int (nI P), .ref (aa 0), .ref (aa 1), .ref (aa 2), .ref (aa 3), .ref (aa 4), .ref (aa 5), .ref (aa 6), .ref (aa 7), .ref (aa 8), .ref (aa 9), .ref (aa 10), .int (nI U), .ref (aa 11), .ref (aa 12), .ref (aa 13), .ref (aa 14), .ref (aa 15), .ref (aa 16), .ref (aa 17), .ref (aa 18), .ref (aa 19), .ref (aa 20), .ref (aa 21), .ref (aa 22), .ref (aa 23), .int sp, .ref (aa 24)])) := vg_se ez8 hO
      refine vg_aload_n X dX7_goes_29 0 rfl rfl ?_
      refine vg_get X in_X7_goes_X7 29 fh9 rfl 0 (by decide) ml_X7_goes_87 rfl rfl dX7_goes_30 ?_
      refine vg_if_ne X 40 dX7_goes_33 (by decide) (fun c33 => ?_) (fun c33 => ?_)
      · have c33 : ¬ 2 = 0 := fun z => c33 ((vg_eq0 (by omega)).mpr z)
        skip
        refine vg_iconst X (nI 0) dX7_goes_40 (by decide) ?_
        exact vg_zret X rfl rfl ⟨by rw [e9]; exact fh9, vg_fr_set (vg_fr_rf ws _) ez8 (by decide), fun q9 => absurd (e9.symm.trans q9) (by decide), fun _ => rfl⟩ (Nat.le_refl _) (Nat.le_refl _) dX7_goes_41
      · have c33 : 2 = 0 := (vg_eq0 (by omega)).mp c33
        exact absurd c33 (by decide)
  · have e9 : go_c b1 b2 b3 = 1 := by unfold go_c; rw [if_pos c2]
    refine vg_iconst X (nI 1) dX7_goes_5 (by decide) ?_
    refine vg_goto X 26 dX7_goes_6 (by decide) ?_
    refine vg_put X in_X7_goes_X7 tyX7 tyX7_ok nmX7 29 hO rfl 0 (by decide) ml_X7_goes_87 rfl rfl rfl rfl (Nat.le_of_ble_eq_true rfl) dX7_goes_26 (fun wz10 ez11 => ?_)
    have fh12 : wz10[29]? = some (am, .inr (10, [.int (nI 1), .int (nI n), .int (nI P), .ref (aa 0), .ref (aa 1), .ref (aa 2), .ref (aa 3), .ref (aa 4), .ref (aa 5), .ref (aa 6), .ref (aa 7), .ref (aa 8), .ref (aa 9), .ref (aa 10), .int (nI U), .ref (aa 11), .ref (aa 12), .ref (aa 13), .ref (aa 14), .ref (aa 15), .ref (aa 16), .ref (aa 17), .ref (aa 18), .ref (aa 19), .ref (aa 20), .ref (aa 21), .ref (aa 22), .ref (aa 23), .int sp, .ref (aa 24)])) := vg_se ez11 hO
    refine vg_aload_n X dX7_goes_29 0 rfl rfl ?_
    refine vg_get X in_X7_goes_X7 29 fh12 rfl 0 (by decide) ml_X7_goes_87 rfl rfl dX7_goes_30 ?_
    refine vg_if_ne X 40 dX7_goes_33 (by decide) (fun c33 => ?_) (fun c33 => ?_)
    · have c33 : ¬ 1 = 0 := fun z => c33 ((vg_eq0 (by omega)).mpr z)
      skip
      refine vg_iconst X (nI 0) dX7_goes_40 (by decide) ?_
      exact vg_zret X rfl rfl ⟨by rw [e9]; exact fh12, vg_fr_set (vg_fr_rf ws _) ez11 (by decide), fun q9 => absurd (e9.symm.trans q9) (by decide), fun _ => rfl⟩ (Nat.le_refl _) (Nat.le_refl _) dX7_goes_41
    · have c33 : 1 = 0 := (vg_eq0 (by omega)).mp c33
      exact absurd c33 (by decide)
set_option maxHeartbeats 4000000 in
set_option maxRecDepth 100000 in
/-- lastPiece(unit, v, t) -/
theorem c_X7_lastPiece (l : Launch) {D : va_G} {ay : Nat → ClassId} {base : Nat} {Gx : State → Prop} {ws : va_W} {am : Nat} {aa : Nat → Nat} {th sp : Int32} {n P U : Nat} {d fr to pe uv : Nat → Nat → Nat} {j v t : Nat} {fl : Nat → Int64} {D9 : Nat → Nat} (hO : cm_O ws am aa th n P U sp) (hD : cm_D ay ws aa n P U d fr to pe uv) (hR : cm_R n P U d fr to pe uv) (hL : ws[51]? = some ((aa 21), .inl (ay 1, 200, .inr (.inl fl)))) (hj : j < U) (hv : v < n) (ht : t < 2 ^ 31) (hl : ∀ x, x < n → fl x = lN (D9 x) ∧ D9 x ≤ ma_B) (hre : D9 v < ma_B) : Met l yX7_lastPiece wsX7_lastPiece ({ frames := 3, cells := 0, slots := 0, locals := 74 } : Room) (va_Pc [.ref am, .int (nI j), .int (nI v), .int (nI t)] (vg_B D ay base Gx ws)) (va_Qi (fun r u => u = ws ∧ ((r = -1 ∧ ∀ i, ¬ wy_fit P (fun i => d i 0) (fun i => d i 1) (fun i => ps_w (d i) (fr i) (to i) (pe i) (uv j) t) D9 v i) ∨ ∃ i, r = nI i ∧ i < P ∧ wy_low P (fun i => d i 0) (fun i => d i 1) (fun i => ps_w (d i) (fr i) (to i) (pe i) (uv j) t) D9 v i)) (vg_B D ay base Gx) (vg_A base)) 0 0 (vg_A base) := by
  refine vg_met (cc := cX7_lastPiece) (maxL := 6) (ret := (some .int)) (own := RX7) (lv := [(0, .ref am), (1, .int (nI j)), (2, .int (nI v)), (3, .int (nI t))]) (by decide) rfl rfl (Nat.le_of_ble_eq_true rfl) rfl ?_
  intro p e s m args below meth c X hinit
  have nn := hR.1
  have nP := hR.2.1
  have eB : ma_B = 2 ^ 60 := rfl
  have hO0 := hO
  unfold cm_O at hO
  obtain ⟨f0, f1, f2, f3, f4, f5, f6, f7, f8, f9, f10, f11, f12, f13, f14, f15, h0, h1, h2, h3, h4, h5, h6, h7, h8, h9, h10, h11, h12, h13, h14, h15, hp, hu⟩ := id hD
  obtain ⟨w, ew⟩ : ∃ z : Nat → Nat, z = (fun i => ps_w (d i) (fr i) (to i) (pe i) (uv j) t) := ⟨_, rfl⟩
  rw [← ew]
  have hw9 : ∀ i, i < P → w i ≤ 432000000 ∧ (w i ≠ 0 ↔ ps_ok (d i) (uv j)) := fun i hi => by
    rw [ew]; exact ⟨(ps_w_in (hR.2.2.2.1 i hi).1 (hR.2.2.2.2 j hj).1).1, ps_w_pos (hR.2.2.2.1 i hi).1 (hR.2.2.2.2 j hj).1⟩
  have loop : ∀ (k i : Nat), i + k = P → (∀ q, q < i → ¬ wy_fit P (fun i => d i 0) (fun i => d i 1) w D9 v q) → vg_V D base p l e ({ frames := 3, cells := 0, slots := 0, locals := 74 } : Room) s m args below meth c 6 0 0 (MQ below (va_Qi (fun r u => u = ws ∧ ((r = -1 ∧ ∀ i, ¬ wy_fit P (fun i => d i 0) (fun i => d i 1) w D9 v i) ∨ ∃ i, r = nI i ∧ i < P ∧ wy_low P (fun i => d i 0) (fun i => d i 1) w D9 v i)) (vg_B D ay base Gx) (vg_A base)) args s 0 0 (vg_A base)) [(0, .ref am), (1, .int (nI j)), (2, .int (nI v)), (3, .int (nI t)), (4, .int (nI i))] [] ws 3 := by
    intro k
    induction k using Nat.strongRecOn with
    | ind k ih =>
      intro i hk hno
      refine vg_iload X dX7_lastPiece_3 4 rfl ?_
      refine vg_aload_n X dX7_lastPiece_5 0 rfl rfl ?_
      refine vg_get X in_X7_lastPiece_X7 29 hO rfl 2 (by decide) ml_X7_lastPiece_94 rfl rfl dX7_lastPiece_6 ?_
      refine vg_icmp_ge X 133 dX7_lastPiece_9 (by decide) (fun c9 => ?_) (fun c9 => ?_)
      · have c9 : P ≤ i := (nI_leI (by omega) (by omega)).mp c9
        refine vg_iconst X (-1) dX7_lastPiece_133 (by decide) ?_
        exact vg_iret X rfl ⟨rfl, Or.inl ⟨rfl, fun q hf => hno q (by have := hf.1; omega) hf⟩⟩ (Nat.le_refl _) (Nat.le_refl _) dX7_lastPiece_134
      · have c9 : ¬ P ≤ i := fun z => c9 ((nI_leI (by omega) (by omega)).mpr z)
        refine vg_aload_n X dX7_lastPiece_12 0 rfl rfl ?_
        refine vg_iload_n X dX7_lastPiece_13 1 rfl rfl ?_
        refine vg_iload X dX7_lastPiece_14 4 rfl ?_
        obtain ⟨b0, b1, b2, b3⟩ := hp i (by omega)
        obtain ⟨hrr, y0, y1, y6⟩ := hR.2.2.2.1 i (by omega)
        obtain ⟨hwi, hwp⟩ := hw9 i (by omega)
        have l0 := hl _ y0
        have l1 := hl _ y1
        refine vg_calli (vg_runV X (c_X7_mayGo l hO0 hD hR (j := j) (i := i) hj (by omega)) (cwV 2 X.2.2.2.2.1 gX7_lastPiece_X7_mayGo rfl rfl rfl (by decide +kernel) ⟨Nat.le_of_ble_eq_true rfl, Nat.le_of_ble_eq_true rfl⟩) 29 hO rfl rfl rfl (Nat.le_of_ble_eq_true rfl) dX7_lastPiece_16 ⟨Nat.zero_le _, Nat.zero_le _⟩) (fun rr3 wz1 PP2 => ?_)
        obtain ⟨hw8, hy9, hn9⟩ := PP2
        rw [hw8]
        refine vg_if_eq X 127 dX7_lastPiece_19 (by decide) (fun c19 => ?_) (fun c19 => ?_)
        · have hok : ¬ ps_ok (d i) (uv j) := fun q9 => by have := hy9 q9; rw [c19] at this; exact absurd this (by decide)
          refine vg_iinc X (v := nI (i + 1)) [(4, .int (nI (i + 1))), (0, .ref am), (1, .int (nI j)), (2, .int (nI v)), (3, .int (nI t))] dX7_lastPiece_127 4 rfl (by rw [show Int32.ofInt 1 = nI 1 by decide, nI_add]) (by decide) rfl ?_
          refine vg_goto X 3 dX7_lastPiece_130 (by decide) ?_
          refine vg_locals [1, 2, 3, 4, 0] rfl ?_
          refine ih (k - 1) (by omega) (i + 1) (by omega) (fun q hq hf => ?_)
          by_cases q9 : q = i
          · subst q9
            obtain ⟨g1, g2, g3, g4⟩ := hf
            have g4 : (d q 0 = v ∧ D9 (d q 1) + w q = D9 v) ∨ (d q 1 = v ∧ D9 (d q 0) + w q = D9 v) := g4
            exact hok (hwp.mp g2)
          · exact hno q (by omega) hf
        · have hok : ps_ok (d i) (uv j) := Classical.byContradiction (fun q9 => c19 (hn9 q9))
          refine vg_aload_n X dX7_lastPiece_22 0 rfl rfl ?_
          refine vg_get X in_X7_lastPiece_X7 29 hO rfl 3 (by decide) ml_X7_lastPiece_7 rfl rfl dX7_lastPiece_23 ?_
          refine vg_iload X dX7_lastPiece_26 4 rfl ?_
          refine vg_iald X (nI (d i 0)) 30 h0 rfl (by omega) (by decide) b0 dX7_lastPiece_28 ?_
          refine vg_iload_n X dX7_lastPiece_29 2 rfl rfl ?_
          refine vg_icmp_eq X 47 dX7_lastPiece_30 (by decide) (fun c30 => ?_) (fun c30 => ?_)
          · have c30 : d i 0 = v := (nI_eq (by omega) (by omega)).mp c30
            skip
            refine vg_aload_n X dX7_lastPiece_47 0 rfl rfl ?_
            refine vg_get X in_X7_lastPiece_X7 29 hO rfl 3 (by decide) ml_X7_lastPiece_7 rfl rfl dX7_lastPiece_48 ?_
            refine vg_iload X dX7_lastPiece_51 4 rfl ?_
            refine vg_iald X (nI (d i 0)) 30 h0 rfl (by omega) (by decide) b0 dX7_lastPiece_53 ?_
            refine vg_iload_n X dX7_lastPiece_54 2 rfl rfl ?_
            refine vg_icmp_ne X 68 dX7_lastPiece_55 (by decide) (fun c55 => ?_) (fun c55 => ?_)
            · have c55 : ¬ d i 0 = v := fun z => c55 ((nI_eq (by omega) (by omega)).mpr z)
              exact absurd c30 c55
            · have c55 : d i 0 = v := (nI_eq (by omega) (by omega)).mp c55
              skip
              refine vg_aload_n X dX7_lastPiece_58 0 rfl rfl ?_
              refine vg_get X in_X7_lastPiece_X7 29 hO rfl 4 (by decide) ml_X7_lastPiece_13 rfl rfl dX7_lastPiece_59 ?_
              refine vg_iload X dX7_lastPiece_62 4 rfl ?_
              refine vg_iald X (nI (d i 1)) 31 h1 rfl (by omega) (by decide) b1 dX7_lastPiece_64 ?_
              refine vg_goto X 75 dX7_lastPiece_65 (by decide) ?_
              refine vg_istore X [(5, .int (nI (d i 1))), (0, .ref am), (1, .int (nI j)), (2, .int (nI v)), (3, .int (nI t)), (4, .int (nI i))] dX7_lastPiece_75 (by decide) rfl ?_
              refine vg_aload_n X dX7_lastPiece_77 1 rfl rfl ?_
              refine vg_get X in_X7_lastPiece_X7 29 hO rfl 25 (by decide) ml_X7_lastPiece_75 rfl rfl dX7_lastPiece_78 ?_
              refine vg_iload X dX7_lastPiece_81 0 rfl ?_
              refine vg_lald X (lN (D9 (d i 1))) 51 hL rfl (by omega) (by decide) l1.1 dX7_lastPiece_83 ?_
              refine vg_ldc2 X (lN ma_B) dX7_lastPiece_84 mk_X7_lastPiece_113 ?_
              refine vg_lcmp_ge X 127 dX7_lastPiece_87 dX7_lastPiece_88 (by decide) (fun c87 => ?_) (fun c87 => ?_)
              · have c87 : ma_B ≤ D9 (d i 1) := (pk_lLE (by omega) (by omega)).mp c87
                skip
                refine vg_iinc X (v := nI (i + 1)) [(4, .int (nI (i + 1))), (5, .int (nI (d i 1))), (0, .ref am), (1, .int (nI j)), (2, .int (nI v)), (3, .int (nI t))] dX7_lastPiece_127 5 rfl (by rw [show Int32.ofInt 1 = nI 1 by decide, nI_add]) (by decide) rfl ?_
                refine vg_goto X 3 dX7_lastPiece_130 (by decide) ?_
                refine vg_locals [2, 3, 4, 5, 0] rfl ?_
                refine ih (k - 1) (by omega) (i + 1) (by omega) (fun q hq hf => ?_)
                by_cases q9 : q = i
                · subst q9
                  obtain ⟨g1, g2, g3, g4⟩ := hf
                  have g4 : (d q 0 = v ∧ D9 (d q 1) + w q = D9 v) ∨ (d q 1 = v ∧ D9 (d q 0) + w q = D9 v) := g4
                  omega
                · exact hno q (by omega) hf
              · have c87 : ¬ ma_B ≤ D9 (d i 1) := fun z => c87 ((pk_lLE (by omega) (by omega)).mpr z)
                refine vg_aload_n X dX7_lastPiece_91 1 rfl rfl ?_
                refine vg_get X in_X7_lastPiece_X7 29 hO rfl 25 (by decide) ml_X7_lastPiece_75 rfl rfl dX7_lastPiece_92 ?_
                refine vg_iload X dX7_lastPiece_95 0 rfl ?_
                refine vg_lald X (lN (D9 (d i 1))) 51 hL rfl (by omega) (by decide) l1.1 dX7_lastPiece_97 ?_
                refine vg_aload_n X dX7_lastPiece_98 1 rfl rfl ?_
                refine vg_iload_n X dX7_lastPiece_99 2 rfl rfl ?_
                refine vg_iload X dX7_lastPiece_100 5 rfl ?_
                refine vg_aload_n X dX7_lastPiece_102 1 rfl rfl ?_
                refine vg_get X in_X7_lastPiece_X7 29 hO rfl 5 (by decide) ml_X7_lastPiece_16 rfl rfl dX7_lastPiece_103 ?_
                refine vg_iload X dX7_lastPiece_106 5 rfl ?_
                refine vg_iald X (nI (d i 2)) 32 h2 rfl (by omega) (by decide) b2 dX7_lastPiece_108 ?_
                refine vg_iload_n X dX7_lastPiece_109 4 rfl rfl ?_
                refine vg_calll (vg_runV X (c_X7_takes l hO0 hD hR (j := j) (i := i) (mm := d i 2) (t := t) hj (by omega) hrr.2.2.2.1 ht hok.2.1) (cwV 4 X.2.2.2.2.1 gX7_lastPiece_X7_takes rfl rfl rfl (by decide +kernel) ⟨Nat.le_of_ble_eq_true rfl, Nat.le_of_ble_eq_true rfl⟩) 29 hO rfl rfl rfl (Nat.le_of_ble_eq_true rfl) dX7_lastPiece_110 ⟨Nat.zero_le _, Nat.zero_le _⟩) (fun rr6 wz4 PP5 => ?_)
                obtain ⟨hw8, hr8⟩ := PP5
                rw [hw8]
                have e8 : rr6 = lN (w i) := by rw [hr8, ew]; exact congrArg lN (ps_w_ok hok).symm
                subst e8
                refine vg_ladd X (lN (D9 (d i 1) + w i)) dX7_lastPiece_113 (lN_add _ _) ?_
                refine vg_aload_n X dX7_lastPiece_114 1 rfl rfl ?_
                refine vg_get X in_X7_lastPiece_X7 29 hO rfl 25 (by decide) ml_X7_lastPiece_75 rfl rfl dX7_lastPiece_115 ?_
                refine vg_iload_n X dX7_lastPiece_118 3 rfl rfl ?_
                refine vg_lald X (lN (D9 v)) 51 hL rfl (by omega) (by decide) (hl v hv).1 dX7_lastPiece_119 ?_
                refine vg_lcmp_ne X 127 dX7_lastPiece_120 dX7_lastPiece_121 (by decide) (fun c120 => ?_) (fun c120 => ?_)
                · have c120 : ¬ D9 (d i 1) + w i = D9 v := fun z => c120 ((pk_lEQ (by omega) (by omega)).mpr z)
                  skip
                  refine vg_iinc X (v := nI (i + 1)) [(4, .int (nI (i + 1))), (5, .int (nI (d i 1))), (0, .ref am), (1, .int (nI j)), (2, .int (nI v)), (3, .int (nI t))] dX7_lastPiece_127 5 rfl (by rw [show Int32.ofInt 1 = nI 1 by decide, nI_add]) (by decide) rfl ?_
                  refine vg_goto X 3 dX7_lastPiece_130 (by decide) ?_
                  refine vg_locals [2, 3, 4, 5, 0] rfl ?_
                  refine ih (k - 1) (by omega) (i + 1) (by omega) (fun q hq hf => ?_)
                  by_cases q9 : q = i
                  · subst q9
                    obtain ⟨g1, g2, g3, g4⟩ := hf
                    have g4 : (d q 0 = v ∧ D9 (d q 1) + w q = D9 v) ∨ (d q 1 = v ∧ D9 (d q 0) + w q = D9 v) := g4
                    omega
                  · exact hno q (by omega) hf
                · have c120 : D9 (d i 1) + w i = D9 v := (pk_lEQ (by omega) (by omega)).mp c120
                  refine vg_iload X dX7_lastPiece_124 5 rfl ?_
                  exact vg_iret X rfl ⟨rfl, Or.inr ⟨i, rfl, by omega, ⟨by omega, hwp.mpr hok, hre, Or.inl ⟨c30, c120⟩⟩, hno⟩⟩ (Nat.le_refl _) (Nat.le_refl _) dX7_lastPiece_126
          · have c30 : ¬ d i 0 = v := fun z => c30 ((nI_eq (by omega) (by omega)).mpr z)
            skip
            refine vg_aload_n X dX7_lastPiece_33 0 rfl rfl ?_
            refine vg_get X in_X7_lastPiece_X7 29 hO rfl 4 (by decide) ml_X7_lastPiece_13 rfl rfl dX7_lastPiece_34 ?_
            refine vg_iload X dX7_lastPiece_37 4 rfl ?_
            refine vg_iald X (nI (d i 1)) 31 h1 rfl (by omega) (by decide) b1 dX7_lastPiece_39 ?_
            refine vg_iload_n X dX7_lastPiece_40 2 rfl rfl ?_
            refine vg_icmp_eq X 47 dX7_lastPiece_41 (by decide) (fun c41 => ?_) (fun c41 => ?_)
            · have c41 : d i 1 = v := (nI_eq (by omega) (by omega)).mp c41
              skip
              refine vg_aload_n X dX7_lastPiece_47 0 rfl rfl ?_
              refine vg_get X in_X7_lastPiece_X7 29 hO rfl 3 (by decide) ml_X7_lastPiece_7 rfl rfl dX7_lastPiece_48 ?_
              refine vg_iload X dX7_lastPiece_51 4 rfl ?_
              refine vg_iald X (nI (d i 0)) 30 h0 rfl (by omega) (by decide) b0 dX7_lastPiece_53 ?_
              refine vg_iload_n X dX7_lastPiece_54 2 rfl rfl ?_
              refine vg_icmp_ne X 68 dX7_lastPiece_55 (by decide) (fun c55 => ?_) (fun c55 => ?_)
              · have c55 : ¬ d i 0 = v := fun z => c55 ((nI_eq (by omega) (by omega)).mpr z)
                skip
                refine vg_aload_n X dX7_lastPiece_68 0 rfl rfl ?_
                refine vg_get X in_X7_lastPiece_X7 29 hO rfl 3 (by decide) ml_X7_lastPiece_7 rfl rfl dX7_lastPiece_69 ?_
                refine vg_iload X dX7_lastPiece_72 4 rfl ?_
                refine vg_iald X (nI (d i 0)) 30 h0 rfl (by omega) (by decide) b0 dX7_lastPiece_74 ?_
                refine vg_istore X [(5, .int (nI (d i 0))), (0, .ref am), (1, .int (nI j)), (2, .int (nI v)), (3, .int (nI t)), (4, .int (nI i))] dX7_lastPiece_75 (by decide) rfl ?_
                refine vg_aload_n X dX7_lastPiece_77 1 rfl rfl ?_
                refine vg_get X in_X7_lastPiece_X7 29 hO rfl 25 (by decide) ml_X7_lastPiece_75 rfl rfl dX7_lastPiece_78 ?_
                refine vg_iload X dX7_lastPiece_81 0 rfl ?_
                refine vg_lald X (lN (D9 (d i 0))) 51 hL rfl (by omega) (by decide) l0.1 dX7_lastPiece_83 ?_
                refine vg_ldc2 X (lN ma_B) dX7_lastPiece_84 mk_X7_lastPiece_113 ?_
                refine vg_lcmp_ge X 127 dX7_lastPiece_87 dX7_lastPiece_88 (by decide) (fun c87 => ?_) (fun c87 => ?_)
                · have c87 : ma_B ≤ D9 (d i 0) := (pk_lLE (by omega) (by omega)).mp c87
                  skip
                  refine vg_iinc X (v := nI (i + 1)) [(4, .int (nI (i + 1))), (5, .int (nI (d i 0))), (0, .ref am), (1, .int (nI j)), (2, .int (nI v)), (3, .int (nI t))] dX7_lastPiece_127 5 rfl (by rw [show Int32.ofInt 1 = nI 1 by decide, nI_add]) (by decide) rfl ?_
                  refine vg_goto X 3 dX7_lastPiece_130 (by decide) ?_
                  refine vg_locals [2, 3, 4, 5, 0] rfl ?_
                  refine ih (k - 1) (by omega) (i + 1) (by omega) (fun q hq hf => ?_)
                  by_cases q9 : q = i
                  · subst q9
                    obtain ⟨g1, g2, g3, g4⟩ := hf
                    have g4 : (d q 0 = v ∧ D9 (d q 1) + w q = D9 v) ∨ (d q 1 = v ∧ D9 (d q 0) + w q = D9 v) := g4
                    omega
                  · exact hno q (by omega) hf
                · have c87 : ¬ ma_B ≤ D9 (d i 0) := fun z => c87 ((pk_lLE (by omega) (by omega)).mpr z)
                  refine vg_aload_n X dX7_lastPiece_91 1 rfl rfl ?_
                  refine vg_get X in_X7_lastPiece_X7 29 hO rfl 25 (by decide) ml_X7_lastPiece_75 rfl rfl dX7_lastPiece_92 ?_
                  refine vg_iload X dX7_lastPiece_95 0 rfl ?_
                  refine vg_lald X (lN (D9 (d i 0))) 51 hL rfl (by omega) (by decide) l0.1 dX7_lastPiece_97 ?_
                  refine vg_aload_n X dX7_lastPiece_98 1 rfl rfl ?_
                  refine vg_iload_n X dX7_lastPiece_99 2 rfl rfl ?_
                  refine vg_iload X dX7_lastPiece_100 5 rfl ?_
                  refine vg_aload_n X dX7_lastPiece_102 1 rfl rfl ?_
                  refine vg_get X in_X7_lastPiece_X7 29 hO rfl 5 (by decide) ml_X7_lastPiece_16 rfl rfl dX7_lastPiece_103 ?_
                  refine vg_iload X dX7_lastPiece_106 5 rfl ?_
                  refine vg_iald X (nI (d i 2)) 32 h2 rfl (by omega) (by decide) b2 dX7_lastPiece_108 ?_
                  refine vg_iload_n X dX7_lastPiece_109 4 rfl rfl ?_
                  refine vg_calll (vg_runV X (c_X7_takes l hO0 hD hR (j := j) (i := i) (mm := d i 2) (t := t) hj (by omega) hrr.2.2.2.1 ht hok.2.1) (cwV 4 X.2.2.2.2.1 gX7_lastPiece_X7_takes rfl rfl rfl (by decide +kernel) ⟨Nat.le_of_ble_eq_true rfl, Nat.le_of_ble_eq_true rfl⟩) 29 hO rfl rfl rfl (Nat.le_of_ble_eq_true rfl) dX7_lastPiece_110 ⟨Nat.zero_le _, Nat.zero_le _⟩) (fun rr9 wz7 PP8 => ?_)
                  obtain ⟨hw8, hr8⟩ := PP8
                  rw [hw8]
                  have e8 : rr9 = lN (w i) := by rw [hr8, ew]; exact congrArg lN (ps_w_ok hok).symm
                  subst e8
                  refine vg_ladd X (lN (D9 (d i 0) + w i)) dX7_lastPiece_113 (lN_add _ _) ?_
                  refine vg_aload_n X dX7_lastPiece_114 1 rfl rfl ?_
                  refine vg_get X in_X7_lastPiece_X7 29 hO rfl 25 (by decide) ml_X7_lastPiece_75 rfl rfl dX7_lastPiece_115 ?_
                  refine vg_iload_n X dX7_lastPiece_118 3 rfl rfl ?_
                  refine vg_lald X (lN (D9 v)) 51 hL rfl (by omega) (by decide) (hl v hv).1 dX7_lastPiece_119 ?_
                  refine vg_lcmp_ne X 127 dX7_lastPiece_120 dX7_lastPiece_121 (by decide) (fun c120 => ?_) (fun c120 => ?_)
                  · have c120 : ¬ D9 (d i 0) + w i = D9 v := fun z => c120 ((pk_lEQ (by omega) (by omega)).mpr z)
                    skip
                    refine vg_iinc X (v := nI (i + 1)) [(4, .int (nI (i + 1))), (5, .int (nI (d i 0))), (0, .ref am), (1, .int (nI j)), (2, .int (nI v)), (3, .int (nI t))] dX7_lastPiece_127 5 rfl (by rw [show Int32.ofInt 1 = nI 1 by decide, nI_add]) (by decide) rfl ?_
                    refine vg_goto X 3 dX7_lastPiece_130 (by decide) ?_
                    refine vg_locals [2, 3, 4, 5, 0] rfl ?_
                    refine ih (k - 1) (by omega) (i + 1) (by omega) (fun q hq hf => ?_)
                    by_cases q9 : q = i
                    · subst q9
                      obtain ⟨g1, g2, g3, g4⟩ := hf
                      have g4 : (d q 0 = v ∧ D9 (d q 1) + w q = D9 v) ∨ (d q 1 = v ∧ D9 (d q 0) + w q = D9 v) := g4
                      omega
                    · exact hno q (by omega) hf
                  · have c120 : D9 (d i 0) + w i = D9 v := (pk_lEQ (by omega) (by omega)).mp c120
                    refine vg_iload X dX7_lastPiece_124 5 rfl ?_
                    exact vg_iret X rfl ⟨rfl, Or.inr ⟨i, rfl, by omega, ⟨by omega, hwp.mpr hok, hre, Or.inr ⟨c41, c120⟩⟩, hno⟩⟩ (Nat.le_refl _) (Nat.le_refl _) dX7_lastPiece_126
              · have c55 : d i 0 = v := (nI_eq (by omega) (by omega)).mp c55
                exact absurd c55 c30
            · have c41 : ¬ d i 1 = v := fun z => c41 ((nI_eq (by omega) (by omega)).mpr z)
              skip
              refine vg_goto X 127 dX7_lastPiece_44 (by decide) ?_
              refine vg_iinc X (v := nI (i + 1)) [(4, .int (nI (i + 1))), (0, .ref am), (1, .int (nI j)), (2, .int (nI v)), (3, .int (nI t))] dX7_lastPiece_127 4 rfl (by rw [show Int32.ofInt 1 = nI 1 by decide, nI_add]) (by decide) rfl ?_
              refine vg_goto X 3 dX7_lastPiece_130 (by decide) ?_
              refine vg_locals [1, 2, 3, 4, 0] rfl ?_
              refine ih (k - 1) (by omega) (i + 1) (by omega) (fun q hq hf => ?_)
              by_cases q9 : q = i
              · subst q9
                obtain ⟨g1, g2, g3, g4⟩ := hf
                have g4 : (d q 0 = v ∧ D9 (d q 1) + w q = D9 v) ∨ (d q 1 = v ∧ D9 (d q 0) + w q = D9 v) := g4
                omega
              · exact hno q (by omega) hf
  refine vg_iconst X (nI 0) dX7_lastPiece_0 (by decide) ?_
  refine vg_istore X [(4, .int (nI 0)), (0, .ref am), (1, .int (nI j)), (2, .int (nI v)), (3, .int (nI t))] dX7_lastPiece_1 (by decide) rfl ?_
  refine vg_locals [1, 2, 3, 4, 0] rfl ?_
  exact loop P 0 (by omega) (fun q hq => absurd hq (by omega))
