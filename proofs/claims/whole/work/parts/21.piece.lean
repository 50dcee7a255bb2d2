/-! Pieces and units as functions: d 0, d 1 the ends, d 2 metres, d 3 speed, d 4, d 5 the limits, d 6 closed (0, 1), d 7 rows; fr, to, pe: the rows. v 0 weight, v 1 height, v 2 p, v 3 q, v 4 node. -/
def ps_per (fr to pe : Nat → Nat) (hour : Nat) : Nat → Nat → Nat
  | 0, _ => 100
  | k + 1, r => if fr r ≤ hour ∧ hour ≤ to r then pe r else ps_per fr to pe hour k (r + 1)
theorem ps_per_hit {fr to pe : Nat → Nat} {hour k r : Nat} (hk : 0 < k) (h1 : fr r ≤ hour) (h2 : hour ≤ to r) : ps_per fr to pe hour k r = pe r := by
  obtain ⟨k, rfl⟩ : ∃ z, k = z + 1 := ⟨k - 1, by omega⟩
  exact if_pos ⟨h1, h2⟩
theorem ps_per_miss {fr to pe : Nat → Nat} {hour k r : Nat} (hk : 0 < k) (h : ¬ (fr r ≤ hour ∧ hour ≤ to r)) : ps_per fr to pe hour k r = ps_per fr to pe hour (k - 1) (r + 1) := by
  obtain ⟨k, rfl⟩ : ∃ z, k = z + 1 := ⟨k - 1, by omega⟩
  exact if_neg h
theorem ps_per_in {fr to pe : Nat → Nat} {hour : Nat} : ∀ (k r : Nat), (∀ j, r ≤ j → j < r + k → 1 ≤ pe j ∧ pe j ≤ 100) → 1 ≤ ps_per fr to pe hour k r ∧ ps_per fr to pe hour k r ≤ 100
  | 0, r, _ => ⟨show 1 ≤ 100 by decide, show 100 ≤ 100 by decide⟩
  | k + 1, r, h => by
    unfold ps_per
    split
    · exact h r (Nat.le_refl _) (by omega)
    · exact ps_per_in k (r + 1) (fun j h1 h2 => h j (by omega) (by omega))
/-- the seconds of m metres -/
def ps_sec (sp per p q m : Nat) : Nat := (m * 360 * q + sp * per * p - 1) / (sp * per * p)
def ps_ok (d v : Nat → Nat) : Prop := d 6 = 0 ∧ 0 < d 3 ∧ (d 4 = 0 ∨ v 0 ≤ d 4) ∧ (d 5 = 0 ∨ v 1 ≤ d 5)
/-- a piece's cells, at the places q to q + 3 -/
def cp_P (ay : Nat → ClassId) (ws : va_W) (q a : Nat) (d fr to pe : Nat → Nat) : Prop :=
  ∃ (af at2 ag : Nat) (ff ft fg : Nat → Int32), ws[q]? = some (a, .inr (5, [.int (nI (d 0)), .int (nI (d 1)), .int (nI (d 2)), .int (nI (d 3)), .int (nI (d 4)), .int (nI (d 5)), .int (nI (d 6)), .int (nI (d 7)), .ref af, .ref at2, .ref ag])) ∧ ws[q + 1]? = some (af, .inl (ay 0, 3, .inl ff)) ∧ ws[q + 2]? = some (at2, .inl (ay 0, 3, .inl ft)) ∧ ws[q + 3]? = some (ag, .inl (ay 0, 3, .inl fg)) ∧ ∀ r, r < d 7 → ff r = nI (fr r) ∧ ft r = nI (to r) ∧ fg r = nI (pe r)
def cp_R (d fr to pe : Nat → Nat) : Prop := d 0 < 200 ∧ d 1 < 200 ∧ 1 ≤ d 2 ∧ d 2 ≤ 60000 ∧ d 3 ≤ 200 ∧ d 4 ≤ 1000 ∧ d 5 ≤ 1000 ∧ d 6 ≤ 1 ∧ d 7 ≤ 3 ∧ ∀ r, r < d 7 → fr r ≤ 23 ∧ to r ≤ 23 ∧ 1 ≤ pe r ∧ pe r ≤ 100
def cu_P (ws : va_W) (q a : Nat) (v : Nat → Nat) : Prop := ws[q]? = some (a, .inr (8, [.int (nI (v 0)), .int (nI (v 1)), .int (nI (v 2)), .int (nI (v 3)), .int (nI (v 4))]))
def cu_R (v : Nat → Nat) : Prop := v 0 ≤ 1000 ∧ v 1 ≤ 1000 ∧ 1 ≤ v 2 ∧ v 2 ≤ 20 ∧ 1 ≤ v 3 ∧ v 3 ≤ 20 ∧ v 4 < 200
theorem in_X2_otherEnd_X2 : ∀ w ∈ u_ws RX2 TX2 11, w ∈ wsX2_otherEnd := by decide +kernel
theorem ml_X2_otherEnd_21 : Cond.fieldLink RX2 21 "WayTimes$Piece" "a" "I" ∈ wsX2_otherEnd := by decide +kernel
theorem ml_X2_otherEnd_25 : Cond.fieldLink RX2 25 "WayTimes$Piece" "b" "I" ∈ wsX2_otherEnd := by decide +kernel
theorem in_X2_letsPass_X2 : ∀ w ∈ u_ws RX2 TX2 11, w ∈ wsX2_letsPass := by decide +kernel
theorem ml_X2_letsPass_37 : Cond.fieldLink RX2 37 "WayTimes$Piece" "closed" "Z" ∈ wsX2_letsPass := by decide +kernel
theorem ml_X2_letsPass_31 : Cond.fieldLink RX2 31 "WayTimes$Piece" "speed" "I" ∈ wsX2_letsPass := by decide +kernel
theorem ml_X2_letsPass_41 : Cond.fieldLink RX2 41 "WayTimes$Piece" "weightLimit" "I" ∈ wsX2_letsPass := by decide +kernel
theorem ml_X2_letsPass_49 : Cond.fieldLink RX2 49 "WayTimes$Piece" "heightLimit" "I" ∈ wsX2_letsPass := by decide +kernel
theorem in_X2_letsPass_X5 : ∀ w ∈ u_ws RX5 TX5 5, w ∈ wsX2_letsPass := by decide +kernel
theorem ml_X2_letsPass_52 : Cond.fieldLink RX2 52 "WayTimes$Unit" "height" "I" ∈ wsX2_letsPass := by decide +kernel
theorem ml_X2_letsPass_44 : Cond.fieldLink RX2 44 "WayTimes$Unit" "weight" "I" ∈ wsX2_letsPass := by decide +kernel
theorem in_X2_percentAt_X2 : ∀ w ∈ u_ws RX2 TX2 11, w ∈ wsX2_percentAt := by decide +kernel
theorem ml_X2_percentAt_34 : Cond.fieldLink RX2 34 "WayTimes$Piece" "rows" "I" ∈ wsX2_percentAt := by decide +kernel
theorem ml_X2_percentAt_9 : Cond.fieldLink RX2 9 "WayTimes$Piece" "from" "[I" ∈ wsX2_percentAt := by decide +kernel
theorem ml_X2_percentAt_15 : Cond.fieldLink RX2 15 "WayTimes$Piece" "to" "[I" ∈ wsX2_percentAt := by decide +kernel
theorem ml_X2_percentAt_18 : Cond.fieldLink RX2 18 "WayTimes$Piece" "percent" "[I" ∈ wsX2_percentAt := by decide +kernel
theorem in_X2_secondsFor_X2 : ∀ w ∈ u_ws RX2 TX2 11, w ∈ wsX2_secondsFor := by decide +kernel
theorem ml_X2_secondsFor_31 : Cond.fieldLink RX2 31 "WayTimes$Piece" "speed" "I" ∈ wsX2_secondsFor := by decide +kernel
theorem in_X2_secondsFor_X5 : ∀ w ∈ u_ws RX5 TX5 5, w ∈ wsX2_secondsFor := by decide +kernel
theorem ml_X2_secondsFor_59 : Cond.fieldLink RX2 59 "WayTimes$Unit" "p" "I" ∈ wsX2_secondsFor := by decide +kernel
theorem mk_X2_secondsFor_64 : Jvm.Cond.constantLong RX2 64 (lN 360) ∈ wsX2_secondsFor := by decide +kernel
theorem ml_X2_secondsFor_66 : Cond.fieldLink RX2 66 "WayTimes$Unit" "q" "I" ∈ wsX2_secondsFor := by decide +kernel
theorem mk_X2_secondsFor_62 : Jvm.Cond.constantLong RX2 62 (-1) ∈ wsX2_secondsFor := by decide +kernel
theorem in_X2_addRow_X2 : ∀ w ∈ u_ws RX2 TX2 11, w ∈ wsX2_addRow := by decide +kernel
theorem ml_X2_addRow_34 : Cond.fieldLink RX2 34 "WayTimes$Piece" "rows" "I" ∈ wsX2_addRow := by decide +kernel
theorem ml_X2_addRow_9 : Cond.fieldLink RX2 9 "WayTimes$Piece" "from" "[I" ∈ wsX2_addRow := by decide +kernel
theorem ml_X2_addRow_15 : Cond.fieldLink RX2 15 "WayTimes$Piece" "to" "[I" ∈ wsX2_addRow := by decide +kernel
theorem ml_X2_addRow_18 : Cond.fieldLink RX2 18 "WayTimes$Piece" "percent" "[I" ∈ wsX2_addRow := by decide +kernel
set_option maxHeartbeats 4000000 in
set_option maxRecDepth 100000 in
/-- otherEnd(node) -/
theorem c_X2_otherEnd (l : Launch) {D : va_G} {ay : Nat → ClassId} {base : Nat} {Gx : State → Prop} {ws : va_W} {q a : Nat} {d fr to pe : Nat → Nat} {node : Nat} (hp : cp_P ay ws q a d fr to pe) (hr : cp_R d fr to pe) (hn : node < 200) : Met l yX2_otherEnd wsX2_otherEnd ({ frames := 0, cells := 0, slots := 0, locals := 0 } : Room) (va_Pc [.ref a, .int (nI node)] (vg_B D ay base Gx ws)) (va_Qi (fun r u => u = ws ∧ r = nI (if node = d 0 then d 1 else d 0)) (vg_B D ay base Gx) (vg_A base)) 0 0 (vg_A base) := by
  refine vg_met (cc := cX2_otherEnd) (maxL := 2) (ret := (some .int)) (own := RX2) (lv := [(0, .ref a), (1, .int (nI node))]) (by decide) rfl rfl (Nat.le_of_ble_eq_true rfl) rfl ?_
  intro p e s m args below meth c X hinit
  obtain ⟨af, at2, ag, ff, ft, fg, k0, k1, k2, k3, hrow⟩ := id hp
  obtain ⟨r0, r1, r2, r3, r4, r5, r6, r7, r8, r9⟩ := id hr
  refine vg_iload_n X dX2_otherEnd_0 1 rfl rfl ?_
  refine vg_aload_n X dX2_otherEnd_1 0 rfl rfl ?_
  refine vg_get X in_X2_otherEnd_X2 q k0 rfl 0 (by decide) ml_X2_otherEnd_21 rfl rfl dX2_otherEnd_2 ?_
  refine vg_icmp_ne X 15 dX2_otherEnd_5 (by decide) (fun c5 => ?_) (fun c5 => ?_)
  · have c5 : ¬ node = d 0 := fun z => c5 ((nI_eq (by omega) (by omega)).mpr z)
    refine vg_aload_n X dX2_otherEnd_15 0 rfl rfl ?_
    refine vg_get X in_X2_otherEnd_X2 q k0 rfl 0 (by decide) ml_X2_otherEnd_21 rfl rfl dX2_otherEnd_16 ?_
    exact vg_iret X rfl ⟨rfl, by rw [if_neg c5]⟩ (Nat.le_refl _) (Nat.le_refl _) dX2_otherEnd_19
  · have c5 : node = d 0 := (nI_eq (by omega) (by omega)).mp c5
    refine vg_aload_n X dX2_otherEnd_8 0 rfl rfl ?_
    refine vg_get X in_X2_otherEnd_X2 q k0 rfl 1 (by decide) ml_X2_otherEnd_25 rfl rfl dX2_otherEnd_9 ?_
    refine vg_goto X 19 dX2_otherEnd_12 (by decide) ?_
    exact vg_iret X rfl ⟨rfl, by rw [if_pos c5]⟩ (Nat.le_refl _) (Nat.le_refl _) dX2_otherEnd_19
set_option maxHeartbeats 4000000 in
set_option maxRecDepth 100000 in
/-- letsPass(unit) -/
theorem c_X2_letsPass (l : Launch) {D : va_G} {ay : Nat → ClassId} {base : Nat} {Gx : State → Prop} {ws : va_W} {q a : Nat} {d fr to pe : Nat → Nat} {qu au : Nat} {v : Nat → Nat} (hp : cp_P ay ws q a d fr to pe) (hr : cp_R d fr to pe) (hu : cu_P ws qu au v) (hv : cu_R v) : Met l yX2_letsPass wsX2_letsPass ({ frames := 0, cells := 0, slots := 0, locals := 0 } : Room) (va_Pc [.ref a, .ref au] (vg_B D ay base Gx ws)) (va_Qi (fun r u => u = ws ∧ (ps_ok d v → r = 1) ∧ (¬ ps_ok d v → r = 0)) (vg_B D ay base Gx) (vg_A base)) 0 0 (vg_A base) := by
  refine vg_met (cc := cX2_letsPass) (maxL := 2) (ret := (some .boolean)) (own := RX2) (lv := [(0, .ref a), (1, .ref au)]) (by decide) rfl rfl (Nat.le_of_ble_eq_true rfl) rfl ?_
  intro p e s m args below meth c X hinit
  obtain ⟨af, at2, ag, ff, ft, fg, k0, k1, k2, k3, hrow⟩ := id hp
  obtain ⟨r0, r1, r2, r3, r4, r5, r6, r7, r8, r9⟩ := id hr
  obtain ⟨u0, u1, u2, u3, u4, u5, u6⟩ := id hv
  unfold cu_P at hu
  refine vg_aload_n X dX2_letsPass_0 0 rfl rfl ?_
  refine vg_get X in_X2_letsPass_X2 q k0 rfl 6 (by decide) ml_X2_letsPass_37 rfl rfl dX2_letsPass_1 ?_
  refine vg_if_ne X 54 dX2_letsPass_4 (by decide) (fun c4 => ?_) (fun c4 => ?_)
  · have c4 : ¬ d 6 = 0 := fun z => c4 ((vg_eq0 (by omega)).mpr z)
    refine vg_iconst X (nI 0) dX2_letsPass_54 (by decide) ?_
    exact vg_zret X rfl rfl ⟨rfl, fun h => absurd h (fun ⟨g1, g2, g3, g4⟩ => by omega), fun _ => rfl⟩ (Nat.le_refl _) (Nat.le_refl _) dX2_letsPass_55
  · have c4 : d 6 = 0 := (vg_eq0 (by omega)).mp c4
    refine vg_aload_n X dX2_letsPass_7 0 rfl rfl ?_
    refine vg_get X in_X2_letsPass_X2 q k0 rfl 3 (by decide) ml_X2_letsPass_31 rfl rfl dX2_letsPass_8 ?_
    refine vg_if_le X 54 dX2_letsPass_11 (by decide) (fun c11 => ?_) (fun c11 => ?_)
    · have c11 : d 3 ≤ 0 := (vg_le0 (by omega)).mp c11
      refine vg_iconst X (nI 0) dX2_letsPass_54 (by decide) ?_
      exact vg_zret X rfl rfl ⟨rfl, fun h => absurd h (fun ⟨g1, g2, g3, g4⟩ => by omega), fun _ => rfl⟩ (Nat.le_refl _) (Nat.le_refl _) dX2_letsPass_55
    · have c11 : ¬ d 3 ≤ 0 := fun z => c11 ((vg_le0 (by omega)).mpr z)
      refine vg_aload_n X dX2_letsPass_14 0 rfl rfl ?_
      refine vg_get X in_X2_letsPass_X2 q k0 rfl 4 (by decide) ml_X2_letsPass_41 rfl rfl dX2_letsPass_15 ?_
      refine vg_if_eq X 32 dX2_letsPass_18 (by decide) (fun c18 => ?_) (fun c18 => ?_)
      · have c18 : d 4 = 0 := (vg_eq0 (by omega)).mp c18
        refine vg_aload_n X dX2_letsPass_32 0 rfl rfl ?_
        refine vg_get X in_X2_letsPass_X2 q k0 rfl 5 (by decide) ml_X2_letsPass_49 rfl rfl dX2_letsPass_33 ?_
        refine vg_if_eq X 50 dX2_letsPass_36 (by decide) (fun c36 => ?_) (fun c36 => ?_)
        · have c36 : d 5 = 0 := (vg_eq0 (by omega)).mp c36
          refine vg_iconst X (nI 1) dX2_letsPass_50 (by decide) ?_
          refine vg_goto X 55 dX2_letsPass_51 (by decide) ?_
          exact vg_zret X rfl rfl ⟨rfl, fun _ => rfl, fun h => absurd (show ps_ok d v from ⟨by omega, by omega, by omega, by omega⟩) h⟩ (Nat.le_refl _) (Nat.le_refl _) dX2_letsPass_55
        · have c36 : ¬ d 5 = 0 := fun z => c36 ((vg_eq0 (by omega)).mpr z)
          refine vg_aload_n X dX2_letsPass_39 0 rfl rfl ?_
          refine vg_get X in_X2_letsPass_X2 q k0 rfl 5 (by decide) ml_X2_letsPass_49 rfl rfl dX2_letsPass_40 ?_
          refine vg_aload_n X dX2_letsPass_43 1 rfl rfl ?_
          refine vg_get X in_X2_letsPass_X5 qu hu rfl 1 (by decide) ml_X2_letsPass_52 rfl rfl dX2_letsPass_44 ?_
          refine vg_icmp_lt X 54 dX2_letsPass_47 (by decide) (fun c47 => ?_) (fun c47 => ?_)
          · have c47 : d 5 < v 1 := (nI_ltI (by omega) (by omega)).mp c47
            refine vg_iconst X (nI 0) dX2_letsPass_54 (by decide) ?_
            exact vg_zret X rfl rfl ⟨rfl, fun h => absurd h (fun ⟨g1, g2, g3, g4⟩ => by omega), fun _ => rfl⟩ (Nat.le_refl _) (Nat.le_refl _) dX2_letsPass_55
          · have c47 : ¬ d 5 < v 1 := fun z => c47 ((nI_ltI (by omega) (by omega)).mpr z)
            refine vg_iconst X (nI 1) dX2_letsPass_50 (by decide) ?_
            refine vg_goto X 55 dX2_letsPass_51 (by decide) ?_
            exact vg_zret X rfl rfl ⟨rfl, fun _ => rfl, fun h => absurd (show ps_ok d v from ⟨by omega, by omega, by omega, by omega⟩) h⟩ (Nat.le_refl _) (Nat.le_refl _) dX2_letsPass_55
      · have c18 : ¬ d 4 = 0 := fun z => c18 ((vg_eq0 (by omega)).mpr z)
        refine vg_aload_n X dX2_letsPass_21 0 rfl rfl ?_
        refine vg_get X in_X2_letsPass_X2 q k0 rfl 4 (by decide) ml_X2_letsPass_41 rfl rfl dX2_letsPass_22 ?_
        refine vg_aload_n X dX2_letsPass_25 1 rfl rfl ?_
        refine vg_get X in_X2_letsPass_X5 qu hu rfl 0 (by decide) ml_X2_letsPass_44 rfl rfl dX2_letsPass_26 ?_
        refine vg_icmp_lt X 54 dX2_letsPass_29 (by decide) (fun c29 => ?_) (fun c29 => ?_)
        · have c29 : d 4 < v 0 := (nI_ltI (by omega) (by omega)).mp c29
          refine vg_iconst X (nI 0) dX2_letsPass_54 (by decide) ?_
          exact vg_zret X rfl rfl ⟨rfl, fun h => absurd h (fun ⟨g1, g2, g3, g4⟩ => by omega), fun _ => rfl⟩ (Nat.le_refl _) (Nat.le_refl _) dX2_letsPass_55
        · have c29 : ¬ d 4 < v 0 := fun z => c29 ((nI_ltI (by omega) (by omega)).mpr z)
          refine vg_aload_n X dX2_letsPass_32 0 rfl rfl ?_
          refine vg_get X in_X2_letsPass_X2 q k0 rfl 5 (by decide) ml_X2_letsPass_49 rfl rfl dX2_letsPass_33 ?_
          refine vg_if_eq X 50 dX2_letsPass_36 (by decide) (fun c36 => ?_) (fun c36 => ?_)
          · have c36 : d 5 = 0 := (vg_eq0 (by omega)).mp c36
            refine vg_iconst X (nI 1) dX2_letsPass_50 (by decide) ?_
            refine vg_goto X 55 dX2_letsPass_51 (by decide) ?_
            exact vg_zret X rfl rfl ⟨rfl, fun _ => rfl, fun h => absurd (show ps_ok d v from ⟨by omega, by omega, by omega, by omega⟩) h⟩ (Nat.le_refl _) (Nat.le_refl _) dX2_letsPass_55
          · have c36 : ¬ d 5 = 0 := fun z => c36 ((vg_eq0 (by omega)).mpr z)
            refine vg_aload_n X dX2_letsPass_39 0 rfl rfl ?_
            refine vg_get X in_X2_letsPass_X2 q k0 rfl 5 (by decide) ml_X2_letsPass_49 rfl rfl dX2_letsPass_40 ?_
            refine vg_aload_n X dX2_letsPass_43 1 rfl rfl ?_
            refine vg_get X in_X2_letsPass_X5 qu hu rfl 1 (by decide) ml_X2_letsPass_52 rfl rfl dX2_letsPass_44 ?_
            refine vg_icmp_lt X 54 dX2_letsPass_47 (by decide) (fun c47 => ?_) (fun c47 => ?_)
            · have c47 : d 5 < v 1 := (nI_ltI (by omega) (by omega)).mp c47
              refine vg_iconst X (nI 0) dX2_letsPass_54 (by decide) ?_
              exact vg_zret X rfl rfl ⟨rfl, fun h => absurd h (fun ⟨g1, g2, g3, g4⟩ => by omega), fun _ => rfl⟩ (Nat.le_refl _) (Nat.le_refl _) dX2_letsPass_55
            · have c47 : ¬ d 5 < v 1 := fun z => c47 ((nI_ltI (by omega) (by omega)).mpr z)
              refine vg_iconst X (nI 1) dX2_letsPass_50 (by decide) ?_
              refine vg_goto X 55 dX2_letsPass_51 (by decide) ?_
              exact vg_zret X rfl rfl ⟨rfl, fun _ => rfl, fun h => absurd (show ps_ok d v from ⟨by omega, by omega, by omega, by omega⟩) h⟩ (Nat.le_refl _) (Nat.le_refl _) dX2_letsPass_55
set_option maxHeartbeats 4000000 in
set_option maxRecDepth 100000 in
/-- percentAt(hour) -/
theorem c_X2_percentAt (l : Launch) {D : va_G} {ay : Nat → ClassId} {base : Nat} {Gx : State → Prop} {ws : va_W} {q a : Nat} {d fr to pe : Nat → Nat} {hour : Nat} (hp : cp_P ay ws q a d fr to pe) (hr : cp_R d fr to pe) (hh : hour < 24) : Met l yX2_percentAt wsX2_percentAt ({ frames := 0, cells := 0, slots := 0, locals := 0 } : Room) (va_Pc [.ref a, .int (nI hour)] (vg_B D ay base Gx ws)) (va_Qi (fun r u => u = ws ∧ r = nI (ps_per fr to pe hour (d 7) 0)) (vg_B D ay base Gx) (vg_A base)) 0 0 (vg_A base) := by
  refine vg_met (cc := cX2_percentAt) (maxL := 3) (ret := (some .int)) (own := RX2) (lv := [(0, .ref a), (1, .int (nI hour))]) (by decide) rfl rfl (Nat.le_of_ble_eq_true rfl) rfl ?_
  intro p e s m args below meth c X hinit
  obtain ⟨af, at2, ag, ff, ft, fg, k0, k1, k2, k3, hrow⟩ := id hp
  obtain ⟨r0, r1, r2, r3, r4, r5, r6, r7, r8, r9⟩ := id hr
  have loop : ∀ (k r : Nat), r + k = d 7 → ps_per fr to pe hour (d 7) 0 = ps_per fr to pe hour k r → vg_V D base p l e ({ frames := 0, cells := 0, slots := 0, locals := 0 } : Room) s m args below meth c 3 0 0 (MQ below (va_Qi (fun r u => u = ws ∧ r = nI (ps_per fr to pe hour (d 7) 0)) (vg_B D ay base Gx) (vg_A base)) args s 0 0 (vg_A base)) [(0, .ref a), (1, .int (nI hour)), (2, .int (nI r))] [] ws 2 := by
    intro k
    induction k using Nat.strongRecOn with
    | ind k ih =>
      intro r hk he
      refine vg_iload_n X dX2_percentAt_2 2 rfl rfl ?_
      refine vg_aload_n X dX2_percentAt_3 0 rfl rfl ?_
      refine vg_get X in_X2_percentAt_X2 q k0 rfl 7 (by decide) ml_X2_percentAt_34 rfl rfl dX2_percentAt_4 ?_
      refine vg_icmp_ge X 43 dX2_percentAt_7 (by decide) (fun c7 => ?_) (fun c7 => ?_)
      · have c7 : d 7 ≤ r := (nI_leI (by omega) (by omega)).mp c7
        refine vg_bipush X (nI 100) dX2_percentAt_43 (by decide) ?_
        exact vg_iret X rfl ⟨rfl, by rw [he, show k = 0 by omega]; rfl⟩ (Nat.le_refl _) (Nat.le_refl _) dX2_percentAt_45
      · have c7 : ¬ d 7 ≤ r := fun z => c7 ((nI_leI (by omega) (by omega)).mpr z)
        have g9 := r9 r (by omega)
        refine vg_aload_n X dX2_percentAt_10 0 rfl rfl ?_
        refine vg_get X in_X2_percentAt_X2 q k0 rfl 8 (by decide) ml_X2_percentAt_9 rfl rfl dX2_percentAt_11 ?_
        refine vg_iload_n X dX2_percentAt_14 2 rfl rfl ?_
        refine vg_iald X (nI (fr r)) (q + 1) k1 rfl (by omega) (by decide) (hrow r (by omega)).1 dX2_percentAt_15 ?_
        refine vg_iload_n X dX2_percentAt_16 1 rfl rfl ?_
        refine vg_icmp_gt X 37 dX2_percentAt_17 (by decide) (fun c17 => ?_) (fun c17 => ?_)
        · have c17 : hour < fr r := (nI_ltI (by omega) (by omega)).mp c17
          refine vg_iinc X (v := nI (r + 1)) [(2, .int (nI (r + 1))), (0, .ref a), (1, .int (nI hour))] dX2_percentAt_37 2 rfl (by rw [show Int32.ofInt 1 = nI 1 by decide, nI_add]) (by decide) rfl ?_
          refine vg_goto X 2 dX2_percentAt_40 (by decide) ?_
          refine vg_locals [1, 2, 0] rfl ?_
          exact ih (k - 1) (by omega) (r + 1) (by omega) (by rw [he]; exact ps_per_miss (by omega) (by omega))
        · have c17 : ¬ hour < fr r := fun z => c17 ((nI_ltI (by omega) (by omega)).mpr z)
          refine vg_iload_n X dX2_percentAt_20 1 rfl rfl ?_
          refine vg_aload_n X dX2_percentAt_21 0 rfl rfl ?_
          refine vg_get X in_X2_percentAt_X2 q k0 rfl 9 (by decide) ml_X2_percentAt_15 rfl rfl dX2_percentAt_22 ?_
          refine vg_iload_n X dX2_percentAt_25 2 rfl rfl ?_
          refine vg_iald X (nI (to r)) (q + 2) k2 rfl (by omega) (by decide) (hrow r (by omega)).2.1 dX2_percentAt_26 ?_
          refine vg_icmp_gt X 37 dX2_percentAt_27 (by decide) (fun c27 => ?_) (fun c27 => ?_)
          · have c27 : to r < hour := (nI_ltI (by omega) (by omega)).mp c27
            refine vg_iinc X (v := nI (r + 1)) [(2, .int (nI (r + 1))), (0, .ref a), (1, .int (nI hour))] dX2_percentAt_37 2 rfl (by rw [show Int32.ofInt 1 = nI 1 by decide, nI_add]) (by decide) rfl ?_
            refine vg_goto X 2 dX2_percentAt_40 (by decide) ?_
            refine vg_locals [1, 2, 0] rfl ?_
            exact ih (k - 1) (by omega) (r + 1) (by omega) (by rw [he]; exact ps_per_miss (by omega) (by omega))
          · have c27 : ¬ to r < hour := fun z => c27 ((nI_ltI (by omega) (by omega)).mpr z)
            refine vg_aload_n X dX2_percentAt_30 0 rfl rfl ?_
            refine vg_get X in_X2_percentAt_X2 q k0 rfl 10 (by decide) ml_X2_percentAt_18 rfl rfl dX2_percentAt_31 ?_
            refine vg_iload_n X dX2_percentAt_34 2 rfl rfl ?_
            refine vg_iald X (nI (pe r)) (q + 3) k3 rfl (by omega) (by decide) (hrow r (by omega)).2.2 dX2_percentAt_35 ?_
            exact vg_iret X rfl ⟨rfl, by rw [he, ps_per_hit (by omega) (by omega) (by omega)]⟩ (Nat.le_refl _) (Nat.le_refl _) dX2_percentAt_36
  refine vg_iconst X (nI 0) dX2_percentAt_0 (by decide) ?_
  refine vg_istore_n X [(2, .int (nI 0)), (0, .ref a), (1, .int (nI hour))] dX2_percentAt_1 rfl (by decide) rfl ?_
  refine vg_locals [1, 2, 0] rfl ?_
  exact loop (d 7) 0 (by omega) rfl
set_option maxHeartbeats 4000000 in
set_option maxRecDepth 100000 in
/-- secondsFor(unit, part, t) -/
theorem c_X2_secondsFor (l : Launch) {D : va_G} {ay : Nat → ClassId} {base : Nat} {Gx : State → Prop} {ws : va_W} {q a : Nat} {d fr to pe : Nat → Nat} {qu au : Nat} {v : Nat → Nat} {part t : Nat} (hp : cp_P ay ws q a d fr to pe) (hr : cp_R d fr to pe) (hu : cu_P ws qu au v) (hv : cu_R v) (hpart : part ≤ 60000) (ht : t < 2 ^ 31) : Met l yX2_secondsFor wsX2_secondsFor ({ frames := 1, cells := 0, slots := 0, locals := 22 } : Room) (va_Pc [.ref a, .ref au, .int (nI part), .int (nI t)] (vg_B D ay base Gx ws)) (va_Ql (fun r u => u = ws ∧ (d 3 = 0 → r = -1) ∧ (0 < d 3 → r = lN (ps_sec (d 3) (ps_per fr to pe (t / 3600 % 24) (d 7) 0) (v 2) (v 3) part))) (vg_B D ay base Gx) (vg_A base)) 0 0 (vg_A base) := by
  refine vg_met (cc := cX2_secondsFor) (maxL := 8) (ret := (some .long)) (own := RX2) (lv := [(0, .ref a), (1, .ref au), (2, .int (nI part)), (3, .int (nI t))]) (by decide) rfl rfl (Nat.le_of_ble_eq_true rfl) rfl ?_
  intro p e s m args below meth c X hinit
  obtain ⟨af, at2, ag, ff, ft, fg, k0, k1, k2, k3, hrow⟩ := id hp
  obtain ⟨r0, r1, r2, r3, r4, r5, r6, r7, r8, r9⟩ := id hr
  obtain ⟨u0, u1, u2, u3, u4, u5, u6⟩ := id hv
  have hu0 := hu
  unfold cu_P at hu
  have hper := ps_per_in (fr := fr) (to := to) (hour := t / 3600 % 24) (d 7) 0 (fun j _ hj => ⟨(r9 j (by omega)).2.2.1, (r9 j (by omega)).2.2.2⟩)
  obtain ⟨per, eper⟩ : ∃ z, z = ps_per fr to pe (t / 3600 % 24) (d 7) 0 := ⟨_, rfl⟩
  rw [← eper] at hper
  have b1 : d 3 * per ≤ 200 * 100 := Nat.mul_le_mul r4 hper.2
  have b2 : d 3 * per * v 2 ≤ 200 * 100 * 20 := Nat.mul_le_mul b1 u3
  have b3 : part * 360 ≤ 60000 * 360 := Nat.mul_le_mul hpart (Nat.le_refl _)
  have b4 : part * 360 * v 3 ≤ 60000 * 360 * 20 := Nat.mul_le_mul b3 u5
  refine vg_aload_n X dX2_secondsFor_0 0 rfl rfl ?_
  refine vg_get X in_X2_secondsFor_X2 q k0 rfl 3 (by decide) ml_X2_secondsFor_31 rfl rfl dX2_secondsFor_1 ?_
  refine vg_i2l X (lN (d 3)) dX2_secondsFor_4 (nI_l (by omega)) ?_
  refine vg_aload_n X dX2_secondsFor_5 0 rfl rfl ?_
  refine vg_iload_n X dX2_secondsFor_6 3 rfl rfl ?_
  refine vg_sipush X (nI 3600) dX2_secondsFor_7 (by decide) ?_
  refine vg_idiv X (nI (t / 3600)) dX2_secondsFor_10 (nI_ne0 (by omega) (by omega)) (pk_div (by omega) (by omega) (by omega)) ?_
  refine vg_bipush X (nI 24) dX2_secondsFor_11 (by decide) ?_
  refine vg_irem X (nI ((t / 3600) % 24)) dX2_secondsFor_13 (nI_ne0 (by omega) (by omega)) (pk_rem (by omega) (by omega) (by omega)) ?_
  refine vg_calli (vg_runV X (c_X2_percentAt l hp hr (hour := t / 3600 % 24) (by omega)) (cwV 1 X.2.2.2.2.1 gX2_secondsFor_X2_percentAt rfl rfl rfl (by decide +kernel) ⟨Nat.le_of_ble_eq_true rfl, Nat.le_of_ble_eq_true rfl⟩) q k0 rfl rfl rfl (Nat.le_of_ble_eq_true rfl) dX2_secondsFor_14 ⟨Nat.zero_le _, Nat.zero_le _⟩) (fun rr wz1 PP2 => ?_)
  rw [← eper] at PP2
  obtain ⟨hw9, rfl⟩ := PP2
  rw [hw9]
  refine vg_i2l X (lN per) dX2_secondsFor_17 (nI_l (by omega)) ?_
  refine vg_lmul X (lN (d 3 * per)) dX2_secondsFor_18 (lN_mul _ _) ?_
  refine vg_aload_n X dX2_secondsFor_19 1 rfl rfl ?_
  refine vg_get X in_X2_secondsFor_X5 qu hu rfl 2 (by decide) ml_X2_secondsFor_59 rfl rfl dX2_secondsFor_20 ?_
  refine vg_i2l X (lN (v 2)) dX2_secondsFor_23 (nI_l (by omega)) ?_
  refine vg_lmul X (lN (d 3 * per * v 2)) dX2_secondsFor_24 (lN_mul _ _) ?_
  refine vg_lstore X [(4, .long (lN (d 3 * per * v 2))), (0, .ref a), (1, .ref au), (2, .int (nI part)), (3, .int (nI t))] dX2_secondsFor_25 (by decide) rfl ?_
  refine vg_lload X dX2_secondsFor_27 0 rfl ?_
  refine vg_lconst X (lN 0) dX2_secondsFor_29 (by decide) ?_
  refine vg_lcmp_gt X 38 dX2_secondsFor_30 dX2_secondsFor_31 (by decide) (fun c30 => ?_) (fun c30 => ?_)
  · have c30 : 0 < d 3 * per * v 2 := (pk_lLT (by omega) (by omega)).mp c30
    have b5 : 0 < d 3 := Nat.pos_of_ne_zero (fun h => by rw [h, Nat.zero_mul, Nat.zero_mul] at c30; exact absurd c30 (by omega))
    refine vg_iload_n X dX2_secondsFor_38 3 rfl rfl ?_
    refine vg_i2l X (lN part) dX2_secondsFor_39 (nI_l (by omega)) ?_
    refine vg_ldc2 X (lN 360) dX2_secondsFor_40 mk_X2_secondsFor_64 ?_
    refine vg_lmul X (lN (part * 360)) dX2_secondsFor_43 (lN_mul _ _) ?_
    refine vg_aload_n X dX2_secondsFor_44 2 rfl rfl ?_
    refine vg_get X in_X2_secondsFor_X5 qu hu rfl 3 (by decide) ml_X2_secondsFor_66 rfl rfl dX2_secondsFor_45 ?_
    refine vg_i2l X (lN (v 3)) dX2_secondsFor_48 (nI_l (by omega)) ?_
    refine vg_lmul X (lN (part * 360 * v 3)) dX2_secondsFor_49 (lN_mul _ _) ?_
    refine vg_lstore X [(6, .long (lN (part * 360 * v 3))), (4, .long (lN (d 3 * per * v 2))), (0, .ref a), (1, .ref au), (2, .int (nI part)), (3, .int (nI t))] dX2_secondsFor_50 (by decide) rfl ?_
    refine vg_lload X dX2_secondsFor_52 0 rfl ?_
    refine vg_lload X dX2_secondsFor_54 1 rfl ?_
    refine vg_ladd X (lN (part * 360 * v 3 + d 3 * per * v 2)) dX2_secondsFor_56 (lN_add _ _) ?_
    refine vg_lconst X (lN 1) dX2_secondsFor_57 (by decide) ?_
    refine vg_lsub X (lN (part * 360 * v 3 + d 3 * per * v 2 - 1)) dX2_secondsFor_58 (lN_sub (by omega)) ?_
    refine vg_lload X dX2_secondsFor_59 1 rfl ?_
    refine vg_ldiv X (lN ((part * 360 * v 3 + d 3 * per * v 2 - 1) / (d 3 * per * v 2))) dX2_secondsFor_61 (fun h => absurd ((pk_lEQ (a := d 3 * per * v 2) (b := 0) (by omega) (by omega)).mp h) (by omega)) (pk_lDiv (by omega) (by omega) (by omega)) ?_
    exact vg_lret X rfl ⟨rfl, fun h => absurd h (by omega), fun _ => by rw [← eper]; rfl⟩ (Nat.le_refl _) (Nat.le_refl _) dX2_secondsFor_62
  · have c30 : ¬ 0 < d 3 * per * v 2 := fun z => c30 ((pk_lLT (by omega) (by omega)).mpr z)
    have b5 : d 3 = 0 := by
      rcases Nat.eq_zero_or_pos (d 3) with h | h
      · exact h
      · exact absurd (Nat.mul_pos (Nat.mul_pos h hper.1) u2) c30
    refine vg_ldc2 X (-1) dX2_secondsFor_34 mk_X2_secondsFor_62 ?_
    exact vg_lret X rfl ⟨rfl, fun _ => rfl, fun h => absurd h (by omega)⟩ (Nat.le_refl _) (Nat.le_refl _) dX2_secondsFor_37
set_option maxHeartbeats 4000000 in
set_option maxRecDepth 100000 in
/-- addRow: one more row -/
theorem c_X2_addRow (l : Launch) {D : va_G} {ay : Nat → ClassId} {base : Nat} {Gx : State → Prop} {ws : va_W} {q a : Nat} {d fr to pe : Nat → Nat} {x y w : Nat} (hp : cp_P ay ws q a d fr to pe) (hr : cp_R d fr to pe) (h3 : d 7 < 3) : Met l yX2_addRow wsX2_addRow ({ frames := 0, cells := 0, slots := 0, locals := 0 } : Room) (va_Pc [.ref a, .int (nI x), .int (nI y), .int (nI w)] (vg_B D ay base Gx ws)) (va_Qv (fun u => cp_P ay u q a (va_up d 7 (d 7 + 1)) (va_up fr (d 7) x) (va_up to (d 7) y) (va_up pe (d 7) w) ∧ vg_fr ws u [q, q + 1, q + 2, q + 3]) (vg_B D ay base Gx) (vg_A base)) 0 0 (vg_A base) := by
  refine vg_met (cc := cX2_addRow) (maxL := 4) (ret := none) (own := RX2) (lv := [(0, .ref a), (1, .int (nI x)), (2, .int (nI y)), (3, .int (nI w))]) (by decide) rfl rfl (Nat.le_of_ble_eq_true rfl) rfl ?_
  intro p e s m args below meth c X hinit
  obtain ⟨af, at2, ag, ff, ft, fg, k0, k1, k2, k3, hrow⟩ := id hp
  obtain ⟨r0, r1, r2, r3, r4, r5, r6, r7, r8, r9⟩ := id hr
  refine vg_aload_n X dX2_addRow_0 0 rfl rfl ?_
  refine vg_get X in_X2_addRow_X2 q k0 rfl 7 (by decide) ml_X2_addRow_34 rfl rfl dX2_addRow_1 ?_
  refine vg_iconst X (nI 3) dX2_addRow_4 (by decide) ?_
  refine vg_icmp_lt X 9 dX2_addRow_5 (by decide) (fun c5 => ?_) (fun c5 => ?_)
  · have c5 : d 7 < 3 := (nI_ltI (by omega) (by omega)).mp c5
    refine vg_aload_n X dX2_addRow_9 0 rfl rfl ?_
    refine vg_get X in_X2_addRow_X2 q k0 rfl 8 (by decide) ml_X2_addRow_9 rfl rfl dX2_addRow_10 ?_
    refine vg_aload_n X dX2_addRow_13 0 rfl rfl ?_
    refine vg_get X in_X2_addRow_X2 q k0 rfl 7 (by decide) ml_X2_addRow_34 rfl rfl dX2_addRow_14 ?_
    refine vg_iload_n X dX2_addRow_17 1 rfl rfl ?_
    refine vg_iast X (q + 1) k1 rfl (by omega) (by decide) dX2_addRow_18 (fun wz1 ez2 => ?_)
    have fh3 : wz1[q + 1]? = some (af, .inl (ay 0, 3, .inl (upd ff (d 7) (nI x)))) := vg_se ez2 k1
    refine vg_aload_n X dX2_addRow_19 0 rfl rfl ?_
    have fh4 : wz1[q]? = some (a, .inr (5, [.int (nI (d 0)), .int (nI (d 1)), .int (nI (d 2)), .int (nI (d 3)), .int (nI (d 4)), .int (nI (d 5)), .int (nI (d 6)), .int (nI (d 7)), .ref af, .ref at2, .ref ag])) := (vg_sn ez2 (by omega)).trans (k0)
    refine vg_get X in_X2_addRow_X2 q fh4 rfl 9 (by decide) ml_X2_addRow_15 rfl rfl dX2_addRow_20 ?_
    refine vg_aload_n X dX2_addRow_23 0 rfl rfl ?_
    refine vg_get X in_X2_addRow_X2 q fh4 rfl 7 (by decide) ml_X2_addRow_34 rfl rfl dX2_addRow_24 ?_
    refine vg_iload_n X dX2_addRow_27 2 rfl rfl ?_
    have fh5 : wz1[q + 2]? = some (at2, .inl (ay 0, 3, .inl ft)) := (vg_sn ez2 (by omega)).trans (k2)
    refine vg_iast X (q + 2) fh5 rfl (by omega) (by decide) dX2_addRow_28 (fun wz6 ez7 => ?_)
    have fh8 : wz6[q + 2]? = some (at2, .inl (ay 0, 3, .inl (upd ft (d 7) (nI y)))) := vg_se ez7 fh5
    refine vg_aload_n X dX2_addRow_29 0 rfl rfl ?_
    have fh9 : wz6[q]? = some (a, .inr (5, [.int (nI (d 0)), .int (nI (d 1)), .int (nI (d 2)), .int (nI (d 3)), .int (nI (d 4)), .int (nI (d 5)), .int (nI (d 6)), .int (nI (d 7)), .ref af, .ref at2, .ref ag])) := (vg_sn ez7 (by omega)).trans (fh4)
    refine vg_get X in_X2_addRow_X2 q fh9 rfl 10 (by decide) ml_X2_addRow_18 rfl rfl dX2_addRow_30 ?_
    refine vg_aload_n X dX2_addRow_33 0 rfl rfl ?_
    refine vg_get X in_X2_addRow_X2 q fh9 rfl 7 (by decide) ml_X2_addRow_34 rfl rfl dX2_addRow_34 ?_
    refine vg_iload_n X dX2_addRow_37 3 rfl rfl ?_
    have fh10 : wz6[q + 3]? = some (ag, .inl (ay 0, 3, .inl fg)) := (vg_sn ez7 (by omega)).trans ((vg_sn ez2 (by omega)).trans (k3))
    refine vg_iast X (q + 3) fh10 rfl (by omega) (by decide) dX2_addRow_38 (fun wz11 ez12 => ?_)
    have fh13 : wz11[q + 3]? = some (ag, .inl (ay 0, 3, .inl (upd fg (d 7) (nI w)))) := vg_se ez12 fh10
    refine vg_aload_n X dX2_addRow_39 0 rfl rfl ?_
    refine vg_dup X dX2_addRow_40 rfl ?_
    have fh14 : wz11[q]? = some (a, .inr (5, [.int (nI (d 0)), .int (nI (d 1)), .int (nI (d 2)), .int (nI (d 3)), .int (nI (d 4)), .int (nI (d 5)), .int (nI (d 6)), .int (nI (d 7)), .ref af, .ref at2, .ref ag])) := (vg_sn ez12 (by omega)).trans (fh9)
    refine vg_get X in_X2_addRow_X2 q fh14 rfl 7 (by decide) ml_X2_addRow_34 rfl rfl dX2_addRow_41 ?_
    refine vg_iconst X (nI 1) dX2_addRow_44 (by decide) ?_
    refine vg_iadd X (nI (d 7 + 1)) dX2_addRow_45 (nI_add _ _) ?_
    refine vg_put X in_X2_addRow_X2 tyX2 tyX2_ok nmX2 q fh14 rfl 7 (by decide) ml_X2_addRow_34 rfl rfl rfl rfl (Nat.le_of_ble_eq_true rfl) dX2_addRow_46 (fun wz15 ez16 => ?_)
    have fh17 : wz15[q]? = some (a, .inr (5, [.int (nI (d 0)), .int (nI (d 1)), .int (nI (d 2)), .int (nI (d 3)), .int (nI (d 4)), .int (nI (d 5)), .int (nI (d 6)), .int (nI (d 7 + 1)), .ref af, .ref at2, .ref ag])) := vg_se ez16 fh14
    have fh18 : wz15[q + 1]? = some (af, .inl (ay 0, 3, .inl (upd ff (d 7) (nI x)))) := (vg_sn ez16 (by omega)).trans ((vg_sn ez12 (by omega)).trans ((vg_sn ez7 (by omega)).trans (fh3)))
    have fh19 : wz15[q + 2]? = some (at2, .inl (ay 0, 3, .inl (upd ft (d 7) (nI y)))) := (vg_sn ez16 (by omega)).trans ((vg_sn ez12 (by omega)).trans (fh8))
    have fh20 : wz15[q + 3]? = some (ag, .inl (ay 0, 3, .inl (upd fg (d 7) (nI w)))) := (vg_sn ez16 (by omega)).trans (fh13)
    refine vg_vret X rfl ⟨⟨af, at2, ag, _, _, _, fh17, fh18, fh19, fh20, fun r hr2 => ?_⟩, (vg_fr_set (vg_fr_set (vg_fr_set (vg_fr_set (vg_fr_rf ws _) ez2 (by simp)) ez7 (by simp)) ez12 (by simp)) ez16 (by simp))⟩ (Nat.le_refl _) (Nat.le_refl _) dX2_addRow_49
    have hr2 : r < d 7 + 1 := hr2
    by_cases c1 : r = d 7
    · subst c1; rw [pk_us, pk_us, pk_us, va_up_self, va_up_self, va_up_self]; exact ⟨rfl, rfl, rfl⟩
    · rw [pk_un c1, pk_un c1, pk_un c1, va_up_ne _ _ c1, va_up_ne _ _ c1, va_up_ne _ _ c1]; exact hrow r (by omega)
  · have c5 : ¬ d 7 < 3 := fun z => c5 ((nI_ltI (by omega) (by omega)).mpr z)
    exact absurd h3 (by omega)
