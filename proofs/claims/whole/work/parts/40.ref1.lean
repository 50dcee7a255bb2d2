/-- the reference's object (place 29): aa: its rows' addresses (places 30 to 54) -/
def cm_O (ws : va_W) (am : Nat) (aa : Nat → Nat) (th : Int32) (n P U : Nat) (sp : Int32) : Prop := ws[29]? = some (am, .inr (10, [.int th, .int (nI n), .int (nI P), .ref (aa 0), .ref (aa 1), .ref (aa 2), .ref (aa 3), .ref (aa 4), .ref (aa 5), .ref (aa 6), .ref (aa 7), .ref (aa 8), .ref (aa 9), .ref (aa 10), .int (nI U), .ref (aa 11), .ref (aa 12), .ref (aa 13), .ref (aa 14), .ref (aa 15), .ref (aa 16), .ref (aa 17), .ref (aa 18), .ref (aa 19), .ref (aa 20), .ref (aa 21), .ref (aa 22), .ref (aa 23), .int sp, .ref (aa 24)]))
/-- its pieces and units -/
def cm_D (ay : Nat → ClassId) (ws : va_W) (aa : Nat → Nat) (n P U : Nat) (d fr to pe uv : Nat → Nat → Nat) : Prop :=
  ∃ (f0 f1 f2 f3 f4 f5 f6 f7 f8 f9 f10 f11 f12 f13 f14 f15 : Nat → Int32), ws[30]? = some ((aa 0), .inl (ay 0, 150, .inl f0)) ∧ ws[31]? = some ((aa 1), .inl (ay 0, 150, .inl f1)) ∧ ws[32]? = some ((aa 2), .inl (ay 0, 150, .inl f2)) ∧ ws[33]? = some ((aa 3), .inl (ay 0, 150, .inl f3)) ∧ ws[34]? = some ((aa 4), .inl (ay 0, 150, .inl f4)) ∧ ws[35]? = some ((aa 5), .inl (ay 0, 150, .inl f5)) ∧ ws[36]? = some ((aa 6), .inl (ay 2, 150, .inl f6)) ∧ ws[37]? = some ((aa 7), .inl (ay 0, 150, .inl f7)) ∧ ws[38]? = some ((aa 8), .inl (ay 0, 450, .inl f8)) ∧ ws[39]? = some ((aa 9), .inl (ay 0, 450, .inl f9)) ∧ ws[40]? = some ((aa 10), .inl (ay 0, 450, .inl f10)) ∧ ws[41]? = some ((aa 11), .inl (ay 0, 12, .inl f11)) ∧ ws[42]? = some ((aa 12), .inl (ay 0, 12, .inl f12)) ∧ ws[43]? = some ((aa 13), .inl (ay 0, 12, .inl f13)) ∧ ws[44]? = some ((aa 14), .inl (ay 0, 12, .inl f14)) ∧ ws[45]? = some ((aa 15), .inl (ay 0, 12, .inl f15)) ∧
  (∀ i, i < P → f0 i = nI (d i 0) ∧ f1 i = nI (d i 1) ∧ f2 i = nI (d i 2) ∧ f3 i = nI (d i 3) ∧ f4 i = nI (d i 4) ∧ f5 i = nI (d i 5) ∧ f6 i = nI (d i 6) ∧ f7 i = nI (d i 7) ∧ ∀ r, r < d i 7 → f8 (3 * i + r) = nI (fr i r) ∧ f9 (3 * i + r) = nI (to i r) ∧ f10 (3 * i + r) = nI (pe i r)) ∧
  (∀ j, j < U → f11 j = nI (uv j 4) ∧ f12 j = nI (uv j 0) ∧ f13 j = nI (uv j 1) ∧ f14 j = nI (uv j 2) ∧ f15 j = nI (uv j 3))
/-- what both sides keep of pieces and units -/
def cm_R (n P U : Nat) (d fr to pe uv : Nat → Nat → Nat) : Prop := n ≤ 200 ∧ P ≤ 150 ∧ U ≤ 12 ∧ (∀ i, i < P → cp_R (d i) (fr i) (to i) (pe i) ∧ d i 0 < n ∧ d i 1 < n ∧ d i 0 ≠ d i 1) ∧ ∀ j, j < U → cu_R (uv j) ∧ uv j 4 < n
theorem cm_D_fr {ay : Nat → ClassId} {ws u : va_W} {aa : Nat → Nat} {n P U : Nat} {d fr to pe uv : Nat → Nat → Nat} (h : cm_D ay ws aa n P U d fr to pe uv) (e : ∀ j, 30 ≤ j → j < 46 → u[j]? = ws[j]?) : cm_D ay u aa n P U d fr to pe uv := by
  obtain ⟨f0, f1, f2, f3, f4, f5, f6, f7, f8, f9, f10, f11, f12, f13, f14, f15, h0, h1, h2, h3, h4, h5, h6, h7, h8, h9, h10, h11, h12, h13, h14, h15, hr⟩ := h
  exact ⟨f0, f1, f2, f3, f4, f5, f6, f7, f8, f9, f10, f11, f12, f13, f14, f15, (e 30 (by decide) (by decide)).trans h0, (e 31 (by decide) (by decide)).trans h1, (e 32 (by decide) (by decide)).trans h2, (e 33 (by decide) (by decide)).trans h3, (e 34 (by decide) (by decide)).trans h4, (e 35 (by decide) (by decide)).trans h5, (e 36 (by decide) (by decide)).trans h6, (e 37 (by decide) (by decide)).trans h7, (e 38 (by decide) (by decide)).trans h8, (e 39 (by decide) (by decide)).trans h9, (e 40 (by decide) (by decide)).trans h10, (e 41 (by decide) (by decide)).trans h11, (e 42 (by decide) (by decide)).trans h12, (e 43 (by decide) (by decide)).trans h13, (e 44 (by decide) (by decide)).trans h14, (e 45 (by decide) (by decide)).trans h15, hr⟩
/-- a number below n -/
def cm_in (k : Int32) (n : Nat) : Prop := ∃ j, j < n ∧ k = nI j
theorem cm_in_iff {k : Int32} {n : Nat} (hn : n < 2 ^ 31) : (nI 0 ≤ k ∧ k ≤ nI n - nI 1) ↔ cm_in k n := by
  constructor
  · intro ⟨h1, h2⟩
    obtain ⟨j, hj, rfl⟩ := nI_of (x := k) (fun z => absurd h1 (by rw [nI_0]; exact Int32.not_le.mpr z))
    refine ⟨j, ?_, rfl⟩
    rcases Nat.eq_zero_or_pos n with e | e
    · subst e
      exfalso
      have h3 : nI j ≤ -1 := h2
      have h4 := Int32.le_iff_toInt_le.mp h3
      rw [nI_toInt hj] at h4
      have : ((-1 : Int32)).toInt = -1 := by decide
      omega
    · rw [pk_sub (by omega)] at h2
      have := (nI_leI hj (by omega)).mp h2
      omega
  · rintro ⟨j, hj, rfl⟩
    refine ⟨nI_le (by omega) (by omega), ?_⟩
    rw [pk_sub (by omega)]
    exact nI_le (by omega) (by omega)
theorem in_X7_isNode_X7 : ∀ w ∈ u_ws RX7 TX7 30, w ∈ wsX7_isNode := by decide +kernel
theorem ml_X7_isNode_91 : Cond.fieldLink RX7 91 "WayTimesModel" "nodes" "I" ∈ wsX7_isNode := by decide +kernel
theorem in_X7_isPiece_X7 : ∀ w ∈ u_ws RX7 TX7 30, w ∈ wsX7_isPiece := by decide +kernel
theorem ml_X7_isPiece_94 : Cond.fieldLink RX7 94 "WayTimesModel" "pieces" "I" ∈ wsX7_isPiece := by decide +kernel
theorem in_X7_isUnit_X7 : ∀ w ∈ u_ws RX7 TX7 30, w ∈ wsX7_isUnit := by decide +kernel
theorem ml_X7_isUnit_97 : Cond.fieldLink RX7 97 "WayTimesModel" "units" "I" ∈ wsX7_isUnit := by decide +kernel
theorem in_X7_share_X7 : ∀ w ∈ u_ws RX7 TX7 30, w ∈ wsX7_share := by decide +kernel
theorem ml_X7_share_32 : Cond.fieldLink RX7 32 "WayTimesModel" "rows" "[I" ∈ wsX7_share := by decide +kernel
theorem ml_X7_share_35 : Cond.fieldLink RX7 35 "WayTimesModel" "from" "[I" ∈ wsX7_share := by decide +kernel
theorem ml_X7_share_38 : Cond.fieldLink RX7 38 "WayTimesModel" "to" "[I" ∈ wsX7_share := by decide +kernel
theorem ml_X7_share_41 : Cond.fieldLink RX7 41 "WayTimesModel" "percent" "[I" ∈ wsX7_share := by decide +kernel
theorem in_X7_takes_X7 : ∀ w ∈ u_ws RX7 TX7 30, w ∈ wsX7_takes := by decide +kernel
theorem ml_X7_takes_19 : Cond.fieldLink RX7 19 "WayTimesModel" "speed" "[I" ∈ wsX7_takes := by decide +kernel
theorem ml_X7_takes_53 : Cond.fieldLink RX7 53 "WayTimesModel" "up" "[I" ∈ wsX7_takes := by decide +kernel
theorem mk_X7_takes_111 : Jvm.Cond.constantLong RX7 111 (lN 360) ∈ wsX7_takes := by decide +kernel
theorem ml_X7_takes_56 : Cond.fieldLink RX7 56 "WayTimesModel" "down" "[I" ∈ wsX7_takes := by decide +kernel
theorem in_X7_mayGo_X7 : ∀ w ∈ u_ws RX7 TX7 30, w ∈ wsX7_mayGo := by decide +kernel
theorem ml_X7_mayGo_28 : Cond.fieldLink RX7 28 "WayTimesModel" "closed" "[Z" ∈ wsX7_mayGo := by decide +kernel
theorem ml_X7_mayGo_19 : Cond.fieldLink RX7 19 "WayTimesModel" "speed" "[I" ∈ wsX7_mayGo := by decide +kernel
theorem ml_X7_mayGo_22 : Cond.fieldLink RX7 22 "WayTimesModel" "weight" "[I" ∈ wsX7_mayGo := by decide +kernel
theorem ml_X7_mayGo_25 : Cond.fieldLink RX7 25 "WayTimesModel" "height" "[I" ∈ wsX7_mayGo := by decide +kernel
theorem ml_X7_mayGo_50 : Cond.fieldLink RX7 50 "WayTimesModel" "high" "[I" ∈ wsX7_mayGo := by decide +kernel
theorem ml_X7_mayGo_47 : Cond.fieldLink RX7 47 "WayTimesModel" "heavy" "[I" ∈ wsX7_mayGo := by decide +kernel
set_option maxHeartbeats 4000000 in
set_option maxRecDepth 100000 in
/-- in(x, a, b) -/
theorem c_X7_in (l : Launch) {D : va_G} {ay : Nat → ClassId} {base : Nat} {Gx : State → Prop} {ws : va_W} {x a b : Int32}  : Met l yX7_in wsX7_in ({ frames := 0, cells := 0, slots := 0, locals := 0 } : Room) (va_Pc [.int x, .int a, .int b] (vg_B D ay base Gx ws)) (va_Qi (fun r u => u = ws ∧ (a ≤ x ∧ x ≤ b → r = 1) ∧ (¬ (a ≤ x ∧ x ≤ b) → r = 0)) (vg_B D ay base Gx) (vg_A base)) 0 0 (vg_A base) := by
  refine vg_met (cc := cX7_in) (maxL := 3) (ret := (some .boolean)) (own := RX7) (lv := [(0, .int x), (1, .int a), (2, .int b)]) (by decide) rfl rfl (Nat.le_of_ble_eq_true rfl) rfl ?_
  intro p e s m args below meth c X hinit
  refine vg_iload_n X dX7_in_0 0 rfl rfl ?_
  refine vg_iload_n X dX7_in_1 1 rfl rfl ?_
  refine vg_icmp_lt X 14 dX7_in_2 (by decide) (fun c2 => ?_) (fun c2 => ?_)
  · skip
    refine vg_iconst X (nI 0) dX7_in_14 (by decide) ?_
    exact vg_zret X rfl rfl ⟨rfl, fun q9 => absurd c2 (Int32.not_lt.mpr q9.1), fun _ => rfl⟩ (Nat.le_refl _) (Nat.le_refl _) dX7_in_15
  · skip
    refine vg_iload_n X dX7_in_5 0 rfl rfl ?_
    refine vg_iload_n X dX7_in_6 2 rfl rfl ?_
    refine vg_icmp_gt X 14 dX7_in_7 (by decide) (fun c7 => ?_) (fun c7 => ?_)
    · skip
      refine vg_iconst X (nI 0) dX7_in_14 (by decide) ?_
      exact vg_zret X rfl rfl ⟨rfl, fun q9 => absurd c7 (Int32.not_lt.mpr q9.2), fun _ => rfl⟩ (Nat.le_refl _) (Nat.le_refl _) dX7_in_15
    · skip
      refine vg_iconst X (nI 1) dX7_in_10 (by decide) ?_
      refine vg_goto X 15 dX7_in_11 (by decide) ?_
      exact vg_zret X rfl rfl ⟨rfl, fun _ => rfl, fun q9 => absurd ⟨Int32.not_lt.mp c2, Int32.not_lt.mp c7⟩ q9⟩ (Nat.le_refl _) (Nat.le_refl _) dX7_in_15
set_option maxHeartbeats 4000000 in
set_option maxRecDepth 100000 in
/-- isNode -/
theorem c_X7_isNode (l : Launch) {D : va_G} {ay : Nat → ClassId} {base : Nat} {Gx : State → Prop} {ws : va_W} {am : Nat} {aa : Nat → Nat} {th sp : Int32} {n P U : Nat} {k : Int32} (hO : cm_O ws am aa th n P U sp) (hb : n < 2 ^ 31) : Met l yX7_isNode wsX7_isNode ({ frames := 1, cells := 0, slots := 0, locals := 22 } : Room) (va_Pc [.ref am, .int k] (vg_B D ay base Gx ws)) (va_Qi (fun r u => u = ws ∧ (cm_in k n → r = 1) ∧ (¬ cm_in k n → r = 0)) (vg_B D ay base Gx) (vg_A base)) 0 0 (vg_A base) := by
  refine vg_met (cc := cX7_isNode) (maxL := 2) (ret := (some .boolean)) (own := RX7) (lv := [(0, .ref am), (1, .int k)]) (by decide) rfl rfl (Nat.le_of_ble_eq_true rfl) rfl ?_
  intro p e s m args below meth c X hinit
  unfold cm_O at hO
  refine vg_iload_n X dX7_isNode_0 1 rfl rfl ?_
  refine vg_iconst X (nI 0) dX7_isNode_1 (by decide) ?_
  refine vg_aload_n X dX7_isNode_2 0 rfl rfl ?_
  refine vg_get X in_X7_isNode_X7 29 hO rfl 1 (by decide) ml_X7_isNode_91 rfl rfl dX7_isNode_3 ?_
  refine vg_iconst X (nI 1) dX7_isNode_6 (by decide) ?_
  refine vg_isub X (nI n - nI 1) dX7_isNode_7 rfl ?_
  refine vg_calli (vg_runS X (c_X7_in l (x := k) (a := nI 0) (b := nI n - nI 1)) (va_cwS 3 X.2.2.2.2.1 gX7_isNode_X7_in rfl rfl rfl (by decide +kernel) ⟨Nat.le_of_ble_eq_true rfl, Nat.le_of_ble_eq_true rfl⟩) rfl rfl (Nat.le_of_ble_eq_true rfl) dX7_isNode_8 ⟨Nat.zero_le _, Nat.zero_le _⟩) (fun rr3 wz1 PP2 => ?_)
  obtain ⟨hw9, hy9, hn9⟩ := PP2
  rw [hw9]
  rw [cm_in_iff hb] at hy9 hn9
  exact vg_zret X rfl (by by_cases q9 : cm_in k n; rw [hy9 q9]; rfl; rw [hn9 q9]; rfl) ⟨rfl, hy9, hn9⟩ (Nat.le_refl _) (Nat.le_refl _) dX7_isNode_11
set_option maxHeartbeats 4000000 in
set_option maxRecDepth 100000 in
/-- isPiece -/
theorem c_X7_isPiece (l : Launch) {D : va_G} {ay : Nat → ClassId} {base : Nat} {Gx : State → Prop} {ws : va_W} {am : Nat} {aa : Nat → Nat} {th sp : Int32} {n P U : Nat} {k : Int32} (hO : cm_O ws am aa th n P U sp) (hb : P < 2 ^ 31) : Met l yX7_isPiece wsX7_isPiece ({ frames := 1, cells := 0, slots := 0, locals := 22 } : Room) (va_Pc [.ref am, .int k] (vg_B D ay base Gx ws)) (va_Qi (fun r u => u = ws ∧ (cm_in k P → r = 1) ∧ (¬ cm_in k P → r = 0)) (vg_B D ay base Gx) (vg_A base)) 0 0 (vg_A base) := by
  refine vg_met (cc := cX7_isPiece) (maxL := 2) (ret := (some .boolean)) (own := RX7) (lv := [(0, .ref am), (1, .int k)]) (by decide) rfl rfl (Nat.le_of_ble_eq_true rfl) rfl ?_
  intro p e s m args below meth c X hinit
  unfold cm_O at hO
  refine vg_iload_n X dX7_isPiece_0 1 rfl rfl ?_
  refine vg_iconst X (nI 0) dX7_isPiece_1 (by decide) ?_
  refine vg_aload_n X dX7_isPiece_2 0 rfl rfl ?_
  refine vg_get X in_X7_isPiece_X7 29 hO rfl 2 (by decide) ml_X7_isPiece_94 rfl rfl dX7_isPiece_3 ?_
  refine vg_iconst X (nI 1) dX7_isPiece_6 (by decide) ?_
  refine vg_isub X (nI P - nI 1) dX7_isPiece_7 rfl ?_
  refine vg_calli (vg_runS X (c_X7_in l (x := k) (a := nI 0) (b := nI P - nI 1)) (va_cwS 3 X.2.2.2.2.1 gX7_isPiece_X7_in rfl rfl rfl (by decide +kernel) ⟨Nat.le_of_ble_eq_true rfl, Nat.le_of_ble_eq_true rfl⟩) rfl rfl (Nat.le_of_ble_eq_true rfl) dX7_isPiece_8 ⟨Nat.zero_le _, Nat.zero_le _⟩) (fun rr3 wz1 PP2 => ?_)
  obtain ⟨hw9, hy9, hn9⟩ := PP2
  rw [hw9]
  rw [cm_in_iff hb] at hy9 hn9
  exact vg_zret X rfl (by by_cases q9 : cm_in k P; rw [hy9 q9]; rfl; rw [hn9 q9]; rfl) ⟨rfl, hy9, hn9⟩ (Nat.le_refl _) (Nat.le_refl _) dX7_isPiece_11
set_option maxHeartbeats 4000000 in
set_option maxRecDepth 100000 in
/-- isUnit -/
theorem c_X7_isUnit (l : Launch) {D : va_G} {ay : Nat → ClassId} {base : Nat} {Gx : State → Prop} {ws : va_W} {am : Nat} {aa : Nat → Nat} {th sp : Int32} {n P U : Nat} {k : Int32} (hO : cm_O ws am aa th n P U sp) (hb : U < 2 ^ 31) : Met l yX7_isUnit wsX7_isUnit ({ frames := 1, cells := 0, slots := 0, locals := 22 } : Room) (va_Pc [.ref am, .int k] (vg_B D ay base Gx ws)) (va_Qi (fun r u => u = ws ∧ (cm_in k U → r = 1) ∧ (¬ cm_in k U → r = 0)) (vg_B D ay base Gx) (vg_A base)) 0 0 (vg_A base) := by
  refine vg_met (cc := cX7_isUnit) (maxL := 2) (ret := (some .boolean)) (own := RX7) (lv := [(0, .ref am), (1, .int k)]) (by decide) rfl rfl (Nat.le_of_ble_eq_true rfl) rfl ?_
  intro p e s m args below meth c X hinit
  unfold cm_O at hO
  refine vg_iload_n X dX7_isUnit_0 1 rfl rfl ?_
  refine vg_iconst X (nI 0) dX7_isUnit_1 (by decide) ?_
  refine vg_aload_n X dX7_isUnit_2 0 rfl rfl ?_
  refine vg_get X in_X7_isUnit_X7 29 hO rfl 14 (by decide) ml_X7_isUnit_97 rfl rfl dX7_isUnit_3 ?_
  refine vg_iconst X (nI 1) dX7_isUnit_6 (by decide) ?_
  refine vg_isub X (nI U - nI 1) dX7_isUnit_7 rfl ?_
  refine vg_calli (vg_runS X (c_X7_in l (x := k) (a := nI 0) (b := nI U - nI 1)) (va_cwS 3 X.2.2.2.2.1 gX7_isUnit_X7_in rfl rfl rfl (by decide +kernel) ⟨Nat.le_of_ble_eq_true rfl, Nat.le_of_ble_eq_true rfl⟩) rfl rfl (Nat.le_of_ble_eq_true rfl) dX7_isUnit_8 ⟨Nat.zero_le _, Nat.zero_le _⟩) (fun rr3 wz1 PP2 => ?_)
  obtain ⟨hw9, hy9, hn9⟩ := PP2
  rw [hw9]
  rw [cm_in_iff hb] at hy9 hn9
  exact vg_zret X rfl (by by_cases q9 : cm_in k U; rw [hy9 q9]; rfl; rw [hn9 q9]; rfl) ⟨rfl, hy9, hn9⟩ (Nat.le_refl _) (Nat.le_refl _) dX7_isUnit_11
set_option maxHeartbeats 4000000 in
set_option maxRecDepth 100000 in
/-- share(piece, t) -/
theorem c_X7_share (l : Launch) {D : va_G} {ay : Nat → ClassId} {base : Nat} {Gx : State → Prop} {ws : va_W} {am : Nat} {aa : Nat → Nat} {th sp : Int32} {n P U : Nat} {d fr to pe uv : Nat → Nat → Nat} {i t : Nat} (hO : cm_O ws am aa th n P U sp) (hD : cm_D ay ws aa n P U d fr to pe uv) (hR : cm_R n P U d fr to pe uv) (hi : i < P) (ht : t < 2 ^ 31) : Met l yX7_share wsX7_share ({ frames := 1, cells := 0, slots := 0, locals := 22 } : Room) (va_Pc [.ref am, .int (nI i), .int (nI t)] (vg_B D ay base Gx ws)) (va_Qi (fun r u => u = ws ∧ r = nI (ps_per (fr i) (to i) (pe i) (t / 3600 % 24) (d i 7) 0)) (vg_B D ay base Gx) (vg_A base)) 0 0 (vg_A base) := by
  refine vg_met (cc := cX7_share) (maxL := 5) (ret := (some .int)) (own := RX7) (lv := [(0, .ref am), (1, .int (nI i)), (2, .int (nI t))]) (by decide) rfl rfl (Nat.le_of_ble_eq_true rfl) rfl ?_
  intro p e s m args below meth c X hinit
  unfold cm_O at hO
  obtain ⟨f0, f1, f2, f3, f4, f5, f6, f7, f8, f9, f10, f11, f12, f13, f14, f15, h0, h1, h2, h3, h4, h5, h6, h7, h8, h9, h10, h11, h12, h13, h14, h15, hp, hu⟩ := id hD
  obtain ⟨⟨r0, r1, r2, r3, r4, r5, r6, r7, r8, r9⟩, z4, z5, z6⟩ := hR.2.2.2.1 i hi
  have nP := hR.2.1
  obtain ⟨e0, e1, e2, e3, e4, e5, e6, e7, er⟩ := hp i hi
  have loop : ∀ (k r : Nat), r + k = d i 7 → ps_per (fr i) (to i) (pe i) (t / 3600 % 24) (d i 7) 0 = ps_per (fr i) (to i) (pe i) (t / 3600 % 24) k r → vg_V D base p l e ({ frames := 1, cells := 0, slots := 0, locals := 22 } : Room) s m args below meth c 5 0 0 (MQ below (va_Qi (fun r u => u = ws ∧ r = nI (ps_per (fr i) (to i) (pe i) (t / 3600 % 24) (d i 7) 0)) (vg_B D ay base Gx) (vg_A base)) args s 0 0 (vg_A base)) [(0, .ref am), (1, .int (nI i)), (3, .int (nI (t / 3600 % 24))), (4, .int (nI r))] [] ws 12 := by
    intro k
    induction k using Nat.strongRecOn with
    | ind k ih =>
      intro r hk he
      refine vg_iload X dX7_share_12 3 rfl ?_
      refine vg_aload_n X dX7_share_14 0 rfl rfl ?_
      refine vg_get X in_X7_share_X7 29 hO rfl 10 (by decide) ml_X7_share_32 rfl rfl dX7_share_15 ?_
      refine vg_iload_n X dX7_share_18 1 rfl rfl ?_
      refine vg_iald X (nI (d i 7)) 37 h7 rfl (by omega) (by decide) e7 dX7_share_19 ?_
      refine vg_icmp_ge X 70 dX7_share_20 (by decide) (fun c20 => ?_) (fun c20 => ?_)
      · have c20 : d i 7 ≤ r := (nI_leI (by omega) (by omega)).mp c20
        refine vg_bipush X (nI 100) dX7_share_70 (by decide) ?_
        exact vg_iret X rfl ⟨rfl, by rw [he, show k = 0 by omega]; rfl⟩ (Nat.le_refl _) (Nat.le_refl _) dX7_share_72
      · have c20 : ¬ d i 7 ≤ r := fun z => c20 ((nI_leI (by omega) (by omega)).mpr z)
        have g9 := r9 r (by omega)
        refine vg_iload_n X dX7_share_23 2 rfl rfl ?_
        refine vg_aload_n X dX7_share_24 0 rfl rfl ?_
        refine vg_get X in_X7_share_X7 29 hO rfl 11 (by decide) ml_X7_share_35 rfl rfl dX7_share_25 ?_
        refine vg_iconst X (nI 3) dX7_share_28 (by decide) ?_
        refine vg_iload_n X dX7_share_29 1 rfl rfl ?_
        refine vg_imul X (nI (3 * i)) dX7_share_30 (pk_mul _ _) ?_
        refine vg_iload X dX7_share_31 3 rfl ?_
        refine vg_iadd X (nI (3 * i + r)) dX7_share_33 (nI_add _ _) ?_
        refine vg_iald X (nI (fr i r)) 38 h8 rfl (by omega) (by decide) (er r (by omega)).1 dX7_share_34 ?_
        refine vg_aload_n X dX7_share_35 0 rfl rfl ?_
        refine vg_get X in_X7_share_X7 29 hO rfl 12 (by decide) ml_X7_share_38 rfl rfl dX7_share_36 ?_
        refine vg_iconst X (nI 3) dX7_share_39 (by decide) ?_
        refine vg_iload_n X dX7_share_40 1 rfl rfl ?_
        refine vg_imul X (nI (3 * i)) dX7_share_41 (pk_mul _ _) ?_
        refine vg_iload X dX7_share_42 3 rfl ?_
        refine vg_iadd X (nI (3 * i + r)) dX7_share_44 (nI_add _ _) ?_
        refine vg_iald X (nI (to i r)) 39 h9 rfl (by omega) (by decide) (er r (by omega)).2.1 dX7_share_45 ?_
        refine vg_calli (vg_runS X (c_X7_in l (x := nI (t / 3600 % 24)) (a := nI (fr i r)) (b := nI (to i r))) (va_cwS 3 X.2.2.2.2.1 gX7_share_X7_in rfl rfl rfl (by decide +kernel) ⟨Nat.le_of_ble_eq_true rfl, Nat.le_of_ble_eq_true rfl⟩) rfl rfl (Nat.le_of_ble_eq_true rfl) dX7_share_46 ⟨Nat.zero_le _, Nat.zero_le _⟩) (fun rr3 wz1 PP2 => ?_)
        obtain ⟨hw9, hy9, hn9⟩ := PP2
        rw [hw9]
        rw [nI_leI (by omega) (by omega), nI_leI (by omega) (by omega)] at hy9 hn9
        refine vg_if_eq X 64 dX7_share_49 (by decide) (fun c49 => ?_) (fun c49 => ?_)
        · have hmiss : ¬ (fr i r ≤ t / 3600 % 24 ∧ t / 3600 % 24 ≤ to i r) := fun q9 => by have := hy9 q9; rw [c49] at this; exact absurd this (by decide)
          refine vg_iinc X (v := nI (r + 1)) [(4, .int (nI (r + 1))), (0, .ref am), (1, .int (nI i)), (3, .int (nI (t / 3600 % 24)))] dX7_share_64 3 rfl (by rw [show Int32.ofInt 1 = nI 1 by decide, nI_add]) (by decide) rfl ?_
          refine vg_goto X 12 dX7_share_67 (by decide) ?_
          refine vg_locals [1, 2, 3, 0] rfl ?_
          exact ih (k - 1) (by omega) (r + 1) (by omega) (by rw [he]; exact ps_per_miss (by omega) hmiss)
        · have hhit : fr i r ≤ t / 3600 % 24 ∧ t / 3600 % 24 ≤ to i r := Classical.byContradiction (fun q9 => c49 (hn9 q9))
          refine vg_aload_n X dX7_share_52 0 rfl rfl ?_
          refine vg_get X in_X7_share_X7 29 hO rfl 13 (by decide) ml_X7_share_41 rfl rfl dX7_share_53 ?_
          refine vg_iconst X (nI 3) dX7_share_56 (by decide) ?_
          refine vg_iload_n X dX7_share_57 1 rfl rfl ?_
          refine vg_imul X (nI (3 * i)) dX7_share_58 (pk_mul _ _) ?_
          refine vg_iload X dX7_share_59 3 rfl ?_
          refine vg_iadd X (nI (3 * i + r)) dX7_share_61 (nI_add _ _) ?_
          refine vg_iald X (nI (pe i r)) 40 h10 rfl (by omega) (by decide) (er r (by omega)).2.2 dX7_share_62 ?_
          exact vg_iret X rfl ⟨rfl, by rw [he, ps_per_hit (by omega) hhit.1 hhit.2]⟩ (Nat.le_refl _) (Nat.le_refl _) dX7_share_63
  refine vg_iload_n X dX7_share_0 2 rfl rfl ?_
  refine vg_sipush X (nI 3600) dX7_share_1 (by decide) ?_
  refine vg_idiv X (nI (t / 3600)) dX7_share_4 (nI_ne0 (by omega) (by omega)) (pk_div (by omega) (by omega) (by omega)) ?_
  refine vg_bipush X (nI 24) dX7_share_5 (by decide) ?_
  refine vg_irem X (nI ((t / 3600) % 24)) dX7_share_7 (nI_ne0 (by omega) (by omega)) (pk_rem (by omega) (by omega) (by omega)) ?_
  refine vg_istore_n X [(3, .int (nI ((t / 3600) % 24))), (0, .ref am), (1, .int (nI i)), (2, .int (nI t))] dX7_share_8 rfl (by decide) rfl ?_
  refine vg_iconst X (nI 0) dX7_share_9 (by decide) ?_
  refine vg_istore X [(4, .int (nI 0)), (3, .int (nI ((t / 3600) % 24))), (0, .ref am), (1, .int (nI i)), (2, .int (nI t))] dX7_share_10 (by decide) rfl ?_
  refine vg_locals [2, 3, 1, 0] rfl ?_
  exact loop (d i 7) 0 (by omega) rfl
set_option maxHeartbeats 4000000 in
set_option maxRecDepth 100000 in
/-- takes(unit, piece, mm, t) -/
theorem c_X7_takes (l : Launch) {D : va_G} {ay : Nat → ClassId} {base : Nat} {Gx : State → Prop} {ws : va_W} {am : Nat} {aa : Nat → Nat} {th sp : Int32} {n P U : Nat} {d fr to pe uv : Nat → Nat → Nat} {j i mm t : Nat} (hO : cm_O ws am aa th n P U sp) (hD : cm_D ay ws aa n P U d fr to pe uv) (hR : cm_R n P U d fr to pe uv) (hj : j < U) (hi : i < P) (hm : mm ≤ 60000) (ht : t < 2 ^ 31) (hs : 0 < d i 3) : Met l yX7_takes wsX7_takes ({ frames := 2, cells := 0, slots := 0, locals := 46 } : Room) (va_Pc [.ref am, .int (nI j), .int (nI i), .int (nI mm), .int (nI t)] (vg_B D ay base Gx ws)) (va_Ql (fun r u => u = ws ∧ r = lN (ps_sec (d i 3) (ps_per (fr i) (to i) (pe i) (t / 3600 % 24) (d i 7) 0) (uv j 2) (uv j 3) mm)) (vg_B D ay base Gx) (vg_A base)) 0 0 (vg_A base) := by
  refine vg_met (cc := cX7_takes) (maxL := 9) (ret := (some .long)) (own := RX7) (lv := [(0, .ref am), (1, .int (nI j)), (2, .int (nI i)), (3, .int (nI mm)), (4, .int (nI t))]) (by decide) rfl rfl (Nat.le_of_ble_eq_true rfl) rfl ?_
  intro p e s m args below meth c X hinit
  have hO0 := hO
  unfold cm_O at hO
  obtain ⟨f0, f1, f2, f3, f4, f5, f6, f7, f8, f9, f10, f11, f12, f13, f14, f15, h0, h1, h2, h3, h4, h5, h6, h7, h8, h9, h10, h11, h12, h13, h14, h15, hp, hu⟩ := id hD
  obtain ⟨⟨r0, r1, r2, r3, r4, r5, r6, r7, r8, r9⟩, z4, z5, z6⟩ := hR.2.2.2.1 i hi
  have nP := hR.2.1
  have nU := hR.2.2.1
  obtain ⟨e0, e1, e2, e3, e4, e5, e6, e7, er⟩ := hp i hi
  obtain ⟨w4, w0, w1, w2, w3⟩ := hu j hj
  obtain ⟨⟨u0, u1, u2, u3, u4, u5, u6⟩, u7⟩ := hR.2.2.2.2 j hj
  have hper := ps_per_in (fr := fr i) (to := to i) (hour := t / 3600 % 24) (d i 7) 0 (fun j _ hj => ⟨(r9 j (by omega)).2.2.1, (r9 j (by omega)).2.2.2⟩)
  obtain ⟨per, eper⟩ : ∃ z, z = ps_per (fr i) (to i) (pe i) (t / 3600 % 24) (d i 7) 0 := ⟨_, rfl⟩
  rw [← eper] at hper
  have b1 : d i 3 * per ≤ 200 * 100 := Nat.mul_le_mul r4 hper.2
  have b2 : d i 3 * per * uv j 2 ≤ 200 * 100 * 20 := Nat.mul_le_mul b1 u3
  have b0 : 0 < d i 3 * per * uv j 2 := Nat.mul_pos (Nat.mul_pos hs hper.1) u2
  have b3 : mm * 360 ≤ 60000 * 360 := Nat.mul_le_mul hm (Nat.le_refl _)
  have b4 : mm * 360 * uv j 3 ≤ 60000 * 360 * 20 := Nat.mul_le_mul b3 u5
  refine vg_aload_n X dX7_takes_0 0 rfl rfl ?_
  refine vg_get X in_X7_takes_X7 29 hO rfl 6 (by decide) ml_X7_takes_19 rfl rfl dX7_takes_1 ?_
  refine vg_iload_n X dX7_takes_4 2 rfl rfl ?_
  refine vg_iald X (nI (d i 3)) 33 h3 rfl (by omega) (by decide) e3 dX7_takes_5 ?_
  refine vg_i2l X (lN (d i 3)) dX7_takes_6 (nI_l (by omega)) ?_
  refine vg_aload_n X dX7_takes_7 0 rfl rfl ?_
  refine vg_iload_n X dX7_takes_8 2 rfl rfl ?_
  refine vg_iload X dX7_takes_9 4 rfl ?_
  refine vg_calli (vg_runV X (c_X7_share l hO0 hD hR (i := i) (t := t) hi ht) (cwV 2 X.2.2.2.2.1 gX7_takes_X7_share rfl rfl rfl (by decide +kernel) ⟨Nat.le_of_ble_eq_true rfl, Nat.le_of_ble_eq_true rfl⟩) 29 hO rfl rfl rfl (Nat.le_of_ble_eq_true rfl) dX7_takes_11 ⟨Nat.zero_le _, Nat.zero_le _⟩) (fun rr3 wz1 PP2 => ?_)
  rw [← eper] at PP2
  obtain ⟨hw9, rfl⟩ := PP2
  rw [hw9]
  refine vg_i2l X (lN per) dX7_takes_14 (nI_l (by omega)) ?_
  refine vg_lmul X (lN (d i 3 * per)) dX7_takes_15 (lN_mul _ _) ?_
  refine vg_aload_n X dX7_takes_16 0 rfl rfl ?_
  refine vg_get X in_X7_takes_X7 29 hO rfl 18 (by decide) ml_X7_takes_53 rfl rfl dX7_takes_17 ?_
  refine vg_iload_n X dX7_takes_20 1 rfl rfl ?_
  refine vg_iald X (nI (uv j 2)) 44 h14 rfl (by omega) (by decide) w2 dX7_takes_21 ?_
  refine vg_i2l X (lN (uv j 2)) dX7_takes_22 (nI_l (by omega)) ?_
  refine vg_lmul X (lN (d i 3 * per * uv j 2)) dX7_takes_23 (lN_mul _ _) ?_
  refine vg_lstore X [(5, .long (lN (d i 3 * per * uv j 2))), (0, .ref am), (1, .int (nI j)), (2, .int (nI i)), (3, .int (nI mm)), (4, .int (nI t))] dX7_takes_24 (by decide) rfl ?_
  refine vg_ldc2 X (lN 360) dX7_takes_26 mk_X7_takes_111 ?_
  refine vg_iload_n X dX7_takes_29 4 rfl rfl ?_
  refine vg_i2l X (lN mm) dX7_takes_30 (nI_l (by omega)) ?_
  refine vg_lmul X (lN (mm * 360)) dX7_takes_31 (by rw [lN_mul, Nat.mul_comm]) ?_
  refine vg_aload_n X dX7_takes_32 1 rfl rfl ?_
  refine vg_get X in_X7_takes_X7 29 hO rfl 19 (by decide) ml_X7_takes_56 rfl rfl dX7_takes_33 ?_
  refine vg_iload_n X dX7_takes_36 2 rfl rfl ?_
  refine vg_iald X (nI (uv j 3)) 45 h15 rfl (by omega) (by decide) w3 dX7_takes_37 ?_
  refine vg_i2l X (lN (uv j 3)) dX7_takes_38 (nI_l (by omega)) ?_
  refine vg_lmul X (lN (mm * 360 * uv j 3)) dX7_takes_39 (lN_mul _ _) ?_
  refine vg_lstore X [(7, .long (lN (mm * 360 * uv j 3))), (5, .long (lN (d i 3 * per * uv j 2))), (0, .ref am), (1, .int (nI j)), (2, .int (nI i)), (3, .int (nI mm)), (4, .int (nI t))] dX7_takes_40 (by decide) rfl ?_
  refine vg_lload X dX7_takes_42 0 rfl ?_
  refine vg_lload X dX7_takes_44 1 rfl ?_
  refine vg_ladd X (lN (mm * 360 * uv j 3 + d i 3 * per * uv j 2)) dX7_takes_46 (lN_add _ _) ?_
  refine vg_lconst X (lN 1) dX7_takes_47 (by decide) ?_
  refine vg_lsub X (lN (mm * 360 * uv j 3 + d i 3 * per * uv j 2 - 1)) dX7_takes_48 (lN_sub (by omega)) ?_
  refine vg_lload X dX7_takes_49 1 rfl ?_
  refine vg_ldiv X (lN ((mm * 360 * uv j 3 + d i 3 * per * uv j 2 - 1) / (d i 3 * per * uv j 2))) dX7_takes_51 (fun h => absurd ((pk_lEQ (a := d i 3 * per * uv j 2) (b := 0) (by omega) (by omega)).mp h) (by omega)) (pk_lDiv (by omega) (by omega) (by omega)) ?_
  exact vg_lret X rfl ⟨rfl, by rw [← eper]; rfl⟩ (Nat.le_refl _) (Nat.le_refl _) dX7_takes_52
set_option maxHeartbeats 4000000 in
set_option maxRecDepth 100000 in
/-- mayGo(unit, piece) -/
theorem c_X7_mayGo (l : Launch) {D : va_G} {ay : Nat → ClassId} {base : Nat} {Gx : State → Prop} {ws : va_W} {am : Nat} {aa : Nat → Nat} {th sp : Int32} {n P U : Nat} {d fr to pe uv : Nat → Nat → Nat} {j i : Nat} (hO : cm_O ws am aa th n P U sp) (hD : cm_D ay ws aa n P U d fr to pe uv) (hR : cm_R n P U d fr to pe uv) (hj : j < U) (hi : i < P) : Met l yX7_mayGo wsX7_mayGo ({ frames := 0, cells := 0, slots := 0, locals := 0 } : Room) (va_Pc [.ref am, .int (nI j), .int (nI i)] (vg_B D ay base Gx ws)) (va_Qi (fun r u => u = ws ∧ (ps_ok (d i) (uv j) → r = 1) ∧ (¬ ps_ok (d i) (uv j) → r = 0)) (vg_B D ay base Gx) (vg_A base)) 0 0 (vg_A base) := by
  refine vg_met (cc := cX7_mayGo) (maxL := 3) (ret := (some .boolean)) (own := RX7) (lv := [(0, .ref am), (1, .int (nI j)), (2, .int (nI i))]) (by decide) rfl rfl (Nat.le_of_ble_eq_true rfl) rfl ?_
  intro p e s m args below meth c X hinit
  unfold cm_O at hO
  obtain ⟨f0, f1, f2, f3, f4, f5, f6, f7, f8, f9, f10, f11, f12, f13, f14, f15, h0, h1, h2, h3, h4, h5, h6, h7, h8, h9, h10, h11, h12, h13, h14, h15, hp, hu⟩ := id hD
  obtain ⟨⟨r0, r1, r2, r3, r4, r5, r6, r7, r8, r9⟩, z4, z5, z6⟩ := hR.2.2.2.1 i hi
  have nP := hR.2.1
  have nU := hR.2.2.1
  obtain ⟨e0, e1, e2, e3, e4, e5, e6, e7, er⟩ := hp i hi
  obtain ⟨w4, w0, w1, w2, w3⟩ := hu j hj
  obtain ⟨⟨u0, u1, u2, u3, u4, u5, u6⟩, u7⟩ := hR.2.2.2.2 j hj
  refine vg_aload_n X dX7_mayGo_0 0 rfl rfl ?_
  refine vg_get X in_X7_mayGo_X7 29 hO rfl 9 (by decide) ml_X7_mayGo_28 rfl rfl dX7_mayGo_1 ?_
  refine vg_iload_n X dX7_mayGo_4 2 rfl rfl ?_
  refine vg_zald X (nI (d i 6)) 36 h6 rfl (by omega) (by decide) e6 dX7_mayGo_5 ?_
  refine vg_if_ne X 70 dX7_mayGo_6 (by decide) (fun c6 => ?_) (fun c6 => ?_)
  · have c6 : ¬ d i 6 = 0 := fun z => c6 ((vg_eq0 (by omega)).mpr z)
    refine vg_iconst X (nI 0) dX7_mayGo_70 (by decide) ?_
    exact vg_zret X rfl rfl ⟨rfl, fun h => absurd h (fun ⟨g1, g2, g3, g4⟩ => by omega), fun _ => rfl⟩ (Nat.le_refl _) (Nat.le_refl _) dX7_mayGo_71
  · have c6 : d i 6 = 0 := (vg_eq0 (by omega)).mp c6
    refine vg_aload_n X dX7_mayGo_9 0 rfl rfl ?_
    refine vg_get X in_X7_mayGo_X7 29 hO rfl 6 (by decide) ml_X7_mayGo_19 rfl rfl dX7_mayGo_10 ?_
    refine vg_iload_n X dX7_mayGo_13 2 rfl rfl ?_
    refine vg_iald X (nI (d i 3)) 33 h3 rfl (by omega) (by decide) e3 dX7_mayGo_14 ?_
    refine vg_if_le X 70 dX7_mayGo_15 (by decide) (fun c15 => ?_) (fun c15 => ?_)
    · have c15 : d i 3 ≤ 0 := (vg_le0 (by omega)).mp c15
      refine vg_iconst X (nI 0) dX7_mayGo_70 (by decide) ?_
      exact vg_zret X rfl rfl ⟨rfl, fun h => absurd h (fun ⟨g1, g2, g3, g4⟩ => by omega), fun _ => rfl⟩ (Nat.le_refl _) (Nat.le_refl _) dX7_mayGo_71
    · have c15 : ¬ d i 3 ≤ 0 := fun z => c15 ((vg_le0 (by omega)).mpr z)
      refine vg_aload_n X dX7_mayGo_18 0 rfl rfl ?_
      refine vg_get X in_X7_mayGo_X7 29 hO rfl 7 (by decide) ml_X7_mayGo_22 rfl rfl dX7_mayGo_19 ?_
      refine vg_iload_n X dX7_mayGo_22 2 rfl rfl ?_
      refine vg_iald X (nI (d i 4)) 34 h4 rfl (by omega) (by decide) e4 dX7_mayGo_23 ?_
      refine vg_if_eq X 42 dX7_mayGo_24 (by decide) (fun c24 => ?_) (fun c24 => ?_)
      · have c24 : d i 4 = 0 := (vg_eq0 (by omega)).mp c24
        refine vg_aload_n X dX7_mayGo_42 0 rfl rfl ?_
        refine vg_get X in_X7_mayGo_X7 29 hO rfl 8 (by decide) ml_X7_mayGo_25 rfl rfl dX7_mayGo_43 ?_
        refine vg_iload_n X dX7_mayGo_46 2 rfl rfl ?_
        refine vg_iald X (nI (d i 5)) 35 h5 rfl (by omega) (by decide) e5 dX7_mayGo_47 ?_
        refine vg_if_eq X 66 dX7_mayGo_48 (by decide) (fun c48 => ?_) (fun c48 => ?_)
        · have c48 : d i 5 = 0 := (vg_eq0 (by omega)).mp c48
          refine vg_iconst X (nI 1) dX7_mayGo_66 (by decide) ?_
          refine vg_goto X 71 dX7_mayGo_67 (by decide) ?_
          exact vg_zret X rfl rfl ⟨rfl, fun _ => rfl, fun h => absurd (show ps_ok (d i) (uv j) from ⟨by omega, by omega, by omega, by omega⟩) h⟩ (Nat.le_refl _) (Nat.le_refl _) dX7_mayGo_71
        · have c48 : ¬ d i 5 = 0 := fun z => c48 ((vg_eq0 (by omega)).mpr z)
          refine vg_aload_n X dX7_mayGo_51 0 rfl rfl ?_
          refine vg_get X in_X7_mayGo_X7 29 hO rfl 8 (by decide) ml_X7_mayGo_25 rfl rfl dX7_mayGo_52 ?_
          refine vg_iload_n X dX7_mayGo_55 2 rfl rfl ?_
          refine vg_iald X (nI (d i 5)) 35 h5 rfl (by omega) (by decide) e5 dX7_mayGo_56 ?_
          refine vg_aload_n X dX7_mayGo_57 0 rfl rfl ?_
          refine vg_get X in_X7_mayGo_X7 29 hO rfl 17 (by decide) ml_X7_mayGo_50 rfl rfl dX7_mayGo_58 ?_
          refine vg_iload_n X dX7_mayGo_61 1 rfl rfl ?_
          refine vg_iald X (nI (uv j 1)) 43 h13 rfl (by omega) (by decide) w1 dX7_mayGo_62 ?_
          refine vg_icmp_lt X 70 dX7_mayGo_63 (by decide) (fun c63 => ?_) (fun c63 => ?_)
          · have c63 : d i 5 < uv j 1 := (nI_ltI (by omega) (by omega)).mp c63
            refine vg_iconst X (nI 0) dX7_mayGo_70 (by decide) ?_
            exact vg_zret X rfl rfl ⟨rfl, fun h => absurd h (fun ⟨g1, g2, g3, g4⟩ => by omega), fun _ => rfl⟩ (Nat.le_refl _) (Nat.le_refl _) dX7_mayGo_71
          · have c63 : ¬ d i 5 < uv j 1 := fun z => c63 ((nI_ltI (by omega) (by omega)).mpr z)
            refine vg_iconst X (nI 1) dX7_mayGo_66 (by decide) ?_
            refine vg_goto X 71 dX7_mayGo_67 (by decide) ?_
            exact vg_zret X rfl rfl ⟨rfl, fun _ => rfl, fun h => absurd (show ps_ok (d i) (uv j) from ⟨by omega, by omega, by omega, by omega⟩) h⟩ (Nat.le_refl _) (Nat.le_refl _) dX7_mayGo_71
      · have c24 : ¬ d i 4 = 0 := fun z => c24 ((vg_eq0 (by omega)).mpr z)
        refine vg_aload_n X dX7_mayGo_27 0 rfl rfl ?_
        refine vg_get X in_X7_mayGo_X7 29 hO rfl 7 (by decide) ml_X7_mayGo_22 rfl rfl dX7_mayGo_28 ?_
        refine vg_iload_n X dX7_mayGo_31 2 rfl rfl ?_
        refine vg_iald X (nI (d i 4)) 34 h4 rfl (by omega) (by decide) e4 dX7_mayGo_32 ?_
        refine vg_aload_n X dX7_mayGo_33 0 rfl rfl ?_
        refine vg_get X in_X7_mayGo_X7 29 hO rfl 16 (by decide) ml_X7_mayGo_47 rfl rfl dX7_mayGo_34 ?_
        refine vg_iload_n X dX7_mayGo_37 1 rfl rfl ?_
        refine vg_iald X (nI (uv j 0)) 42 h12 rfl (by omega) (by decide) w0 dX7_mayGo_38 ?_
        refine vg_icmp_lt X 70 dX7_mayGo_39 (by decide) (fun c39 => ?_) (fun c39 => ?_)
        · have c39 : d i 4 < uv j 0 := (nI_ltI (by omega) (by omega)).mp c39
          refine vg_iconst X (nI 0) dX7_mayGo_70 (by decide) ?_
          exact vg_zret X rfl rfl ⟨rfl, fun h => absurd h (fun ⟨g1, g2, g3, g4⟩ => by omega), fun _ => rfl⟩ (Nat.le_refl _) (Nat.le_refl _) dX7_mayGo_71
        · have c39 : ¬ d i 4 < uv j 0 := fun z => c39 ((nI_ltI (by omega) (by omega)).mpr z)
          refine vg_aload_n X dX7_mayGo_42 0 rfl rfl ?_
          refine vg_get X in_X7_mayGo_X7 29 hO rfl 8 (by decide) ml_X7_mayGo_25 rfl rfl dX7_mayGo_43 ?_
          refine vg_iload_n X dX7_mayGo_46 2 rfl rfl ?_
          refine vg_iald X (nI (d i 5)) 35 h5 rfl (by omega) (by decide) e5 dX7_mayGo_47 ?_
          refine vg_if_eq X 66 dX7_mayGo_48 (by decide) (fun c48 => ?_) (fun c48 => ?_)
          · have c48 : d i 5 = 0 := (vg_eq0 (by omega)).mp c48
            refine vg_iconst X (nI 1) dX7_mayGo_66 (by decide) ?_
            refine vg_goto X 71 dX7_mayGo_67 (by decide) ?_
            exact vg_zret X rfl rfl ⟨rfl, fun _ => rfl, fun h => absurd (show ps_ok (d i) (uv j) from ⟨by omega, by omega, by omega, by omega⟩) h⟩ (Nat.le_refl _) (Nat.le_refl _) dX7_mayGo_71
          · have c48 : ¬ d i 5 = 0 := fun z => c48 ((vg_eq0 (by omega)).mpr z)
            refine vg_aload_n X dX7_mayGo_51 0 rfl rfl ?_
            refine vg_get X in_X7_mayGo_X7 29 hO rfl 8 (by decide) ml_X7_mayGo_25 rfl rfl dX7_mayGo_52 ?_
            refine vg_iload_n X dX7_mayGo_55 2 rfl rfl ?_
            refine vg_iald X (nI (d i 5)) 35 h5 rfl (by omega) (by decide) e5 dX7_mayGo_56 ?_
            refine vg_aload_n X dX7_mayGo_57 0 rfl rfl ?_
            refine vg_get X in_X7_mayGo_X7 29 hO rfl 17 (by decide) ml_X7_mayGo_50 rfl rfl dX7_mayGo_58 ?_
            refine vg_iload_n X dX7_mayGo_61 1 rfl rfl ?_
            refine vg_iald X (nI (uv j 1)) 43 h13 rfl (by omega) (by decide) w1 dX7_mayGo_62 ?_
            refine vg_icmp_lt X 70 dX7_mayGo_63 (by decide) (fun c63 => ?_) (fun c63 => ?_)
            · have c63 : d i 5 < uv j 1 := (nI_ltI (by omega) (by omega)).mp c63
              refine vg_iconst X (nI 0) dX7_mayGo_70 (by decide) ?_
              exact vg_zret X rfl rfl ⟨rfl, fun h => absurd h (fun ⟨g1, g2, g3, g4⟩ => by omega), fun _ => rfl⟩ (Nat.le_refl _) (Nat.le_refl _) dX7_mayGo_71
            · have c63 : ¬ d i 5 < uv j 1 := fun z => c63 ((nI_ltI (by omega) (by omega)).mpr z)
              refine vg_iconst X (nI 1) dX7_mayGo_66 (by decide) ?_
              refine vg_goto X 71 dX7_mayGo_67 (by decide) ?_
              exact vg_zret X rfl rfl ⟨rfl, fun _ => rfl, fun h => absurd (show ps_ok (d i) (uv j) from ⟨by omega, by omega, by omega, by omega⟩) h⟩ (Nat.le_refl _) (Nat.le_refl _) dX7_mayGo_71
