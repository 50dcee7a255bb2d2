/-- a list's cells: its object at place q, its row (the empty one at tE, which is no cell of ours, or one of ours at a place from 60 on) with the elements' addresses el -/
def cl_L (ay : Nat → ClassId) (ws : va_W) (q aL tE cnt : Nat) (el : Nat → Nat) : Prop :=
  ∃ (mo : Int32) (aE : Nat), ws[q]? = some (aL, .inr (2, [.int mo, .ref aE, .int (nI cnt)])) ∧ ((cnt = 0 ∧ aE = tE) ∨ ∃ (qE cap : Nat) (f : Nat → Option Nat), ws[qE]? = some (aE, .inl (ay 4, cap, .inr (.inr (.inr (.inr f))))) ∧ 56 ≤ qE ∧ cnt ≤ cap ∧ 10 ≤ cap ∧ cap ≤ 300 ∧ (∀ i, i < cnt → f i = some (el i)))
theorem in_Jx4a65c_elementData_915e3_Jx4a65c : ∀ w ∈ u_ws RJx4a65c TJx4a65c 3, w ∈ wsJx4a65c_elementData_915e3 := by decide +kernel
theorem ml_Jx4a65c_elementData_915e3_9 : Cond.fieldLink RJx4a65c 9 "java/util/ArrayList" "elementData" "[Ljava/lang/Object;" ∈ wsJx4a65c_elementData_915e3 := by decide +kernel
theorem in_Jx4a65c_get_915e3_Jx4a65c : ∀ w ∈ u_ws RJx4a65c TJx4a65c 3, w ∈ wsJx4a65c_get_915e3 := by decide +kernel
theorem ml_Jx4a65c_get_915e3_48 : Cond.fieldLink RJx4a65c 48 "java/util/ArrayList" "size" "I" ∈ wsJx4a65c_get_915e3 := by decide +kernel
theorem in_Jx4a65c_size_8abf5_Jx4a65c : ∀ w ∈ u_ws RJx4a65c TJx4a65c 3, w ∈ wsJx4a65c_size_8abf5 := by decide +kernel
theorem ml_Jx4a65c_size_8abf5_48 : Cond.fieldLink RJx4a65c 48 "java/util/ArrayList" "size" "I" ∈ wsJx4a65c_size_8abf5 := by decide +kernel
set_option maxHeartbeats 4000000 in
set_option maxRecDepth 100000 in
/-- Preconditions.checkIndex within -/
theorem c_J3_checkIndex_8e157 (l : Launch) {D : va_G} {ay : Nat → ClassId} {base : Nat} {Gx : State → Prop} {ws : va_W} {i n : Nat} (hi : i < n) (hn : n < 2 ^ 31) : Met l yJ3_checkIndex_8e157 wsJ3_checkIndex_8e157 ({ frames := 0, cells := 0, slots := 0, locals := 0 } : Room) (va_Pc [.int (nI i), .int (nI n), .null] (vg_B D ay base Gx ws)) (va_Qi (fun r u => u = ws ∧ r = nI i) (vg_B D ay base Gx) (vg_A base)) 0 0 (vg_A base) := by
  refine vg_met (cc := cJ3_checkIndex_8e157) (maxL := 3) (ret := (some .int)) (own := RJ3) (lv := [(0, .int (nI i)), (1, .int (nI n)), (2, .null)]) (by decide) rfl rfl (Nat.le_of_ble_eq_true rfl) rfl ?_
  intro p e s m args below meth c X hinit
  refine vg_iload_n X dJ3_checkIndex_8e157_0 0 rfl rfl ?_
  refine vg_if_lt X 9 dJ3_checkIndex_8e157_1 (by decide) (fun c1 => ?_) (fun c1 => ?_)
  · have c1 : i < 0 := (vg_lt0 (by omega)).mp c1
    exact absurd c1 (by omega)
  · have c1 : ¬ i < 0 := fun z => c1 ((vg_lt0 (by omega)).mpr z)
    refine vg_iload_n X dJ3_checkIndex_8e157_4 0 rfl rfl ?_
    refine vg_iload_n X dJ3_checkIndex_8e157_5 1 rfl rfl ?_
    refine vg_icmp_lt X 16 dJ3_checkIndex_8e157_6 (by decide) (fun c6 => ?_) (fun c6 => ?_)
    · have c6 : i < n := (nI_ltI (by omega) (by omega)).mp c6
      refine vg_iload_n X dJ3_checkIndex_8e157_16 0 rfl rfl ?_
      exact vg_iret X rfl ⟨rfl, rfl⟩ (Nat.le_refl _) (Nat.le_refl _) dJ3_checkIndex_8e157_17
    · have c6 : ¬ i < n := fun z => c6 ((nI_ltI (by omega) (by omega)).mpr z)
      exact absurd hi c6
set_option maxHeartbeats 4000000 in
set_option maxRecDepth 100000 in
/-- Objects.checkIndex within -/
theorem c_J15_checkIndex_7cf53 (l : Launch) {D : va_G} {ay : Nat → ClassId} {base : Nat} {Gx : State → Prop} {ws : va_W} {i n : Nat} (hi : i < n) (hn : n < 2 ^ 31) : Met l yJ15_checkIndex_7cf53 wsJ15_checkIndex_7cf53 ({ frames := 1, cells := 0, slots := 0, locals := 22 } : Room) (va_Pc [.int (nI i), .int (nI n)] (vg_B D ay base Gx ws)) (va_Qi (fun r u => u = ws ∧ r = nI i) (vg_B D ay base Gx) (vg_A base)) 0 0 (vg_A base) := by
  refine vg_met (cc := cJ15_checkIndex_7cf53) (maxL := 2) (ret := (some .int)) (own := RJ15) (lv := [(0, .int (nI i)), (1, .int (nI n))]) (by decide) rfl rfl (Nat.le_of_ble_eq_true rfl) rfl ?_
  intro p e s m args below meth c X hinit
  refine vg_iload_n X dJ15_checkIndex_7cf53_0 0 rfl rfl ?_
  refine vg_iload_n X dJ15_checkIndex_7cf53_1 1 rfl rfl ?_
  refine vg_null X dJ15_checkIndex_7cf53_2 ?_
  refine vg_calli (vg_runS X (c_J3_checkIndex_8e157 l hi hn) (va_cwS 3 X.2.2.2.2.1 gJ15_checkIndex_7cf53_J3_checkIndex_8e157 rfl rfl rfl (by decide +kernel) ⟨Nat.le_of_ble_eq_true rfl, Nat.le_of_ble_eq_true rfl⟩) rfl rfl (Nat.le_of_ble_eq_true rfl) dJ15_checkIndex_7cf53_3 ⟨Nat.zero_le _, Nat.zero_le _⟩) (fun rr3 wz1 PP2 => ?_)
  exact vg_iret X rfl PP2 (Nat.le_refl _) (Nat.le_refl _) dJ15_checkIndex_7cf53_6
set_option maxHeartbeats 4000000 in
set_option maxRecDepth 100000 in
/-- elementData(i) -/
theorem c_Jx4a65c_elementData_915e3 (l : Launch) {D : va_G} {ay : Nat → ClassId} {base : Nat} {Gx : State → Prop} {ws : va_W} {q aL aE cnt cap i x qE : Nat} {mo : Int32} {f : Nat → Option Nat} (hq : ws[q]? = some (aL, .inr (2, [.int mo, .ref aE, .int (nI cnt)]))) (hE : ws[qE]? = some (aE, .inl (ay 4, cap, .inr (.inr (.inr (.inr f)))))) (hi : i < cap) (hcap : cap < 2 ^ 31) (hx : f i = some x) : Met l yJx4a65c_elementData_915e3 wsJx4a65c_elementData_915e3 ({ frames := 0, cells := 0, slots := 0, locals := 0 } : Room) (va_Pc [.ref aL, .int (nI i)] (vg_B D ay base Gx ws)) (va_Qr (fun u => u = ws) (fun u a t => (fun _ a => a = x) u a ∧ vg_B D ay base Gx u t) (vg_A base)) 0 0 (vg_A base) := by
  refine vg_met (cc := cJx4a65c_elementData_915e3) (maxL := 2) (ret := (some (.object "java/lang/Object"))) (own := RJx4a65c) (lv := [(0, .ref aL), (1, .int (nI i))]) (by decide) rfl rfl (Nat.le_of_ble_eq_true rfl) rfl ?_
  intro p e s m args below meth c X hinit
  refine vg_aload_n X dJx4a65c_elementData_915e3_0 0 rfl rfl ?_
  refine vg_get X in_Jx4a65c_elementData_915e3_Jx4a65c q hq rfl 1 (by decide) ml_Jx4a65c_elementData_915e3_9 rfl rfl dJx4a65c_elementData_915e3_1 ?_
  refine vg_iload_n X dJx4a65c_elementData_915e3_4 1 rfl rfl ?_
  refine vg_aaldO X (.ref x) qE hE rfl (by omega) (by omega) (by rw [hx]; rfl) dJx4a65c_elementData_915e3_5 ?_
  exact vg_aret X rfl (Or.inl ⟨_, rfl⟩) rfl rfl (Nat.le_refl _) (Nat.le_refl _) dJx4a65c_elementData_915e3_6
set_option maxHeartbeats 4000000 in
set_option maxRecDepth 100000 in
/-- get(i) -/
theorem c_Jx4a65c_get_915e3 (l : Launch) {D : va_G} {ay : Nat → ClassId} {base : Nat} {Gx : State → Prop} {ws : va_W} {q aL tE cnt i : Nat} {el : Nat → Nat} (hL : cl_L ay ws q aL tE cnt el) (hi : i < cnt) : Met l yJx4a65c_get_915e3 wsJx4a65c_get_915e3 ({ frames := 2, cells := 0, slots := 0, locals := 43 } : Room) (va_Pc [.ref aL, .int (nI i)] (vg_B D ay base Gx ws)) (va_Qr (fun u => u = ws) (fun u a t => (fun _ a => a = el i) u a ∧ vg_B D ay base Gx u t) (vg_A base)) 0 0 (vg_A base) := by
  refine vg_met (cc := cJx4a65c_get_915e3) (maxL := 2) (ret := (some (.object "java/lang/Object"))) (own := RJx4a65c) (lv := [(0, .ref aL), (1, .int (nI i))]) (by decide) rfl rfl (Nat.le_of_ble_eq_true rfl) rfl ?_
  intro p e s m args below meth c X hinit
  obtain ⟨mo, aE, hq, hE⟩ := hL
  obtain ⟨qE, cap, f, hE, g1, g2, g3, g4, g5⟩ := hE.resolve_left (fun z => absurd z.1 (by omega))
  refine vg_iload_n X dJx4a65c_get_915e3_0 1 rfl rfl ?_
  refine vg_aload_n X dJx4a65c_get_915e3_1 0 rfl rfl ?_
  refine vg_get X in_Jx4a65c_get_915e3_Jx4a65c q hq rfl 2 (by decide) ml_Jx4a65c_get_915e3_48 rfl rfl dJx4a65c_get_915e3_2 ?_
  refine vg_calli (vg_runS X (c_J15_checkIndex_7cf53 l (i := i) (n := cnt) hi (by omega)) (va_cwS 2 X.2.2.2.2.1 gJx4a65c_get_915e3_J15_checkIndex_7cf53 rfl rfl rfl (by decide +kernel) ⟨Nat.le_of_ble_eq_true rfl, Nat.le_of_ble_eq_true rfl⟩) rfl rfl (Nat.le_of_ble_eq_true rfl) dJx4a65c_get_915e3_5 ⟨Nat.zero_le _, Nat.zero_le _⟩) (fun rr3 wz1 PP2 => ?_)
  obtain ⟨hw9, rfl⟩ := PP2
  rw [hw9]
  refine vg_pop X dJx4a65c_get_915e3_8 rfl ?_
  refine vg_aload_n X dJx4a65c_get_915e3_9 0 rfl rfl ?_
  refine vg_iload_n X dJx4a65c_get_915e3_10 1 rfl rfl ?_
  refine vg_callr (vg_runV X (c_Jx4a65c_elementData_915e3 l hq hE (i := i) (by omega) (by omega) (g5 i hi)) (cwV 1 X.2.2.2.2.1 gJx4a65c_get_915e3_Jx4a65c_elementData_915e3 rfl rfl rfl (by decide +kernel) ⟨Nat.le_of_ble_eq_true rfl, Nat.le_of_ble_eq_true rfl⟩) q hq rfl rfl rfl (Nat.le_of_ble_eq_true rfl) dJx4a65c_get_915e3_11 ⟨Nat.zero_le _, Nat.zero_le _⟩) (fun rr6 wz4 PP5 PP5q => ?_)
  exact vg_aret X rfl (Or.inl ⟨_, rfl⟩) PP5 PP5q (Nat.le_refl _) (Nat.le_refl _) dJx4a65c_get_915e3_14
set_option maxHeartbeats 4000000 in
set_option maxRecDepth 100000 in
/-- size() -/
theorem c_Jx4a65c_size_8abf5 (l : Launch) {D : va_G} {ay : Nat → ClassId} {base : Nat} {Gx : State → Prop} {ws : va_W} {q aL tE cnt : Nat} {el : Nat → Nat} (hL : cl_L ay ws q aL tE cnt el) : Met l yJx4a65c_size_8abf5 wsJx4a65c_size_8abf5 ({ frames := 0, cells := 0, slots := 0, locals := 0 } : Room) (va_Pc [.ref aL] (vg_B D ay base Gx ws)) (va_Qi (fun r u => u = ws ∧ r = nI cnt) (vg_B D ay base Gx) (vg_A base)) 0 0 (vg_A base) := by
  refine vg_met (cc := cJx4a65c_size_8abf5) (maxL := 1) (ret := (some .int)) (own := RJx4a65c) (lv := [(0, .ref aL)]) (by decide) rfl rfl (Nat.le_of_ble_eq_true rfl) rfl ?_
  intro p e s m args below meth c X hinit
  obtain ⟨mo, aE, hq, hE⟩ := hL
  refine vg_aload_n X dJx4a65c_size_8abf5_0 0 rfl rfl ?_
  refine vg_get X in_Jx4a65c_size_8abf5_Jx4a65c q hq rfl 2 (by decide) ml_Jx4a65c_size_8abf5_48 rfl rfl dJx4a65c_size_8abf5_1 ?_
  exact vg_iret X rfl ⟨rfl, rfl⟩ (Nat.le_refl _) (Nat.le_refl _) dJx4a65c_size_8abf5_4
