theorem vg_fresh {A : Nat → Prop} {ws ws1 : va_W} {x : Nat × va_E} (hD : va_D A ws1) (e : ws1 = ws ++ [x]) : ∀ (j : Nat) (y : Nat × va_E), ws[j]? = some y → y.1 ≠ x.1 := fun j y hy z => by
  have h1 := vg_pn (x := x) e hy
  have h2 := hD.1 j ws.length y x h1 (vg_pl e) z
  have := (List.getElem?_eq_some_iff.mp hy).1
  omega
theorem vg_away {base tE : Nat} {f : Nat → Value} {N : Nat} {ty : FieldType} {U : State} {H : Heap} {ws : va_W} {x : Nat × va_E} {j : Nat} (hD : va_D (vg_A base) ws) (hj : ws[j]? = some x) (hT : va_T ty tE N f (vg_A base) U H) : x.1 ≠ tE := fun z => hT.out (by rw [← z]; exact hD.2 j x hj)
/-- a list's row has grown: a is its new row, a new cell -/
def cl_gp (ay : Nat → ClassId) (ws u : va_W) (q aL : Nat) (mo : Int32) (tE cnt : Nat) (el : Nat → Nat) (a : Nat) : Prop :=
  ∃ (cap2 : Nat) (f2 : Nat → Option Nat), u[q]? = some (aL, .inr (2, [.int mo, .ref a, .int (nI cnt)])) ∧ u[ws.length]? = some (a, .inl (ay 4, cap2, .inr (.inr (.inr (.inr f2))))) ∧ u.length = ws.length + 1 ∧ cnt < cap2 ∧ 10 ≤ cap2 ∧ cap2 ≤ 300 ∧ (∀ i, i < cnt → f2 i = some (el i)) ∧ vg_gr ws u [q] ∧ (∀ (j : Nat) (y : Nat × va_E), ws[j]? = some y → y.1 ≠ a) ∧ a ≠ tE
/-- the places but the list's object and its row at aE are as they were -/
def cl_gr (ay : Nat → ClassId) (ws u : va_W) (q aE : Nat) : Prop := ws.length ≤ u.length ∧ ∀ j, j < ws.length → j ≠ q → (∀ (cap : Nat) (f : Nat → Option Nat), ws[j]? ≠ some (aE, .inl (ay 4, cap, .inr (.inr (.inr (.inr f)))))) → u[j]? = ws[j]?
/-- an element more -/
def cl_ad (ay : Nat → ClassId) (ws u : va_W) (q aL tE aE cnt : Nat) (el : Nat → Nat) (x : Nat) : Prop :=
  ∃ (mo2 : Int32) (aE2 qE2 cap2 : Nat) (f2 : Nat → Option Nat), u[q]? = some (aL, .inr (2, [.int mo2, .ref aE2, .int (nI (cnt + 1))])) ∧ u[qE2]? = some (aE2, .inl (ay 4, cap2, .inr (.inr (.inr (.inr f2))))) ∧ 56 ≤ qE2 ∧ cnt + 1 ≤ cap2 ∧ 10 ≤ cap2 ∧ cap2 ≤ 300 ∧ (∀ i, i < cnt → f2 i = some (el i)) ∧ f2 cnt = some x ∧ cl_gr ay ws u q aE ∧ (aE2 = aE ∨ ∀ (j : Nat) (y : Nat × va_E), ws[j]? = some y → y.1 ≠ aE2) ∧ aE2 ≠ tE
theorem nI_max {x y : Nat} (hx : x < 2 ^ 31) (hy : y < 2 ^ 31) : (if nI x < nI y then nI y else nI x) = nI (max x y) := by
  by_cases q : x < y
  · rw [if_pos ((nI_ltI hx hy).mpr q), show max x y = y by omega]
  · rw [if_neg (fun z => q ((nI_ltI hx hy).mp z)), show max x y = x by omega]
theorem nI_minl {x y : Nat} (hx : x < 2 ^ 31) (hy : y < 2 ^ 31) (h : x ≤ y) : (if nI y < nI x then nI y else nI x) = nI x := if_neg (fun z => absurd ((nI_ltI hy hx).mp z) (by omega))
theorem oi_Jxa1e45_init_da8c8 : Cond.methodLink RJxa1e45 1 Lib.objectInit ∈ wsJxa1e45_init_da8c8 := by decide +kernel
theorem oj_Jxa1e45_init_da8c8 : Cond.instanceMethod Lib.objectInit ∈ wsJxa1e45_init_da8c8 := by decide +kernel
theorem ok_Jxa1e45_init_da8c8 : Cond.code Lib.objectInit ⟨#[0xb1]⟩ 1 none ∈ wsJxa1e45_init_da8c8 := by decide +kernel
theorem ci_Jxc12de_init_da8c8_Jxa1e45 : Cond.initialized RJxa1e45 ∈ wsJxc12de_init_da8c8 := by decide +kernel
theorem cj_Jxc12de_init_da8c8_Jxa1e45_init_da8c8 : Cond.instanceMethod yJxa1e45_init_da8c8 ∈ wsJxc12de_init_da8c8 := by decide +kernel
theorem ck_Jxc12de_init_da8c8_1 : Cond.methodLink RJxc12de 1 yJxa1e45_init_da8c8 ∈ wsJxc12de_init_da8c8 := by decide +kernel
theorem in_Jxc12de_init_da8c8_Jx4a65c : ∀ w ∈ u_ws RJx4a65c TJx4a65c 3, w ∈ wsJxc12de_init_da8c8 := by decide +kernel
theorem ml_Jxc12de_init_da8c8_7 : Cond.fieldLink RJxc12de 7 "java/util/AbstractList" "modCount" "I" ∈ wsJxc12de_init_da8c8 := by decide +kernel
theorem ci_Jx4a65c_init_da8c8_Jxc12de : Cond.initialized RJxc12de ∈ wsJx4a65c_init_da8c8 := by decide +kernel
theorem cj_Jx4a65c_init_da8c8_Jxc12de_init_da8c8 : Cond.instanceMethod yJxc12de_init_da8c8 ∈ wsJx4a65c_init_da8c8 := by decide +kernel
theorem ck_Jx4a65c_init_da8c8_1 : Cond.methodLink RJx4a65c 1 yJxc12de_init_da8c8 ∈ wsJx4a65c_init_da8c8 := by decide +kernel
theorem ml_Jx4a65c_init_da8c8_39 : Cond.fieldLink RJx4a65c 39 "java/util/ArrayList" "DEFAULTCAPACITY_EMPTY_ELEMENTDATA" "[Ljava/lang/Object;" ∈ wsJx4a65c_init_da8c8 := by decide +kernel
theorem in_Jx4a65c_init_da8c8_Jx4a65c : ∀ w ∈ u_ws RJx4a65c TJx4a65c 3, w ∈ wsJx4a65c_init_da8c8 := by decide +kernel
theorem ml_Jx4a65c_init_da8c8_9 : Cond.fieldLink RJx4a65c 9 "java/util/ArrayList" "elementData" "[Ljava/lang/Object;" ∈ wsJx4a65c_init_da8c8 := by decide +kernel
theorem mm_J8_newLength_cabcc_max1 : Cond.methodLink RJ8 194 Lib.Math.max.name ∈ wsJ8_newLength_cabcc := by decide +kernel
theorem mm_J8_newLength_cabcc_max2 : Cond.static Lib.Math.max.name ∈ wsJ8_newLength_cabcc := by decide +kernel
theorem mm_J8_newLength_cabcc_max3 : Cond.initialized "java/lang/Math" ∈ wsJ8_newLength_cabcc := by decide +kernel
theorem mm_J8_newLength_cabcc_max4 : Cond.code Lib.Math.max.name Lib.Math.max.code 2 (some .int) ∈ wsJ8_newLength_cabcc := by decide +kernel
theorem mk_J8_newLength_cabcc_200 : Jvm.Cond.constant RJ8 200 (nI 2147483639) ∈ wsJ8_newLength_cabcc := by decide +kernel
theorem lm_J7_copyOf_6403c : Cond.classLink RJ7 110 "[Ljava/lang/Object;" ∈ wsJ7_copyOf_6403c := by decide +kernel
theorem nq_J7_copyOf_6403c_2 : Cond.classLink RJ7 2 "java/lang/Object" ∈ wsJ7_copyOf_6403c := by decide +kernel
theorem mm_J7_copyOf_6403c_min1 : Cond.methodLink RJ7 304 Lib.Math.min.name ∈ wsJ7_copyOf_6403c := by decide +kernel
theorem mm_J7_copyOf_6403c_min2 : Cond.static Lib.Math.min.name ∈ wsJ7_copyOf_6403c := by decide +kernel
theorem mm_J7_copyOf_6403c_min3 : Cond.initialized "java/lang/Math" ∈ wsJ7_copyOf_6403c := by decide +kernel
theorem mm_J7_copyOf_6403c_min4 : Cond.code Lib.Math.min.name Lib.Math.min.code 2 (some .int) ∈ wsJ7_copyOf_6403c := by decide +kernel
theorem cp_J7_copyOf_6403c_0 : Cond.methodLink RJ7 150 arraycopyName ∈ wsJ7_copyOf_6403c := by decide +kernel
theorem cp_J7_copyOf_6403c_1 : Cond.native arraycopyName ∈ wsJ7_copyOf_6403c := by decide +kernel
theorem cp_J7_copyOf_6403c_2 : Cond.static arraycopyName ∈ wsJ7_copyOf_6403c := by decide +kernel
theorem cp_J7_copyOf_6403c_3 : Cond.initialized "java/lang/System" ∈ wsJ7_copyOf_6403c := by decide +kernel
theorem gc_J7_copyOf_1904c_0 : Cond.methodLink RJ7 86 ⟨"java/lang/Object", "getClass", "()Ljava/lang/Class;"⟩ ∈ wsJ7_copyOf_1904c := by decide +kernel
theorem gc_J7_copyOf_1904c_1 : Cond.selects "[Ljava/lang/Object;" ⟨"java/lang/Object", "getClass", "()Ljava/lang/Class;"⟩ ⟨"java/lang/Object", "getClass", "()Ljava/lang/Class;"⟩ ∈ wsJ7_copyOf_1904c := by decide +kernel
theorem gc_J7_copyOf_1904c_2 : Cond.instanceMethod ⟨"java/lang/Object", "getClass", "()Ljava/lang/Class;"⟩ ∈ wsJ7_copyOf_1904c := by decide +kernel
theorem gc_J7_copyOf_1904c_3 : Cond.native ⟨"java/lang/Object", "getClass", "()Ljava/lang/Class;"⟩ ∈ wsJ7_copyOf_1904c := by decide +kernel
theorem in_Jx4a65c_grow_92f84_Jx4a65c : ∀ w ∈ u_ws RJx4a65c TJx4a65c 3, w ∈ wsJx4a65c_grow_92f84 := by decide +kernel
theorem ml_Jx4a65c_grow_92f84_9 : Cond.fieldLink RJx4a65c 9 "java/util/ArrayList" "elementData" "[Ljava/lang/Object;" ∈ wsJx4a65c_grow_92f84 := by decide +kernel
theorem ml_Jx4a65c_grow_92f84_39 : Cond.fieldLink RJx4a65c 39 "java/util/ArrayList" "DEFAULTCAPACITY_EMPTY_ELEMENTDATA" "[Ljava/lang/Object;" ∈ wsJx4a65c_grow_92f84 := by decide +kernel
theorem mm_Jx4a65c_grow_92f84_max1 : Cond.methodLink RJx4a65c 79 Lib.Math.max.name ∈ wsJx4a65c_grow_92f84 := by decide +kernel
theorem mm_Jx4a65c_grow_92f84_max2 : Cond.static Lib.Math.max.name ∈ wsJx4a65c_grow_92f84 := by decide +kernel
theorem mm_Jx4a65c_grow_92f84_max3 : Cond.initialized "java/lang/Math" ∈ wsJx4a65c_grow_92f84 := by decide +kernel
theorem mm_Jx4a65c_grow_92f84_max4 : Cond.code Lib.Math.max.name Lib.Math.max.code 2 (some .int) ∈ wsJx4a65c_grow_92f84 := by decide +kernel
theorem nq_Jx4a65c_grow_92f84_7 : Cond.classLink RJx4a65c 7 "java/lang/Object" ∈ wsJx4a65c_grow_92f84 := by decide +kernel
theorem in_Jx4a65c_grow_d5877_Jx4a65c : ∀ w ∈ u_ws RJx4a65c TJx4a65c 3, w ∈ wsJx4a65c_grow_d5877 := by decide +kernel
theorem ml_Jx4a65c_grow_d5877_48 : Cond.fieldLink RJx4a65c 48 "java/util/ArrayList" "size" "I" ∈ wsJx4a65c_grow_d5877 := by decide +kernel
set_option maxHeartbeats 4000000 in
set_option maxRecDepth 100000 in
/-- AbstractCollection() -/
theorem c_Jxa1e45_init_da8c8 (l : Launch) {D : va_G} {ay : Nat → ClassId} {base : Nat} {Gx : State → Prop} {ws : va_W} {a : Nat}  : Met l yJxa1e45_init_da8c8 wsJxa1e45_init_da8c8 ({ frames := 1, cells := 0, slots := 0, locals := 12 } : Room) (va_Pc [.ref a] (vg_B D ay base Gx ws)) (va_Qv (fun u => u = ws) (vg_B D ay base Gx) (vg_A base)) 0 0 (vg_A base) := by
  refine vg_met (cc := cJxa1e45_init_da8c8) (maxL := 1) (ret := none) (own := RJxa1e45) (lv := [(0, .ref a)]) (by decide) rfl rfl (Nat.le_of_ble_eq_true rfl) rfl ?_
  intro p e s m args below meth c X hinit
  refine vg_aload_n X dJxa1e45_init_da8c8_0 0 rfl rfl ?_
  refine vg_objInit X oi_Jxa1e45_init_da8c8 oj_Jxa1e45_init_da8c8 ok_Jxa1e45_init_da8c8 (Nat.le_of_ble_eq_true rfl) (Nat.le_of_ble_eq_true rfl) dJxa1e45_init_da8c8_1 ?_
  exact vg_vret X rfl rfl (Nat.le_refl _) (Nat.le_refl _) dJxa1e45_init_da8c8_4
set_option maxHeartbeats 4000000 in
set_option maxRecDepth 100000 in
/-- AbstractList() -/
theorem c_Jxc12de_init_da8c8 (l : Launch) {D : va_G} {ay : Nat → ClassId} {base : Nat} {Gx : State → Prop} {ws : va_W} {q a : Nat} (hq : ws[q]? = some (a, .inr (2, [.int 0, .null, .int 0]))) : Met l yJxc12de_init_da8c8 wsJxc12de_init_da8c8 ({ frames := 2, cells := 0, slots := 0, locals := 32 } : Room) (va_Pc [.ref a] (vg_B D ay base Gx ws)) (va_Qv (fun u => u[q]? = some (a, .inr (2, [.int (nI 0), .null, .int 0])) ∧ vg_fr ws u [q]) (vg_B D ay base Gx) (vg_A base)) 0 0 (vg_A base) := by
  refine vg_met (cc := cJxc12de_init_da8c8) (maxL := 1) (ret := none) (own := RJxc12de) (lv := [(0, .ref a)]) (by decide) rfl rfl (Nat.le_of_ble_eq_true rfl) rfl ?_
  intro p e s m args below meth c X hinit
  refine vg_aload_n X dJxc12de_init_da8c8_0 0 rfl rfl ?_
  refine vg_callv (vg_runI X (c_Jxa1e45_init_da8c8 l) (cwI 0 X.2.2.2.2.1 gJxc12de_init_da8c8_Jxa1e45_init_da8c8 rfl rfl rfl (X.2.2.2.2.1 _ ci_Jxc12de_init_da8c8_Jxa1e45) (X.2.2.2.2.1 _ ck_Jxc12de_init_da8c8_1) (X.2.2.2.2.1 _ cj_Jxc12de_init_da8c8_Jxa1e45_init_da8c8) rfl (by decide +kernel) ⟨(Nat.le_of_ble_eq_true rfl), (Nat.le_of_ble_eq_true rfl)⟩) rfl rfl (Nat.le_of_ble_eq_true rfl) dJxc12de_init_da8c8_1 ⟨(Nat.le_of_ble_eq_true rfl), (Nat.le_of_ble_eq_true rfl)⟩) (fun wz1 PP2 => ?_)
  rw [PP2]
  refine vg_aload_n X dJxc12de_init_da8c8_4 0 rfl rfl ?_
  refine vg_iconst X (nI 0) dJxc12de_init_da8c8_5 (by decide) ?_
  refine vg_put X in_Jxc12de_init_da8c8_Jx4a65c tyJx4a65c tyJx4a65c_ok nmJx4a65c q hq rfl 0 (by decide) ml_Jxc12de_init_da8c8_7 rfl rfl rfl rfl (Nat.le_of_ble_eq_true rfl) dJxc12de_init_da8c8_6 (fun wz3 ez4 => ?_)
  have fh5 : wz3[q]? = some (a, .inr (2, [.int (nI 0), .null, .int 0])) := vg_se ez4 hq
  exact vg_vret X rfl ⟨fh5, vg_fr_set (vg_fr_rf _ [q]) ez4 (List.mem_singleton.mpr rfl)⟩ (Nat.le_refl _) (Nat.le_refl _) dJxc12de_init_da8c8_9
set_option maxHeartbeats 4000000 in
set_option maxRecDepth 100000 in
/-- ArrayList() -/
theorem c_Jx4a65c_init_da8c8 (l : Launch) {D : va_G} {ay : Nat → ClassId} {base : Nat} {Gx : State → Prop} {ws : va_W} {q a tE mi : Nat} (hq : ws[q]? = some (a, .inr (2, [.int 0, .null, .int 0]))) (hG : ∀ U, Gx U → vh_G base tE mi U) : Met l yJx4a65c_init_da8c8 wsJx4a65c_init_da8c8 ({ frames := 3, cells := 0, slots := 0, locals := 52 } : Room) (va_Pc [.ref a] (vg_B D ay base Gx ws)) (va_Qv (fun u => u[q]? = some (a, .inr (2, [.int (nI 0), .ref tE, .int 0])) ∧ vg_fr ws u [q]) (vg_B D ay base Gx) (vg_A base)) 0 0 (vg_A base) := by
  refine vg_met (cc := cJx4a65c_init_da8c8) (maxL := 1) (ret := none) (own := RJx4a65c) (lv := [(0, .ref a)]) (by decide) rfl rfl (Nat.le_of_ble_eq_true rfl) rfl ?_
  intro p e s m args below meth c X hinit
  obtain ⟨hZ, ⟨ft, hTT⟩, hAO, hAO4, hMi, hDc, hc2, hc5⟩ := hG s X.2.2.2.2.2.2.2.2.2.2
  refine vg_aload_n X dJx4a65c_init_da8c8_0 0 rfl rfl ?_
  refine vg_callv (vg_runI X (c_Jxc12de_init_da8c8 l hq) (cwI 0 X.2.2.2.2.1 gJx4a65c_init_da8c8_Jxc12de_init_da8c8 rfl rfl rfl (X.2.2.2.2.1 _ ci_Jx4a65c_init_da8c8_Jxc12de) (X.2.2.2.2.1 _ ck_Jx4a65c_init_da8c8_1) (X.2.2.2.2.1 _ cj_Jx4a65c_init_da8c8_Jxc12de_init_da8c8) rfl (by decide +kernel) ⟨(Nat.le_of_ble_eq_true rfl), (Nat.le_of_ble_eq_true rfl)⟩) rfl rfl (Nat.le_of_ble_eq_true rfl) dJx4a65c_init_da8c8_1 ⟨(Nat.le_of_ble_eq_true rfl), (Nat.le_of_ble_eq_true rfl)⟩) (fun wz1 PP2 => ?_)
  obtain ⟨g1, g2⟩ := PP2
  refine vg_aload_n X dJx4a65c_init_da8c8_4 0 rfl rfl ?_
  refine vg_gets X hZ ml_Jx4a65c_init_da8c8_39 rfl dJx4a65c_init_da8c8_5 ?_
  refine vg_put X in_Jx4a65c_init_da8c8_Jx4a65c tyJx4a65c tyJx4a65c_ok nmJx4a65c q g1 rfl 1 (by decide) ml_Jx4a65c_init_da8c8_9 rfl rfl rfl rfl (Nat.le_of_ble_eq_true rfl) dJx4a65c_init_da8c8_8 (fun wz3 ez4 => ?_)
  have fh5 : wz3[q]? = some (a, .inr (2, [.int (nI 0), .ref tE, .int 0])) := vg_se ez4 g1
  exact vg_vret X rfl ⟨fh5, vg_fr_set g2 ez4 (List.mem_singleton.mpr rfl)⟩ (Nat.le_refl _) (Nat.le_refl _) dJx4a65c_init_da8c8_11
set_option maxHeartbeats 4000000 in
set_option maxRecDepth 100000 in
/-- newLength -/
theorem c_J8_newLength_cabcc (l : Launch) {D : va_G} {ay : Nat → ClassId} {base : Nat} {Gx : State → Prop} {ws : va_W} {n x y : Nat} (hx : x ≤ 10000) (hy : y ≤ 10000) (hn : 1 ≤ n ∧ n ≤ 10000) : Met l yJ8_newLength_cabcc wsJ8_newLength_cabcc ({ frames := 1, cells := 0, slots := 0, locals := 23 } : Room) (va_Pc [.int (nI n), .int (nI x), .int (nI y)] (vg_B D ay base Gx ws)) (va_Qi (fun r u => u = ws ∧ r = nI (n + max x y)) (vg_B D ay base Gx) (vg_A base)) 0 0 (vg_A base) := by
  refine vg_met (cc := cJ8_newLength_cabcc) (maxL := 4) (ret := (some .int)) (own := RJ8) (lv := [(0, .int (nI n)), (1, .int (nI x)), (2, .int (nI y))]) (by decide) rfl rfl (Nat.le_of_ble_eq_true rfl) rfl ?_
  intro p e s m args below meth c X hinit
  have hm : max x y ≤ 10000 := by omega
  refine vg_iload_n X dJ8_newLength_cabcc_0 0 rfl rfl ?_
  refine vg_iload_n X dJ8_newLength_cabcc_1 1 rfl rfl ?_
  refine vg_iload_n X dJ8_newLength_cabcc_2 2 rfl rfl ?_
  refine vg_mmax X (nI (max x y)) mm_J8_newLength_cabcc_max1 mm_J8_newLength_cabcc_max2 mm_J8_newLength_cabcc_max3 mm_J8_newLength_cabcc_max4 (nI_max (by omega) (by omega)) (Nat.le_of_ble_eq_true rfl) (Nat.le_of_ble_eq_true rfl) (Nat.le_of_ble_eq_true rfl) (Nat.le_of_ble_eq_true rfl) dJ8_newLength_cabcc_3 ?_
  refine vg_iadd X (nI (n + max x y)) dJ8_newLength_cabcc_6 (nI_add _ _) ?_
  refine vg_istore_n X [(3, .int (nI (n + max x y))), (0, .int (nI n)), (1, .int (nI x)), (2, .int (nI y))] dJ8_newLength_cabcc_7 rfl (by decide) rfl ?_
  refine vg_iconst X (nI 0) dJ8_newLength_cabcc_8 (by decide) ?_
  refine vg_iload_n X dJ8_newLength_cabcc_9 0 rfl rfl ?_
  refine vg_icmp_ge X 21 dJ8_newLength_cabcc_10 (by decide) (fun c10 => ?_) (fun c10 => ?_)
  · have c10 : n + max x y ≤ 0 := (nI_leI (by omega) (by omega)).mp c10
    exact absurd c10 (by omega)
  · have c10 : ¬ n + max x y ≤ 0 := fun z => c10 ((nI_leI (by omega) (by omega)).mpr z)
    refine vg_iload_n X dJ8_newLength_cabcc_13 0 rfl rfl ?_
    refine vg_ldc X (nI 2147483639) dJ8_newLength_cabcc_14 mk_J8_newLength_cabcc_200 ?_
    refine vg_icmp_gt X 21 dJ8_newLength_cabcc_16 (by decide) (fun c16 => ?_) (fun c16 => ?_)
    · have c16 : 2147483639 < n + max x y := (nI_ltI (by omega) (by omega)).mp c16
      exact absurd c16 (by omega)
    · have c16 : ¬ 2147483639 < n + max x y := fun z => c16 ((nI_ltI (by omega) (by omega)).mpr z)
      refine vg_iload_n X dJ8_newLength_cabcc_19 0 rfl rfl ?_
      exact vg_iret X rfl ⟨rfl, rfl⟩ (Nat.le_refl _) (Nat.le_refl _) dJ8_newLength_cabcc_20
set_option maxHeartbeats 4000000 in
set_option maxRecDepth 100000 in
/-- copyOf(row, k, Object[]) -/
theorem c_J7_copyOf_6403c (l : Launch) {D : va_G} {ay : Nat → ClassId} {base : Nat} {Gx : State → Prop} {ws : va_W} {qE aE n k tE mi : Nat} {f : Nat → Option Nat} {ci Nn : Nat} {Cn : String} {Tn : u_T} (hq : ws[qE]? = some (aE, .inl (ay 4, n, .inr (.inr (.inr (.inr f)))))) (hn : n ≤ k) (hk : k ≤ 300) (hf : ∀ i, i < n → ∃ y : Nat, f i = some y ∧ ∃ (qy : Nat) (gs : List Value), ws[qy]? = some (y, .inr (ci, gs))) (hci : vwCl[ci]? = some (Cn, Tn, Nn)) (hca : ∀ U, Gx U → va_Nw (.castable Cn "java/lang/Object") U) (hG : ∀ U, Gx U → vh_G base tE mi U) : Met l yJ7_copyOf_6403c wsJ7_copyOf_6403c ({ frames := 1, cells := 1, slots := 300, locals := 40 } : Room) (va_Pc [.ref aE, .int (nI k), .ref mi] (vg_B D ay base Gx ws)) (va_Qr (fun _ => True) (fun u a t => (fun u a => ∃ cap f2, cap = k ∧ f2 = va_cpy f (fun _ => none) 0 0 n ∧ u[ws.length]? = some (a, .inl (ay 4, cap, .inr (.inr (.inr (.inr f2))))) ∧ u.length = ws.length + 1 ∧ vg_gr ws u [] ∧ (∀ (j : Nat) (y : Nat × va_E), ws[j]? = some y → y.1 ≠ a) ∧ a ≠ tE) u a ∧ vg_B D ay base Gx u t) (vg_A base)) 1 300 (vg_A base) := by
  refine vg_met (cc := cJ7_copyOf_6403c) (maxL := 4) (ret := (some (.array (.object "java/lang/Object")))) (own := RJ7) (lv := [(0, .ref aE), (1, .int (nI k)), (2, .ref mi)]) (by decide) rfl rfl (Nat.le_of_ble_eq_true rfl) rfl ?_
  intro p e s m args below meth c X hinit
  obtain ⟨hZ, ⟨ft, hTT⟩, hAO, hAO4, hMi, hDc, hc2, hc5⟩ := hG s X.2.2.2.2.2.2.2.2.2.2
  refine vg_aload_n X dJ7_copyOf_6403c_0 2 rfl rfl ?_
  refine vg_ldcM X lm_J7_copyOf_6403c hMi dJ7_copyOf_6403c_1 ?_
  refine vg_acmp_ne X 13 dJ7_copyOf_6403c_3 (by decide) (fun c3 => ?_) (fun c3 => ?_)
  · exact absurd rfl c3
  · skip
    refine vg_iload_n X dJ7_copyOf_6403c_6 1 rfl rfl ?_
    refine vg_newO X k nq_J7_copyOf_6403c_2 hAO rfl (by omega) (Nat.le_of_ble_eq_true rfl) (show 0 + k ≤ 300 by omega) dJ7_copyOf_6403c_7 (fun aq1 wz2 ez3 => ?_)
    have fh4 : wz2[ws.length]? = some (aq1, .inl (ay 4, k, .inr (.inr (.inr (.inr (fun _ => none)))))) := vg_pl ez3
    refine vg_useD (fun hD9 => ?_)
    have hfr9 := vg_fresh hD9 ez3
    have haw9 := vg_away hD9 (vg_pl ez3) hTT
    refine vg_goto X 24 dJ7_copyOf_6403c_10 (by decide) ?_
    refine vg_astore_n X [(3, .ref aq1), (0, .ref aE), (1, .int (nI k)), (2, .ref mi)] dJ7_copyOf_6403c_24 rfl (by decide) rfl ?_
    refine vg_aload_n X dJ7_copyOf_6403c_25 1 rfl rfl ?_
    refine vg_iconst X (nI 0) dJ7_copyOf_6403c_26 (by decide) ?_
    refine vg_aload_n X dJ7_copyOf_6403c_27 0 rfl rfl ?_
    refine vg_iconst X (nI 0) dJ7_copyOf_6403c_28 (by decide) ?_
    refine vg_aload_n X dJ7_copyOf_6403c_29 1 rfl rfl ?_
    have fh5 : wz2[qE]? = some (aE, .inl (ay 4, n, .inr (.inr (.inr (.inr f))))) := vg_pn ez3 (hq)
    refine vg_alen X qE 4 fh5 rfl dJ7_copyOf_6403c_30 ?_
    refine vg_iload_n X dJ7_copyOf_6403c_31 2 rfl rfl ?_
    refine vg_mmin X (nI n) mm_J7_copyOf_6403c_min1 mm_J7_copyOf_6403c_min2 mm_J7_copyOf_6403c_min3 mm_J7_copyOf_6403c_min4 (nI_minl (by omega) (by omega) hn) (Nat.le_of_ble_eq_true rfl) (Nat.le_of_ble_eq_true rfl) (Nat.le_of_ble_eq_true rfl) (show 0 + k ≤ 300 by omega) dJ7_copyOf_6403c_32 ?_
    have hel9 : ∀ i, i < n → ∀ y, f i = some y → ∃ (qy : Nat) (gs : List Value), wz2[qy]? = some (y, .inr (ci, gs)) := fun i hi y hy => by
      obtain ⟨y2, h2, qy, gs, hgs⟩ := hf i hi
      cases Option.some.inj (h2.symm.trans hy)
      exact ⟨qy, gs, vg_pn ez3 hgs⟩
    refine vg_copyO X n qE ws.length cp_J7_copyOf_6403c_0 cp_J7_copyOf_6403c_1 cp_J7_copyOf_6403c_2 cp_J7_copyOf_6403c_3 fh5 fh4 (Nat.le_refl n) hn (by omega) hci (hca s X.2.2.2.2.2.2.2.2.2.2) hel9 (Nat.le_of_ble_eq_true rfl) (Nat.le_of_ble_eq_true rfl) dJ7_copyOf_6403c_35 (fun wz6 ez7 => ?_)
    have fh8 : wz6[ws.length]? = some (aq1, .inl (ay 4, k, .inr (.inr (.inr (.inr (va_cpy f (fun _ => none) 0 0 n)))))) := vg_se ez7 fh4
    refine vg_aload_n X dJ7_copyOf_6403c_38 0 rfl rfl ?_
    have hl9 : wz6.length = ws.length + 1 := (vg_sl ez7).trans ((vg_plen ez3).trans (congrArg (· + 1) (rfl)))
    exact vg_aret X rfl (Or.inr ⟨_, rfl⟩) trivial ⟨k, _, rfl, rfl, fh8, hl9, (vg_gr_set (vg_gr_app (vg_gr_rf _ []) ez3) ez7 (Or.inr (Nat.le_refl _))), hfr9, haw9⟩ (Nat.le_of_ble_eq_true rfl) (show 0 + k ≤ 300 by omega) dJ7_copyOf_6403c_39
set_option maxHeartbeats 4000000 in
set_option maxRecDepth 100000 in
/-- copyOf(row, k) -/
theorem c_J7_copyOf_1904c (l : Launch) {D : va_G} {ay : Nat → ClassId} {base : Nat} {Gx : State → Prop} {ws : va_W} {qE aE n k tE mi : Nat} {f : Nat → Option Nat} {ci Nn : Nat} {Cn : String} {Tn : u_T} (hq : ws[qE]? = some (aE, .inl (ay 4, n, .inr (.inr (.inr (.inr f)))))) (hn : n ≤ k) (hk : k ≤ 300) (hf : ∀ i, i < n → ∃ y : Nat, f i = some y ∧ ∃ (qy : Nat) (gs : List Value), ws[qy]? = some (y, .inr (ci, gs))) (hci : vwCl[ci]? = some (Cn, Tn, Nn)) (hca : ∀ U, Gx U → va_Nw (.castable Cn "java/lang/Object") U) (hG : ∀ U, Gx U → vh_G base tE mi U) : Met l yJ7_copyOf_1904c wsJ7_copyOf_1904c ({ frames := 2, cells := 1, slots := 300, locals := 63 } : Room) (va_Pc [.ref aE, .int (nI k)] (vg_B D ay base Gx ws)) (va_Qr (fun _ => True) (fun u a t => (fun u a => ∃ cap f2, cap = k ∧ f2 = va_cpy f (fun _ => none) 0 0 n ∧ u[ws.length]? = some (a, .inl (ay 4, cap, .inr (.inr (.inr (.inr f2))))) ∧ u.length = ws.length + 1 ∧ vg_gr ws u [] ∧ (∀ (j : Nat) (y : Nat × va_E), ws[j]? = some y → y.1 ≠ a) ∧ a ≠ tE) u a ∧ vg_B D ay base Gx u t) (vg_A base)) 1 300 (vg_A base) := by
  refine vg_met (cc := cJ7_copyOf_1904c) (maxL := 2) (ret := (some (.array (.object "java/lang/Object")))) (own := RJ7) (lv := [(0, .ref aE), (1, .int (nI k))]) (by decide) rfl rfl (Nat.le_of_ble_eq_true rfl) rfl ?_
  intro p e s m args below meth c X hinit
  obtain ⟨hZ, ⟨ft, hTT⟩, hAO, hAO4, hMi, hDc, hc2, hc5⟩ := hG s X.2.2.2.2.2.2.2.2.2.2
  refine vg_aload_n X dJ7_copyOf_1904c_0 0 rfl rfl ?_
  refine vg_iload_n X dJ7_copyOf_1904c_1 1 rfl rfl ?_
  refine vg_aload_n X dJ7_copyOf_1904c_2 0 rfl rfl ?_
  refine vg_getC X qE hq gc_J7_copyOf_1904c_0 hDc gc_J7_copyOf_1904c_1 gc_J7_copyOf_1904c_2 gc_J7_copyOf_1904c_3 hMi (Nat.le_of_ble_eq_true rfl) (Nat.le_of_ble_eq_true rfl) dJ7_copyOf_1904c_3 ?_
  refine vg_callr (vg_runS X (c_J7_copyOf_6403c l hq hn hk hf hci hca hG) (va_cwS 3 X.2.2.2.2.1 gJ7_copyOf_1904c_J7_copyOf_6403c rfl rfl rfl (by decide +kernel) ⟨Nat.le_of_ble_eq_true rfl, Nat.le_of_ble_eq_true rfl⟩) rfl rfl (Nat.le_of_ble_eq_true rfl) dJ7_copyOf_1904c_6 ⟨(Nat.le_of_ble_eq_true rfl), (Nat.le_of_ble_eq_true rfl)⟩) (fun rr3 wz1 PP2 PP2q => ?_)
  exact vg_aret X rfl (Or.inr ⟨_, rfl⟩) trivial PP2q (Nat.le_of_ble_eq_true rfl) (Nat.le_of_ble_eq_true rfl) dJ7_copyOf_1904c_9
set_option maxHeartbeats 4000000 in
set_option maxRecDepth 100000 in
/-- grow(1): of the empty row -/
theorem c_grow92_0 (l : Launch) {D : va_G} {ay : Nat → ClassId} {base : Nat} {Gx : State → Prop} {ws : va_W} {q aL tE mi : Nat} {mo : Int32} {el : Nat → Nat} (hq : ws[q]? = some (aL, .inr (2, [.int mo, .ref tE, .int (nI 0)]))) (hG : ∀ U, Gx U → vh_G base tE mi U) : Met l yJx4a65c_grow_92f84 wsJx4a65c_grow_92f84 ({ frames := 3, cells := 1, slots := 300, locals := 86 } : Room) (va_Pc [.ref aL, .int (nI 1)] (vg_B D ay base Gx ws)) (va_Qr (fun _ => True) (fun u a t => (fun u a => cl_gp ay ws u q aL mo tE 0 el a) u a ∧ vg_B D ay base Gx u t) (vg_A base)) 1 300 (vg_A base) := by
  refine vg_met (cc := cJx4a65c_grow_92f84) (maxL := 4) (ret := (some (.array (.object "java/lang/Object")))) (own := RJx4a65c) (lv := [(0, .ref aL), (1, .int (nI 1))]) (by decide) rfl rfl (Nat.le_of_ble_eq_true rfl) rfl ?_
  intro p e s m args below meth c X hinit
  obtain ⟨hZ, ⟨ft, hTT⟩, hAO, hAO4, hMi, hDc, hc2, hc5⟩ := hG s X.2.2.2.2.2.2.2.2.2.2
  have hqlt := (List.getElem?_eq_some_iff.mp hq).1
  refine vg_aload_n X dJx4a65c_grow_92f84_0 0 rfl rfl ?_
  refine vg_get X in_Jx4a65c_grow_92f84_Jx4a65c q hq rfl 1 (by decide) ml_Jx4a65c_grow_92f84_9 rfl rfl dJx4a65c_grow_92f84_1 ?_
  refine vg_tlen X hTT dJx4a65c_grow_92f84_4 ?_
  refine vg_istore_n X [(2, .int (nI 0)), (0, .ref aL), (1, .int (nI 1))] dJx4a65c_grow_92f84_5 rfl (by decide) rfl ?_
  refine vg_iload_n X dJx4a65c_grow_92f84_6 0 rfl rfl ?_
  refine vg_if_gt X 20 dJx4a65c_grow_92f84_7 (by decide) (fun c7 => ?_) (fun c7 => ?_)
  · have c7 : 0 < 0 := (vg_gt0 (by omega)).mp c7
    exact absurd c7 (by decide)
  · have c7 : ¬ 0 < 0 := fun z => c7 ((vg_gt0 (by omega)).mpr z)
    skip
    refine vg_aload_n X dJx4a65c_grow_92f84_10 1 rfl rfl ?_
    refine vg_get X in_Jx4a65c_grow_92f84_Jx4a65c q hq rfl 1 (by decide) ml_Jx4a65c_grow_92f84_9 rfl rfl dJx4a65c_grow_92f84_11 ?_
    refine vg_gets X hZ ml_Jx4a65c_grow_92f84_39 rfl dJx4a65c_grow_92f84_14 ?_
    refine vg_acmp_eq X 45 dJx4a65c_grow_92f84_17 (by decide) (fun c17 => ?_) (fun c17 => ?_)
    · skip
      refine vg_aload_n X dJx4a65c_grow_92f84_45 1 rfl rfl ?_
      refine vg_bipush X (nI 10) dJx4a65c_grow_92f84_46 (by decide) ?_
      refine vg_iload_n X dJx4a65c_grow_92f84_48 2 rfl rfl ?_
      refine vg_mmax X (nI 10) mm_Jx4a65c_grow_92f84_max1 mm_Jx4a65c_grow_92f84_max2 mm_Jx4a65c_grow_92f84_max3 mm_Jx4a65c_grow_92f84_max4 (by decide) (Nat.le_of_ble_eq_true rfl) (Nat.le_of_ble_eq_true rfl) (Nat.le_of_ble_eq_true rfl) (Nat.le_of_ble_eq_true rfl) dJx4a65c_grow_92f84_49 ?_
      refine vg_newO X 10 nq_Jx4a65c_grow_92f84_7 hAO rfl (by decide) (Nat.le_of_ble_eq_true rfl) (Nat.le_of_ble_eq_true rfl) dJx4a65c_grow_92f84_52 (fun aq1 wz2 ez3 => ?_)
      have fh4 : wz2[ws.length]? = some (aq1, .inl (ay 4, 10, .inr (.inr (.inr (.inr (fun _ => none)))))) := vg_pl ez3
      refine vg_useD (fun hD9 => ?_)
      have hfr9 := vg_fresh hD9 ez3
      have haw9 := vg_away hD9 (vg_pl ez3) hTT
      refine vg_dup_x1 X dJx4a65c_grow_92f84_55 rfl rfl ?_
      have fh5 : wz2[q]? = some (aL, .inr (2, [.int mo, .ref tE, .int (nI 0)])) := vg_pn ez3 (hq)
      refine vg_put X in_Jx4a65c_grow_92f84_Jx4a65c tyJx4a65c tyJx4a65c_ok nmJx4a65c q fh5 rfl 1 (by decide) ml_Jx4a65c_grow_92f84_9 rfl rfl rfl rfl (Nat.le_of_ble_eq_true rfl) dJx4a65c_grow_92f84_56 (fun wz6 ez7 => ?_)
      have fh8 : wz6[q]? = some (aL, .inr (2, [.int mo, .ref aq1, .int (nI 0)])) := vg_se ez7 fh5
      have fh9 : wz6[ws.length]? = some (aq1, .inl (ay 4, 10, .inr (.inr (.inr (.inr (fun _ => none)))))) := (vg_sn ez7 (by omega)).trans (fh4)
      have hl10 : wz6.length = ws.length + 1 := (vg_sl ez7).trans ((vg_plen ez3).trans (congrArg (· + 1) (rfl)))
      exact vg_aret X rfl (Or.inr ⟨_, rfl⟩) trivial ⟨10, _, fh8, fh9, hl10, by decide, by decide, by decide, fun i hi => absurd hi (Nat.not_lt_zero i), (vg_gr_set (vg_gr_app (vg_gr_rf _ [q]) ez3) ez7 (Or.inl (List.mem_singleton.mpr rfl))), hfr9, haw9⟩ (Nat.le_of_ble_eq_true rfl) (Nat.le_of_ble_eq_true rfl) dJx4a65c_grow_92f84_59
    · exact absurd rfl c17
set_option maxHeartbeats 4000000 in
set_option maxRecDepth 100000 in
/-- grow(cnt + 1): of a full row -/
theorem c_grow92_1 (l : Launch) {D : va_G} {ay : Nat → ClassId} {base : Nat} {Gx : State → Prop} {ws : va_W} {q aL tE mi cnt aE qE : Nat} {mo : Int32} {el : Nat → Nat} {f : Nat → Option Nat} {ci Nn : Nat} {Cn : String} {Tn : u_T} (hq : ws[q]? = some (aL, .inr (2, [.int mo, .ref aE, .int (nI cnt)]))) (hE : ws[qE]? = some (aE, .inl (ay 4, cnt, .inr (.inr (.inr (.inr f)))))) (h10 : 10 ≤ cnt) (h150 : cnt ≤ 150) (hf : ∀ i, i < cnt → f i = some (el i)) (hel : ∀ i, i < cnt → ∃ (qy : Nat) (gs : List Value), ws[qy]? = some (el i, .inr (ci, gs))) (hci : vwCl[ci]? = some (Cn, Tn, Nn)) (hca : ∀ U, Gx U → va_Nw (.castable Cn "java/lang/Object") U) (hG : ∀ U, Gx U → vh_G base tE mi U) : Met l yJx4a65c_grow_92f84 wsJx4a65c_grow_92f84 ({ frames := 3, cells := 1, slots := 300, locals := 86 } : Room) (va_Pc [.ref aL, .int (nI (cnt + 1))] (vg_B D ay base Gx ws)) (va_Qr (fun _ => True) (fun u a t => (fun u a => cl_gp ay ws u q aL mo tE cnt el a) u a ∧ vg_B D ay base Gx u t) (vg_A base)) 1 300 (vg_A base) := by
  refine vg_met (cc := cJx4a65c_grow_92f84) (maxL := 4) (ret := (some (.array (.object "java/lang/Object")))) (own := RJx4a65c) (lv := [(0, .ref aL), (1, .int (nI (cnt + 1)))]) (by decide) rfl rfl (Nat.le_of_ble_eq_true rfl) rfl ?_
  intro p e s m args below meth c X hinit
  obtain ⟨hZ, ⟨ft, hTT⟩, hAO, hAO4, hMi, hDc, hc2, hc5⟩ := hG s X.2.2.2.2.2.2.2.2.2.2
  have hqlt := (List.getElem?_eq_some_iff.mp hq).1
  refine vg_aload_n X dJx4a65c_grow_92f84_0 0 rfl rfl ?_
  refine vg_get X in_Jx4a65c_grow_92f84_Jx4a65c q hq rfl 1 (by decide) ml_Jx4a65c_grow_92f84_9 rfl rfl dJx4a65c_grow_92f84_1 ?_
  refine vg_alen X qE 4 hE rfl dJx4a65c_grow_92f84_4 ?_
  refine vg_istore_n X [(2, .int (nI cnt)), (0, .ref aL), (1, .int (nI (cnt + 1)))] dJx4a65c_grow_92f84_5 rfl (by decide) rfl ?_
  refine vg_iload_n X dJx4a65c_grow_92f84_6 0 rfl rfl ?_
  refine vg_if_gt X 20 dJx4a65c_grow_92f84_7 (by decide) (fun c7 => ?_) (fun c7 => ?_)
  · have c7 : 0 < cnt := (vg_gt0 (by omega)).mp c7
    skip
    refine vg_iload_n X dJx4a65c_grow_92f84_20 0 rfl rfl ?_
    refine vg_iload_n X dJx4a65c_grow_92f84_21 2 rfl rfl ?_
    refine vg_iload_n X dJx4a65c_grow_92f84_22 0 rfl rfl ?_
    refine vg_isub X (nI 1) dJx4a65c_grow_92f84_23 (by rw [pk_sub (by omega), show cnt + 1 - cnt = 1 by omega]) ?_
    refine vg_iload_n X dJx4a65c_grow_92f84_24 0 rfl rfl ?_
    refine vg_iconst X (nI 1) dJx4a65c_grow_92f84_25 (by decide) ?_
    refine vg_ishr X (nI (cnt / 2)) dJx4a65c_grow_92f84_26 (by have k9 := pk_shrN (n := cnt) (by omega) (nI 1 &&& 31) 1 (by decide); rw [Nat.pow_one] at k9; exact k9) ?_
    refine vg_calli (vg_runS X (c_J8_newLength_cabcc l (n := cnt) (x := 1) (y := cnt / 2) (by omega) (by omega) (by omega)) (va_cwS 3 X.2.2.2.2.1 gJx4a65c_grow_92f84_J8_newLength_cabcc rfl rfl rfl (by decide +kernel) ⟨Nat.le_of_ble_eq_true rfl, Nat.le_of_ble_eq_true rfl⟩) rfl rfl (Nat.le_of_ble_eq_true rfl) dJx4a65c_grow_92f84_27 ⟨(Nat.le_of_ble_eq_true rfl), (Nat.le_of_ble_eq_true rfl)⟩) (fun rr3 wz1 PP2 => ?_)
    obtain ⟨hw8, hr8⟩ := PP2
    rw [hw8]
    have e8 : rr3 = nI (cnt + cnt / 2) := by rw [hr8, show max 1 (cnt / 2) = cnt / 2 by omega]
    subst e8
    refine vg_istore_n X [(3, .int (nI (cnt + cnt / 2))), (2, .int (nI cnt)), (0, .ref aL), (1, .int (nI (cnt + 1)))] dJx4a65c_grow_92f84_30 rfl (by decide) rfl ?_
    refine vg_aload_n X dJx4a65c_grow_92f84_31 2 rfl rfl ?_
    refine vg_aload_n X dJx4a65c_grow_92f84_32 2 rfl rfl ?_
    refine vg_get X in_Jx4a65c_grow_92f84_Jx4a65c q hq rfl 1 (by decide) ml_Jx4a65c_grow_92f84_9 rfl rfl dJx4a65c_grow_92f84_33 ?_
    refine vg_iload_n X dJx4a65c_grow_92f84_36 0 rfl rfl ?_
    refine vg_callr (vg_runS X (c_J7_copyOf_1904c l hE (k := cnt + cnt / 2) (by omega) (by omega) (fun i hi => ⟨el i, hf i hi, hel i hi⟩) hci hca hG) (va_cwS 2 X.2.2.2.2.1 gJx4a65c_grow_92f84_J7_copyOf_1904c rfl rfl rfl (by decide +kernel) ⟨Nat.le_of_ble_eq_true rfl, Nat.le_of_ble_eq_true rfl⟩) rfl rfl (Nat.le_of_ble_eq_true rfl) dJx4a65c_grow_92f84_37 ⟨(Nat.le_of_ble_eq_true rfl), (Nat.le_of_ble_eq_true rfl)⟩) (fun rr6 wz4 PP5 PP5q => ?_)
    obtain ⟨cap9, f9, ec9, ef9, g1, g2, g3, g4, g5⟩ := PP5q
    have x0 := (g3.2 q hqlt (List.not_mem_nil)).trans hq
    refine vg_dup_x1 X dJx4a65c_grow_92f84_40 rfl rfl ?_
    refine vg_put X in_Jx4a65c_grow_92f84_Jx4a65c tyJx4a65c tyJx4a65c_ok nmJx4a65c q x0 rfl 1 (by decide) ml_Jx4a65c_grow_92f84_9 rfl rfl rfl rfl (Nat.le_of_ble_eq_true rfl) dJx4a65c_grow_92f84_41 (fun wz7 ez8 => ?_)
    have fh9 : wz7[q]? = some (aL, .inr (2, [.int mo, .ref rr6, .int (nI cnt)])) := vg_se ez8 x0
    have fh10 : wz7[ws.length]? = some (rr6, .inl (ay 4, cap9, .inr (.inr (.inr (.inr f9))))) := (vg_sn ez8 (by omega)).trans (g1)
    have hl11 : wz7.length = ws.length + 1 := (vg_sl ez8).trans (g2)
    exact vg_aret X rfl (Or.inr ⟨_, rfl⟩) trivial ⟨cap9, f9, fh9, fh10, hl11, by omega, by omega, by omega, fun i hi => by rw [ef9, pk_cpy_in (by omega) (by omega), show 0 + (i - 0) = i by omega]; exact hf i hi, vg_gr_set (vg_gr_tr (L := [q]) ⟨g3.1, fun j h1 _ => g3.2 j h1 List.not_mem_nil⟩ (vg_gr_rf _ [q]) (fun j hj => Or.inl hj)) ez8 (Or.inl (List.mem_singleton.mpr rfl)), g4, g5⟩ (Nat.le_of_ble_eq_true rfl) (Nat.le_of_ble_eq_true rfl) dJx4a65c_grow_92f84_44
  · have c7 : ¬ 0 < cnt := fun z => c7 ((vg_gt0 (by omega)).mpr z)
    exact absurd c7 (by omega)
set_option maxHeartbeats 4000000 in
set_option maxRecDepth 100000 in
/-- grow() -/
theorem c_growd5_0 (l : Launch) {D : va_G} {ay : Nat → ClassId} {base : Nat} {Gx : State → Prop} {ws : va_W} {q aL tE mi : Nat} {mo : Int32} {el : Nat → Nat} (hq : ws[q]? = some (aL, .inr (2, [.int mo, .ref tE, .int (nI 0)]))) (hG : ∀ U, Gx U → vh_G base tE mi U) : Met l yJx4a65c_grow_d5877 wsJx4a65c_grow_d5877 ({ frames := 4, cells := 1, slots := 300, locals := 109 } : Room) (va_Pc [.ref aL] (vg_B D ay base Gx ws)) (va_Qr (fun _ => True) (fun u a t => (fun u a => cl_gp ay ws u q aL mo tE 0 el a) u a ∧ vg_B D ay base Gx u t) (vg_A base)) 1 300 (vg_A base) := by
  refine vg_met (cc := cJx4a65c_grow_d5877) (maxL := 1) (ret := (some (.array (.object "java/lang/Object")))) (own := RJx4a65c) (lv := [(0, .ref aL)]) (by decide) rfl rfl (Nat.le_of_ble_eq_true rfl) rfl ?_
  intro p e s m args below meth c X hinit
  refine vg_aload_n X dJx4a65c_grow_d5877_0 0 rfl rfl ?_
  refine vg_aload_n X dJx4a65c_grow_d5877_1 0 rfl rfl ?_
  refine vg_get X in_Jx4a65c_grow_d5877_Jx4a65c q hq rfl 2 (by decide) ml_Jx4a65c_grow_d5877_48 rfl rfl dJx4a65c_grow_d5877_2 ?_
  refine vg_iconst X (nI 1) dJx4a65c_grow_d5877_5 (by decide) ?_
  refine vg_iadd X (nI 1) dJx4a65c_grow_d5877_6 (nI_add _ _) ?_
  refine vg_callr (vg_runV X (c_grow92_0 l hq hG (el := el)) (cwV 1 X.2.2.2.2.1 gJx4a65c_grow_d5877_Jx4a65c_grow_92f84 rfl rfl rfl (by decide +kernel) ⟨Nat.le_of_ble_eq_true rfl, Nat.le_of_ble_eq_true rfl⟩) q hq rfl rfl rfl (Nat.le_of_ble_eq_true rfl) dJx4a65c_grow_d5877_7 ⟨(Nat.le_of_ble_eq_true rfl), (Nat.le_of_ble_eq_true rfl)⟩) (fun rr3 wz1 PP2 PP2q => ?_)
  exact vg_aret X rfl (Or.inr ⟨_, rfl⟩) trivial PP2q (Nat.le_of_ble_eq_true rfl) (Nat.le_of_ble_eq_true rfl) dJx4a65c_grow_d5877_10
set_option maxHeartbeats 4000000 in
set_option maxRecDepth 100000 in
/-- grow() -/
theorem c_growd5_1 (l : Launch) {D : va_G} {ay : Nat → ClassId} {base : Nat} {Gx : State → Prop} {ws : va_W} {q aL tE mi cnt aE qE : Nat} {mo : Int32} {el : Nat → Nat} {f : Nat → Option Nat} {ci Nn : Nat} {Cn : String} {Tn : u_T} (hq : ws[q]? = some (aL, .inr (2, [.int mo, .ref aE, .int (nI cnt)]))) (hE : ws[qE]? = some (aE, .inl (ay 4, cnt, .inr (.inr (.inr (.inr f)))))) (h10 : 10 ≤ cnt) (h150 : cnt ≤ 150) (hf : ∀ i, i < cnt → f i = some (el i)) (hel : ∀ i, i < cnt → ∃ (qy : Nat) (gs : List Value), ws[qy]? = some (el i, .inr (ci, gs))) (hci : vwCl[ci]? = some (Cn, Tn, Nn)) (hca : ∀ U, Gx U → va_Nw (.castable Cn "java/lang/Object") U) (hG : ∀ U, Gx U → vh_G base tE mi U) : Met l yJx4a65c_grow_d5877 wsJx4a65c_grow_d5877 ({ frames := 4, cells := 1, slots := 300, locals := 109 } : Room) (va_Pc [.ref aL] (vg_B D ay base Gx ws)) (va_Qr (fun _ => True) (fun u a t => (fun u a => cl_gp ay ws u q aL mo tE cnt el a) u a ∧ vg_B D ay base Gx u t) (vg_A base)) 1 300 (vg_A base) := by
  refine vg_met (cc := cJx4a65c_grow_d5877) (maxL := 1) (ret := (some (.array (.object "java/lang/Object")))) (own := RJx4a65c) (lv := [(0, .ref aL)]) (by decide) rfl rfl (Nat.le_of_ble_eq_true rfl) rfl ?_
  intro p e s m args below meth c X hinit
  refine vg_aload_n X dJx4a65c_grow_d5877_0 0 rfl rfl ?_
  refine vg_aload_n X dJx4a65c_grow_d5877_1 0 rfl rfl ?_
  refine vg_get X in_Jx4a65c_grow_d5877_Jx4a65c q hq rfl 2 (by decide) ml_Jx4a65c_grow_d5877_48 rfl rfl dJx4a65c_grow_d5877_2 ?_
  refine vg_iconst X (nI 1) dJx4a65c_grow_d5877_5 (by decide) ?_
  refine vg_iadd X (nI (cnt + 1)) dJx4a65c_grow_d5877_6 (nI_add _ _) ?_
  refine vg_callr (vg_runV X (c_grow92_1 l hq hE h10 h150 hf hel hci hca hG) (cwV 1 X.2.2.2.2.1 gJx4a65c_grow_d5877_Jx4a65c_grow_92f84 rfl rfl rfl (by decide +kernel) ⟨Nat.le_of_ble_eq_true rfl, Nat.le_of_ble_eq_true rfl⟩) q hq rfl rfl rfl (Nat.le_of_ble_eq_true rfl) dJx4a65c_grow_d5877_7 ⟨(Nat.le_of_ble_eq_true rfl), (Nat.le_of_ble_eq_true rfl)⟩) (fun rr3 wz1 PP2 PP2q => ?_)
  exact vg_aret X rfl (Or.inr ⟨_, rfl⟩) trivial PP2q (Nat.le_of_ble_eq_true rfl) (Nat.le_of_ble_eq_true rfl) dJx4a65c_grow_d5877_10
