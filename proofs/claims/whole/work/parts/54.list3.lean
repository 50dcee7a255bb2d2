theorem cl_gr_of {ay : Nat → ClassId} {ws u : va_W} {q aE : Nat} (h : vg_gr ws u [q]) : cl_gr ay ws u q aE := ⟨h.1, fun j h1 h2 _ => h.2 j h1 (fun z => h2 (List.mem_singleton.mp z))⟩
/-- the list at q has the row at aE and cnt elements -/
def cl_at (ay : Nat → ClassId) (ws : va_W) (q aL tE aE cnt : Nat) (el : Nat → Nat) : Prop := (∃ mo : Int32, ws[q]? = some (aL, .inr (2, [.int mo, .ref aE, .int (nI cnt)]))) ∧ ((cnt = 0 ∧ aE = tE) ∨ ∃ (qE cap : Nat) (f : Nat → Option Nat), ws[qE]? = some (aE, .inl (ay 4, cap, .inr (.inr (.inr (.inr f))))) ∧ 56 ≤ qE ∧ cnt ≤ cap ∧ 10 ≤ cap ∧ cap ≤ 300 ∧ aE ≠ tE ∧ (∀ i, i < cnt → f i = some (el i)))
theorem cl_at_L {ay : Nat → ClassId} {ws : va_W} {q aL tE aE cnt : Nat} {el : Nat → Nat} (h : cl_at ay ws q aL tE aE cnt el) : cl_L ay ws q aL tE cnt el := by
  obtain ⟨⟨mo, h1⟩, h2⟩ := h
  exact ⟨mo, aE, h1, h2.imp id (fun ⟨qE, cap, f, g1, g2, g3, g4, g5, _, g6⟩ => ⟨qE, cap, f, g1, g2, g3, g4, g5, g6⟩)⟩
/-- only the list's object was changed, its address not: what is said of the ledger after it is said of the one before -/
theorem cl_ad_pre {ay : Nat → ClassId} {ws ws1 u : va_W} {q aL tE aE cnt : Nat} {el : Nat → Nat} {x : Nat} {y z9 : va_E} (h : cl_ad ay ws1 u q aL tE aE cnt el x) (hq : ws[q]? = some (aL, y)) (e : ws1 = ws.set q (aL, z9)) : cl_ad ay ws u q aL tE aE cnt el x := by
  obtain ⟨mo2, aE2, qE2, cap2, f2, h1, h2, h3, h4, h5, h6, h7, h8, h9, h10, h11⟩ := h
  refine ⟨mo2, aE2, qE2, cap2, f2, h1, h2, h3, h4, h5, h6, h7, h8, ⟨?_, fun j g1 g2 g3 => ?_⟩, ?_, h11⟩
  · have := h9.1; rw [vg_sl e] at this; exact this
  · have g4 := vg_sn e (fun z => g2 z.symm) (j := j)
    rw [← g4]; exact h9.2 j (by rw [vg_sl e]; exact g1) g2 (fun cap f z => g3 cap f (g4.symm.trans z))
  · rcases h10 with g | g
    · exact Or.inl g
    · refine Or.inr (fun j y2 hy => ?_)
      by_cases c9 : q = j
      · subst c9
        have := g q _ (vg_se e hq)
        rw [hq] at hy
        cases hy
        exact this
      · exact g j y2 ((vg_sn e c9).trans hy)
theorem in_Jx4a65c_add_72be8_Jx4a65c : ∀ w ∈ u_ws RJx4a65c TJx4a65c 3, w ∈ wsJx4a65c_add_72be8 := by decide +kernel
theorem ml_Jx4a65c_add_72be8_48 : Cond.fieldLink RJx4a65c 48 "java/util/ArrayList" "size" "I" ∈ wsJx4a65c_add_72be8 := by decide +kernel
theorem sf_Jx4a65c_add_9ea2d : Cond.sameField "java/util/ArrayList" "java/util/AbstractList" "modCount" "I" ∈ wsJx4a65c_add_9ea2d := by decide +kernel
theorem in_Jx4a65c_add_9ea2d_Jx4a65c : ∀ w ∈ u_ws RJx4a65c TJx4a65c 3, w ∈ wsJx4a65c_add_9ea2d := by decide +kernel
theorem ml_Jx4a65c_add_9ea2d_63 : Cond.fieldLink RJx4a65c 63 "java/util/ArrayList" "modCount" "I" ∈ wsJx4a65c_add_9ea2d := by decide +kernel
theorem ml_Jx4a65c_add_9ea2d_9 : Cond.fieldLink RJx4a65c 9 "java/util/ArrayList" "elementData" "[Ljava/lang/Object;" ∈ wsJx4a65c_add_9ea2d := by decide +kernel
theorem ml_Jx4a65c_add_9ea2d_48 : Cond.fieldLink RJx4a65c 48 "java/util/ArrayList" "size" "I" ∈ wsJx4a65c_add_9ea2d := by decide +kernel
theorem sf_Jx4a65c_clear_da8c8 : Cond.sameField "java/util/ArrayList" "java/util/AbstractList" "modCount" "I" ∈ wsJx4a65c_clear_da8c8 := by decide +kernel
theorem in_Jx4a65c_clear_da8c8_Jx4a65c : ∀ w ∈ u_ws RJx4a65c TJx4a65c 3, w ∈ wsJx4a65c_clear_da8c8 := by decide +kernel
theorem ml_Jx4a65c_clear_da8c8_63 : Cond.fieldLink RJx4a65c 63 "java/util/ArrayList" "modCount" "I" ∈ wsJx4a65c_clear_da8c8 := by decide +kernel
theorem ml_Jx4a65c_clear_da8c8_9 : Cond.fieldLink RJx4a65c 9 "java/util/ArrayList" "elementData" "[Ljava/lang/Object;" ∈ wsJx4a65c_clear_da8c8 := by decide +kernel
theorem ml_Jx4a65c_clear_da8c8_48 : Cond.fieldLink RJx4a65c 48 "java/util/ArrayList" "size" "I" ∈ wsJx4a65c_clear_da8c8 := by decide +kernel
set_option maxHeartbeats 4000000 in
set_option maxRecDepth 100000 in
/-- add(e, row, size) -/
theorem c_add72_0 (l : Launch) {D : va_G} {ay : Nat → ClassId} {base : Nat} {Gx : State → Prop} {ws : va_W} {q aL tE mi : Nat} {mo : Int32} {el : Nat → Nat} {ci Nn : Nat} {Cn : String} {Tn : u_T} {x qx : Nat} {gx : List Value} (hq : ws[q]? = some (aL, .inr (2, [.int mo, .ref tE, .int (nI 0)]))) (hci : vwCl[ci]? = some (Cn, Tn, Nn)) (hca : ∀ U, Gx U → va_Nw (.castable Cn "java/lang/Object") U) (hG : ∀ U, Gx U → vh_G base tE mi U) (hx : ws[qx]? = some (x, .inr (ci, gx))) (h56 : 56 ≤ ws.length) (hc9 : ci ≠ 2) : Met l yJx4a65c_add_72be8 wsJx4a65c_add_72be8 ({ frames := 5, cells := 1, slots := 300, locals := 134 } : Room) (va_Pc [.ref aL, .ref x, .ref tE, .int (nI 0)] (vg_B D ay base Gx ws)) (va_Qv (fun u => cl_ad ay ws u q aL tE tE 0 el x) (vg_B D ay base Gx) (vg_A base)) 1 300 (vg_A base) := by
  refine vg_met (cc := cJx4a65c_add_72be8) (maxL := 4) (ret := none) (own := RJx4a65c) (lv := [(0, .ref aL), (1, .ref x), (2, .ref tE), (3, .int (nI 0))]) (by decide) rfl rfl (Nat.le_of_ble_eq_true rfl) rfl ?_
  intro p e s m args below meth c X hinit
  obtain ⟨hZ, ⟨ft, hTT⟩, hAO, hAO4, hMi, hDc, hc2, hc5⟩ := hG s X.2.2.2.2.2.2.2.2.2.2
  have hqlt := (List.getElem?_eq_some_iff.mp hq).1
  refine vg_iload_n X dJx4a65c_add_72be8_0 3 rfl rfl ?_
  refine vg_aload_n X dJx4a65c_add_72be8_1 2 rfl rfl ?_
  refine vg_tlen X hTT dJx4a65c_add_72be8_2 ?_
  refine vg_icmp_ne X 11 dJx4a65c_add_72be8_3 (by decide) (fun c3 => ?_) (fun c3 => ?_)
  · have c3 : ¬ 0 = 0 := fun z => c3 ((nI_eq (by omega) (by omega)).mpr z)
    exact absurd (rfl : (0 : Nat) = 0) c3
  · have c3 : 0 = 0 := (nI_eq (by omega) (by omega)).mp c3
    skip
    refine vg_aload_n X dJx4a65c_add_72be8_6 0 rfl rfl ?_
    refine vg_callr (vg_runV X (c_growd5_0 l hq hG (el := el)) (cwV 0 X.2.2.2.2.1 gJx4a65c_add_72be8_Jx4a65c_grow_d5877 rfl rfl rfl (by decide +kernel) ⟨Nat.le_of_ble_eq_true rfl, Nat.le_of_ble_eq_true rfl⟩) q hq rfl rfl rfl (Nat.le_of_ble_eq_true rfl) dJx4a65c_add_72be8_7 ⟨(Nat.le_of_ble_eq_true rfl), (Nat.le_of_ble_eq_true rfl)⟩) (fun rr3 wz1 PP2 PP2q => ?_)
    obtain ⟨cap9, f9, g1, g2, g3, g4, g5, g6, g7, g8, g9, g10⟩ := PP2q
    have hxlt := (List.getElem?_eq_some_iff.mp hx).1
    have hxq : qx ∉ [q] := fun z => by rw [List.mem_singleton.mp z] at hx; rw [hx] at hq; cases hq; exact hc9 rfl
    have x1 := (g8.2 qx hxlt hxq).trans hx
    refine vg_astore_n X [(2, .ref rr3), (0, .ref aL), (1, .ref x), (3, .int (nI 0))] dJx4a65c_add_72be8_10 rfl (by decide) rfl ?_
    refine vg_aload_n X dJx4a65c_add_72be8_11 0 rfl rfl ?_
    refine vg_iload_n X dJx4a65c_add_72be8_12 3 rfl rfl ?_
    refine vg_aload_n X dJx4a65c_add_72be8_13 2 rfl rfl ?_
    refine vg_aastO X ws.length g2 qx (hca s X.2.2.2.2.2.2.2.2.2.2) x1 hci rfl (by omega) (by omega) dJx4a65c_add_72be8_14 (fun wz4 ez5 => ?_)
    have fh6 : wz4[ws.length]? = some (rr3, .inl (ay 4, cap9, .inr (.inr (.inr (.inr (va_up f9 0 (some x))))))) := vg_se ez5 g2
    refine vg_aload_n X dJx4a65c_add_72be8_15 1 rfl rfl ?_
    refine vg_iload_n X dJx4a65c_add_72be8_16 3 rfl rfl ?_
    refine vg_iconst X (nI 1) dJx4a65c_add_72be8_17 (by decide) ?_
    refine vg_iadd X (nI 1) dJx4a65c_add_72be8_18 (nI_add _ _) ?_
    have fh7 : wz4[q]? = some (aL, .inr (2, [.int mo, .ref rr3, .int (nI 0)])) := (vg_sn ez5 (by omega)).trans (g1)
    refine vg_put X in_Jx4a65c_add_72be8_Jx4a65c tyJx4a65c tyJx4a65c_ok nmJx4a65c q fh7 rfl 2 (by decide) ml_Jx4a65c_add_72be8_48 rfl rfl rfl rfl (Nat.le_of_ble_eq_true rfl) dJx4a65c_add_72be8_19 (fun wz8 ez9 => ?_)
    have fh10 : wz8[q]? = some (aL, .inr (2, [.int mo, .ref rr3, .int (nI 1)])) := vg_se ez9 fh7
    have fh11 : wz8[ws.length]? = some (rr3, .inl (ay 4, cap9, .inr (.inr (.inr (.inr (va_up f9 0 (some x))))))) := (vg_sn ez9 (by omega)).trans (fh6)
    exact vg_vret X rfl ⟨mo, rr3, ws.length, cap9, _, fh10, fh11, h56, by omega, g5, g6, fun i hi => by unfold va_up; rw [if_neg (by omega)]; exact g7 i hi, by unfold va_up; rw [if_pos rfl], cl_gr_of (vg_gr_set (vg_gr_set g8 ez5 (Or.inr (Nat.le_refl _))) ez9 (Or.inl (List.mem_singleton.mpr rfl))), Or.inr g9, g10⟩ (Nat.le_of_ble_eq_true rfl) (Nat.le_of_ble_eq_true rfl) dJx4a65c_add_72be8_22
set_option maxHeartbeats 4000000 in
set_option maxRecDepth 100000 in
/-- add(e, row, size) -/
theorem c_add72_1 (l : Launch) {D : va_G} {ay : Nat → ClassId} {base : Nat} {Gx : State → Prop} {ws : va_W} {q aL tE mi cnt aE qE cap : Nat} {mo : Int32} {el : Nat → Nat} {f : Nat → Option Nat} {ci Nn : Nat} {Cn : String} {Tn : u_T} {x qx : Nat} {gx : List Value} (hq : ws[q]? = some (aL, .inr (2, [.int mo, .ref aE, .int (nI cnt)]))) (hE : ws[qE]? = some (aE, .inl (ay 4, cap, .inr (.inr (.inr (.inr f)))))) (hE56 : 56 ≤ qE) (hroom : cnt < cap) (h10 : 10 ≤ cap) (h300 : cap ≤ 300) (hf : ∀ i, i < cnt → f i = some (el i)) (hci : vwCl[ci]? = some (Cn, Tn, Nn)) (hca : ∀ U, Gx U → va_Nw (.castable Cn "java/lang/Object") U) (hG : ∀ U, Gx U → vh_G base tE mi U) (hx : ws[qx]? = some (x, .inr (ci, gx))) (h56 : 56 ≤ ws.length) (hc9 : ci ≠ 2) : Met l yJx4a65c_add_72be8 wsJx4a65c_add_72be8 ({ frames := 5, cells := 1, slots := 300, locals := 134 } : Room) (va_Pc [.ref aL, .ref x, .ref aE, .int (nI cnt)] (vg_B D ay base Gx ws)) (va_Qv (fun u => cl_ad ay ws u q aL tE aE cnt el x) (vg_B D ay base Gx) (vg_A base)) 1 300 (vg_A base) := by
  refine vg_met (cc := cJx4a65c_add_72be8) (maxL := 4) (ret := none) (own := RJx4a65c) (lv := [(0, .ref aL), (1, .ref x), (2, .ref aE), (3, .int (nI cnt))]) (by decide) rfl rfl (Nat.le_of_ble_eq_true rfl) rfl ?_
  intro p e s m args below meth c X hinit
  obtain ⟨hZ, ⟨ft, hTT⟩, hAO, hAO4, hMi, hDc, hc2, hc5⟩ := hG s X.2.2.2.2.2.2.2.2.2.2
  have hqlt := (List.getElem?_eq_some_iff.mp hq).1
  have hne : ¬ qE = q := fun z => by rw [z] at hE; rw [hE] at hq; cases hq
  have hne2 : ¬ qE = qx := fun z => by rw [z] at hE; rw [hE] at hx; cases hx
  refine vg_useD (fun hD9 => ?_)
  have haw9 := vg_away hD9 hE hTT
  refine vg_iload_n X dJx4a65c_add_72be8_0 3 rfl rfl ?_
  refine vg_aload_n X dJx4a65c_add_72be8_1 2 rfl rfl ?_
  refine vg_alen X qE 4 hE rfl dJx4a65c_add_72be8_2 ?_
  refine vg_icmp_ne X 11 dJx4a65c_add_72be8_3 (by decide) (fun c3 => ?_) (fun c3 => ?_)
  · have c3 : ¬ cnt = cap := fun z => c3 ((nI_eq (by omega) (by omega)).mpr z)
    skip
    refine vg_aload_n X dJx4a65c_add_72be8_11 2 rfl rfl ?_
    refine vg_iload_n X dJx4a65c_add_72be8_12 3 rfl rfl ?_
    refine vg_aload_n X dJx4a65c_add_72be8_13 1 rfl rfl ?_
    refine vg_aastO X qE hE qx (hca s X.2.2.2.2.2.2.2.2.2.2) hx hci rfl (by omega) (by omega) dJx4a65c_add_72be8_14 (fun wz1 ez2 => ?_)
    have fh3 : wz1[qE]? = some (aE, .inl (ay 4, cap, .inr (.inr (.inr (.inr (va_up f cnt (some x))))))) := vg_se ez2 hE
    refine vg_aload_n X dJx4a65c_add_72be8_15 0 rfl rfl ?_
    refine vg_iload_n X dJx4a65c_add_72be8_16 3 rfl rfl ?_
    refine vg_iconst X (nI 1) dJx4a65c_add_72be8_17 (by decide) ?_
    refine vg_iadd X (nI (cnt + 1)) dJx4a65c_add_72be8_18 (nI_add _ _) ?_
    have fh4 : wz1[q]? = some (aL, .inr (2, [.int mo, .ref aE, .int (nI cnt)])) := (vg_sn ez2 (by omega)).trans (hq)
    refine vg_put X in_Jx4a65c_add_72be8_Jx4a65c tyJx4a65c tyJx4a65c_ok nmJx4a65c q fh4 rfl 2 (by decide) ml_Jx4a65c_add_72be8_48 rfl rfl rfl rfl (Nat.le_of_ble_eq_true rfl) dJx4a65c_add_72be8_19 (fun wz5 ez6 => ?_)
    have fh7 : wz5[q]? = some (aL, .inr (2, [.int mo, .ref aE, .int (nI (cnt + 1))])) := vg_se ez6 fh4
    have fh8 : wz5[qE]? = some (aE, .inl (ay 4, cap, .inr (.inr (.inr (.inr (va_up f cnt (some x))))))) := (vg_sn ez6 (by omega)).trans (fh3)
    exact vg_vret X rfl ⟨mo, aE, qE, cap, _, fh7, fh8, hE56, hroom, h10, h300, fun i hi => by unfold va_up; rw [if_neg (by omega)]; exact hf i hi, by unfold va_up; rw [if_pos rfl], ⟨by rw [vg_sl ez6, vg_sl ez2]; exact Nat.le_refl _, fun j q1 q2 q3 => (vg_sn ez6 (fun z => q2 z.symm)).trans (vg_sn ez2 (fun z => q3 cap f (by rw [← z]; exact hE)))⟩, Or.inl rfl, haw9⟩ (Nat.le_of_ble_eq_true rfl) (Nat.le_of_ble_eq_true rfl) dJx4a65c_add_72be8_22
  · have c3 : cnt = cap := (nI_eq (by omega) (by omega)).mp c3
    exact absurd c3 (by omega)
set_option maxHeartbeats 4000000 in
set_option maxRecDepth 100000 in
/-- add(e, row, size) -/
theorem c_add72_2 (l : Launch) {D : va_G} {ay : Nat → ClassId} {base : Nat} {Gx : State → Prop} {ws : va_W} {q aL tE mi cnt aE qE : Nat} {mo : Int32} {el : Nat → Nat} {f : Nat → Option Nat} {ci Nn : Nat} {Cn : String} {Tn : u_T} {x qx : Nat} {gx : List Value} (hq : ws[q]? = some (aL, .inr (2, [.int mo, .ref aE, .int (nI cnt)]))) (hE : ws[qE]? = some (aE, .inl (ay 4, cnt, .inr (.inr (.inr (.inr f)))))) (h10 : 10 ≤ cnt) (h150 : cnt ≤ 150) (hf : ∀ i, i < cnt → f i = some (el i)) (hel : ∀ i, i < cnt → ∃ (qy : Nat) (gs : List Value), ws[qy]? = some (el i, .inr (ci, gs))) (hci : vwCl[ci]? = some (Cn, Tn, Nn)) (hca : ∀ U, Gx U → va_Nw (.castable Cn "java/lang/Object") U) (hG : ∀ U, Gx U → vh_G base tE mi U) (hx : ws[qx]? = some (x, .inr (ci, gx))) (h56 : 56 ≤ ws.length) (hc9 : ci ≠ 2) : Met l yJx4a65c_add_72be8 wsJx4a65c_add_72be8 ({ frames := 5, cells := 1, slots := 300, locals := 134 } : Room) (va_Pc [.ref aL, .ref x, .ref aE, .int (nI cnt)] (vg_B D ay base Gx ws)) (va_Qv (fun u => cl_ad ay ws u q aL tE aE cnt el x) (vg_B D ay base Gx) (vg_A base)) 1 300 (vg_A base) := by
  refine vg_met (cc := cJx4a65c_add_72be8) (maxL := 4) (ret := none) (own := RJx4a65c) (lv := [(0, .ref aL), (1, .ref x), (2, .ref aE), (3, .int (nI cnt))]) (by decide) rfl rfl (Nat.le_of_ble_eq_true rfl) rfl ?_
  intro p e s m args below meth c X hinit
  obtain ⟨hZ, ⟨ft, hTT⟩, hAO, hAO4, hMi, hDc, hc2, hc5⟩ := hG s X.2.2.2.2.2.2.2.2.2.2
  have hqlt := (List.getElem?_eq_some_iff.mp hq).1
  refine vg_iload_n X dJx4a65c_add_72be8_0 3 rfl rfl ?_
  refine vg_aload_n X dJx4a65c_add_72be8_1 2 rfl rfl ?_
  refine vg_alen X qE 4 hE rfl dJx4a65c_add_72be8_2 ?_
  refine vg_icmp_ne X 11 dJx4a65c_add_72be8_3 (by decide) (fun c3 => ?_) (fun c3 => ?_)
  · have c3 : ¬ cnt = cnt := fun z => c3 ((nI_eq (by omega) (by omega)).mpr z)
    exact absurd rfl c3
  · have c3 : cnt = cnt := (nI_eq (by omega) (by omega)).mp c3
    skip
    refine vg_aload_n X dJx4a65c_add_72be8_6 0 rfl rfl ?_
    refine vg_callr (vg_runV X (c_growd5_1 l hq hE h10 h150 hf hel hci hca hG) (cwV 0 X.2.2.2.2.1 gJx4a65c_add_72be8_Jx4a65c_grow_d5877 rfl rfl rfl (by decide +kernel) ⟨Nat.le_of_ble_eq_true rfl, Nat.le_of_ble_eq_true rfl⟩) q hq rfl rfl rfl (Nat.le_of_ble_eq_true rfl) dJx4a65c_add_72be8_7 ⟨(Nat.le_of_ble_eq_true rfl), (Nat.le_of_ble_eq_true rfl)⟩) (fun rr3 wz1 PP2 PP2q => ?_)
    obtain ⟨cap9, f9, g1, g2, g3, g4, g5, g6, g7, g8, g9, g10⟩ := PP2q
    have hxlt := (List.getElem?_eq_some_iff.mp hx).1
    have hxq : qx ∉ [q] := fun z => by rw [List.mem_singleton.mp z] at hx; rw [hx] at hq; cases hq; exact hc9 rfl
    have x1 := (g8.2 qx hxlt hxq).trans hx
    refine vg_astore_n X [(2, .ref rr3), (0, .ref aL), (1, .ref x), (3, .int (nI cnt))] dJx4a65c_add_72be8_10 rfl (by decide) rfl ?_
    refine vg_aload_n X dJx4a65c_add_72be8_11 0 rfl rfl ?_
    refine vg_iload_n X dJx4a65c_add_72be8_12 3 rfl rfl ?_
    refine vg_aload_n X dJx4a65c_add_72be8_13 2 rfl rfl ?_
    refine vg_aastO X ws.length g2 qx (hca s X.2.2.2.2.2.2.2.2.2.2) x1 hci rfl (by omega) (by omega) dJx4a65c_add_72be8_14 (fun wz4 ez5 => ?_)
    have fh6 : wz4[ws.length]? = some (rr3, .inl (ay 4, cap9, .inr (.inr (.inr (.inr (va_up f9 cnt (some x))))))) := vg_se ez5 g2
    refine vg_aload_n X dJx4a65c_add_72be8_15 1 rfl rfl ?_
    refine vg_iload_n X dJx4a65c_add_72be8_16 3 rfl rfl ?_
    refine vg_iconst X (nI 1) dJx4a65c_add_72be8_17 (by decide) ?_
    refine vg_iadd X (nI (cnt + 1)) dJx4a65c_add_72be8_18 (nI_add _ _) ?_
    have fh7 : wz4[q]? = some (aL, .inr (2, [.int mo, .ref rr3, .int (nI cnt)])) := (vg_sn ez5 (by omega)).trans (g1)
    refine vg_put X in_Jx4a65c_add_72be8_Jx4a65c tyJx4a65c tyJx4a65c_ok nmJx4a65c q fh7 rfl 2 (by decide) ml_Jx4a65c_add_72be8_48 rfl rfl rfl rfl (Nat.le_of_ble_eq_true rfl) dJx4a65c_add_72be8_19 (fun wz8 ez9 => ?_)
    have fh10 : wz8[q]? = some (aL, .inr (2, [.int mo, .ref rr3, .int (nI (cnt + 1))])) := vg_se ez9 fh7
    have fh11 : wz8[ws.length]? = some (rr3, .inl (ay 4, cap9, .inr (.inr (.inr (.inr (va_up f9 cnt (some x))))))) := (vg_sn ez9 (by omega)).trans (fh6)
    exact vg_vret X rfl ⟨mo, rr3, ws.length, cap9, _, fh10, fh11, h56, by omega, g5, g6, fun i hi => by unfold va_up; rw [if_neg (by omega)]; exact g7 i hi, by unfold va_up; rw [if_pos rfl], cl_gr_of (vg_gr_set (vg_gr_set g8 ez5 (Or.inr (Nat.le_refl _))) ez9 (Or.inl (List.mem_singleton.mpr rfl))), Or.inr g9, g10⟩ (Nat.le_of_ble_eq_true rfl) (Nat.le_of_ble_eq_true rfl) dJx4a65c_add_72be8_22
set_option maxHeartbeats 4000000 in
set_option maxRecDepth 100000 in
/-- add(e, row, size), any row -/
theorem c_add72 (l : Launch) {D : va_G} {ay : Nat → ClassId} {base : Nat} {Gx : State → Prop} {ws : va_W} {q aL tE mi cnt aE : Nat} {mo : Int32} {el : Nat → Nat} {ci Nn : Nat} {Cn : String} {Tn : u_T} {x qx : Nat} {gx : List Value} (hq : ws[q]? = some (aL, .inr (2, [.int mo, .ref aE, .int (nI cnt)]))) (halt : ((cnt = 0 ∧ aE = tE) ∨ ∃ (qE cap : Nat) (f : Nat → Option Nat), ws[qE]? = some (aE, .inl (ay 4, cap, .inr (.inr (.inr (.inr f))))) ∧ 56 ≤ qE ∧ cnt ≤ cap ∧ 10 ≤ cap ∧ cap ≤ 300 ∧ aE ≠ tE ∧ (∀ i, i < cnt → f i = some (el i)))) (h150 : cnt ≤ 150) (hel : ∀ i, i < cnt → ∃ (qy : Nat) (gs : List Value), ws[qy]? = some (el i, .inr (ci, gs))) (hci : vwCl[ci]? = some (Cn, Tn, Nn)) (hca : ∀ U, Gx U → va_Nw (.castable Cn "java/lang/Object") U) (hG : ∀ U, Gx U → vh_G base tE mi U) (hx : ws[qx]? = some (x, .inr (ci, gx))) (h56 : 56 ≤ ws.length) (hc9 : ci ≠ 2) : Met l yJx4a65c_add_72be8 wsJx4a65c_add_72be8 ({ frames := 5, cells := 1, slots := 300, locals := 134 } : Room) (va_Pc [.ref aL, .ref x, .ref aE, .int (nI cnt)] (vg_B D ay base Gx ws)) (va_Qv (fun u => cl_ad ay ws u q aL tE aE cnt el x) (vg_B D ay base Gx) (vg_A base)) 1 300 (vg_A base) := by
  rcases halt with ⟨rfl, rfl⟩ | ⟨qE, cap, f, h1, h2, h3, h4, h5, _, h6⟩
  · exact c_add72_0 l hq hci hca hG hx h56 hc9
  · by_cases c9 : cnt < cap
    · exact c_add72_1 l hq h1 h2 c9 h4 h5 h6 hci hca hG hx h56 hc9
    · have e9 : cap = cnt := by omega
      subst e9
      exact c_add72_2 l hq h1 h4 h150 h6 hel hci hca hG hx h56 hc9
set_option maxHeartbeats 4000000 in
set_option maxRecDepth 100000 in
/-- add(e) -/
theorem c_add (l : Launch) {D : va_G} {ay : Nat → ClassId} {base : Nat} {Gx : State → Prop} {ws : va_W} {q aL tE mi cnt aE : Nat} {mo : Int32} {el : Nat → Nat} {ci Nn : Nat} {Cn : String} {Tn : u_T} {x qx : Nat} {gx : List Value} (hq : ws[q]? = some (aL, .inr (2, [.int mo, .ref aE, .int (nI cnt)]))) (halt : ((cnt = 0 ∧ aE = tE) ∨ ∃ (qE cap : Nat) (f : Nat → Option Nat), ws[qE]? = some (aE, .inl (ay 4, cap, .inr (.inr (.inr (.inr f))))) ∧ 56 ≤ qE ∧ cnt ≤ cap ∧ 10 ≤ cap ∧ cap ≤ 300 ∧ aE ≠ tE ∧ (∀ i, i < cnt → f i = some (el i)))) (h150 : cnt ≤ 150) (hel : ∀ i, i < cnt → ∃ (qy : Nat) (gs : List Value), ws[qy]? = some (el i, .inr (ci, gs))) (hci : vwCl[ci]? = some (Cn, Tn, Nn)) (hca : ∀ U, Gx U → va_Nw (.castable Cn "java/lang/Object") U) (hG : ∀ U, Gx U → vh_G base tE mi U) (hx : ws[qx]? = some (x, .inr (ci, gx))) (h56 : 56 ≤ ws.length) (hc9 : ci ≠ 2) : Met l yJx4a65c_add_9ea2d wsJx4a65c_add_9ea2d ({ frames := 6, cells := 1, slots := 300, locals := 157 } : Room) (va_Pc [.ref aL, .ref x] (vg_B D ay base Gx ws)) (va_Qi (fun r u => r = nI 1 ∧ cl_ad ay ws u q aL tE aE cnt el x) (vg_B D ay base Gx) (vg_A base)) 1 300 (vg_A base) := by
  refine vg_met (cc := cJx4a65c_add_9ea2d) (maxL := 2) (ret := (some .boolean)) (own := RJx4a65c) (lv := [(0, .ref aL), (1, .ref x)]) (by decide) rfl rfl (Nat.le_of_ble_eq_true rfl) rfl ?_
  intro p e s m args below meth c X hinit
  refine vg_aload_n X dJx4a65c_add_9ea2d_0 0 rfl rfl ?_
  refine vg_dup X dJx4a65c_add_9ea2d_1 rfl ?_
  refine vg_getQ X in_Jx4a65c_add_9ea2d_Jx4a65c q hq rfl 0 (by decide) ml_Jx4a65c_add_9ea2d_63 sf_Jx4a65c_add_9ea2d rfl dJx4a65c_add_9ea2d_2 ?_
  refine vg_iconst X (nI 1) dJx4a65c_add_9ea2d_5 (by decide) ?_
  refine vg_iadd X (mo + (nI 1)) dJx4a65c_add_9ea2d_6 rfl ?_
  refine vg_putQ X in_Jx4a65c_add_9ea2d_Jx4a65c tyJx4a65c tyJx4a65c_ok nmJx4a65c q hq rfl 0 (by decide) ml_Jx4a65c_add_9ea2d_63 sf_Jx4a65c_add_9ea2d rfl rfl rfl (Nat.le_of_ble_eq_true rfl) dJx4a65c_add_9ea2d_7 (fun wz1 ez2 => ?_)
  have fh3 : wz1[q]? = some (aL, .inr (2, [.int (mo + (nI 1)), .ref aE, .int (nI cnt)])) := vg_se ez2 hq
  refine vg_aload_n X dJx4a65c_add_9ea2d_10 0 rfl rfl ?_
  refine vg_aload_n X dJx4a65c_add_9ea2d_11 1 rfl rfl ?_
  refine vg_aload_n X dJx4a65c_add_9ea2d_12 0 rfl rfl ?_
  refine vg_get X in_Jx4a65c_add_9ea2d_Jx4a65c q fh3 rfl 1 (by decide) ml_Jx4a65c_add_9ea2d_9 rfl rfl dJx4a65c_add_9ea2d_13 ?_
  refine vg_aload_n X dJx4a65c_add_9ea2d_16 0 rfl rfl ?_
  refine vg_get X in_Jx4a65c_add_9ea2d_Jx4a65c q fh3 rfl 2 (by decide) ml_Jx4a65c_add_9ea2d_48 rfl rfl dJx4a65c_add_9ea2d_17 ?_
  have hqx : ∀ (j : Nat) (y : Nat × va_E) , ws[j]? = some y → (∀ (b : Nat) (gs : List Value), y ≠ (b, .inr (2, gs))) → wz1[j]? = some y := fun j y g1 g2 => (vg_sn ez2 (fun z => by rw [← z, hq] at g1; exact g2 _ _ (Option.some.inj g1).symm)).trans g1
  have hx1 := hqx qx _ hx (fun b gs z => by cases z; exact hc9 rfl)
  have hel1 : ∀ i, i < cnt → ∃ (qy : Nat) (gs : List Value), wz1[qy]? = some (el i, .inr (ci, gs)) := fun i hi => by
    obtain ⟨qy, gs, g1⟩ := hel i hi
    exact ⟨qy, gs, hqx qy _ g1 (fun b gs z => by cases z; exact hc9 rfl)⟩
  have halt1 : ((cnt = 0 ∧ aE = tE) ∨ ∃ (qE cap : Nat) (f : Nat → Option Nat), wz1[qE]? = some (aE, .inl (ay 4, cap, .inr (.inr (.inr (.inr f))))) ∧ 56 ≤ qE ∧ cnt ≤ cap ∧ 10 ≤ cap ∧ cap ≤ 300 ∧ aE ≠ tE ∧ (∀ i, i < cnt → f i = some (el i))) := halt.imp id (fun ⟨qE, cap, f, g1, g2⟩ => ⟨qE, cap, f, hqx qE _ g1 (fun b gs z => by cases z), g2⟩)
  have h561 : 56 ≤ wz1.length := by rw [vg_sl ez2]; exact h56
  refine vg_callv (vg_runV X (c_add72 l fh3 halt1 h150 hel1 hci hca hG hx1 h561 hc9) (cwV 3 X.2.2.2.2.1 gJx4a65c_add_9ea2d_Jx4a65c_add_72be8 rfl rfl rfl (by decide +kernel) ⟨Nat.le_of_ble_eq_true rfl, Nat.le_of_ble_eq_true rfl⟩) q fh3 rfl rfl rfl (Nat.le_of_ble_eq_true rfl) dJx4a65c_add_9ea2d_20 ⟨(Nat.le_of_ble_eq_true rfl), (Nat.le_of_ble_eq_true rfl)⟩) (fun wz4 PP5 => ?_)
  refine vg_iconst X (nI 1) dJx4a65c_add_9ea2d_23 (by decide) ?_
  exact vg_zret X rfl rfl ⟨rfl, cl_ad_pre PP5 hq ez2⟩ (Nat.le_of_ble_eq_true rfl) (Nat.le_of_ble_eq_true rfl) dJx4a65c_add_9ea2d_24
set_option maxHeartbeats 4000000 in
set_option maxRecDepth 100000 in
/-- clear() -/
theorem c_clear (l : Launch) {D : va_G} {ay : Nat → ClassId} {base : Nat} {Gx : State → Prop} {ws : va_W} {q aL tE cnt aE : Nat} {mo : Int32} {el : Nat → Nat} (hq : ws[q]? = some (aL, .inr (2, [.int mo, .ref aE, .int (nI cnt)]))) (halt : ((cnt = 0 ∧ aE = tE) ∨ ∃ (qE cap : Nat) (f : Nat → Option Nat), ws[qE]? = some (aE, .inl (ay 4, cap, .inr (.inr (.inr (.inr f))))) ∧ 56 ≤ qE ∧ cnt ≤ cap ∧ 10 ≤ cap ∧ cap ≤ 300 ∧ aE ≠ tE ∧ (∀ i, i < cnt → f i = some (el i)))) : Met l yJx4a65c_clear_da8c8 wsJx4a65c_clear_da8c8 ({ frames := 0, cells := 0, slots := 0, locals := 0 } : Room) (va_Pc [.ref aL] (vg_B D ay base Gx ws)) (va_Qv (fun u => (∃ mo2 : Int32, u[q]? = some (aL, .inr (2, [.int mo2, .ref aE, .int (nI 0)]))) ∧ (((0 : Nat) = 0 ∧ aE = tE) ∨ ∃ (qE cap : Nat) (f : Nat → Option Nat), u[qE]? = some (aE, .inl (ay 4, cap, .inr (.inr (.inr (.inr f))))) ∧ 56 ≤ qE ∧ 0 ≤ cap ∧ 10 ≤ cap ∧ cap ≤ 300 ∧ aE ≠ tE ∧ (∀ i, i < 0 → f i = some (el i))) ∧ u.length = ws.length ∧ cl_gr ay ws u q aE) (vg_B D ay base Gx) (vg_A base)) 0 0 (vg_A base) := by
  refine vg_met (cc := cJx4a65c_clear_da8c8) (maxL := 4) (ret := none) (own := RJx4a65c) (lv := [(0, .ref aL)]) (by decide) rfl rfl (Nat.le_of_ble_eq_true rfl) rfl ?_
  intro p e s m args below meth c X hinit
  have h0 : cnt ≤ 300 := by
    rcases halt with g | ⟨_, _, _, _, _, g1, _, g2, _⟩
    · omega
    · omega
  have loop : ∀ (n k : Nat) (ws1 : va_W), k + n = cnt → (∃ mo2 : Int32, ws1[q]? = some (aL, .inr (2, [.int mo2, .ref aE, .int (nI 0)]))) → ((cnt = 0 ∧ aE = tE) ∨ ∃ (qE cap : Nat) (f : Nat → Option Nat), ws1[qE]? = some (aE, .inl (ay 4, cap, .inr (.inr (.inr (.inr f))))) ∧ 56 ≤ qE ∧ cnt ≤ cap ∧ 10 ≤ cap ∧ cap ≤ 300 ∧ aE ≠ tE) → ws1.length = ws.length → cl_gr ay ws ws1 q aE → vg_V D base p l e ({ frames := 0, cells := 0, slots := 0, locals := 0 } : Room) s m args below meth c 4 0 0 (MQ below (va_Qv (fun u => (∃ mo2 : Int32, u[q]? = some (aL, .inr (2, [.int mo2, .ref aE, .int (nI 0)]))) ∧ (((0 : Nat) = 0 ∧ aE = tE) ∨ ∃ (qE cap : Nat) (f : Nat → Option Nat), u[qE]? = some (aE, .inl (ay 4, cap, .inr (.inr (.inr (.inr f))))) ∧ 56 ≤ qE ∧ 0 ≤ cap ∧ 10 ≤ cap ∧ cap ≤ 300 ∧ aE ≠ tE ∧ (∀ i, i < 0 → f i = some (el i))) ∧ u.length = ws.length ∧ cl_gr ay ws u q aE) (vg_B D ay base Gx) (vg_A base)) args s 0 0 (vg_A base)) [(3, .int (nI k)), (2, .int (nI cnt)), (1, .ref aE), (0, .ref aL)] [] ws1 27 := by
    intro n
    induction n using Nat.strongRecOn with
    | ind n ih =>
      intro k ws1 hk hq1 halt1 hlen hfr
      refine vg_iload_n X dJx4a65c_clear_da8c8_27 0 rfl rfl ?_
      refine vg_iload_n X dJx4a65c_clear_da8c8_28 1 rfl rfl ?_
      refine vg_icmp_ge X 42 dJx4a65c_clear_da8c8_29 (by decide) (fun c29 => ?_) (fun c29 => ?_)
      · have c29 : cnt ≤ k := (nI_leI (by omega) (by omega)).mp c29
        exact vg_vret X rfl ⟨hq1, halt1.imp (fun g => ⟨rfl, g.2⟩) (fun ⟨qE, cap, f, g1, g2, g3, g4, g5, g6⟩ => ⟨qE, cap, f, g1, g2, Nat.zero_le _, g4, g5, g6, fun i hi => absurd hi (Nat.not_lt_zero i)⟩), hlen, hfr⟩ (Nat.le_refl _) (Nat.le_refl _) dJx4a65c_clear_da8c8_42
      · have c29 : ¬ cnt ≤ k := fun z => c29 ((nI_leI (by omega) (by omega)).mpr z)
        rcases halt1 with g | ⟨qE, cap, f, hE, g1, g2, g3, g4, g5⟩
        · exact absurd c29 (by omega)
        · skip
          obtain ⟨mo2, hq2⟩ := hq1
          have hne : ¬ qE = q := fun z => by rw [z, hq2] at hE; cases hE
          refine vg_aload_n X dJx4a65c_clear_da8c8_32 2 rfl rfl ?_
          refine vg_iload_n X dJx4a65c_clear_da8c8_33 0 rfl rfl ?_
          refine vg_null X dJx4a65c_clear_da8c8_34 ?_
          refine vg_aastN X qE hE rfl (by omega) (by omega) dJx4a65c_clear_da8c8_35 (fun wz1 ez2 => ?_)
          have fh3 : wz1[qE]? = some (aE, .inl (ay 4, cap, .inr (.inr (.inr (.inr (va_up f k none)))))) := vg_se ez2 hE
          refine vg_iinc X (v := nI (k + 1)) [(3, .int (nI (k + 1))), (2, .int (nI cnt)), (1, .ref aE), (0, .ref aL)] dJx4a65c_clear_da8c8_36 0 rfl (by rw [show Int32.ofInt 1 = nI 1 by decide, nI_add]) (by decide) rfl ?_
          refine vg_goto X 27 dJx4a65c_clear_da8c8_39 (by decide) ?_
          have fh4 : wz1[q]? = some (aL, .inr (2, [.int mo2, .ref aE, .int (nI 0)])) := (vg_sn ez2 (by omega)).trans (hq2)
          exact ih (n - 1) (by omega) (k + 1) _ (by omega) ⟨mo2, fh4⟩ (Or.inr ⟨qE, cap, _, fh3, g1, g2, g3, g4, g5⟩) ((vg_sl ez2).trans hlen) ⟨by rw [vg_sl ez2]; exact hfr.1, fun j q1 q2 q3 => (vg_sn ez2 (fun z => by
            subst z
            have h8 := hfr.2 qE q1 q2 q3
            exact q3 cap f (h8.symm.trans hE))).trans (hfr.2 j q1 q2 q3)⟩
  refine vg_aload_n X dJx4a65c_clear_da8c8_0 0 rfl rfl ?_
  refine vg_dup X dJx4a65c_clear_da8c8_1 rfl ?_
  refine vg_getQ X in_Jx4a65c_clear_da8c8_Jx4a65c q hq rfl 0 (by decide) ml_Jx4a65c_clear_da8c8_63 sf_Jx4a65c_clear_da8c8 rfl dJx4a65c_clear_da8c8_2 ?_
  refine vg_iconst X (nI 1) dJx4a65c_clear_da8c8_5 (by decide) ?_
  refine vg_iadd X (mo + (nI 1)) dJx4a65c_clear_da8c8_6 rfl ?_
  refine vg_putQ X in_Jx4a65c_clear_da8c8_Jx4a65c tyJx4a65c tyJx4a65c_ok nmJx4a65c q hq rfl 0 (by decide) ml_Jx4a65c_clear_da8c8_63 sf_Jx4a65c_clear_da8c8 rfl rfl rfl (Nat.le_of_ble_eq_true rfl) dJx4a65c_clear_da8c8_7 (fun wz5 ez6 => ?_)
  have fh7 : wz5[q]? = some (aL, .inr (2, [.int (mo + (nI 1)), .ref aE, .int (nI cnt)])) := vg_se ez6 hq
  refine vg_aload_n X dJx4a65c_clear_da8c8_10 0 rfl rfl ?_
  refine vg_get X in_Jx4a65c_clear_da8c8_Jx4a65c q fh7 rfl 1 (by decide) ml_Jx4a65c_clear_da8c8_9 rfl rfl dJx4a65c_clear_da8c8_11 ?_
  refine vg_astore_n X [(1, .ref aE), (0, .ref aL)] dJx4a65c_clear_da8c8_14 rfl (by decide) rfl ?_
  refine vg_aload_n X dJx4a65c_clear_da8c8_15 1 rfl rfl ?_
  refine vg_get X in_Jx4a65c_clear_da8c8_Jx4a65c q fh7 rfl 2 (by decide) ml_Jx4a65c_clear_da8c8_48 rfl rfl dJx4a65c_clear_da8c8_16 ?_
  refine vg_istore_n X [(2, .int (nI cnt)), (1, .ref aE), (0, .ref aL)] dJx4a65c_clear_da8c8_19 rfl (by decide) rfl ?_
  refine vg_aload_n X dJx4a65c_clear_da8c8_20 2 rfl rfl ?_
  refine vg_iconst X (nI 0) dJx4a65c_clear_da8c8_21 (by decide) ?_
  refine vg_dup_x1 X dJx4a65c_clear_da8c8_22 rfl rfl ?_
  refine vg_put X in_Jx4a65c_clear_da8c8_Jx4a65c tyJx4a65c tyJx4a65c_ok nmJx4a65c q fh7 rfl 2 (by decide) ml_Jx4a65c_clear_da8c8_48 rfl rfl rfl rfl (Nat.le_of_ble_eq_true rfl) dJx4a65c_clear_da8c8_23 (fun wz8 ez9 => ?_)
  have fh10 : wz8[q]? = some (aL, .inr (2, [.int (mo + (nI 1)), .ref aE, .int (nI 0)])) := vg_se ez9 fh7
  refine vg_istore_n X [(3, .int (nI 0)), (2, .int (nI cnt)), (1, .ref aE), (0, .ref aL)] dJx4a65c_clear_da8c8_26 rfl (by decide) rfl ?_
  have hqx : ∀ (j : Nat), j ≠ q → wz8[j]? = ws[j]? := fun j hj => (vg_sn ez9 (fun z => hj z.symm)).trans (vg_sn ez6 (fun z => hj z.symm))
  exact loop cnt 0 _ (by omega) ⟨_, fh10⟩ (halt.imp id (fun ⟨qE, cap, f, g1, g2, g3, g4, g5, g6, _⟩ => ⟨qE, cap, f, (hqx qE (fun z => by rw [z, hq] at g1; cases g1)).trans g1, g2, g3, g4, g5, g6⟩)) ((vg_sl ez9).trans (vg_sl ez6)) ⟨by rw [vg_sl ez9, vg_sl ez6]; exact Nat.le_refl _, fun j _ q2 _ => hqx j q2⟩
