/-- the ledger has grown; the old places but L are as they were -/
def vg_gr (ws u : va_W) (L : List Nat) : Prop := ws.length ≤ u.length ∧ ∀ j, j < ws.length → j ∉ L → u[j]? = ws[j]?
theorem vg_gr_rf (ws : va_W) (L : List Nat) : vg_gr ws ws L := ⟨Nat.le_refl _, fun _ _ _ => rfl⟩
theorem vg_gr_set {ws ws1 ws2 : va_W} {L : List Nat} {q : Nat} {y : Nat × va_E} (h : vg_gr ws ws1 L) (e : ws2 = ws1.set q y) (hq : q ∈ L ∨ ws.length ≤ q) : vg_gr ws ws2 L := ⟨Nat.le_trans h.1 (Nat.le_of_eq (vg_sl e).symm), fun j h1 h2 => (vg_sn e (fun z => hq.elim (fun g => h2 (by rw [← z]; exact g)) (fun g => by omega))).trans (h.2 j h1 h2)⟩
theorem vg_gr_app {ws ws1 ws2 : va_W} {L : List Nat} {y : Nat × va_E} (h : vg_gr ws ws1 L) (e : ws2 = ws1 ++ [y]) : vg_gr ws ws2 L := ⟨by have := vg_plen e; have := h.1; omega, fun j h1 h2 => by have := h.1; rw [e, List.getElem?_append_left (by omega)]; exact h.2 j h1 h2⟩
theorem vg_gr_fr {ws u : va_W} {L : List Nat} (h : vg_fr ws u L) : vg_gr ws u L := ⟨Nat.le_of_eq h.1.symm, fun j _ h2 => h.2 j h2⟩
theorem vg_gr_tr {ws ws1 ws2 : va_W} {L L2 : List Nat} (h : vg_gr ws ws1 L) (h2 : vg_gr ws1 ws2 L2) (hs : ∀ j, j ∈ L2 → j ∈ L ∨ ws.length ≤ j) : vg_gr ws ws2 L := ⟨Nat.le_trans h.1 h2.1, fun j h3 h4 => (h2.2 j (by have := h.1; omega) (fun q => (hs j q).elim (fun g => h4 g) (fun g => by omega))).trans (h.2 j h3 h4)⟩
theorem oi_X5_init : Cond.methodLink RX5 1 Lib.objectInit ∈ wsX5_init := by decide +kernel
theorem oj_X5_init : Cond.instanceMethod Lib.objectInit ∈ wsX5_init := by decide +kernel
theorem ok_X5_init : Cond.code Lib.objectInit ⟨#[0xb1]⟩ 1 none ∈ wsX5_init := by decide +kernel
theorem in_X5_init_X5 : ∀ w ∈ u_ws RX5 TX5 5, w ∈ wsX5_init := by decide +kernel
theorem ml_X5_init_7 : Cond.fieldLink RX5 7 "WayTimes$Unit" "node" "I" ∈ wsX5_init := by decide +kernel
theorem ml_X5_init_13 : Cond.fieldLink RX5 13 "WayTimes$Unit" "weight" "I" ∈ wsX5_init := by decide +kernel
theorem ml_X5_init_16 : Cond.fieldLink RX5 16 "WayTimes$Unit" "height" "I" ∈ wsX5_init := by decide +kernel
theorem ml_X5_init_19 : Cond.fieldLink RX5 19 "WayTimes$Unit" "p" "I" ∈ wsX5_init := by decide +kernel
theorem ml_X5_init_22 : Cond.fieldLink RX5 22 "WayTimes$Unit" "q" "I" ∈ wsX5_init := by decide +kernel
theorem oi_X4_init : Cond.methodLink RX4 3 Lib.objectInit ∈ wsX4_init := by decide +kernel
theorem oj_X4_init : Cond.instanceMethod Lib.objectInit ∈ wsX4_init := by decide +kernel
theorem ok_X4_init : Cond.code Lib.objectInit ⟨#[0xb1]⟩ 1 none ∈ wsX4_init := by decide +kernel
theorem na_X4_init_l : Cond.arrayClass .long ∈ wsX4_init := by decide +kernel
theorem in_X4_init_X4 : ∀ w ∈ u_ws RX4 TX4 4, w ∈ wsX4_init := by decide +kernel
theorem ml_X4_init_9 : Cond.fieldLink RX4 9 "WayTimes$Tree" "seconds" "[J" ∈ wsX4_init := by decide +kernel
theorem oi_X2_init : Cond.methodLink RX2 3 Lib.objectInit ∈ wsX2_init := by decide +kernel
theorem oj_X2_init : Cond.instanceMethod Lib.objectInit ∈ wsX2_init := by decide +kernel
theorem ok_X2_init : Cond.code Lib.objectInit ⟨#[0xb1]⟩ 1 none ∈ wsX2_init := by decide +kernel
theorem na_X2_init_i : Cond.arrayClass .int ∈ wsX2_init := by decide +kernel
theorem in_X2_init_X2 : ∀ w ∈ u_ws RX2 TX2 11, w ∈ wsX2_init := by decide +kernel
theorem ml_X2_init_9 : Cond.fieldLink RX2 9 "WayTimes$Piece" "from" "[I" ∈ wsX2_init := by decide +kernel
theorem ml_X2_init_15 : Cond.fieldLink RX2 15 "WayTimes$Piece" "to" "[I" ∈ wsX2_init := by decide +kernel
theorem ml_X2_init_18 : Cond.fieldLink RX2 18 "WayTimes$Piece" "percent" "[I" ∈ wsX2_init := by decide +kernel
theorem ml_X2_init_21 : Cond.fieldLink RX2 21 "WayTimes$Piece" "a" "I" ∈ wsX2_init := by decide +kernel
theorem ml_X2_init_25 : Cond.fieldLink RX2 25 "WayTimes$Piece" "b" "I" ∈ wsX2_init := by decide +kernel
theorem ml_X2_init_28 : Cond.fieldLink RX2 28 "WayTimes$Piece" "metres" "I" ∈ wsX2_init := by decide +kernel
theorem ml_X2_init_31 : Cond.fieldLink RX2 31 "WayTimes$Piece" "speed" "I" ∈ wsX2_init := by decide +kernel
theorem oi_X1_init : Cond.methodLink RX1 3 Lib.objectInit ∈ wsX1_init := by decide +kernel
theorem oj_X1_init : Cond.instanceMethod Lib.objectInit ∈ wsX1_init := by decide +kernel
theorem ok_X1_init : Cond.code Lib.objectInit ⟨#[0xb1]⟩ 1 none ∈ wsX1_init := by decide +kernel
theorem na_X1_init_i : Cond.arrayClass .int ∈ wsX1_init := by decide +kernel
theorem in_X1_init_X1 : ∀ w ∈ u_ws RX1 TX1 4, w ∈ wsX1_init := by decide +kernel
theorem ml_X1_init_9 : Cond.fieldLink RX1 9 "WayTimes$NodeQueue" "heap" "[I" ∈ wsX1_init := by decide +kernel
theorem ml_X1_init_15 : Cond.fieldLink RX1 15 "WayTimes$NodeQueue" "place" "[I" ∈ wsX1_init := by decide +kernel
theorem na_X1_init_l : Cond.arrayClass .long ∈ wsX1_init := by decide +kernel
theorem ml_X1_init_18 : Cond.fieldLink RX1 18 "WayTimes$NodeQueue" "seconds" "[J" ∈ wsX1_init := by decide +kernel
theorem oi_X3_init : Cond.methodLink RX3 3 Lib.objectInit ∈ wsX3_init := by decide +kernel
theorem oj_X3_init : Cond.instanceMethod Lib.objectInit ∈ wsX3_init := by decide +kernel
theorem ok_X3_init : Cond.code Lib.objectInit ⟨#[0xb1]⟩ 1 none ∈ wsX3_init := by decide +kernel
theorem dfX1_X3_init : ∀ j, j < 4 → defaultValue (tyX1 j) = vp_V [.null, .null, .null, .int 0] j := fun j hj => by
  rcases (show j = 0 ∨ j = 1 ∨ j = 2 ∨ j = 3 by omega) with rfl | rfl | rfl | rfl <;> rfl
theorem nc_X3_init_9 : Cond.classLink RX3 9 RX1 ∈ wsX3_init := by decide +kernel
theorem ni_X3_init_X1 : Cond.instantiable RX1 4 ∈ wsX3_init := by decide +kernel
theorem nn_X3_init_X1 : Cond.initialized RX1 ∈ wsX3_init := by decide +kernel
theorem in_X3_init_X1 : ∀ w ∈ u_ws RX1 TX1 4, w ∈ wsX3_init := by decide +kernel
theorem ci_X3_init_X1 : Cond.initialized RX1 ∈ wsX3_init := by decide +kernel
theorem cj_X3_init_X1_init : Cond.instanceMethod yX1_init ∈ wsX3_init := by decide +kernel
theorem ck_X3_init_11 : Cond.methodLink RX3 11 yX1_init ∈ wsX3_init := by decide +kernel
theorem in_X3_init_X3 : ∀ w ∈ u_ws RX3 TX3 7, w ∈ wsX3_init := by decide +kernel
theorem ml_X3_init_12 : Cond.fieldLink RX3 12 "WayTimes$Search" "queue" "LWayTimes$NodeQueue;" ∈ wsX3_init := by decide +kernel
theorem na_X3_init_l : Cond.arrayClass .long ∈ wsX3_init := by decide +kernel
theorem ml_X3_init_18 : Cond.fieldLink RX3 18 "WayTimes$Search" "cost" "[J" ∈ wsX3_init := by decide +kernel
theorem ml_X3_init_22 : Cond.fieldLink RX3 22 "WayTimes$Search" "walks" "[J" ∈ wsX3_init := by decide +kernel
theorem na_X3_init_i : Cond.arrayClass .int ∈ wsX3_init := by decide +kernel
theorem ml_X3_init_25 : Cond.fieldLink RX3 25 "WayTimes$Search" "known" "[I" ∈ wsX3_init := by decide +kernel
theorem ml_X3_init_29 : Cond.fieldLink RX3 29 "WayTimes$Search" "settled" "[I" ∈ wsX3_init := by decide +kernel
theorem ml_X3_init_32 : Cond.fieldLink RX3 32 "WayTimes$Search" "net" "LWayTimes$Net;" ∈ wsX3_init := by decide +kernel
theorem oi_X7_init : Cond.methodLink RX7 1 Lib.objectInit ∈ wsX7_init := by decide +kernel
theorem oj_X7_init : Cond.instanceMethod Lib.objectInit ∈ wsX7_init := by decide +kernel
theorem ok_X7_init : Cond.code Lib.objectInit ⟨#[0xb1]⟩ 1 none ∈ wsX7_init := by decide +kernel
theorem na_X7_init_i : Cond.arrayClass .int ∈ wsX7_init := by decide +kernel
theorem in_X7_init_X7 : ∀ w ∈ u_ws RX7 TX7 30, w ∈ wsX7_init := by decide +kernel
theorem ml_X7_init_7 : Cond.fieldLink RX7 7 "WayTimesModel" "first" "[I" ∈ wsX7_init := by decide +kernel
theorem ml_X7_init_13 : Cond.fieldLink RX7 13 "WayTimesModel" "second" "[I" ∈ wsX7_init := by decide +kernel
theorem ml_X7_init_16 : Cond.fieldLink RX7 16 "WayTimesModel" "metres" "[I" ∈ wsX7_init := by decide +kernel
theorem ml_X7_init_19 : Cond.fieldLink RX7 19 "WayTimesModel" "speed" "[I" ∈ wsX7_init := by decide +kernel
theorem ml_X7_init_22 : Cond.fieldLink RX7 22 "WayTimesModel" "weight" "[I" ∈ wsX7_init := by decide +kernel
theorem ml_X7_init_25 : Cond.fieldLink RX7 25 "WayTimesModel" "height" "[I" ∈ wsX7_init := by decide +kernel
theorem na_X7_init_z : Cond.arrayClass .boolean ∈ wsX7_init := by decide +kernel
theorem ml_X7_init_28 : Cond.fieldLink RX7 28 "WayTimesModel" "closed" "[Z" ∈ wsX7_init := by decide +kernel
theorem ml_X7_init_32 : Cond.fieldLink RX7 32 "WayTimesModel" "rows" "[I" ∈ wsX7_init := by decide +kernel
theorem ml_X7_init_35 : Cond.fieldLink RX7 35 "WayTimesModel" "from" "[I" ∈ wsX7_init := by decide +kernel
theorem ml_X7_init_38 : Cond.fieldLink RX7 38 "WayTimesModel" "to" "[I" ∈ wsX7_init := by decide +kernel
theorem ml_X7_init_41 : Cond.fieldLink RX7 41 "WayTimesModel" "percent" "[I" ∈ wsX7_init := by decide +kernel
theorem ml_X7_init_44 : Cond.fieldLink RX7 44 "WayTimesModel" "at" "[I" ∈ wsX7_init := by decide +kernel
theorem ml_X7_init_47 : Cond.fieldLink RX7 47 "WayTimesModel" "heavy" "[I" ∈ wsX7_init := by decide +kernel
theorem ml_X7_init_50 : Cond.fieldLink RX7 50 "WayTimesModel" "high" "[I" ∈ wsX7_init := by decide +kernel
theorem ml_X7_init_53 : Cond.fieldLink RX7 53 "WayTimesModel" "up" "[I" ∈ wsX7_init := by decide +kernel
theorem ml_X7_init_56 : Cond.fieldLink RX7 56 "WayTimesModel" "down" "[I" ∈ wsX7_init := by decide +kernel
theorem ml_X7_init_59 : Cond.fieldLink RX7 59 "WayTimesModel" "has" "[Z" ∈ wsX7_init := by decide +kernel
theorem ml_X7_init_62 : Cond.fieldLink RX7 62 "WayTimesModel" "root" "[I" ∈ wsX7_init := by decide +kernel
theorem ml_X7_init_65 : Cond.fieldLink RX7 65 "WayTimesModel" "rider" "[I" ∈ wsX7_init := by decide +kernel
theorem ml_X7_init_68 : Cond.fieldLink RX7 68 "WayTimesModel" "when" "[I" ∈ wsX7_init := by decide +kernel
theorem na_X7_init_l : Cond.arrayClass .long ∈ wsX7_init := by decide +kernel
theorem ml_X7_init_71 : Cond.fieldLink RX7 71 "WayTimesModel" "tree" "[J" ∈ wsX7_init := by decide +kernel
theorem ml_X7_init_75 : Cond.fieldLink RX7 75 "WayTimesModel" "least" "[J" ∈ wsX7_init := by decide +kernel
theorem ml_X7_init_78 : Cond.fieldLink RX7 78 "WayTimesModel" "many" "[J" ∈ wsX7_init := by decide +kernel
theorem ml_X7_init_81 : Cond.fieldLink RX7 81 "WayTimesModel" "next" "[J" ∈ wsX7_init := by decide +kernel
theorem ml_X7_init_84 : Cond.fieldLink RX7 84 "WayTimesModel" "step" "[I" ∈ wsX7_init := by decide +kernel
set_option maxHeartbeats 4000000 in
set_option maxRecDepth 100000 in
/-- new Unit(..) -/
theorem c_X5_init (l : Launch) {D : va_G} {ay : Nat → ClassId} {base : Nat} {Gx : State → Prop} {ws : va_W} {q a v w h f g : Nat} (hq : ws[q]? = some (a, .inr (8, [.int 0, .int 0, .int 0, .int 0, .int 0]))) : Met l yX5_init wsX5_init ({ frames := 1, cells := 0, slots := 0, locals := 12 } : Room) (va_Pc [.ref a, .int (nI v), .int (nI w), .int (nI h), .int (nI f), .int (nI g)] (vg_B D ay base Gx ws)) (va_Qv (fun u => cu_P u q a (cu_new v w h f g) ∧ vg_fr ws u [q]) (vg_B D ay base Gx) (vg_A base)) 0 0 (vg_A base) := by
  refine vg_met (cc := cX5_init) (maxL := 6) (ret := none) (own := RX5) (lv := [(0, .ref a), (1, .int (nI v)), (2, .int (nI w)), (3, .int (nI h)), (4, .int (nI f)), (5, .int (nI g))]) (by decide) rfl rfl (Nat.le_of_ble_eq_true rfl) rfl ?_
  intro p e s m args below meth c X hinit
  refine vg_aload_n X dX5_init_0 0 rfl rfl ?_
  refine vg_objInit X oi_X5_init oj_X5_init ok_X5_init (Nat.le_of_ble_eq_true rfl) (Nat.le_of_ble_eq_true rfl) dX5_init_1 ?_
  refine vg_aload_n X dX5_init_4 0 rfl rfl ?_
  refine vg_iload_n X dX5_init_5 1 rfl rfl ?_
  refine vg_put X in_X5_init_X5 tyX5 tyX5_ok nmX5 q hq rfl 4 (by decide) ml_X5_init_7 rfl rfl rfl rfl (Nat.le_of_ble_eq_true rfl) dX5_init_6 (fun wz1 ez2 => ?_)
  have fh3 : wz1[q]? = some (a, .inr (8, [.int 0, .int 0, .int 0, .int 0, .int (nI v)])) := vg_se ez2 hq
  refine vg_aload_n X dX5_init_9 0 rfl rfl ?_
  refine vg_iload_n X dX5_init_10 2 rfl rfl ?_
  refine vg_putF X in_X5_init_X5 tyX5 tyX5_ok nmX5 q fh3 rfl 0 (by decide) ml_X5_init_13 rfl rfl hinit rfl rfl rfl (Nat.le_of_ble_eq_true rfl) dX5_init_11 (fun wz4 ez5 => ?_)
  have fh6 : wz4[q]? = some (a, .inr (8, [.int (nI w), .int 0, .int 0, .int 0, .int (nI v)])) := vg_se ez5 fh3
  refine vg_aload_n X dX5_init_14 0 rfl rfl ?_
  refine vg_iload_n X dX5_init_15 3 rfl rfl ?_
  refine vg_putF X in_X5_init_X5 tyX5 tyX5_ok nmX5 q fh6 rfl 1 (by decide) ml_X5_init_16 rfl rfl hinit rfl rfl rfl (Nat.le_of_ble_eq_true rfl) dX5_init_16 (fun wz7 ez8 => ?_)
  have fh9 : wz7[q]? = some (a, .inr (8, [.int (nI w), .int (nI h), .int 0, .int 0, .int (nI v)])) := vg_se ez8 fh6
  refine vg_aload_n X dX5_init_19 0 rfl rfl ?_
  refine vg_iload X dX5_init_20 4 rfl ?_
  refine vg_putF X in_X5_init_X5 tyX5 tyX5_ok nmX5 q fh9 rfl 2 (by decide) ml_X5_init_19 rfl rfl hinit rfl rfl rfl (Nat.le_of_ble_eq_true rfl) dX5_init_22 (fun wz10 ez11 => ?_)
  have fh12 : wz10[q]? = some (a, .inr (8, [.int (nI w), .int (nI h), .int (nI f), .int 0, .int (nI v)])) := vg_se ez11 fh9
  refine vg_aload_n X dX5_init_25 0 rfl rfl ?_
  refine vg_iload X dX5_init_26 5 rfl ?_
  refine vg_putF X in_X5_init_X5 tyX5 tyX5_ok nmX5 q fh12 rfl 3 (by decide) ml_X5_init_22 rfl rfl hinit rfl rfl rfl (Nat.le_of_ble_eq_true rfl) dX5_init_28 (fun wz13 ez14 => ?_)
  have fh15 : wz13[q]? = some (a, .inr (8, [.int (nI w), .int (nI h), .int (nI f), .int (nI g), .int (nI v)])) := vg_se ez14 fh12
  exact vg_vret X rfl ⟨fh15, (vg_fr_set (vg_fr_set (vg_fr_set (vg_fr_set (vg_fr_set (vg_fr_rf _ [q]) ez2 (List.mem_singleton.mpr rfl)) ez5 (List.mem_singleton.mpr rfl)) ez8 (List.mem_singleton.mpr rfl)) ez11 (List.mem_singleton.mpr rfl)) ez14 (List.mem_singleton.mpr rfl))⟩ (Nat.le_refl _) (Nat.le_refl _) dX5_init_31
set_option maxHeartbeats 4000000 in
set_option maxRecDepth 100000 in
/-- new Tree() -/
theorem c_X4_init (l : Launch) {D : va_G} {ay : Nat → ClassId} {base : Nat} {Gx : State → Prop} {ws : va_W} {q a : Nat} (hq : ws[q]? = some (a, .inr (7, [.null, .null, .int 0, .int 0]))) (hlen : ws.length = q + 1) : Met l yX4_init wsX4_init ({ frames := 1, cells := 1, slots := 200, locals := 12 } : Room) (va_Pc [.ref a] (vg_B D ay base Gx ws)) (va_Qv (fun u => ∃ a2 : Nat, u[q]? = some (a, .inr (7, [.ref a2, .null, .int 0, .int 0])) ∧ u[q + 1]? = some (a2, .inl (ay 1, 200, .inr (.inl (fun _ => 0)))) ∧ u.length = q + 2 ∧ vg_gr ws u [q]) (vg_B D ay base Gx) (vg_A base)) 1 200 (vg_A base) := by
  refine vg_met (cc := cX4_init) (maxL := 1) (ret := none) (own := RX4) (lv := [(0, .ref a)]) (by decide) rfl rfl (Nat.le_of_ble_eq_true rfl) rfl ?_
  intro p e s m args below meth c X hinit
  refine vg_aload_n X dX4_init_0 0 rfl rfl ?_
  refine vg_objInit X oi_X4_init oj_X4_init ok_X4_init (Nat.le_of_ble_eq_true rfl) (Nat.le_of_ble_eq_true rfl) dX4_init_1 ?_
  refine vg_aload_n X dX4_init_4 0 rfl rfl ?_
  refine vg_sipush X (nI 200) dX4_init_5 (by decide) ?_
  refine vg_newJ X 200 na_X4_init_l rfl (by decide) (Nat.le_of_ble_eq_true rfl) (Nat.le_of_ble_eq_true rfl) dX4_init_8 (fun aq1 wz2 ez3 => ?_)
  have fh4 : wz2[q + 1]? = some (aq1, .inl (ay 1, 200, .inr (.inl (fun _ => 0)))) := by rw [← hlen]; exact vg_pl ez3
  have fh5 : wz2[q]? = some (a, .inr (7, [.null, .null, .int 0, .int 0])) := vg_pn ez3 (hq)
  refine vg_putF X in_X4_init_X4 tyX4 tyX4_ok nmX4 q fh5 rfl 0 (by decide) ml_X4_init_9 rfl rfl hinit rfl rfl rfl (Nat.le_of_ble_eq_true rfl) dX4_init_10 (fun wz6 ez7 => ?_)
  have fh8 : wz6[q]? = some (a, .inr (7, [.ref aq1, .null, .int 0, .int 0])) := vg_se ez7 fh5
  have fh9 : wz6[q + 1]? = some (aq1, .inl (ay 1, 200, .inr (.inl (fun _ => 0)))) := (vg_sn ez7 (by omega)).trans (fh4)
  have hl10 : wz6.length = q + 2 := (vg_sl ez7).trans ((vg_plen ez3).trans (congrArg (· + 1) (hlen)))
  exact vg_vret X rfl ⟨_, fh8, fh9, hl10, (vg_gr_set (vg_gr_app (vg_gr_rf _ [q]) ez3) ez7 (Or.inl (List.mem_singleton.mpr rfl)))⟩ (Nat.le_of_ble_eq_true rfl) (Nat.le_of_ble_eq_true rfl) dX4_init_13
set_option maxHeartbeats 4000000 in
set_option maxRecDepth 100000 in
/-- new Piece(..) -/
theorem c_X2_init (l : Launch) {D : va_G} {ay : Nat → ClassId} {base : Nat} {Gx : State → Prop} {ws : va_W} {q a x y mm sp : Nat} {fr to pe : Nat → Nat} (hq : ws[q]? = some (a, .inr (5, [.int 0, .int 0, .int 0, .int 0, .int 0, .int 0, .int 0, .int 0, .null, .null, .null]))) (hlen : ws.length = q + 1) : Met l yX2_init wsX2_init ({ frames := 1, cells := 3, slots := 9, locals := 12 } : Room) (va_Pc [.ref a, .int (nI x), .int (nI y), .int (nI mm), .int (nI sp)] (vg_B D ay base Gx ws)) (va_Qv (fun u => cp_P ay u q a (cp_new x y mm sp) fr to pe ∧ u.length = q + 4 ∧ vg_gr ws u [q]) (vg_B D ay base Gx) (vg_A base)) 3 9 (vg_A base) := by
  refine vg_met (cc := cX2_init) (maxL := 5) (ret := none) (own := RX2) (lv := [(0, .ref a), (1, .int (nI x)), (2, .int (nI y)), (3, .int (nI mm)), (4, .int (nI sp))]) (by decide) rfl rfl (Nat.le_of_ble_eq_true rfl) rfl ?_
  intro p e s m args below meth c X hinit
  refine vg_aload_n X dX2_init_0 0 rfl rfl ?_
  refine vg_objInit X oi_X2_init oj_X2_init ok_X2_init (Nat.le_of_ble_eq_true rfl) (Nat.le_of_ble_eq_true rfl) dX2_init_1 ?_
  refine vg_aload_n X dX2_init_4 0 rfl rfl ?_
  refine vg_iconst X (nI 3) dX2_init_5 (by decide) ?_
  refine vg_newI X 3 na_X2_init_i rfl (by decide) (Nat.le_of_ble_eq_true rfl) (Nat.le_of_ble_eq_true rfl) dX2_init_6 (fun aq1 wz2 ez3 => ?_)
  have fh4 : wz2[q + 1]? = some (aq1, .inl (ay 0, 3, .inl (fun _ => 0))) := by rw [← hlen]; exact vg_pl ez3
  have fh5 : wz2[q]? = some (a, .inr (5, [.int 0, .int 0, .int 0, .int 0, .int 0, .int 0, .int 0, .int 0, .null, .null, .null])) := vg_pn ez3 (hq)
  refine vg_putF X in_X2_init_X2 tyX2 tyX2_ok nmX2 q fh5 rfl 8 (by decide) ml_X2_init_9 rfl rfl hinit rfl rfl rfl (Nat.le_of_ble_eq_true rfl) dX2_init_8 (fun wz6 ez7 => ?_)
  have fh8 : wz6[q]? = some (a, .inr (5, [.int 0, .int 0, .int 0, .int 0, .int 0, .int 0, .int 0, .int 0, .ref aq1, .null, .null])) := vg_se ez7 fh5
  refine vg_aload_n X dX2_init_11 0 rfl rfl ?_
  refine vg_iconst X (nI 3) dX2_init_12 (by decide) ?_
  refine vg_newI X 3 na_X2_init_i rfl (by decide) (Nat.le_of_ble_eq_true rfl) (Nat.le_of_ble_eq_true rfl) dX2_init_13 (fun aq9 wz10 ez11 => ?_)
  have hl12 : wz6.length = q + 2 := (vg_sl ez7).trans ((vg_plen ez3).trans (congrArg (· + 1) (hlen)))
  have fh13 : wz10[q + 2]? = some (aq9, .inl (ay 0, 3, .inl (fun _ => 0))) := by rw [← hl12]; exact vg_pl ez11
  have fh14 : wz10[q]? = some (a, .inr (5, [.int 0, .int 0, .int 0, .int 0, .int 0, .int 0, .int 0, .int 0, .ref aq1, .null, .null])) := vg_pn ez11 (fh8)
  refine vg_putF X in_X2_init_X2 tyX2 tyX2_ok nmX2 q fh14 rfl 9 (by decide) ml_X2_init_15 rfl rfl hinit rfl rfl rfl (Nat.le_of_ble_eq_true rfl) dX2_init_15 (fun wz15 ez16 => ?_)
  have fh17 : wz15[q]? = some (a, .inr (5, [.int 0, .int 0, .int 0, .int 0, .int 0, .int 0, .int 0, .int 0, .ref aq1, .ref aq9, .null])) := vg_se ez16 fh14
  refine vg_aload_n X dX2_init_18 0 rfl rfl ?_
  refine vg_iconst X (nI 3) dX2_init_19 (by decide) ?_
  refine vg_newI X 3 na_X2_init_i rfl (by decide) (Nat.le_of_ble_eq_true rfl) (Nat.le_of_ble_eq_true rfl) dX2_init_20 (fun aq18 wz19 ez20 => ?_)
  have hl21 : wz15.length = q + 3 := (vg_sl ez16).trans ((vg_plen ez11).trans (congrArg (· + 1) (hl12)))
  have fh22 : wz19[q + 3]? = some (aq18, .inl (ay 0, 3, .inl (fun _ => 0))) := by rw [← hl21]; exact vg_pl ez20
  have fh23 : wz19[q]? = some (a, .inr (5, [.int 0, .int 0, .int 0, .int 0, .int 0, .int 0, .int 0, .int 0, .ref aq1, .ref aq9, .null])) := vg_pn ez20 (fh17)
  refine vg_putF X in_X2_init_X2 tyX2 tyX2_ok nmX2 q fh23 rfl 10 (by decide) ml_X2_init_18 rfl rfl hinit rfl rfl rfl (Nat.le_of_ble_eq_true rfl) dX2_init_22 (fun wz24 ez25 => ?_)
  have fh26 : wz24[q]? = some (a, .inr (5, [.int 0, .int 0, .int 0, .int 0, .int 0, .int 0, .int 0, .int 0, .ref aq1, .ref aq9, .ref aq18])) := vg_se ez25 fh23
  refine vg_aload_n X dX2_init_25 0 rfl rfl ?_
  refine vg_iload_n X dX2_init_26 1 rfl rfl ?_
  refine vg_putF X in_X2_init_X2 tyX2 tyX2_ok nmX2 q fh26 rfl 0 (by decide) ml_X2_init_21 rfl rfl hinit rfl rfl rfl (Nat.le_of_ble_eq_true rfl) dX2_init_27 (fun wz27 ez28 => ?_)
  have fh29 : wz27[q]? = some (a, .inr (5, [.int (nI x), .int 0, .int 0, .int 0, .int 0, .int 0, .int 0, .int 0, .ref aq1, .ref aq9, .ref aq18])) := vg_se ez28 fh26
  refine vg_aload_n X dX2_init_30 0 rfl rfl ?_
  refine vg_iload_n X dX2_init_31 2 rfl rfl ?_
  refine vg_putF X in_X2_init_X2 tyX2 tyX2_ok nmX2 q fh29 rfl 1 (by decide) ml_X2_init_25 rfl rfl hinit rfl rfl rfl (Nat.le_of_ble_eq_true rfl) dX2_init_32 (fun wz30 ez31 => ?_)
  have fh32 : wz30[q]? = some (a, .inr (5, [.int (nI x), .int (nI y), .int 0, .int 0, .int 0, .int 0, .int 0, .int 0, .ref aq1, .ref aq9, .ref aq18])) := vg_se ez31 fh29
  refine vg_aload_n X dX2_init_35 0 rfl rfl ?_
  refine vg_iload_n X dX2_init_36 3 rfl rfl ?_
  refine vg_putF X in_X2_init_X2 tyX2 tyX2_ok nmX2 q fh32 rfl 2 (by decide) ml_X2_init_28 rfl rfl hinit rfl rfl rfl (Nat.le_of_ble_eq_true rfl) dX2_init_37 (fun wz33 ez34 => ?_)
  have fh35 : wz33[q]? = some (a, .inr (5, [.int (nI x), .int (nI y), .int (nI mm), .int 0, .int 0, .int 0, .int 0, .int 0, .ref aq1, .ref aq9, .ref aq18])) := vg_se ez34 fh32
  refine vg_aload_n X dX2_init_40 0 rfl rfl ?_
  refine vg_iload X dX2_init_41 4 rfl ?_
  refine vg_put X in_X2_init_X2 tyX2 tyX2_ok nmX2 q fh35 rfl 3 (by decide) ml_X2_init_31 rfl rfl rfl rfl (Nat.le_of_ble_eq_true rfl) dX2_init_43 (fun wz36 ez37 => ?_)
  have fh38 : wz36[q]? = some (a, .inr (5, [.int (nI x), .int (nI y), .int (nI mm), .int (nI sp), .int 0, .int 0, .int 0, .int 0, .ref aq1, .ref aq9, .ref aq18])) := vg_se ez37 fh35
  have fh39 : wz36[q + 1]? = some (aq1, .inl (ay 0, 3, .inl (fun _ => 0))) := (vg_sn ez37 (by omega)).trans ((vg_sn ez34 (by omega)).trans ((vg_sn ez31 (by omega)).trans ((vg_sn ez28 (by omega)).trans ((vg_sn ez25 (by omega)).trans (vg_pn ez20 ((vg_sn ez16 (by omega)).trans (vg_pn ez11 ((vg_sn ez7 (by omega)).trans (fh4)))))))))
  have fh40 : wz36[q + 2]? = some (aq9, .inl (ay 0, 3, .inl (fun _ => 0))) := (vg_sn ez37 (by omega)).trans ((vg_sn ez34 (by omega)).trans ((vg_sn ez31 (by omega)).trans ((vg_sn ez28 (by omega)).trans ((vg_sn ez25 (by omega)).trans (vg_pn ez20 ((vg_sn ez16 (by omega)).trans (fh13)))))))
  have fh41 : wz36[q + 3]? = some (aq18, .inl (ay 0, 3, .inl (fun _ => 0))) := (vg_sn ez37 (by omega)).trans ((vg_sn ez34 (by omega)).trans ((vg_sn ez31 (by omega)).trans ((vg_sn ez28 (by omega)).trans ((vg_sn ez25 (by omega)).trans (fh22)))))
  have hl42 : wz36.length = q + 4 := (vg_sl ez37).trans ((vg_sl ez34).trans ((vg_sl ez31).trans ((vg_sl ez28).trans ((vg_sl ez25).trans ((vg_plen ez20).trans (congrArg (· + 1) (hl21)))))))
  exact vg_vret X rfl ⟨⟨_, _, _, _, _, _, fh38, fh39, fh40, fh41, fun r hr => absurd hr (Nat.not_lt_zero r)⟩, hl42, (vg_gr_set (vg_gr_set (vg_gr_set (vg_gr_set (vg_gr_set (vg_gr_app (vg_gr_set (vg_gr_app (vg_gr_set (vg_gr_app (vg_gr_rf _ [q]) ez3) ez7 (Or.inl (List.mem_singleton.mpr rfl))) ez11) ez16 (Or.inl (List.mem_singleton.mpr rfl))) ez20) ez25 (Or.inl (List.mem_singleton.mpr rfl))) ez28 (Or.inl (List.mem_singleton.mpr rfl))) ez31 (Or.inl (List.mem_singleton.mpr rfl))) ez34 (Or.inl (List.mem_singleton.mpr rfl))) ez37 (Or.inl (List.mem_singleton.mpr rfl)))⟩ (Nat.le_of_ble_eq_true rfl) (Nat.le_of_ble_eq_true rfl) dX2_init_46
set_option maxHeartbeats 4000000 in
set_option maxRecDepth 100000 in
/-- new NodeQueue() -/
theorem c_X1_init (l : Launch) {D : va_G} {ay : Nat → ClassId} {base : Nat} {Gx : State → Prop} {ws : va_W} {a : Nat} {hn key : Nat → Nat} (hq : ws[7]? = some (a, .inr (4, [.null, .null, .null, .int 0]))) (hlen : ws.length = 8) : Met l yX1_init wsX1_init ({ frames := 1, cells := 3, slots := 600, locals := 23 } : Room) (va_Pc [.ref a] (vg_B D ay base Gx ws)) (va_Qv (fun u => (∃ pl : Nat → Int32, cq_St ay u a hn pl key 0) ∧ u.length = 11 ∧ vg_gr ws u [7]) (vg_B D ay base Gx) (vg_A base)) 3 600 (vg_A base) := by
  refine vg_met (cc := cX1_init) (maxL := 1) (ret := none) (own := RX1) (lv := [(0, .ref a)]) (by decide) rfl rfl (Nat.le_of_ble_eq_true rfl) rfl ?_
  intro p e s m args below meth c X hinit
  refine vg_aload_n X dX1_init_0 0 rfl rfl ?_
  refine vg_objInit X oi_X1_init oj_X1_init ok_X1_init (Nat.le_of_ble_eq_true rfl) (Nat.le_of_ble_eq_true rfl) dX1_init_1 ?_
  refine vg_aload_n X dX1_init_4 0 rfl rfl ?_
  refine vg_sipush X (nI 200) dX1_init_5 (by decide) ?_
  refine vg_newI X 200 na_X1_init_i rfl (by decide) (Nat.le_of_ble_eq_true rfl) (Nat.le_of_ble_eq_true rfl) dX1_init_8 (fun aq1 wz2 ez3 => ?_)
  have fh4 : wz2[8]? = some (aq1, .inl (ay 0, 200, .inl (fun _ => 0))) := by rw [← hlen]; exact vg_pl ez3
  have fh5 : wz2[7]? = some (a, .inr (4, [.null, .null, .null, .int 0])) := vg_pn ez3 (hq)
  refine vg_putF X in_X1_init_X1 tyX1 tyX1_ok nmX1 7 fh5 rfl 0 (by decide) ml_X1_init_9 rfl rfl hinit rfl rfl rfl (Nat.le_of_ble_eq_true rfl) dX1_init_10 (fun wz6 ez7 => ?_)
  have fh8 : wz6[7]? = some (a, .inr (4, [.ref aq1, .null, .null, .int 0])) := vg_se ez7 fh5
  refine vg_aload_n X dX1_init_13 0 rfl rfl ?_
  refine vg_sipush X (nI 200) dX1_init_14 (by decide) ?_
  refine vg_newI X 200 na_X1_init_i rfl (by decide) (Nat.le_of_ble_eq_true rfl) (Nat.le_of_ble_eq_true rfl) dX1_init_17 (fun aq9 wz10 ez11 => ?_)
  have hl12 : wz6.length = 9 := (vg_sl ez7).trans ((vg_plen ez3).trans (congrArg (· + 1) (hlen)))
  have fh13 : wz10[9]? = some (aq9, .inl (ay 0, 200, .inl (fun _ => 0))) := by rw [← hl12]; exact vg_pl ez11
  have fh14 : wz10[7]? = some (a, .inr (4, [.ref aq1, .null, .null, .int 0])) := vg_pn ez11 (fh8)
  refine vg_putF X in_X1_init_X1 tyX1 tyX1_ok nmX1 7 fh14 rfl 1 (by decide) ml_X1_init_15 rfl rfl hinit rfl rfl rfl (Nat.le_of_ble_eq_true rfl) dX1_init_19 (fun wz15 ez16 => ?_)
  have fh17 : wz15[7]? = some (a, .inr (4, [.ref aq1, .ref aq9, .null, .int 0])) := vg_se ez16 fh14
  refine vg_aload_n X dX1_init_22 0 rfl rfl ?_
  refine vg_sipush X (nI 200) dX1_init_23 (by decide) ?_
  refine vg_newJ X 200 na_X1_init_l rfl (by decide) (Nat.le_of_ble_eq_true rfl) (Nat.le_of_ble_eq_true rfl) dX1_init_26 (fun aq18 wz19 ez20 => ?_)
  have hl21 : wz15.length = 10 := (vg_sl ez16).trans ((vg_plen ez11).trans (congrArg (· + 1) (hl12)))
  have fh22 : wz19[10]? = some (aq18, .inl (ay 1, 200, .inr (.inl (fun _ => 0)))) := by rw [← hl21]; exact vg_pl ez20
  have fh23 : wz19[7]? = some (a, .inr (4, [.ref aq1, .ref aq9, .null, .int 0])) := vg_pn ez20 (fh17)
  refine vg_putF X in_X1_init_X1 tyX1 tyX1_ok nmX1 7 fh23 rfl 2 (by decide) ml_X1_init_18 rfl rfl hinit rfl rfl rfl (Nat.le_of_ble_eq_true rfl) dX1_init_28 (fun wz24 ez25 => ?_)
  have fh26 : wz24[7]? = some (a, .inr (4, [.ref aq1, .ref aq9, .ref aq18, .int 0])) := vg_se ez25 fh23
  refine vg_aload_n X dX1_init_31 0 rfl rfl ?_
  refine vg_get X in_X1_init_X1 7 fh26 rfl 1 (by decide) ml_X1_init_15 rfl rfl dX1_init_32 ?_
  refine vg_iconst X (-1) dX1_init_35 (by decide) ?_
  have fh27 : wz24[8]? = some (aq1, .inl (ay 0, 200, .inl (fun _ => 0))) := (vg_sn ez25 (by decide)).trans (vg_pn ez20 ((vg_sn ez16 (by decide)).trans (vg_pn ez11 ((vg_sn ez7 (by decide)).trans (fh4)))))
  have fh28 : wz24[9]? = some (aq9, .inl (ay 0, 200, .inl (fun _ => 0))) := (vg_sn ez25 (by decide)).trans (vg_pn ez20 ((vg_sn ez16 (by decide)).trans (fh13)))
  have fh29 : wz24[10]? = some (aq18, .inl (ay 1, 200, .inr (.inl (fun _ => 0)))) := (vg_sn ez25 (by decide)).trans (fh22)
  have hl30 : wz24.length = 11 := (vg_sl ez25).trans ((vg_plen ez20).trans (congrArg (· + 1) (hl21)))
  refine vg_callv (vg_runS X (c_J7_fill_53178 l fh28 (by decide) (x := -1)) (va_cwS 2 X.2.2.2.2.1 gX1_init_J7_fill_53178 rfl rfl rfl (by decide +kernel) ⟨Nat.le_of_ble_eq_true rfl, Nat.le_of_ble_eq_true rfl⟩) rfl rfl (Nat.le_of_ble_eq_true rfl) dX1_init_36 ⟨(Nat.le_of_ble_eq_true rfl), (Nat.le_of_ble_eq_true rfl)⟩) (fun wz31 PP32 => ?_)
  obtain ⟨g, g1, g2, g3⟩ := PP32
  exact vg_vret X rfl ⟨⟨g, _, _, _, _, _, (g3.2 7 (by decide)).trans fh26, (g3.2 8 (by decide)).trans fh27, g1, (g3.2 10 (by decide)).trans fh29, ⟨Nat.zero_le _, fun i hi => absurd hi (Nat.not_lt_zero i), fun v hv => Or.inl (g2 v hv), fun i _ hi => absurd hi (Nat.not_lt_zero i)⟩, fun i hi => absurd hi (Nat.not_lt_zero i), fun i hi => absurd hi (Nat.not_lt_zero i)⟩, g3.1.trans hl30, vg_gr_tr (vg_gr_set (vg_gr_app (vg_gr_set (vg_gr_app (vg_gr_set (vg_gr_app (vg_gr_rf _ [7]) ez3) ez7 (Or.inl (by decide))) ez11) ez16 (Or.inl (by decide))) ez20) ez25 (Or.inl (by decide))) (vg_gr_fr g3) (fun j hj => Or.inr (by rw [hlen]; have := List.mem_singleton.mp hj; omega))⟩ (Nat.le_of_ble_eq_true rfl) (Nat.le_of_ble_eq_true rfl) dX1_init_39
set_option maxHeartbeats 4000000 in
set_option maxRecDepth 100000 in
/-- new Search(..) -/
theorem c_X3_init (l : Launch) {D : va_G} {ay : Nat → ClassId} {base : Nat} {Gx : State → Prop} {ws : va_W} {a aN : Nat} (hq : ws[6]? = some (a, .inr (6, [.null, .null, .null, .null, .null, .null, .int 0]))) (hlen : ws.length = 7) : Met l yX3_init wsX3_init ({ frames := 2, cells := 8, slots := 2354, locals := 45 } : Room) (va_Pc [.ref a, .ref aN] (vg_B D ay base Gx ws)) (va_Qv (fun u => cs_I ay u a aN ∧ u.length = 15 ∧ vg_gr ws u [6]) (vg_B D ay base Gx) (vg_A base)) 8 2354 (vg_A base) := by
  refine vg_met (cc := cX3_init) (maxL := 2) (ret := none) (own := RX3) (lv := [(0, .ref a), (1, .ref aN)]) (by decide) rfl rfl (Nat.le_of_ble_eq_true rfl) rfl ?_
  intro p e s m args below meth c X hinit
  refine vg_aload_n X dX3_init_0 0 rfl rfl ?_
  refine vg_objInit X oi_X3_init oj_X3_init ok_X3_init (Nat.le_of_ble_eq_true rfl) (Nat.le_of_ble_eq_true rfl) dX3_init_1 ?_
  refine vg_aload_n X dX3_init_4 0 rfl rfl ?_
  refine vg_new X (ci := 4) (C := RX1) (T := TX1) (N := 4) [.null, .null, .null, .int 0] in_X3_init_X1 tyX1 tyX1_ok nc_X3_init_9 ni_X3_init_X1 nn_X3_init_X1 rfl dfX1_X3_init (Nat.le_of_ble_eq_true rfl) (Nat.le_of_ble_eq_true rfl) dX3_init_5 (fun aq1 wz2 ez3 => ?_)
  have fh4 : wz2[7]? = some (aq1, .inr (4, [.null, .null, .null, .int 0])) := by rw [← hlen]; exact vg_pl ez3
  refine vg_dup X dX3_init_8 rfl ?_
  have fh5 : wz2[6]? = some (a, .inr (6, [.null, .null, .null, .null, .null, .null, .int 0])) := vg_pn ez3 (hq)
  have hl6 : wz2.length = 8 := (vg_plen ez3).trans (congrArg (· + 1) (hlen))
  refine vg_callv (vg_runI X (c_X1_init l fh4 hl6 (hn := fun _ => 0) (key := fun _ => 0)) (cwI 0 X.2.2.2.2.1 gX3_init_X1_init rfl rfl rfl (X.2.2.2.2.1 _ ci_X3_init_X1) (X.2.2.2.2.1 _ ck_X3_init_11) (X.2.2.2.2.1 _ cj_X3_init_X1_init) rfl (by decide +kernel) ⟨(Nat.le_of_ble_eq_true rfl), (Nat.le_of_ble_eq_true rfl)⟩) rfl rfl (Nat.le_of_ble_eq_true rfl) dX3_init_9 ⟨(Nat.le_of_ble_eq_true rfl), (Nat.le_of_ble_eq_true rfl)⟩) (fun wz7 PP8 => ?_)
  obtain ⟨⟨pl, hQ⟩, hl9, g3⟩ := PP8
  have G0 := vg_gr_tr (vg_gr_app (vg_gr_rf _ [6]) ez3) g3 (fun j hj => Or.inr (by rw [hlen]; have := List.mem_singleton.mp hj; omega))
  have x6 := (g3.2 6 (by rw [hl6]; decide) (by decide)).trans fh5
  refine vg_putF X in_X3_init_X3 tyX3 tyX3_ok nmX3 6 x6 rfl 1 (by decide) ml_X3_init_12 rfl rfl hinit rfl rfl rfl (Nat.le_of_ble_eq_true rfl) dX3_init_12 (fun wz9 ez10 => ?_)
  have fh11 : wz9[6]? = some (a, .inr (6, [.null, .ref aq1, .null, .null, .null, .null, .int 0])) := vg_se ez10 x6
  refine vg_aload_n X dX3_init_15 0 rfl rfl ?_
  refine vg_sipush X (nI 150) dX3_init_16 (by decide) ?_
  refine vg_newJ X 150 na_X3_init_l rfl (by decide) (Nat.le_of_ble_eq_true rfl) (Nat.le_of_ble_eq_true rfl) dX3_init_19 (fun aq12 wz13 ez14 => ?_)
  have hl15 : wz9.length = 11 := (vg_sl ez10).trans (hl9)
  have fh16 : wz13[11]? = some (aq12, .inl (ay 1, 150, .inr (.inl (fun _ => 0)))) := by rw [← hl15]; exact vg_pl ez14
  have fh17 : wz13[6]? = some (a, .inr (6, [.null, .ref aq1, .null, .null, .null, .null, .int 0])) := vg_pn ez14 (fh11)
  refine vg_putF X in_X3_init_X3 tyX3 tyX3_ok nmX3 6 fh17 rfl 2 (by decide) ml_X3_init_18 rfl rfl hinit rfl rfl rfl (Nat.le_of_ble_eq_true rfl) dX3_init_21 (fun wz18 ez19 => ?_)
  have fh20 : wz18[6]? = some (a, .inr (6, [.null, .ref aq1, .ref aq12, .null, .null, .null, .int 0])) := vg_se ez19 fh17
  refine vg_aload_n X dX3_init_24 0 rfl rfl ?_
  refine vg_sipush X (nI 1200) dX3_init_25 (by decide) ?_
  refine vg_newJ X 1200 na_X3_init_l rfl (by decide) (Nat.le_of_ble_eq_true rfl) (Nat.le_of_ble_eq_true rfl) dX3_init_28 (fun aq21 wz22 ez23 => ?_)
  have hl24 : wz18.length = 12 := (vg_sl ez19).trans ((vg_plen ez14).trans (congrArg (· + 1) (hl15)))
  have fh25 : wz22[12]? = some (aq21, .inl (ay 1, 1200, .inr (.inl (fun _ => 0)))) := by rw [← hl24]; exact vg_pl ez23
  have fh26 : wz22[6]? = some (a, .inr (6, [.null, .ref aq1, .ref aq12, .null, .null, .null, .int 0])) := vg_pn ez23 (fh20)
  refine vg_putF X in_X3_init_X3 tyX3 tyX3_ok nmX3 6 fh26 rfl 3 (by decide) ml_X3_init_22 rfl rfl hinit rfl rfl rfl (Nat.le_of_ble_eq_true rfl) dX3_init_30 (fun wz27 ez28 => ?_)
  have fh29 : wz27[6]? = some (a, .inr (6, [.null, .ref aq1, .ref aq12, .ref aq21, .null, .null, .int 0])) := vg_se ez28 fh26
  refine vg_aload_n X dX3_init_33 0 rfl rfl ?_
  refine vg_sipush X (nI 200) dX3_init_34 (by decide) ?_
  refine vg_newI X 200 na_X3_init_i rfl (by decide) (Nat.le_of_ble_eq_true rfl) (Nat.le_of_ble_eq_true rfl) dX3_init_37 (fun aq30 wz31 ez32 => ?_)
  have hl33 : wz27.length = 13 := (vg_sl ez28).trans ((vg_plen ez23).trans (congrArg (· + 1) (hl24)))
  have fh34 : wz31[13]? = some (aq30, .inl (ay 0, 200, .inl (fun _ => 0))) := by rw [← hl33]; exact vg_pl ez32
  have fh35 : wz31[6]? = some (a, .inr (6, [.null, .ref aq1, .ref aq12, .ref aq21, .null, .null, .int 0])) := vg_pn ez32 (fh29)
  refine vg_putF X in_X3_init_X3 tyX3 tyX3_ok nmX3 6 fh35 rfl 4 (by decide) ml_X3_init_25 rfl rfl hinit rfl rfl rfl (Nat.le_of_ble_eq_true rfl) dX3_init_39 (fun wz36 ez37 => ?_)
  have fh38 : wz36[6]? = some (a, .inr (6, [.null, .ref aq1, .ref aq12, .ref aq21, .ref aq30, .null, .int 0])) := vg_se ez37 fh35
  refine vg_aload_n X dX3_init_42 0 rfl rfl ?_
  refine vg_sipush X (nI 200) dX3_init_43 (by decide) ?_
  refine vg_newI X 200 na_X3_init_i rfl (by decide) (Nat.le_of_ble_eq_true rfl) (Nat.le_of_ble_eq_true rfl) dX3_init_46 (fun aq39 wz40 ez41 => ?_)
  have hl42 : wz36.length = 14 := (vg_sl ez37).trans ((vg_plen ez32).trans (congrArg (· + 1) (hl33)))
  have fh43 : wz40[14]? = some (aq39, .inl (ay 0, 200, .inl (fun _ => 0))) := by rw [← hl42]; exact vg_pl ez41
  have fh44 : wz40[6]? = some (a, .inr (6, [.null, .ref aq1, .ref aq12, .ref aq21, .ref aq30, .null, .int 0])) := vg_pn ez41 (fh38)
  refine vg_putF X in_X3_init_X3 tyX3 tyX3_ok nmX3 6 fh44 rfl 5 (by decide) ml_X3_init_29 rfl rfl hinit rfl rfl rfl (Nat.le_of_ble_eq_true rfl) dX3_init_48 (fun wz45 ez46 => ?_)
  have fh47 : wz45[6]? = some (a, .inr (6, [.null, .ref aq1, .ref aq12, .ref aq21, .ref aq30, .ref aq39, .int 0])) := vg_se ez46 fh44
  refine vg_aload_n X dX3_init_51 0 rfl rfl ?_
  refine vg_aload_n X dX3_init_52 1 rfl rfl ?_
  refine vg_putF X in_X3_init_X3 tyX3 tyX3_ok nmX3 6 fh47 rfl 0 (by decide) ml_X3_init_32 rfl rfl hinit rfl rfl rfl (Nat.le_of_ble_eq_true rfl) dX3_init_53 (fun wz48 ez49 => ?_)
  have fh50 : wz48[6]? = some (a, .inr (6, [.ref aN, .ref aq1, .ref aq12, .ref aq21, .ref aq30, .ref aq39, .int 0])) := vg_se ez49 fh47
  have fh51 : wz48[11]? = some (aq12, .inl (ay 1, 150, .inr (.inl (fun _ => 0)))) := (vg_sn ez49 (by decide)).trans ((vg_sn ez46 (by decide)).trans (vg_pn ez41 ((vg_sn ez37 (by decide)).trans (vg_pn ez32 ((vg_sn ez28 (by decide)).trans (vg_pn ez23 ((vg_sn ez19 (by decide)).trans (fh16))))))))
  have fh52 : wz48[12]? = some (aq21, .inl (ay 1, 1200, .inr (.inl (fun _ => 0)))) := (vg_sn ez49 (by decide)).trans ((vg_sn ez46 (by decide)).trans (vg_pn ez41 ((vg_sn ez37 (by decide)).trans (vg_pn ez32 ((vg_sn ez28 (by decide)).trans (fh25))))))
  have fh53 : wz48[13]? = some (aq30, .inl (ay 0, 200, .inl (fun _ => 0))) := (vg_sn ez49 (by decide)).trans ((vg_sn ez46 (by decide)).trans (vg_pn ez41 ((vg_sn ez37 (by decide)).trans (fh34))))
  have fh54 : wz48[14]? = some (aq39, .inl (ay 0, 200, .inl (fun _ => 0))) := (vg_sn ez49 (by decide)).trans ((vg_sn ez46 (by decide)).trans (fh43))
  have hl55 : wz48.length = 15 := (vg_sl ez49).trans ((vg_sl ez46).trans ((vg_plen ez41).trans (congrArg (· + 1) (hl42))))
  have G1 : vg_gr wz7 wz48 [6] := (vg_gr_set (vg_gr_set (vg_gr_app (vg_gr_set (vg_gr_app (vg_gr_set (vg_gr_app (vg_gr_set (vg_gr_app (vg_gr_set (vg_gr_rf _ [6]) ez10 (Or.inl (by decide))) ez14) ez19 (Or.inl (by decide))) ez23) ez28 (Or.inl (by decide))) ez32) ez37 (Or.inl (by decide))) ez41) ez46 (Or.inl (by decide))) ez49 (Or.inl (by decide)))
  exact vg_vret X rfl ⟨⟨_, _, _, _, _, _, _, _, _, _, _, pl, _, fh50, fh51, fh52, fh53, fh54, cq_St_fr hQ (G1.2 7 (by rw [hl9]; decide) (by decide)) (G1.2 8 (by rw [hl9]; decide) (by decide)) (G1.2 9 (by rw [hl9]; decide) (by decide)) (G1.2 10 (by rw [hl9]; decide) (by decide))⟩, hl55, vg_gr_tr G0 G1 (fun j hj => Or.inl hj)⟩ (Nat.le_of_ble_eq_true rfl) (Nat.le_of_ble_eq_true rfl) dX3_init_56
set_option maxHeartbeats 4000000 in
set_option maxRecDepth 100000 in
/-- new WayTimesModel() -/
theorem c_X7_init (l : Launch) {D : va_G} {ay : Nat → ClassId} {base : Nat} {Gx : State → Prop} {ws : va_W} {a : Nat} {d fr to pe uv sk : Nat → Nat → Nat} {ks kt wp : Nat → Nat} (hq : ws[29]? = some (a, .inr (10, [.int 0, .int 0, .int 0, .null, .null, .null, .null, .null, .null, .null, .null, .null, .null, .null, .int 0, .null, .null, .null, .null, .null, .null, .null, .null, .null, .null, .null, .null, .null, .int 0, .null]))) (hlen : ws.length = 30) : Met l yX7_init wsX7_init ({ frames := 1, cells := 25, slots := 6634, locals := 12 } : Room) (va_Pc [.ref a] (vg_B D ay base Gx ws)) (va_Qv (fun u => (∃ aa : Nat → Nat, cm_St ay u a aa 0 0 0 0 d fr to pe uv (fun _ => 0) ks kt sk 0 wp) ∧ u.length = 55 ∧ vg_gr ws u [29]) (vg_B D ay base Gx) (vg_A base)) 25 6634 (vg_A base) := by
  refine vg_met (cc := cX7_init) (maxL := 1) (ret := none) (own := RX7) (lv := [(0, .ref a)]) (by decide) rfl rfl (Nat.le_of_ble_eq_true rfl) rfl ?_
  intro p e s m args below meth c X hinit
  refine vg_aload_n X dX7_init_0 0 rfl rfl ?_
  refine vg_objInit X oi_X7_init oj_X7_init ok_X7_init (Nat.le_of_ble_eq_true rfl) (Nat.le_of_ble_eq_true rfl) dX7_init_1 ?_
  refine vg_aload_n X dX7_init_4 0 rfl rfl ?_
  refine vg_sipush X (nI 150) dX7_init_5 (by decide) ?_
  refine vg_newI X 150 na_X7_init_i rfl (by decide) (Nat.le_of_ble_eq_true rfl) (Nat.le_of_ble_eq_true rfl) dX7_init_8 (fun aq1 wz2 ez3 => ?_)
  have fh4 : wz2[30]? = some (aq1, .inl (ay 0, 150, .inl (fun _ => 0))) := by rw [← hlen]; exact vg_pl ez3
  have fh5 : wz2[29]? = some (a, .inr (10, [.int 0, .int 0, .int 0, .null, .null, .null, .null, .null, .null, .null, .null, .null, .null, .null, .int 0, .null, .null, .null, .null, .null, .null, .null, .null, .null, .null, .null, .null, .null, .int 0, .null])) := vg_pn ez3 (hq)
  refine vg_putF X in_X7_init_X7 tyX7 tyX7_ok nmX7 29 fh5 rfl 3 (by decide) ml_X7_init_7 rfl rfl hinit rfl rfl rfl (Nat.le_of_ble_eq_true rfl) dX7_init_10 (fun wz6 ez7 => ?_)
  have fh8 : wz6[29]? = some (a, .inr (10, [.int 0, .int 0, .int 0, .ref aq1, .null, .null, .null, .null, .null, .null, .null, .null, .null, .null, .int 0, .null, .null, .null, .null, .null, .null, .null, .null, .null, .null, .null, .null, .null, .int 0, .null])) := vg_se ez7 fh5
  refine vg_aload_n X dX7_init_13 0 rfl rfl ?_
  refine vg_sipush X (nI 150) dX7_init_14 (by decide) ?_
  refine vg_newI X 150 na_X7_init_i rfl (by decide) (Nat.le_of_ble_eq_true rfl) (Nat.le_of_ble_eq_true rfl) dX7_init_17 (fun aq9 wz10 ez11 => ?_)
  have hl12 : wz6.length = 31 := (vg_sl ez7).trans ((vg_plen ez3).trans (congrArg (· + 1) (hlen)))
  have fh13 : wz10[31]? = some (aq9, .inl (ay 0, 150, .inl (fun _ => 0))) := by rw [← hl12]; exact vg_pl ez11
  have fh14 : wz10[29]? = some (a, .inr (10, [.int 0, .int 0, .int 0, .ref aq1, .null, .null, .null, .null, .null, .null, .null, .null, .null, .null, .int 0, .null, .null, .null, .null, .null, .null, .null, .null, .null, .null, .null, .null, .null, .int 0, .null])) := vg_pn ez11 (fh8)
  refine vg_putF X in_X7_init_X7 tyX7 tyX7_ok nmX7 29 fh14 rfl 4 (by decide) ml_X7_init_13 rfl rfl hinit rfl rfl rfl (Nat.le_of_ble_eq_true rfl) dX7_init_19 (fun wz15 ez16 => ?_)
  have fh17 : wz15[29]? = some (a, .inr (10, [.int 0, .int 0, .int 0, .ref aq1, .ref aq9, .null, .null, .null, .null, .null, .null, .null, .null, .null, .int 0, .null, .null, .null, .null, .null, .null, .null, .null, .null, .null, .null, .null, .null, .int 0, .null])) := vg_se ez16 fh14
  refine vg_aload_n X dX7_init_22 0 rfl rfl ?_
  refine vg_sipush X (nI 150) dX7_init_23 (by decide) ?_
  refine vg_newI X 150 na_X7_init_i rfl (by decide) (Nat.le_of_ble_eq_true rfl) (Nat.le_of_ble_eq_true rfl) dX7_init_26 (fun aq18 wz19 ez20 => ?_)
  have hl21 : wz15.length = 32 := (vg_sl ez16).trans ((vg_plen ez11).trans (congrArg (· + 1) (hl12)))
  have fh22 : wz19[32]? = some (aq18, .inl (ay 0, 150, .inl (fun _ => 0))) := by rw [← hl21]; exact vg_pl ez20
  have fh23 : wz19[29]? = some (a, .inr (10, [.int 0, .int 0, .int 0, .ref aq1, .ref aq9, .null, .null, .null, .null, .null, .null, .null, .null, .null, .int 0, .null, .null, .null, .null, .null, .null, .null, .null, .null, .null, .null, .null, .null, .int 0, .null])) := vg_pn ez20 (fh17)
  refine vg_putF X in_X7_init_X7 tyX7 tyX7_ok nmX7 29 fh23 rfl 5 (by decide) ml_X7_init_16 rfl rfl hinit rfl rfl rfl (Nat.le_of_ble_eq_true rfl) dX7_init_28 (fun wz24 ez25 => ?_)
  have fh26 : wz24[29]? = some (a, .inr (10, [.int 0, .int 0, .int 0, .ref aq1, .ref aq9, .ref aq18, .null, .null, .null, .null, .null, .null, .null, .null, .int 0, .null, .null, .null, .null, .null, .null, .null, .null, .null, .null, .null, .null, .null, .int 0, .null])) := vg_se ez25 fh23
  refine vg_aload_n X dX7_init_31 0 rfl rfl ?_
  refine vg_sipush X (nI 150) dX7_init_32 (by decide) ?_
  refine vg_newI X 150 na_X7_init_i rfl (by decide) (Nat.le_of_ble_eq_true rfl) (Nat.le_of_ble_eq_true rfl) dX7_init_35 (fun aq27 wz28 ez29 => ?_)
  have hl30 : wz24.length = 33 := (vg_sl ez25).trans ((vg_plen ez20).trans (congrArg (· + 1) (hl21)))
  have fh31 : wz28[33]? = some (aq27, .inl (ay 0, 150, .inl (fun _ => 0))) := by rw [← hl30]; exact vg_pl ez29
  have fh32 : wz28[29]? = some (a, .inr (10, [.int 0, .int 0, .int 0, .ref aq1, .ref aq9, .ref aq18, .null, .null, .null, .null, .null, .null, .null, .null, .int 0, .null, .null, .null, .null, .null, .null, .null, .null, .null, .null, .null, .null, .null, .int 0, .null])) := vg_pn ez29 (fh26)
  refine vg_putF X in_X7_init_X7 tyX7 tyX7_ok nmX7 29 fh32 rfl 6 (by decide) ml_X7_init_19 rfl rfl hinit rfl rfl rfl (Nat.le_of_ble_eq_true rfl) dX7_init_37 (fun wz33 ez34 => ?_)
  have fh35 : wz33[29]? = some (a, .inr (10, [.int 0, .int 0, .int 0, .ref aq1, .ref aq9, .ref aq18, .ref aq27, .null, .null, .null, .null, .null, .null, .null, .int 0, .null, .null, .null, .null, .null, .null, .null, .null, .null, .null, .null, .null, .null, .int 0, .null])) := vg_se ez34 fh32
  refine vg_aload_n X dX7_init_40 0 rfl rfl ?_
  refine vg_sipush X (nI 150) dX7_init_41 (by decide) ?_
  refine vg_newI X 150 na_X7_init_i rfl (by decide) (Nat.le_of_ble_eq_true rfl) (Nat.le_of_ble_eq_true rfl) dX7_init_44 (fun aq36 wz37 ez38 => ?_)
  have hl39 : wz33.length = 34 := (vg_sl ez34).trans ((vg_plen ez29).trans (congrArg (· + 1) (hl30)))
  have fh40 : wz37[34]? = some (aq36, .inl (ay 0, 150, .inl (fun _ => 0))) := by rw [← hl39]; exact vg_pl ez38
  have fh41 : wz37[29]? = some (a, .inr (10, [.int 0, .int 0, .int 0, .ref aq1, .ref aq9, .ref aq18, .ref aq27, .null, .null, .null, .null, .null, .null, .null, .int 0, .null, .null, .null, .null, .null, .null, .null, .null, .null, .null, .null, .null, .null, .int 0, .null])) := vg_pn ez38 (fh35)
  refine vg_putF X in_X7_init_X7 tyX7 tyX7_ok nmX7 29 fh41 rfl 7 (by decide) ml_X7_init_22 rfl rfl hinit rfl rfl rfl (Nat.le_of_ble_eq_true rfl) dX7_init_46 (fun wz42 ez43 => ?_)
  have fh44 : wz42[29]? = some (a, .inr (10, [.int 0, .int 0, .int 0, .ref aq1, .ref aq9, .ref aq18, .ref aq27, .ref aq36, .null, .null, .null, .null, .null, .null, .int 0, .null, .null, .null, .null, .null, .null, .null, .null, .null, .null, .null, .null, .null, .int 0, .null])) := vg_se ez43 fh41
  refine vg_aload_n X dX7_init_49 0 rfl rfl ?_
  refine vg_sipush X (nI 150) dX7_init_50 (by decide) ?_
  refine vg_newI X 150 na_X7_init_i rfl (by decide) (Nat.le_of_ble_eq_true rfl) (Nat.le_of_ble_eq_true rfl) dX7_init_53 (fun aq45 wz46 ez47 => ?_)
  have hl48 : wz42.length = 35 := (vg_sl ez43).trans ((vg_plen ez38).trans (congrArg (· + 1) (hl39)))
  have fh49 : wz46[35]? = some (aq45, .inl (ay 0, 150, .inl (fun _ => 0))) := by rw [← hl48]; exact vg_pl ez47
  have fh50 : wz46[29]? = some (a, .inr (10, [.int 0, .int 0, .int 0, .ref aq1, .ref aq9, .ref aq18, .ref aq27, .ref aq36, .null, .null, .null, .null, .null, .null, .int 0, .null, .null, .null, .null, .null, .null, .null, .null, .null, .null, .null, .null, .null, .int 0, .null])) := vg_pn ez47 (fh44)
  refine vg_putF X in_X7_init_X7 tyX7 tyX7_ok nmX7 29 fh50 rfl 8 (by decide) ml_X7_init_25 rfl rfl hinit rfl rfl rfl (Nat.le_of_ble_eq_true rfl) dX7_init_55 (fun wz51 ez52 => ?_)
  have fh53 : wz51[29]? = some (a, .inr (10, [.int 0, .int 0, .int 0, .ref aq1, .ref aq9, .ref aq18, .ref aq27, .ref aq36, .ref aq45, .null, .null, .null, .null, .null, .int 0, .null, .null, .null, .null, .null, .null, .null, .null, .null, .null, .null, .null, .null, .int 0, .null])) := vg_se ez52 fh50
  refine vg_aload_n X dX7_init_58 0 rfl rfl ?_
  refine vg_sipush X (nI 150) dX7_init_59 (by decide) ?_
  refine vg_newZ X 150 na_X7_init_z rfl (by decide) (Nat.le_of_ble_eq_true rfl) (Nat.le_of_ble_eq_true rfl) dX7_init_62 (fun aq54 wz55 ez56 => ?_)
  have hl57 : wz51.length = 36 := (vg_sl ez52).trans ((vg_plen ez47).trans (congrArg (· + 1) (hl48)))
  have fh58 : wz55[36]? = some (aq54, .inl (ay 2, 150, .inl (fun _ => 0))) := by rw [← hl57]; exact vg_pl ez56
  have fh59 : wz55[29]? = some (a, .inr (10, [.int 0, .int 0, .int 0, .ref aq1, .ref aq9, .ref aq18, .ref aq27, .ref aq36, .ref aq45, .null, .null, .null, .null, .null, .int 0, .null, .null, .null, .null, .null, .null, .null, .null, .null, .null, .null, .null, .null, .int 0, .null])) := vg_pn ez56 (fh53)
  refine vg_putF X in_X7_init_X7 tyX7 tyX7_ok nmX7 29 fh59 rfl 9 (by decide) ml_X7_init_28 rfl rfl hinit rfl rfl rfl (Nat.le_of_ble_eq_true rfl) dX7_init_64 (fun wz60 ez61 => ?_)
  have fh62 : wz60[29]? = some (a, .inr (10, [.int 0, .int 0, .int 0, .ref aq1, .ref aq9, .ref aq18, .ref aq27, .ref aq36, .ref aq45, .ref aq54, .null, .null, .null, .null, .int 0, .null, .null, .null, .null, .null, .null, .null, .null, .null, .null, .null, .null, .null, .int 0, .null])) := vg_se ez61 fh59
  refine vg_aload_n X dX7_init_67 0 rfl rfl ?_
  refine vg_sipush X (nI 150) dX7_init_68 (by decide) ?_
  refine vg_newI X 150 na_X7_init_i rfl (by decide) (Nat.le_of_ble_eq_true rfl) (Nat.le_of_ble_eq_true rfl) dX7_init_71 (fun aq63 wz64 ez65 => ?_)
  have hl66 : wz60.length = 37 := (vg_sl ez61).trans ((vg_plen ez56).trans (congrArg (· + 1) (hl57)))
  have fh67 : wz64[37]? = some (aq63, .inl (ay 0, 150, .inl (fun _ => 0))) := by rw [← hl66]; exact vg_pl ez65
  have fh68 : wz64[29]? = some (a, .inr (10, [.int 0, .int 0, .int 0, .ref aq1, .ref aq9, .ref aq18, .ref aq27, .ref aq36, .ref aq45, .ref aq54, .null, .null, .null, .null, .int 0, .null, .null, .null, .null, .null, .null, .null, .null, .null, .null, .null, .null, .null, .int 0, .null])) := vg_pn ez65 (fh62)
  refine vg_putF X in_X7_init_X7 tyX7 tyX7_ok nmX7 29 fh68 rfl 10 (by decide) ml_X7_init_32 rfl rfl hinit rfl rfl rfl (Nat.le_of_ble_eq_true rfl) dX7_init_73 (fun wz69 ez70 => ?_)
  have fh71 : wz69[29]? = some (a, .inr (10, [.int 0, .int 0, .int 0, .ref aq1, .ref aq9, .ref aq18, .ref aq27, .ref aq36, .ref aq45, .ref aq54, .ref aq63, .null, .null, .null, .int 0, .null, .null, .null, .null, .null, .null, .null, .null, .null, .null, .null, .null, .null, .int 0, .null])) := vg_se ez70 fh68
  refine vg_aload_n X dX7_init_76 0 rfl rfl ?_
  refine vg_sipush X (nI 450) dX7_init_77 (by decide) ?_
  refine vg_newI X 450 na_X7_init_i rfl (by decide) (Nat.le_of_ble_eq_true rfl) (Nat.le_of_ble_eq_true rfl) dX7_init_80 (fun aq72 wz73 ez74 => ?_)
  have hl75 : wz69.length = 38 := (vg_sl ez70).trans ((vg_plen ez65).trans (congrArg (· + 1) (hl66)))
  have fh76 : wz73[38]? = some (aq72, .inl (ay 0, 450, .inl (fun _ => 0))) := by rw [← hl75]; exact vg_pl ez74
  have fh77 : wz73[29]? = some (a, .inr (10, [.int 0, .int 0, .int 0, .ref aq1, .ref aq9, .ref aq18, .ref aq27, .ref aq36, .ref aq45, .ref aq54, .ref aq63, .null, .null, .null, .int 0, .null, .null, .null, .null, .null, .null, .null, .null, .null, .null, .null, .null, .null, .int 0, .null])) := vg_pn ez74 (fh71)
  refine vg_putF X in_X7_init_X7 tyX7 tyX7_ok nmX7 29 fh77 rfl 11 (by decide) ml_X7_init_35 rfl rfl hinit rfl rfl rfl (Nat.le_of_ble_eq_true rfl) dX7_init_82 (fun wz78 ez79 => ?_)
  have fh80 : wz78[29]? = some (a, .inr (10, [.int 0, .int 0, .int 0, .ref aq1, .ref aq9, .ref aq18, .ref aq27, .ref aq36, .ref aq45, .ref aq54, .ref aq63, .ref aq72, .null, .null, .int 0, .null, .null, .null, .null, .null, .null, .null, .null, .null, .null, .null, .null, .null, .int 0, .null])) := vg_se ez79 fh77
  refine vg_aload_n X dX7_init_85 0 rfl rfl ?_
  refine vg_sipush X (nI 450) dX7_init_86 (by decide) ?_
  refine vg_newI X 450 na_X7_init_i rfl (by decide) (Nat.le_of_ble_eq_true rfl) (Nat.le_of_ble_eq_true rfl) dX7_init_89 (fun aq81 wz82 ez83 => ?_)
  have hl84 : wz78.length = 39 := (vg_sl ez79).trans ((vg_plen ez74).trans (congrArg (· + 1) (hl75)))
  have fh85 : wz82[39]? = some (aq81, .inl (ay 0, 450, .inl (fun _ => 0))) := by rw [← hl84]; exact vg_pl ez83
  have fh86 : wz82[29]? = some (a, .inr (10, [.int 0, .int 0, .int 0, .ref aq1, .ref aq9, .ref aq18, .ref aq27, .ref aq36, .ref aq45, .ref aq54, .ref aq63, .ref aq72, .null, .null, .int 0, .null, .null, .null, .null, .null, .null, .null, .null, .null, .null, .null, .null, .null, .int 0, .null])) := vg_pn ez83 (fh80)
  refine vg_putF X in_X7_init_X7 tyX7 tyX7_ok nmX7 29 fh86 rfl 12 (by decide) ml_X7_init_38 rfl rfl hinit rfl rfl rfl (Nat.le_of_ble_eq_true rfl) dX7_init_91 (fun wz87 ez88 => ?_)
  have fh89 : wz87[29]? = some (a, .inr (10, [.int 0, .int 0, .int 0, .ref aq1, .ref aq9, .ref aq18, .ref aq27, .ref aq36, .ref aq45, .ref aq54, .ref aq63, .ref aq72, .ref aq81, .null, .int 0, .null, .null, .null, .null, .null, .null, .null, .null, .null, .null, .null, .null, .null, .int 0, .null])) := vg_se ez88 fh86
  refine vg_aload_n X dX7_init_94 0 rfl rfl ?_
  refine vg_sipush X (nI 450) dX7_init_95 (by decide) ?_
  refine vg_newI X 450 na_X7_init_i rfl (by decide) (Nat.le_of_ble_eq_true rfl) (Nat.le_of_ble_eq_true rfl) dX7_init_98 (fun aq90 wz91 ez92 => ?_)
  have hl93 : wz87.length = 40 := (vg_sl ez88).trans ((vg_plen ez83).trans (congrArg (· + 1) (hl84)))
  have fh94 : wz91[40]? = some (aq90, .inl (ay 0, 450, .inl (fun _ => 0))) := by rw [← hl93]; exact vg_pl ez92
  have fh95 : wz91[29]? = some (a, .inr (10, [.int 0, .int 0, .int 0, .ref aq1, .ref aq9, .ref aq18, .ref aq27, .ref aq36, .ref aq45, .ref aq54, .ref aq63, .ref aq72, .ref aq81, .null, .int 0, .null, .null, .null, .null, .null, .null, .null, .null, .null, .null, .null, .null, .null, .int 0, .null])) := vg_pn ez92 (fh89)
  refine vg_putF X in_X7_init_X7 tyX7 tyX7_ok nmX7 29 fh95 rfl 13 (by decide) ml_X7_init_41 rfl rfl hinit rfl rfl rfl (Nat.le_of_ble_eq_true rfl) dX7_init_100 (fun wz96 ez97 => ?_)
  have fh98 : wz96[29]? = some (a, .inr (10, [.int 0, .int 0, .int 0, .ref aq1, .ref aq9, .ref aq18, .ref aq27, .ref aq36, .ref aq45, .ref aq54, .ref aq63, .ref aq72, .ref aq81, .ref aq90, .int 0, .null, .null, .null, .null, .null, .null, .null, .null, .null, .null, .null, .null, .null, .int 0, .null])) := vg_se ez97 fh95
  refine vg_aload_n X dX7_init_103 0 rfl rfl ?_
  refine vg_bipush X (nI 12) dX7_init_104 (by decide) ?_
  refine vg_newI X 12 na_X7_init_i rfl (by decide) (Nat.le_of_ble_eq_true rfl) (Nat.le_of_ble_eq_true rfl) dX7_init_106 (fun aq99 wz100 ez101 => ?_)
  have hl102 : wz96.length = 41 := (vg_sl ez97).trans ((vg_plen ez92).trans (congrArg (· + 1) (hl93)))
  have fh103 : wz100[41]? = some (aq99, .inl (ay 0, 12, .inl (fun _ => 0))) := by rw [← hl102]; exact vg_pl ez101
  have fh104 : wz100[29]? = some (a, .inr (10, [.int 0, .int 0, .int 0, .ref aq1, .ref aq9, .ref aq18, .ref aq27, .ref aq36, .ref aq45, .ref aq54, .ref aq63, .ref aq72, .ref aq81, .ref aq90, .int 0, .null, .null, .null, .null, .null, .null, .null, .null, .null, .null, .null, .null, .null, .int 0, .null])) := vg_pn ez101 (fh98)
  refine vg_putF X in_X7_init_X7 tyX7 tyX7_ok nmX7 29 fh104 rfl 15 (by decide) ml_X7_init_44 rfl rfl hinit rfl rfl rfl (Nat.le_of_ble_eq_true rfl) dX7_init_108 (fun wz105 ez106 => ?_)
  have fh107 : wz105[29]? = some (a, .inr (10, [.int 0, .int 0, .int 0, .ref aq1, .ref aq9, .ref aq18, .ref aq27, .ref aq36, .ref aq45, .ref aq54, .ref aq63, .ref aq72, .ref aq81, .ref aq90, .int 0, .ref aq99, .null, .null, .null, .null, .null, .null, .null, .null, .null, .null, .null, .null, .int 0, .null])) := vg_se ez106 fh104
  refine vg_aload_n X dX7_init_111 0 rfl rfl ?_
  refine vg_bipush X (nI 12) dX7_init_112 (by decide) ?_
  refine vg_newI X 12 na_X7_init_i rfl (by decide) (Nat.le_of_ble_eq_true rfl) (Nat.le_of_ble_eq_true rfl) dX7_init_114 (fun aq108 wz109 ez110 => ?_)
  have hl111 : wz105.length = 42 := (vg_sl ez106).trans ((vg_plen ez101).trans (congrArg (· + 1) (hl102)))
  have fh112 : wz109[42]? = some (aq108, .inl (ay 0, 12, .inl (fun _ => 0))) := by rw [← hl111]; exact vg_pl ez110
  have fh113 : wz109[29]? = some (a, .inr (10, [.int 0, .int 0, .int 0, .ref aq1, .ref aq9, .ref aq18, .ref aq27, .ref aq36, .ref aq45, .ref aq54, .ref aq63, .ref aq72, .ref aq81, .ref aq90, .int 0, .ref aq99, .null, .null, .null, .null, .null, .null, .null, .null, .null, .null, .null, .null, .int 0, .null])) := vg_pn ez110 (fh107)
  refine vg_putF X in_X7_init_X7 tyX7 tyX7_ok nmX7 29 fh113 rfl 16 (by decide) ml_X7_init_47 rfl rfl hinit rfl rfl rfl (Nat.le_of_ble_eq_true rfl) dX7_init_116 (fun wz114 ez115 => ?_)
  have fh116 : wz114[29]? = some (a, .inr (10, [.int 0, .int 0, .int 0, .ref aq1, .ref aq9, .ref aq18, .ref aq27, .ref aq36, .ref aq45, .ref aq54, .ref aq63, .ref aq72, .ref aq81, .ref aq90, .int 0, .ref aq99, .ref aq108, .null, .null, .null, .null, .null, .null, .null, .null, .null, .null, .null, .int 0, .null])) := vg_se ez115 fh113
  refine vg_aload_n X dX7_init_119 0 rfl rfl ?_
  refine vg_bipush X (nI 12) dX7_init_120 (by decide) ?_
  refine vg_newI X 12 na_X7_init_i rfl (by decide) (Nat.le_of_ble_eq_true rfl) (Nat.le_of_ble_eq_true rfl) dX7_init_122 (fun aq117 wz118 ez119 => ?_)
  have hl120 : wz114.length = 43 := (vg_sl ez115).trans ((vg_plen ez110).trans (congrArg (· + 1) (hl111)))
  have fh121 : wz118[43]? = some (aq117, .inl (ay 0, 12, .inl (fun _ => 0))) := by rw [← hl120]; exact vg_pl ez119
  have fh122 : wz118[29]? = some (a, .inr (10, [.int 0, .int 0, .int 0, .ref aq1, .ref aq9, .ref aq18, .ref aq27, .ref aq36, .ref aq45, .ref aq54, .ref aq63, .ref aq72, .ref aq81, .ref aq90, .int 0, .ref aq99, .ref aq108, .null, .null, .null, .null, .null, .null, .null, .null, .null, .null, .null, .int 0, .null])) := vg_pn ez119 (fh116)
  refine vg_putF X in_X7_init_X7 tyX7 tyX7_ok nmX7 29 fh122 rfl 17 (by decide) ml_X7_init_50 rfl rfl hinit rfl rfl rfl (Nat.le_of_ble_eq_true rfl) dX7_init_124 (fun wz123 ez124 => ?_)
  have fh125 : wz123[29]? = some (a, .inr (10, [.int 0, .int 0, .int 0, .ref aq1, .ref aq9, .ref aq18, .ref aq27, .ref aq36, .ref aq45, .ref aq54, .ref aq63, .ref aq72, .ref aq81, .ref aq90, .int 0, .ref aq99, .ref aq108, .ref aq117, .null, .null, .null, .null, .null, .null, .null, .null, .null, .null, .int 0, .null])) := vg_se ez124 fh122
  refine vg_aload_n X dX7_init_127 0 rfl rfl ?_
  refine vg_bipush X (nI 12) dX7_init_128 (by decide) ?_
  refine vg_newI X 12 na_X7_init_i rfl (by decide) (Nat.le_of_ble_eq_true rfl) (Nat.le_of_ble_eq_true rfl) dX7_init_130 (fun aq126 wz127 ez128 => ?_)
  have hl129 : wz123.length = 44 := (vg_sl ez124).trans ((vg_plen ez119).trans (congrArg (· + 1) (hl120)))
  have fh130 : wz127[44]? = some (aq126, .inl (ay 0, 12, .inl (fun _ => 0))) := by rw [← hl129]; exact vg_pl ez128
  have fh131 : wz127[29]? = some (a, .inr (10, [.int 0, .int 0, .int 0, .ref aq1, .ref aq9, .ref aq18, .ref aq27, .ref aq36, .ref aq45, .ref aq54, .ref aq63, .ref aq72, .ref aq81, .ref aq90, .int 0, .ref aq99, .ref aq108, .ref aq117, .null, .null, .null, .null, .null, .null, .null, .null, .null, .null, .int 0, .null])) := vg_pn ez128 (fh125)
  refine vg_putF X in_X7_init_X7 tyX7 tyX7_ok nmX7 29 fh131 rfl 18 (by decide) ml_X7_init_53 rfl rfl hinit rfl rfl rfl (Nat.le_of_ble_eq_true rfl) dX7_init_132 (fun wz132 ez133 => ?_)
  have fh134 : wz132[29]? = some (a, .inr (10, [.int 0, .int 0, .int 0, .ref aq1, .ref aq9, .ref aq18, .ref aq27, .ref aq36, .ref aq45, .ref aq54, .ref aq63, .ref aq72, .ref aq81, .ref aq90, .int 0, .ref aq99, .ref aq108, .ref aq117, .ref aq126, .null, .null, .null, .null, .null, .null, .null, .null, .null, .int 0, .null])) := vg_se ez133 fh131
  refine vg_aload_n X dX7_init_135 0 rfl rfl ?_
  refine vg_bipush X (nI 12) dX7_init_136 (by decide) ?_
  refine vg_newI X 12 na_X7_init_i rfl (by decide) (Nat.le_of_ble_eq_true rfl) (Nat.le_of_ble_eq_true rfl) dX7_init_138 (fun aq135 wz136 ez137 => ?_)
  have hl138 : wz132.length = 45 := (vg_sl ez133).trans ((vg_plen ez128).trans (congrArg (· + 1) (hl129)))
  have fh139 : wz136[45]? = some (aq135, .inl (ay 0, 12, .inl (fun _ => 0))) := by rw [← hl138]; exact vg_pl ez137
  have fh140 : wz136[29]? = some (a, .inr (10, [.int 0, .int 0, .int 0, .ref aq1, .ref aq9, .ref aq18, .ref aq27, .ref aq36, .ref aq45, .ref aq54, .ref aq63, .ref aq72, .ref aq81, .ref aq90, .int 0, .ref aq99, .ref aq108, .ref aq117, .ref aq126, .null, .null, .null, .null, .null, .null, .null, .null, .null, .int 0, .null])) := vg_pn ez137 (fh134)
  refine vg_putF X in_X7_init_X7 tyX7 tyX7_ok nmX7 29 fh140 rfl 19 (by decide) ml_X7_init_56 rfl rfl hinit rfl rfl rfl (Nat.le_of_ble_eq_true rfl) dX7_init_140 (fun wz141 ez142 => ?_)
  have fh143 : wz141[29]? = some (a, .inr (10, [.int 0, .int 0, .int 0, .ref aq1, .ref aq9, .ref aq18, .ref aq27, .ref aq36, .ref aq45, .ref aq54, .ref aq63, .ref aq72, .ref aq81, .ref aq90, .int 0, .ref aq99, .ref aq108, .ref aq117, .ref aq126, .ref aq135, .null, .null, .null, .null, .null, .null, .null, .null, .int 0, .null])) := vg_se ez142 fh140
  refine vg_aload_n X dX7_init_143 0 rfl rfl ?_
  refine vg_bipush X (nI 6) dX7_init_144 (by decide) ?_
  refine vg_newZ X 6 na_X7_init_z rfl (by decide) (Nat.le_of_ble_eq_true rfl) (Nat.le_of_ble_eq_true rfl) dX7_init_146 (fun aq144 wz145 ez146 => ?_)
  have hl147 : wz141.length = 46 := (vg_sl ez142).trans ((vg_plen ez137).trans (congrArg (· + 1) (hl138)))
  have fh148 : wz145[46]? = some (aq144, .inl (ay 2, 6, .inl (fun _ => 0))) := by rw [← hl147]; exact vg_pl ez146
  have fh149 : wz145[29]? = some (a, .inr (10, [.int 0, .int 0, .int 0, .ref aq1, .ref aq9, .ref aq18, .ref aq27, .ref aq36, .ref aq45, .ref aq54, .ref aq63, .ref aq72, .ref aq81, .ref aq90, .int 0, .ref aq99, .ref aq108, .ref aq117, .ref aq126, .ref aq135, .null, .null, .null, .null, .null, .null, .null, .null, .int 0, .null])) := vg_pn ez146 (fh143)
  refine vg_putF X in_X7_init_X7 tyX7 tyX7_ok nmX7 29 fh149 rfl 20 (by decide) ml_X7_init_59 rfl rfl hinit rfl rfl rfl (Nat.le_of_ble_eq_true rfl) dX7_init_148 (fun wz150 ez151 => ?_)
  have fh152 : wz150[29]? = some (a, .inr (10, [.int 0, .int 0, .int 0, .ref aq1, .ref aq9, .ref aq18, .ref aq27, .ref aq36, .ref aq45, .ref aq54, .ref aq63, .ref aq72, .ref aq81, .ref aq90, .int 0, .ref aq99, .ref aq108, .ref aq117, .ref aq126, .ref aq135, .ref aq144, .null, .null, .null, .null, .null, .null, .null, .int 0, .null])) := vg_se ez151 fh149
  refine vg_aload_n X dX7_init_151 0 rfl rfl ?_
  refine vg_bipush X (nI 6) dX7_init_152 (by decide) ?_
  refine vg_newI X 6 na_X7_init_i rfl (by decide) (Nat.le_of_ble_eq_true rfl) (Nat.le_of_ble_eq_true rfl) dX7_init_154 (fun aq153 wz154 ez155 => ?_)
  have hl156 : wz150.length = 47 := (vg_sl ez151).trans ((vg_plen ez146).trans (congrArg (· + 1) (hl147)))
  have fh157 : wz154[47]? = some (aq153, .inl (ay 0, 6, .inl (fun _ => 0))) := by rw [← hl156]; exact vg_pl ez155
  have fh158 : wz154[29]? = some (a, .inr (10, [.int 0, .int 0, .int 0, .ref aq1, .ref aq9, .ref aq18, .ref aq27, .ref aq36, .ref aq45, .ref aq54, .ref aq63, .ref aq72, .ref aq81, .ref aq90, .int 0, .ref aq99, .ref aq108, .ref aq117, .ref aq126, .ref aq135, .ref aq144, .null, .null, .null, .null, .null, .null, .null, .int 0, .null])) := vg_pn ez155 (fh152)
  refine vg_putF X in_X7_init_X7 tyX7 tyX7_ok nmX7 29 fh158 rfl 21 (by decide) ml_X7_init_62 rfl rfl hinit rfl rfl rfl (Nat.le_of_ble_eq_true rfl) dX7_init_156 (fun wz159 ez160 => ?_)
  have fh161 : wz159[29]? = some (a, .inr (10, [.int 0, .int 0, .int 0, .ref aq1, .ref aq9, .ref aq18, .ref aq27, .ref aq36, .ref aq45, .ref aq54, .ref aq63, .ref aq72, .ref aq81, .ref aq90, .int 0, .ref aq99, .ref aq108, .ref aq117, .ref aq126, .ref aq135, .ref aq144, .ref aq153, .null, .null, .null, .null, .null, .null, .int 0, .null])) := vg_se ez160 fh158
  refine vg_aload_n X dX7_init_159 0 rfl rfl ?_
  refine vg_bipush X (nI 6) dX7_init_160 (by decide) ?_
  refine vg_newI X 6 na_X7_init_i rfl (by decide) (Nat.le_of_ble_eq_true rfl) (Nat.le_of_ble_eq_true rfl) dX7_init_162 (fun aq162 wz163 ez164 => ?_)
  have hl165 : wz159.length = 48 := (vg_sl ez160).trans ((vg_plen ez155).trans (congrArg (· + 1) (hl156)))
  have fh166 : wz163[48]? = some (aq162, .inl (ay 0, 6, .inl (fun _ => 0))) := by rw [← hl165]; exact vg_pl ez164
  have fh167 : wz163[29]? = some (a, .inr (10, [.int 0, .int 0, .int 0, .ref aq1, .ref aq9, .ref aq18, .ref aq27, .ref aq36, .ref aq45, .ref aq54, .ref aq63, .ref aq72, .ref aq81, .ref aq90, .int 0, .ref aq99, .ref aq108, .ref aq117, .ref aq126, .ref aq135, .ref aq144, .ref aq153, .null, .null, .null, .null, .null, .null, .int 0, .null])) := vg_pn ez164 (fh161)
  refine vg_putF X in_X7_init_X7 tyX7 tyX7_ok nmX7 29 fh167 rfl 22 (by decide) ml_X7_init_65 rfl rfl hinit rfl rfl rfl (Nat.le_of_ble_eq_true rfl) dX7_init_164 (fun wz168 ez169 => ?_)
  have fh170 : wz168[29]? = some (a, .inr (10, [.int 0, .int 0, .int 0, .ref aq1, .ref aq9, .ref aq18, .ref aq27, .ref aq36, .ref aq45, .ref aq54, .ref aq63, .ref aq72, .ref aq81, .ref aq90, .int 0, .ref aq99, .ref aq108, .ref aq117, .ref aq126, .ref aq135, .ref aq144, .ref aq153, .ref aq162, .null, .null, .null, .null, .null, .int 0, .null])) := vg_se ez169 fh167
  refine vg_aload_n X dX7_init_167 0 rfl rfl ?_
  refine vg_bipush X (nI 6) dX7_init_168 (by decide) ?_
  refine vg_newI X 6 na_X7_init_i rfl (by decide) (Nat.le_of_ble_eq_true rfl) (Nat.le_of_ble_eq_true rfl) dX7_init_170 (fun aq171 wz172 ez173 => ?_)
  have hl174 : wz168.length = 49 := (vg_sl ez169).trans ((vg_plen ez164).trans (congrArg (· + 1) (hl165)))
  have fh175 : wz172[49]? = some (aq171, .inl (ay 0, 6, .inl (fun _ => 0))) := by rw [← hl174]; exact vg_pl ez173
  have fh176 : wz172[29]? = some (a, .inr (10, [.int 0, .int 0, .int 0, .ref aq1, .ref aq9, .ref aq18, .ref aq27, .ref aq36, .ref aq45, .ref aq54, .ref aq63, .ref aq72, .ref aq81, .ref aq90, .int 0, .ref aq99, .ref aq108, .ref aq117, .ref aq126, .ref aq135, .ref aq144, .ref aq153, .ref aq162, .null, .null, .null, .null, .null, .int 0, .null])) := vg_pn ez173 (fh170)
  refine vg_putF X in_X7_init_X7 tyX7 tyX7_ok nmX7 29 fh176 rfl 23 (by decide) ml_X7_init_68 rfl rfl hinit rfl rfl rfl (Nat.le_of_ble_eq_true rfl) dX7_init_172 (fun wz177 ez178 => ?_)
  have fh179 : wz177[29]? = some (a, .inr (10, [.int 0, .int 0, .int 0, .ref aq1, .ref aq9, .ref aq18, .ref aq27, .ref aq36, .ref aq45, .ref aq54, .ref aq63, .ref aq72, .ref aq81, .ref aq90, .int 0, .ref aq99, .ref aq108, .ref aq117, .ref aq126, .ref aq135, .ref aq144, .ref aq153, .ref aq162, .ref aq171, .null, .null, .null, .null, .int 0, .null])) := vg_se ez178 fh176
  refine vg_aload_n X dX7_init_175 0 rfl rfl ?_
  refine vg_sipush X (nI 1200) dX7_init_176 (by decide) ?_
  refine vg_newJ X 1200 na_X7_init_l rfl (by decide) (Nat.le_of_ble_eq_true rfl) (Nat.le_of_ble_eq_true rfl) dX7_init_179 (fun aq180 wz181 ez182 => ?_)
  have hl183 : wz177.length = 50 := (vg_sl ez178).trans ((vg_plen ez173).trans (congrArg (· + 1) (hl174)))
  have fh184 : wz181[50]? = some (aq180, .inl (ay 1, 1200, .inr (.inl (fun _ => 0)))) := by rw [← hl183]; exact vg_pl ez182
  have fh185 : wz181[29]? = some (a, .inr (10, [.int 0, .int 0, .int 0, .ref aq1, .ref aq9, .ref aq18, .ref aq27, .ref aq36, .ref aq45, .ref aq54, .ref aq63, .ref aq72, .ref aq81, .ref aq90, .int 0, .ref aq99, .ref aq108, .ref aq117, .ref aq126, .ref aq135, .ref aq144, .ref aq153, .ref aq162, .ref aq171, .null, .null, .null, .null, .int 0, .null])) := vg_pn ez182 (fh179)
  refine vg_putF X in_X7_init_X7 tyX7 tyX7_ok nmX7 29 fh185 rfl 24 (by decide) ml_X7_init_71 rfl rfl hinit rfl rfl rfl (Nat.le_of_ble_eq_true rfl) dX7_init_181 (fun wz186 ez187 => ?_)
  have fh188 : wz186[29]? = some (a, .inr (10, [.int 0, .int 0, .int 0, .ref aq1, .ref aq9, .ref aq18, .ref aq27, .ref aq36, .ref aq45, .ref aq54, .ref aq63, .ref aq72, .ref aq81, .ref aq90, .int 0, .ref aq99, .ref aq108, .ref aq117, .ref aq126, .ref aq135, .ref aq144, .ref aq153, .ref aq162, .ref aq171, .ref aq180, .null, .null, .null, .int 0, .null])) := vg_se ez187 fh185
  refine vg_aload_n X dX7_init_184 0 rfl rfl ?_
  refine vg_sipush X (nI 200) dX7_init_185 (by decide) ?_
  refine vg_newJ X 200 na_X7_init_l rfl (by decide) (Nat.le_of_ble_eq_true rfl) (Nat.le_of_ble_eq_true rfl) dX7_init_188 (fun aq189 wz190 ez191 => ?_)
  have hl192 : wz186.length = 51 := (vg_sl ez187).trans ((vg_plen ez182).trans (congrArg (· + 1) (hl183)))
  have fh193 : wz190[51]? = some (aq189, .inl (ay 1, 200, .inr (.inl (fun _ => 0)))) := by rw [← hl192]; exact vg_pl ez191
  have fh194 : wz190[29]? = some (a, .inr (10, [.int 0, .int 0, .int 0, .ref aq1, .ref aq9, .ref aq18, .ref aq27, .ref aq36, .ref aq45, .ref aq54, .ref aq63, .ref aq72, .ref aq81, .ref aq90, .int 0, .ref aq99, .ref aq108, .ref aq117, .ref aq126, .ref aq135, .ref aq144, .ref aq153, .ref aq162, .ref aq171, .ref aq180, .null, .null, .null, .int 0, .null])) := vg_pn ez191 (fh188)
  refine vg_putF X in_X7_init_X7 tyX7 tyX7_ok nmX7 29 fh194 rfl 25 (by decide) ml_X7_init_75 rfl rfl hinit rfl rfl rfl (Nat.le_of_ble_eq_true rfl) dX7_init_190 (fun wz195 ez196 => ?_)
  have fh197 : wz195[29]? = some (a, .inr (10, [.int 0, .int 0, .int 0, .ref aq1, .ref aq9, .ref aq18, .ref aq27, .ref aq36, .ref aq45, .ref aq54, .ref aq63, .ref aq72, .ref aq81, .ref aq90, .int 0, .ref aq99, .ref aq108, .ref aq117, .ref aq126, .ref aq135, .ref aq144, .ref aq153, .ref aq162, .ref aq171, .ref aq180, .ref aq189, .null, .null, .int 0, .null])) := vg_se ez196 fh194
  refine vg_aload_n X dX7_init_193 0 rfl rfl ?_
  refine vg_sipush X (nI 1200) dX7_init_194 (by decide) ?_
  refine vg_newJ X 1200 na_X7_init_l rfl (by decide) (Nat.le_of_ble_eq_true rfl) (Nat.le_of_ble_eq_true rfl) dX7_init_197 (fun aq198 wz199 ez200 => ?_)
  have hl201 : wz195.length = 52 := (vg_sl ez196).trans ((vg_plen ez191).trans (congrArg (· + 1) (hl192)))
  have fh202 : wz199[52]? = some (aq198, .inl (ay 1, 1200, .inr (.inl (fun _ => 0)))) := by rw [← hl201]; exact vg_pl ez200
  have fh203 : wz199[29]? = some (a, .inr (10, [.int 0, .int 0, .int 0, .ref aq1, .ref aq9, .ref aq18, .ref aq27, .ref aq36, .ref aq45, .ref aq54, .ref aq63, .ref aq72, .ref aq81, .ref aq90, .int 0, .ref aq99, .ref aq108, .ref aq117, .ref aq126, .ref aq135, .ref aq144, .ref aq153, .ref aq162, .ref aq171, .ref aq180, .ref aq189, .null, .null, .int 0, .null])) := vg_pn ez200 (fh197)
  refine vg_putF X in_X7_init_X7 tyX7 tyX7_ok nmX7 29 fh203 rfl 26 (by decide) ml_X7_init_78 rfl rfl hinit rfl rfl rfl (Nat.le_of_ble_eq_true rfl) dX7_init_199 (fun wz204 ez205 => ?_)
  have fh206 : wz204[29]? = some (a, .inr (10, [.int 0, .int 0, .int 0, .ref aq1, .ref aq9, .ref aq18, .ref aq27, .ref aq36, .ref aq45, .ref aq54, .ref aq63, .ref aq72, .ref aq81, .ref aq90, .int 0, .ref aq99, .ref aq108, .ref aq117, .ref aq126, .ref aq135, .ref aq144, .ref aq153, .ref aq162, .ref aq171, .ref aq180, .ref aq189, .ref aq198, .null, .int 0, .null])) := vg_se ez205 fh203
  refine vg_aload_n X dX7_init_202 0 rfl rfl ?_
  refine vg_sipush X (nI 1200) dX7_init_203 (by decide) ?_
  refine vg_newJ X 1200 na_X7_init_l rfl (by decide) (Nat.le_of_ble_eq_true rfl) (Nat.le_of_ble_eq_true rfl) dX7_init_206 (fun aq207 wz208 ez209 => ?_)
  have hl210 : wz204.length = 53 := (vg_sl ez205).trans ((vg_plen ez200).trans (congrArg (· + 1) (hl201)))
  have fh211 : wz208[53]? = some (aq207, .inl (ay 1, 1200, .inr (.inl (fun _ => 0)))) := by rw [← hl210]; exact vg_pl ez209
  have fh212 : wz208[29]? = some (a, .inr (10, [.int 0, .int 0, .int 0, .ref aq1, .ref aq9, .ref aq18, .ref aq27, .ref aq36, .ref aq45, .ref aq54, .ref aq63, .ref aq72, .ref aq81, .ref aq90, .int 0, .ref aq99, .ref aq108, .ref aq117, .ref aq126, .ref aq135, .ref aq144, .ref aq153, .ref aq162, .ref aq171, .ref aq180, .ref aq189, .ref aq198, .null, .int 0, .null])) := vg_pn ez209 (fh206)
  refine vg_putF X in_X7_init_X7 tyX7 tyX7_ok nmX7 29 fh212 rfl 27 (by decide) ml_X7_init_81 rfl rfl hinit rfl rfl rfl (Nat.le_of_ble_eq_true rfl) dX7_init_208 (fun wz213 ez214 => ?_)
  have fh215 : wz213[29]? = some (a, .inr (10, [.int 0, .int 0, .int 0, .ref aq1, .ref aq9, .ref aq18, .ref aq27, .ref aq36, .ref aq45, .ref aq54, .ref aq63, .ref aq72, .ref aq81, .ref aq90, .int 0, .ref aq99, .ref aq108, .ref aq117, .ref aq126, .ref aq135, .ref aq144, .ref aq153, .ref aq162, .ref aq171, .ref aq180, .ref aq189, .ref aq198, .ref aq207, .int 0, .null])) := vg_se ez214 fh212
  refine vg_aload_n X dX7_init_211 0 rfl rfl ?_
  refine vg_sipush X (nI 200) dX7_init_212 (by decide) ?_
  refine vg_newI X 200 na_X7_init_i rfl (by decide) (Nat.le_of_ble_eq_true rfl) (Nat.le_of_ble_eq_true rfl) dX7_init_215 (fun aq216 wz217 ez218 => ?_)
  have hl219 : wz213.length = 54 := (vg_sl ez214).trans ((vg_plen ez209).trans (congrArg (· + 1) (hl210)))
  have fh220 : wz217[54]? = some (aq216, .inl (ay 0, 200, .inl (fun _ => 0))) := by rw [← hl219]; exact vg_pl ez218
  have fh221 : wz217[29]? = some (a, .inr (10, [.int 0, .int 0, .int 0, .ref aq1, .ref aq9, .ref aq18, .ref aq27, .ref aq36, .ref aq45, .ref aq54, .ref aq63, .ref aq72, .ref aq81, .ref aq90, .int 0, .ref aq99, .ref aq108, .ref aq117, .ref aq126, .ref aq135, .ref aq144, .ref aq153, .ref aq162, .ref aq171, .ref aq180, .ref aq189, .ref aq198, .ref aq207, .int 0, .null])) := vg_pn ez218 (fh215)
  refine vg_putF X in_X7_init_X7 tyX7 tyX7_ok nmX7 29 fh221 rfl 29 (by decide) ml_X7_init_84 rfl rfl hinit rfl rfl rfl (Nat.le_of_ble_eq_true rfl) dX7_init_217 (fun wz222 ez223 => ?_)
  have fh224 : wz222[29]? = some (a, .inr (10, [.int 0, .int 0, .int 0, .ref aq1, .ref aq9, .ref aq18, .ref aq27, .ref aq36, .ref aq45, .ref aq54, .ref aq63, .ref aq72, .ref aq81, .ref aq90, .int 0, .ref aq99, .ref aq108, .ref aq117, .ref aq126, .ref aq135, .ref aq144, .ref aq153, .ref aq162, .ref aq171, .ref aq180, .ref aq189, .ref aq198, .ref aq207, .int 0, .ref aq216])) := vg_se ez223 fh221
  have fh225 : wz222[30]? = some (aq1, .inl (ay 0, 150, .inl (fun _ => 0))) := (vg_sn ez223 (by decide)).trans (vg_pn ez218 ((vg_sn ez214 (by decide)).trans (vg_pn ez209 ((vg_sn ez205 (by decide)).trans (vg_pn ez200 ((vg_sn ez196 (by decide)).trans (vg_pn ez191 ((vg_sn ez187 (by decide)).trans (vg_pn ez182 ((vg_sn ez178 (by decide)).trans (vg_pn ez173 ((vg_sn ez169 (by decide)).trans (vg_pn ez164 ((vg_sn ez160 (by decide)).trans (vg_pn ez155 ((vg_sn ez151 (by decide)).trans (vg_pn ez146 ((vg_sn ez142 (by decide)).trans (vg_pn ez137 ((vg_sn ez133 (by decide)).trans (vg_pn ez128 ((vg_sn ez124 (by decide)).trans (vg_pn ez119 ((vg_sn ez115 (by decide)).trans (vg_pn ez110 ((vg_sn ez106 (by decide)).trans (vg_pn ez101 ((vg_sn ez97 (by decide)).trans (vg_pn ez92 ((vg_sn ez88 (by decide)).trans (vg_pn ez83 ((vg_sn ez79 (by decide)).trans (vg_pn ez74 ((vg_sn ez70 (by decide)).trans (vg_pn ez65 ((vg_sn ez61 (by decide)).trans (vg_pn ez56 ((vg_sn ez52 (by decide)).trans (vg_pn ez47 ((vg_sn ez43 (by decide)).trans (vg_pn ez38 ((vg_sn ez34 (by decide)).trans (vg_pn ez29 ((vg_sn ez25 (by decide)).trans (vg_pn ez20 ((vg_sn ez16 (by decide)).trans (vg_pn ez11 ((vg_sn ez7 (by decide)).trans (fh4)))))))))))))))))))))))))))))))))))))))))))))))))
  have fh226 : wz222[31]? = some (aq9, .inl (ay 0, 150, .inl (fun _ => 0))) := (vg_sn ez223 (by decide)).trans (vg_pn ez218 ((vg_sn ez214 (by decide)).trans (vg_pn ez209 ((vg_sn ez205 (by decide)).trans (vg_pn ez200 ((vg_sn ez196 (by decide)).trans (vg_pn ez191 ((vg_sn ez187 (by decide)).trans (vg_pn ez182 ((vg_sn ez178 (by decide)).trans (vg_pn ez173 ((vg_sn ez169 (by decide)).trans (vg_pn ez164 ((vg_sn ez160 (by decide)).trans (vg_pn ez155 ((vg_sn ez151 (by decide)).trans (vg_pn ez146 ((vg_sn ez142 (by decide)).trans (vg_pn ez137 ((vg_sn ez133 (by decide)).trans (vg_pn ez128 ((vg_sn ez124 (by decide)).trans (vg_pn ez119 ((vg_sn ez115 (by decide)).trans (vg_pn ez110 ((vg_sn ez106 (by decide)).trans (vg_pn ez101 ((vg_sn ez97 (by decide)).trans (vg_pn ez92 ((vg_sn ez88 (by decide)).trans (vg_pn ez83 ((vg_sn ez79 (by decide)).trans (vg_pn ez74 ((vg_sn ez70 (by decide)).trans (vg_pn ez65 ((vg_sn ez61 (by decide)).trans (vg_pn ez56 ((vg_sn ez52 (by decide)).trans (vg_pn ez47 ((vg_sn ez43 (by decide)).trans (vg_pn ez38 ((vg_sn ez34 (by decide)).trans (vg_pn ez29 ((vg_sn ez25 (by decide)).trans (vg_pn ez20 ((vg_sn ez16 (by decide)).trans (fh13)))))))))))))))))))))))))))))))))))))))))))))))
  have fh227 : wz222[32]? = some (aq18, .inl (ay 0, 150, .inl (fun _ => 0))) := (vg_sn ez223 (by decide)).trans (vg_pn ez218 ((vg_sn ez214 (by decide)).trans (vg_pn ez209 ((vg_sn ez205 (by decide)).trans (vg_pn ez200 ((vg_sn ez196 (by decide)).trans (vg_pn ez191 ((vg_sn ez187 (by decide)).trans (vg_pn ez182 ((vg_sn ez178 (by decide)).trans (vg_pn ez173 ((vg_sn ez169 (by decide)).trans (vg_pn ez164 ((vg_sn ez160 (by decide)).trans (vg_pn ez155 ((vg_sn ez151 (by decide)).trans (vg_pn ez146 ((vg_sn ez142 (by decide)).trans (vg_pn ez137 ((vg_sn ez133 (by decide)).trans (vg_pn ez128 ((vg_sn ez124 (by decide)).trans (vg_pn ez119 ((vg_sn ez115 (by decide)).trans (vg_pn ez110 ((vg_sn ez106 (by decide)).trans (vg_pn ez101 ((vg_sn ez97 (by decide)).trans (vg_pn ez92 ((vg_sn ez88 (by decide)).trans (vg_pn ez83 ((vg_sn ez79 (by decide)).trans (vg_pn ez74 ((vg_sn ez70 (by decide)).trans (vg_pn ez65 ((vg_sn ez61 (by decide)).trans (vg_pn ez56 ((vg_sn ez52 (by decide)).trans (vg_pn ez47 ((vg_sn ez43 (by decide)).trans (vg_pn ez38 ((vg_sn ez34 (by decide)).trans (vg_pn ez29 ((vg_sn ez25 (by decide)).trans (fh22)))))))))))))))))))))))))))))))))))))))))))))
  have fh228 : wz222[33]? = some (aq27, .inl (ay 0, 150, .inl (fun _ => 0))) := (vg_sn ez223 (by decide)).trans (vg_pn ez218 ((vg_sn ez214 (by decide)).trans (vg_pn ez209 ((vg_sn ez205 (by decide)).trans (vg_pn ez200 ((vg_sn ez196 (by decide)).trans (vg_pn ez191 ((vg_sn ez187 (by decide)).trans (vg_pn ez182 ((vg_sn ez178 (by decide)).trans (vg_pn ez173 ((vg_sn ez169 (by decide)).trans (vg_pn ez164 ((vg_sn ez160 (by decide)).trans (vg_pn ez155 ((vg_sn ez151 (by decide)).trans (vg_pn ez146 ((vg_sn ez142 (by decide)).trans (vg_pn ez137 ((vg_sn ez133 (by decide)).trans (vg_pn ez128 ((vg_sn ez124 (by decide)).trans (vg_pn ez119 ((vg_sn ez115 (by decide)).trans (vg_pn ez110 ((vg_sn ez106 (by decide)).trans (vg_pn ez101 ((vg_sn ez97 (by decide)).trans (vg_pn ez92 ((vg_sn ez88 (by decide)).trans (vg_pn ez83 ((vg_sn ez79 (by decide)).trans (vg_pn ez74 ((vg_sn ez70 (by decide)).trans (vg_pn ez65 ((vg_sn ez61 (by decide)).trans (vg_pn ez56 ((vg_sn ez52 (by decide)).trans (vg_pn ez47 ((vg_sn ez43 (by decide)).trans (vg_pn ez38 ((vg_sn ez34 (by decide)).trans (fh31)))))))))))))))))))))))))))))))))))))))))))
  have fh229 : wz222[34]? = some (aq36, .inl (ay 0, 150, .inl (fun _ => 0))) := (vg_sn ez223 (by decide)).trans (vg_pn ez218 ((vg_sn ez214 (by decide)).trans (vg_pn ez209 ((vg_sn ez205 (by decide)).trans (vg_pn ez200 ((vg_sn ez196 (by decide)).trans (vg_pn ez191 ((vg_sn ez187 (by decide)).trans (vg_pn ez182 ((vg_sn ez178 (by decide)).trans (vg_pn ez173 ((vg_sn ez169 (by decide)).trans (vg_pn ez164 ((vg_sn ez160 (by decide)).trans (vg_pn ez155 ((vg_sn ez151 (by decide)).trans (vg_pn ez146 ((vg_sn ez142 (by decide)).trans (vg_pn ez137 ((vg_sn ez133 (by decide)).trans (vg_pn ez128 ((vg_sn ez124 (by decide)).trans (vg_pn ez119 ((vg_sn ez115 (by decide)).trans (vg_pn ez110 ((vg_sn ez106 (by decide)).trans (vg_pn ez101 ((vg_sn ez97 (by decide)).trans (vg_pn ez92 ((vg_sn ez88 (by decide)).trans (vg_pn ez83 ((vg_sn ez79 (by decide)).trans (vg_pn ez74 ((vg_sn ez70 (by decide)).trans (vg_pn ez65 ((vg_sn ez61 (by decide)).trans (vg_pn ez56 ((vg_sn ez52 (by decide)).trans (vg_pn ez47 ((vg_sn ez43 (by decide)).trans (fh40)))))))))))))))))))))))))))))))))))))))))
  have fh230 : wz222[35]? = some (aq45, .inl (ay 0, 150, .inl (fun _ => 0))) := (vg_sn ez223 (by decide)).trans (vg_pn ez218 ((vg_sn ez214 (by decide)).trans (vg_pn ez209 ((vg_sn ez205 (by decide)).trans (vg_pn ez200 ((vg_sn ez196 (by decide)).trans (vg_pn ez191 ((vg_sn ez187 (by decide)).trans (vg_pn ez182 ((vg_sn ez178 (by decide)).trans (vg_pn ez173 ((vg_sn ez169 (by decide)).trans (vg_pn ez164 ((vg_sn ez160 (by decide)).trans (vg_pn ez155 ((vg_sn ez151 (by decide)).trans (vg_pn ez146 ((vg_sn ez142 (by decide)).trans (vg_pn ez137 ((vg_sn ez133 (by decide)).trans (vg_pn ez128 ((vg_sn ez124 (by decide)).trans (vg_pn ez119 ((vg_sn ez115 (by decide)).trans (vg_pn ez110 ((vg_sn ez106 (by decide)).trans (vg_pn ez101 ((vg_sn ez97 (by decide)).trans (vg_pn ez92 ((vg_sn ez88 (by decide)).trans (vg_pn ez83 ((vg_sn ez79 (by decide)).trans (vg_pn ez74 ((vg_sn ez70 (by decide)).trans (vg_pn ez65 ((vg_sn ez61 (by decide)).trans (vg_pn ez56 ((vg_sn ez52 (by decide)).trans (fh49)))))))))))))))))))))))))))))))))))))))
  have fh231 : wz222[36]? = some (aq54, .inl (ay 2, 150, .inl (fun _ => 0))) := (vg_sn ez223 (by decide)).trans (vg_pn ez218 ((vg_sn ez214 (by decide)).trans (vg_pn ez209 ((vg_sn ez205 (by decide)).trans (vg_pn ez200 ((vg_sn ez196 (by decide)).trans (vg_pn ez191 ((vg_sn ez187 (by decide)).trans (vg_pn ez182 ((vg_sn ez178 (by decide)).trans (vg_pn ez173 ((vg_sn ez169 (by decide)).trans (vg_pn ez164 ((vg_sn ez160 (by decide)).trans (vg_pn ez155 ((vg_sn ez151 (by decide)).trans (vg_pn ez146 ((vg_sn ez142 (by decide)).trans (vg_pn ez137 ((vg_sn ez133 (by decide)).trans (vg_pn ez128 ((vg_sn ez124 (by decide)).trans (vg_pn ez119 ((vg_sn ez115 (by decide)).trans (vg_pn ez110 ((vg_sn ez106 (by decide)).trans (vg_pn ez101 ((vg_sn ez97 (by decide)).trans (vg_pn ez92 ((vg_sn ez88 (by decide)).trans (vg_pn ez83 ((vg_sn ez79 (by decide)).trans (vg_pn ez74 ((vg_sn ez70 (by decide)).trans (vg_pn ez65 ((vg_sn ez61 (by decide)).trans (fh58)))))))))))))))))))))))))))))))))))))
  have fh232 : wz222[37]? = some (aq63, .inl (ay 0, 150, .inl (fun _ => 0))) := (vg_sn ez223 (by decide)).trans (vg_pn ez218 ((vg_sn ez214 (by decide)).trans (vg_pn ez209 ((vg_sn ez205 (by decide)).trans (vg_pn ez200 ((vg_sn ez196 (by decide)).trans (vg_pn ez191 ((vg_sn ez187 (by decide)).trans (vg_pn ez182 ((vg_sn ez178 (by decide)).trans (vg_pn ez173 ((vg_sn ez169 (by decide)).trans (vg_pn ez164 ((vg_sn ez160 (by decide)).trans (vg_pn ez155 ((vg_sn ez151 (by decide)).trans (vg_pn ez146 ((vg_sn ez142 (by decide)).trans (vg_pn ez137 ((vg_sn ez133 (by decide)).trans (vg_pn ez128 ((vg_sn ez124 (by decide)).trans (vg_pn ez119 ((vg_sn ez115 (by decide)).trans (vg_pn ez110 ((vg_sn ez106 (by decide)).trans (vg_pn ez101 ((vg_sn ez97 (by decide)).trans (vg_pn ez92 ((vg_sn ez88 (by decide)).trans (vg_pn ez83 ((vg_sn ez79 (by decide)).trans (vg_pn ez74 ((vg_sn ez70 (by decide)).trans (fh67)))))))))))))))))))))))))))))))))))
  have fh233 : wz222[38]? = some (aq72, .inl (ay 0, 450, .inl (fun _ => 0))) := (vg_sn ez223 (by decide)).trans (vg_pn ez218 ((vg_sn ez214 (by decide)).trans (vg_pn ez209 ((vg_sn ez205 (by decide)).trans (vg_pn ez200 ((vg_sn ez196 (by decide)).trans (vg_pn ez191 ((vg_sn ez187 (by decide)).trans (vg_pn ez182 ((vg_sn ez178 (by decide)).trans (vg_pn ez173 ((vg_sn ez169 (by decide)).trans (vg_pn ez164 ((vg_sn ez160 (by decide)).trans (vg_pn ez155 ((vg_sn ez151 (by decide)).trans (vg_pn ez146 ((vg_sn ez142 (by decide)).trans (vg_pn ez137 ((vg_sn ez133 (by decide)).trans (vg_pn ez128 ((vg_sn ez124 (by decide)).trans (vg_pn ez119 ((vg_sn ez115 (by decide)).trans (vg_pn ez110 ((vg_sn ez106 (by decide)).trans (vg_pn ez101 ((vg_sn ez97 (by decide)).trans (vg_pn ez92 ((vg_sn ez88 (by decide)).trans (vg_pn ez83 ((vg_sn ez79 (by decide)).trans (fh76)))))))))))))))))))))))))))))))))
  have fh234 : wz222[39]? = some (aq81, .inl (ay 0, 450, .inl (fun _ => 0))) := (vg_sn ez223 (by decide)).trans (vg_pn ez218 ((vg_sn ez214 (by decide)).trans (vg_pn ez209 ((vg_sn ez205 (by decide)).trans (vg_pn ez200 ((vg_sn ez196 (by decide)).trans (vg_pn ez191 ((vg_sn ez187 (by decide)).trans (vg_pn ez182 ((vg_sn ez178 (by decide)).trans (vg_pn ez173 ((vg_sn ez169 (by decide)).trans (vg_pn ez164 ((vg_sn ez160 (by decide)).trans (vg_pn ez155 ((vg_sn ez151 (by decide)).trans (vg_pn ez146 ((vg_sn ez142 (by decide)).trans (vg_pn ez137 ((vg_sn ez133 (by decide)).trans (vg_pn ez128 ((vg_sn ez124 (by decide)).trans (vg_pn ez119 ((vg_sn ez115 (by decide)).trans (vg_pn ez110 ((vg_sn ez106 (by decide)).trans (vg_pn ez101 ((vg_sn ez97 (by decide)).trans (vg_pn ez92 ((vg_sn ez88 (by decide)).trans (fh85)))))))))))))))))))))))))))))))
  have fh235 : wz222[40]? = some (aq90, .inl (ay 0, 450, .inl (fun _ => 0))) := (vg_sn ez223 (by decide)).trans (vg_pn ez218 ((vg_sn ez214 (by decide)).trans (vg_pn ez209 ((vg_sn ez205 (by decide)).trans (vg_pn ez200 ((vg_sn ez196 (by decide)).trans (vg_pn ez191 ((vg_sn ez187 (by decide)).trans (vg_pn ez182 ((vg_sn ez178 (by decide)).trans (vg_pn ez173 ((vg_sn ez169 (by decide)).trans (vg_pn ez164 ((vg_sn ez160 (by decide)).trans (vg_pn ez155 ((vg_sn ez151 (by decide)).trans (vg_pn ez146 ((vg_sn ez142 (by decide)).trans (vg_pn ez137 ((vg_sn ez133 (by decide)).trans (vg_pn ez128 ((vg_sn ez124 (by decide)).trans (vg_pn ez119 ((vg_sn ez115 (by decide)).trans (vg_pn ez110 ((vg_sn ez106 (by decide)).trans (vg_pn ez101 ((vg_sn ez97 (by decide)).trans (fh94)))))))))))))))))))))))))))))
  have fh236 : wz222[41]? = some (aq99, .inl (ay 0, 12, .inl (fun _ => 0))) := (vg_sn ez223 (by decide)).trans (vg_pn ez218 ((vg_sn ez214 (by decide)).trans (vg_pn ez209 ((vg_sn ez205 (by decide)).trans (vg_pn ez200 ((vg_sn ez196 (by decide)).trans (vg_pn ez191 ((vg_sn ez187 (by decide)).trans (vg_pn ez182 ((vg_sn ez178 (by decide)).trans (vg_pn ez173 ((vg_sn ez169 (by decide)).trans (vg_pn ez164 ((vg_sn ez160 (by decide)).trans (vg_pn ez155 ((vg_sn ez151 (by decide)).trans (vg_pn ez146 ((vg_sn ez142 (by decide)).trans (vg_pn ez137 ((vg_sn ez133 (by decide)).trans (vg_pn ez128 ((vg_sn ez124 (by decide)).trans (vg_pn ez119 ((vg_sn ez115 (by decide)).trans (vg_pn ez110 ((vg_sn ez106 (by decide)).trans (fh103)))))))))))))))))))))))))))
  have fh237 : wz222[42]? = some (aq108, .inl (ay 0, 12, .inl (fun _ => 0))) := (vg_sn ez223 (by decide)).trans (vg_pn ez218 ((vg_sn ez214 (by decide)).trans (vg_pn ez209 ((vg_sn ez205 (by decide)).trans (vg_pn ez200 ((vg_sn ez196 (by decide)).trans (vg_pn ez191 ((vg_sn ez187 (by decide)).trans (vg_pn ez182 ((vg_sn ez178 (by decide)).trans (vg_pn ez173 ((vg_sn ez169 (by decide)).trans (vg_pn ez164 ((vg_sn ez160 (by decide)).trans (vg_pn ez155 ((vg_sn ez151 (by decide)).trans (vg_pn ez146 ((vg_sn ez142 (by decide)).trans (vg_pn ez137 ((vg_sn ez133 (by decide)).trans (vg_pn ez128 ((vg_sn ez124 (by decide)).trans (vg_pn ez119 ((vg_sn ez115 (by decide)).trans (fh112)))))))))))))))))))))))))
  have fh238 : wz222[43]? = some (aq117, .inl (ay 0, 12, .inl (fun _ => 0))) := (vg_sn ez223 (by decide)).trans (vg_pn ez218 ((vg_sn ez214 (by decide)).trans (vg_pn ez209 ((vg_sn ez205 (by decide)).trans (vg_pn ez200 ((vg_sn ez196 (by decide)).trans (vg_pn ez191 ((vg_sn ez187 (by decide)).trans (vg_pn ez182 ((vg_sn ez178 (by decide)).trans (vg_pn ez173 ((vg_sn ez169 (by decide)).trans (vg_pn ez164 ((vg_sn ez160 (by decide)).trans (vg_pn ez155 ((vg_sn ez151 (by decide)).trans (vg_pn ez146 ((vg_sn ez142 (by decide)).trans (vg_pn ez137 ((vg_sn ez133 (by decide)).trans (vg_pn ez128 ((vg_sn ez124 (by decide)).trans (fh121)))))))))))))))))))))))
  have fh239 : wz222[44]? = some (aq126, .inl (ay 0, 12, .inl (fun _ => 0))) := (vg_sn ez223 (by decide)).trans (vg_pn ez218 ((vg_sn ez214 (by decide)).trans (vg_pn ez209 ((vg_sn ez205 (by decide)).trans (vg_pn ez200 ((vg_sn ez196 (by decide)).trans (vg_pn ez191 ((vg_sn ez187 (by decide)).trans (vg_pn ez182 ((vg_sn ez178 (by decide)).trans (vg_pn ez173 ((vg_sn ez169 (by decide)).trans (vg_pn ez164 ((vg_sn ez160 (by decide)).trans (vg_pn ez155 ((vg_sn ez151 (by decide)).trans (vg_pn ez146 ((vg_sn ez142 (by decide)).trans (vg_pn ez137 ((vg_sn ez133 (by decide)).trans (fh130)))))))))))))))))))))
  have fh240 : wz222[45]? = some (aq135, .inl (ay 0, 12, .inl (fun _ => 0))) := (vg_sn ez223 (by decide)).trans (vg_pn ez218 ((vg_sn ez214 (by decide)).trans (vg_pn ez209 ((vg_sn ez205 (by decide)).trans (vg_pn ez200 ((vg_sn ez196 (by decide)).trans (vg_pn ez191 ((vg_sn ez187 (by decide)).trans (vg_pn ez182 ((vg_sn ez178 (by decide)).trans (vg_pn ez173 ((vg_sn ez169 (by decide)).trans (vg_pn ez164 ((vg_sn ez160 (by decide)).trans (vg_pn ez155 ((vg_sn ez151 (by decide)).trans (vg_pn ez146 ((vg_sn ez142 (by decide)).trans (fh139)))))))))))))))))))
  have fh241 : wz222[46]? = some (aq144, .inl (ay 2, 6, .inl (fun _ => 0))) := (vg_sn ez223 (by decide)).trans (vg_pn ez218 ((vg_sn ez214 (by decide)).trans (vg_pn ez209 ((vg_sn ez205 (by decide)).trans (vg_pn ez200 ((vg_sn ez196 (by decide)).trans (vg_pn ez191 ((vg_sn ez187 (by decide)).trans (vg_pn ez182 ((vg_sn ez178 (by decide)).trans (vg_pn ez173 ((vg_sn ez169 (by decide)).trans (vg_pn ez164 ((vg_sn ez160 (by decide)).trans (vg_pn ez155 ((vg_sn ez151 (by decide)).trans (fh148)))))))))))))))))
  have fh242 : wz222[47]? = some (aq153, .inl (ay 0, 6, .inl (fun _ => 0))) := (vg_sn ez223 (by decide)).trans (vg_pn ez218 ((vg_sn ez214 (by decide)).trans (vg_pn ez209 ((vg_sn ez205 (by decide)).trans (vg_pn ez200 ((vg_sn ez196 (by decide)).trans (vg_pn ez191 ((vg_sn ez187 (by decide)).trans (vg_pn ez182 ((vg_sn ez178 (by decide)).trans (vg_pn ez173 ((vg_sn ez169 (by decide)).trans (vg_pn ez164 ((vg_sn ez160 (by decide)).trans (fh157)))))))))))))))
  have fh243 : wz222[48]? = some (aq162, .inl (ay 0, 6, .inl (fun _ => 0))) := (vg_sn ez223 (by decide)).trans (vg_pn ez218 ((vg_sn ez214 (by decide)).trans (vg_pn ez209 ((vg_sn ez205 (by decide)).trans (vg_pn ez200 ((vg_sn ez196 (by decide)).trans (vg_pn ez191 ((vg_sn ez187 (by decide)).trans (vg_pn ez182 ((vg_sn ez178 (by decide)).trans (vg_pn ez173 ((vg_sn ez169 (by decide)).trans (fh166)))))))))))))
  have fh244 : wz222[49]? = some (aq171, .inl (ay 0, 6, .inl (fun _ => 0))) := (vg_sn ez223 (by decide)).trans (vg_pn ez218 ((vg_sn ez214 (by decide)).trans (vg_pn ez209 ((vg_sn ez205 (by decide)).trans (vg_pn ez200 ((vg_sn ez196 (by decide)).trans (vg_pn ez191 ((vg_sn ez187 (by decide)).trans (vg_pn ez182 ((vg_sn ez178 (by decide)).trans (fh175)))))))))))
  have fh245 : wz222[50]? = some (aq180, .inl (ay 1, 1200, .inr (.inl (fun _ => 0)))) := (vg_sn ez223 (by decide)).trans (vg_pn ez218 ((vg_sn ez214 (by decide)).trans (vg_pn ez209 ((vg_sn ez205 (by decide)).trans (vg_pn ez200 ((vg_sn ez196 (by decide)).trans (vg_pn ez191 ((vg_sn ez187 (by decide)).trans (fh184)))))))))
  have fh246 : wz222[51]? = some (aq189, .inl (ay 1, 200, .inr (.inl (fun _ => 0)))) := (vg_sn ez223 (by decide)).trans (vg_pn ez218 ((vg_sn ez214 (by decide)).trans (vg_pn ez209 ((vg_sn ez205 (by decide)).trans (vg_pn ez200 ((vg_sn ez196 (by decide)).trans (fh193)))))))
  have fh247 : wz222[52]? = some (aq198, .inl (ay 1, 1200, .inr (.inl (fun _ => 0)))) := (vg_sn ez223 (by decide)).trans (vg_pn ez218 ((vg_sn ez214 (by decide)).trans (vg_pn ez209 ((vg_sn ez205 (by decide)).trans (fh202)))))
  have fh248 : wz222[53]? = some (aq207, .inl (ay 1, 1200, .inr (.inl (fun _ => 0)))) := (vg_sn ez223 (by decide)).trans (vg_pn ez218 ((vg_sn ez214 (by decide)).trans (fh211)))
  have fh249 : wz222[54]? = some (aq216, .inl (ay 0, 200, .inl (fun _ => 0))) := (vg_sn ez223 (by decide)).trans (fh220)
  have hl250 : wz222.length = 55 := (vg_sl ez223).trans ((vg_plen ez218).trans (congrArg (· + 1) (hl219)))
  exact vg_vret X rfl ⟨⟨fun k => if k = 0 then aq1 else if k = 1 then aq9 else if k = 2 then aq18 else if k = 3 then aq27 else if k = 4 then aq36 else if k = 5 then aq45 else if k = 6 then aq54 else if k = 7 then aq63 else if k = 8 then aq72 else if k = 9 then aq81 else if k = 10 then aq90 else if k = 11 then aq99 else if k = 12 then aq108 else if k = 13 then aq117 else if k = 14 then aq126 else if k = 15 then aq135 else if k = 16 then aq144 else if k = 17 then aq153 else if k = 18 then aq162 else if k = 19 then aq171 else if k = 20 then aq180 else if k = 21 then aq189 else if k = 22 then aq198 else if k = 23 then aq207 else if k = 24 then aq216 else 0, _, _, _, _, fh224, ⟨_, _, _, _, _, _, _, _, _, _, _, _, _, _, _, _, fh225, fh226, fh227, fh228, fh229, fh230, fh231, fh232, fh233, fh234, fh235, fh236, fh237, fh238, fh239, fh240, fun i hi => absurd hi (Nat.not_lt_zero i), fun i hi => absurd hi (Nat.not_lt_zero i)⟩, ⟨_, _, _, _, _, fh241, fh242, fh243, fh244, fh245, fun k hk => ⟨fun _ => rfl, fun q9 => absurd rfl q9⟩⟩, fh246, fh247, fh248, fh249, Nat.zero_le _, fun q hq => absurd hq (Nat.not_lt_zero q)⟩, hl250, (vg_gr_set (vg_gr_app (vg_gr_set (vg_gr_app (vg_gr_set (vg_gr_app (vg_gr_set (vg_gr_app (vg_gr_set (vg_gr_app (vg_gr_set (vg_gr_app (vg_gr_set (vg_gr_app (vg_gr_set (vg_gr_app (vg_gr_set (vg_gr_app (vg_gr_set (vg_gr_app (vg_gr_set (vg_gr_app (vg_gr_set (vg_gr_app (vg_gr_set (vg_gr_app (vg_gr_set (vg_gr_app (vg_gr_set (vg_gr_app (vg_gr_set (vg_gr_app (vg_gr_set (vg_gr_app (vg_gr_set (vg_gr_app (vg_gr_set (vg_gr_app (vg_gr_set (vg_gr_app (vg_gr_set (vg_gr_app (vg_gr_set (vg_gr_app (vg_gr_set (vg_gr_app (vg_gr_set (vg_gr_app (vg_gr_set (vg_gr_app (vg_gr_rf _ [29]) ez3) ez7 (Or.inl (by decide))) ez11) ez16 (Or.inl (by decide))) ez20) ez25 (Or.inl (by decide))) ez29) ez34 (Or.inl (by decide))) ez38) ez43 (Or.inl (by decide))) ez47) ez52 (Or.inl (by decide))) ez56) ez61 (Or.inl (by decide))) ez65) ez70 (Or.inl (by decide))) ez74) ez79 (Or.inl (by decide))) ez83) ez88 (Or.inl (by decide))) ez92) ez97 (Or.inl (by decide))) ez101) ez106 (Or.inl (by decide))) ez110) ez115 (Or.inl (by decide))) ez119) ez124 (Or.inl (by decide))) ez128) ez133 (Or.inl (by decide))) ez137) ez142 (Or.inl (by decide))) ez146) ez151 (Or.inl (by decide))) ez155) ez160 (Or.inl (by decide))) ez164) ez169 (Or.inl (by decide))) ez173) ez178 (Or.inl (by decide))) ez182) ez187 (Or.inl (by decide))) ez191) ez196 (Or.inl (by decide))) ez200) ez205 (Or.inl (by decide))) ez209) ez214 (Or.inl (by decide))) ez218) ez223 (Or.inl (by decide)))⟩ (Nat.le_of_ble_eq_true rfl) (Nat.le_of_ble_eq_true rfl) dX7_init_220
