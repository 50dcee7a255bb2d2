/-- the link of the class to its own nested class's constructor -/
def vi_W (U : State) : Prop := va_Nw (.methodLinkNest RX6 35 yX4_init RX6) U
theorem vi_st : vg_wst vi_W := fun _ _ hW h => va_Nw.warmM hW h
theorem vg_metW {D : va_G} {ay : Nat → ClassId} {base : Nat} {Gx : State → Prop} {Wx : State → Prop} {l : Launch} {y : MethodName} {ws0 ws' : List Cond} {rm : Room} {Qc : Array Value → State → Outcome → State → Prop} {mc ms : Nat} {cc : ByteArray} {maxL : Nat} {ret : Option FieldType} {own : String} {As : List Value} {ws : va_W} {lv : List (Nat × Value)}
    (hy : plainName y.cls = true) (hw : ws0 = Cond.code y cc maxL ret :: ws') (hown : y.cls = own) (hlen : (lg_sl As).length ≤ maxL) (hlv : lv_args 0 As = lv)
    (body : ∀ p e s m args below meth c, vg_C D ay base Gx p s m args meth c cc maxL own ws0 ret → meth.name = y.name → Wx s → vg_V D base p l e rm s m args below meth c maxL 0 0 (MQ below Qc args s mc ms (vg_A base)) lv [] ws 0) :
    Met l y ws0 rm (fun a9 s9 => va_Pc As (vg_B D ay base Gx ws) a9 s9 ∧ Wx s9) Qc mc ms (vg_A base) := by
  refine Met.ofW (cc := cc) (maxL := maxL) (ret := ret) hy hw ?_
  intro p e s m args below meth c s₁ B hml hv
  obtain ⟨⟨rfl, hbase, hP, hK, hD, hst, hgx⟩, hwx⟩ := hv
  have hts := atoms_spec (ws := ws0) B.pre
  have hw2 : s.vm.findClass own = some m.cls := by rw [← hown]; exact findClass_of_methodNamed B.named
  have hl := lv_entry As (n := maxL) hlen
  rw [lg_entry_eq]
  rw [hlv] at hl
  exact body p e s m As.toArray below meth c ⟨B.exec, B.bytes, hml, hw2, hts, hK, hbase, B.returns, B.notSynchronized, hst, hgx⟩ (name_of_methodNamed B.named B.method).1 hwx s.heap [] _ hl hP hD va_S.rf
theorem vg_runIW {D : va_G} {ay : Nat → ClassId} {base : Nat} {Gx : State → Prop} {p : Program} {l : Launch} {e : Env} {R : Room} {s : State} {m : MethodId} {args : Array Value} {below : List Frame} {meth : Method} {c : Code} {nL cells slots : Nat} {lv : List (Nat × Value)} {st rest : List Value} {ws : va_W} {pc : Nat} {cc : ByteArray} {own : String} {Ts : List Cond} {ret : Option FieldType} {Wx : State → Prop} (X : vg_C D ay base Gx p s m args meth c cc nL own Ts ret) {y : MethodName} {bytes : ByteArray} {maxL mc ms n index : Nat} {wy : List Cond} {rm : Room} {Qc : Array Value → State → Outcome → State → Prop} {b : Nat} {As : List Value} (hWx : vg_wst Wx) (hwx : Wx s) (hM : Met l y wy rm (fun a9 s9 => va_Pc (.ref b :: As) (vg_B D ay base Gx ws) a9 s9 ∧ Wx s9) Qc mc ms (vg_A base)) (cw : CallB R s args own index y bytes maxL none wy rm mc ms n ∧ y.name = "<init>" ∧ (Cond.instanceMethod y).before args s = true) (hn : As.length = n) (hst : st = As.reverse ++ .ref b :: rest) (hW : (rest.map fun v => v.category).sum ≤ 8) (hdg : decode cc pc = .ok (.invokespecial index, 3)) (hf : cells + mc ≤ R.cells ∧ slots + ms ≤ R.slots) : ∀ (H : Heap) (locs : List Loc) (ls : Array Slot), lv_has ls nL lv → va_P D vwCl ws H → va_D (vg_A base) ws → va_S (vg_A base) s.heap H locs → va_Run p l e R s m args below meth c H locs cells slots mc ms (F0 m pc ls st) rest (Qc (Value.ref b :: As).toArray) (vg_A base) := fun H locs ls hl hP hD hS => va_runI (As := As) (b := b) ⟨X.1, X.2.1, X.2.2.1, X.2.2.2.1, X.2.2.2.2.1⟩ hM cw ⟨vg_blindX hWx, fun U hU hW => ⟨⟨rfl, by rw [hU]; exact Nat.le_trans X.2.2.2.2.2.2.1 hS.1, by rw [hU]; exact hP, va_K.moved hW.alike X.2.2.2.2.2.1, hD, X.2.2.2.2.2.2.2.2.2.1, X.2.2.2.2.2.2.2.2.2.1 s U X.2.2.2.2.2.2.1 hW.alike (by rw [hU]; exact hS.1) (fun q h1 h2 => by rw [hU]; exact hS.2.1 q h1 h2) X.2.2.2.2.2.2.2.2.2.2⟩, hWx s U hW hwx⟩⟩ rfl hn hl.1 hst (lv_room hW) hdg hf
theorem oi_X6_init : Cond.methodLink RX6 1 Lib.objectInit ∈ wsX6_init := by decide +kernel
theorem oj_X6_init : Cond.instanceMethod Lib.objectInit ∈ wsX6_init := by decide +kernel
theorem ok_X6_init : Cond.code Lib.objectInit ⟨#[0xb1]⟩ 1 none ∈ wsX6_init := by decide +kernel
theorem dfX0_X6_init : ∀ j, j < 5 → defaultValue (tyX0 j) = vp_V [.null, .null, .null, .null, .int 0] j := fun j hj => by
  rcases (show j = 0 ∨ j = 1 ∨ j = 2 ∨ j = 3 ∨ j = 4 by omega) with rfl | rfl | rfl | rfl | rfl <;> rfl
theorem nc_X6_init_7 : Cond.classLink RX6 7 RX0 ∈ wsX6_init := by decide +kernel
theorem ni_X6_init_X0 : Cond.instantiable RX0 5 ∈ wsX6_init := by decide +kernel
theorem nn_X6_init_X0 : Cond.initialized RX0 ∈ wsX6_init := by decide +kernel
theorem in_X6_init_X0 : ∀ w ∈ u_ws RX0 TX0 5, w ∈ wsX6_init := by decide +kernel
theorem ci_X6_init_X0 : Cond.initialized RX0 ∈ wsX6_init := by decide +kernel
theorem cj_X6_init_X0_init : Cond.instanceMethod yX0_init ∈ wsX6_init := by decide +kernel
theorem ck_X6_init_9 : Cond.methodLink RX6 9 yX0_init ∈ wsX6_init := by decide +kernel
theorem in_X6_init_X6 : ∀ w ∈ u_ws RX6 TX6 5, w ∈ wsX6_init := by decide +kernel
theorem ml_X6_init_10 : Cond.fieldLink RX6 10 "WayTimes" "net" "LWayTimes$Net;" ∈ wsX6_init := by decide +kernel
theorem dfX3_X6_init : ∀ j, j < 7 → defaultValue (tyX3 j) = vp_V [.null, .null, .null, .null, .null, .null, .int 0] j := fun j hj => by
  rcases (show j = 0 ∨ j = 1 ∨ j = 2 ∨ j = 3 ∨ j = 4 ∨ j = 5 ∨ j = 6 by omega) with rfl | rfl | rfl | rfl | rfl | rfl | rfl <;> rfl
theorem nc_X6_init_16 : Cond.classLink RX6 16 RX3 ∈ wsX6_init := by decide +kernel
theorem ni_X6_init_X3 : Cond.instantiable RX3 7 ∈ wsX6_init := by decide +kernel
theorem nn_X6_init_X3 : Cond.initialized RX3 ∈ wsX6_init := by decide +kernel
theorem in_X6_init_X3 : ∀ w ∈ u_ws RX3 TX3 7, w ∈ wsX6_init := by decide +kernel
theorem ci_X6_init_X3 : Cond.initialized RX3 ∈ wsX6_init := by decide +kernel
theorem cj_X6_init_X3_init : Cond.instanceMethod yX3_init ∈ wsX6_init := by decide +kernel
theorem ck_X6_init_18 : Cond.methodLink RX6 18 yX3_init ∈ wsX6_init := by decide +kernel
theorem ml_X6_init_21 : Cond.fieldLink RX6 21 "WayTimes" "search" "LWayTimes$Search;" ∈ wsX6_init := by decide +kernel
theorem nq_X6_init_25 : Cond.classLink RX6 25 RX4 ∈ wsX6_init := by decide +kernel
theorem ml_X6_init_27 : Cond.fieldLink RX6 27 "WayTimes" "trees" "[LWayTimes$Tree;" ∈ wsX6_init := by decide +kernel
theorem na_X6_init_i : Cond.arrayClass .int ∈ wsX6_init := by decide +kernel
theorem ml_X6_init_31 : Cond.fieldLink RX6 31 "WayTimes" "wayBack" "[I" ∈ wsX6_init := by decide +kernel
theorem dfX4_X6_init : ∀ j, j < 4 → defaultValue (tyX4 j) = vp_V [.null, .null, .int 0, .int 0] j := fun j hj => by
  rcases (show j = 0 ∨ j = 1 ∨ j = 2 ∨ j = 3 by omega) with rfl | rfl | rfl | rfl <;> rfl
theorem nc_X6_init_25 : Cond.classLink RX6 25 RX4 ∈ wsX6_init := by decide +kernel
theorem ni_X6_init_X4 : Cond.instantiable RX4 4 ∈ wsX6_init := by decide +kernel
theorem nn_X6_init_X4 : Cond.initialized RX4 ∈ wsX6_init := by decide +kernel
theorem in_X6_init_X4 : ∀ w ∈ u_ws RX4 TX4 4, w ∈ wsX6_init := by decide +kernel
theorem ci_X6_init_X4 : Cond.initialized RX4 ∈ wsX6_init := by decide +kernel
theorem cj_X6_init_X4_init : Cond.instanceMethod yX4_init ∈ wsX6_init := by decide +kernel
set_option maxHeartbeats 4000000 in
set_option maxRecDepth 100000 in
/-- new WayTimes() -/
theorem c_X6_init (l : Launch) {D : va_G} {ay : Nat → ClassId} {base : Nat} {Gx : State → Prop} {ws : va_W} {ax tE mi : Nat} {el qp ua uq : Nat → Nat} {d fr to pe uv sk : Nat → Nat → Nat} (hq : ws[0]? = some (ax, .inr (9, [.null, .null, .null, .null, .int 0]))) (hlen : ws.length = 1) (hG : ∀ U, Gx U → vh_G base tE mi U) : Met l yX6_init wsX6_init ({ frames := 5, cells := 28, slots := 4252, locals := 96 } : Room) (fun a9 s9 => va_Pc [.ref ax] (vg_B D ay base Gx ws) a9 s9 ∧ vi_W s9) (va_Qv (fun u => ∃ (aN asr aTs aWB : Nat) (fb : Nat → Int32), u[0]? = some (ax, .inr (9, [.ref aN, .ref asr, .ref aTs, .ref aWB, .int (nI 0)])) ∧ cs_I ay u asr aN ∧ cw_N ay u aN tE 0 0 0 el qp ua uq d fr to pe uv ∧ ct_T ay u aTs 0 ua (fun _ => 0) (fun _ => 0) (fun _ => 0) sk ∧ u[16]? = some (aWB, .inl (ay 0, 150, .inl fb)) ∧ u.length = 29) (vg_B D ay base Gx) (vg_A base)) 28 4252 (vg_A base) := by
  refine vg_metW (cc := cX6_init) (maxL := 2) (ret := none) (own := RX6) (lv := [(0, .ref ax)]) (by decide) rfl rfl (Nat.le_of_ble_eq_true rfl) rfl ?_
  intro p e s m args below meth c X hinit hWm9
  obtain ⟨hZ, ⟨ft, hTT⟩, hAO, hAO4, hMi, hDc, hc2, hc5⟩ := hG s X.2.2.2.2.2.2.2.2.2.2
  refine vg_aload_n X dX6_init_0 0 rfl rfl ?_
  refine vg_objInit X oi_X6_init oj_X6_init ok_X6_init (Nat.le_of_ble_eq_true rfl) (Nat.le_of_ble_eq_true rfl) dX6_init_1 ?_
  refine vg_aload_n X dX6_init_4 0 rfl rfl ?_
  refine vg_new X (ci := 3) (C := RX0) (T := TX0) (N := 5) [.null, .null, .null, .null, .int 0] in_X6_init_X0 tyX0 tyX0_ok nc_X6_init_7 ni_X6_init_X0 nn_X6_init_X0 rfl dfX0_X6_init (Nat.le_of_ble_eq_true rfl) (Nat.le_of_ble_eq_true rfl) dX6_init_5 (fun aq1 wz2 ez3 => ?_)
  have fh4 : wz2[1]? = some (aq1, .inr (3, [.null, .null, .null, .null, .int 0])) := (show wz2[1]? = wz2[ws.length]? by rw [hlen]).trans (vg_pl ez3)
  refine vg_dup X dX6_init_8 rfl ?_
  have fh5 : wz2[0]? = some (ax, .inr (9, [.null, .null, .null, .null, .int 0])) := vg_pn ez3 (hq)
  have hl6 : wz2.length = 2 := (vg_plen ez3).trans (congrArg (· + 1) (hlen))
  refine vg_callv (vg_runI X (c_X0_init l fh4 hl6 hG (n := 0) (P := 0) (U := 0) (el := el) (qp := qp) (ua := ua) (uq := uq) (d := d) (fr := fr) (to := to) (pe := pe) (uv := uv)) (cwI 0 X.2.2.2.2.1 gX6_init_X0_init rfl rfl rfl (X.2.2.2.2.1 _ ci_X6_init_X0) (X.2.2.2.2.1 _ ck_X6_init_9) (X.2.2.2.2.1 _ cj_X6_init_X0_init) rfl (by decide +kernel) ⟨(Nat.le_of_ble_eq_true rfl), (Nat.le_of_ble_eq_true rfl)⟩) rfl rfl (Nat.le_of_ble_eq_true rfl) dX6_init_9 ⟨(Nat.le_of_ble_eq_true rfl), (Nat.le_of_ble_eq_true rfl)⟩) (fun wz7 PP8 => ?_)
  obtain ⟨hN, lA, gA⟩ := PP8
  have f0A := (gA.2 0 (by rw [hl6]; decide) (by decide)).trans fh5
  refine vg_putF X in_X6_init_X6 tyX6 tyX6_ok nmX6 0 f0A rfl 0 (by decide) ml_X6_init_10 rfl rfl hinit rfl rfl rfl (Nat.le_of_ble_eq_true rfl) dX6_init_12 (fun wz9 ez10 => ?_)
  have fh11 : wz9[0]? = some (ax, .inr (9, [.ref aq1, .null, .null, .null, .int 0])) := vg_se ez10 f0A
  refine vg_aload_n X dX6_init_15 0 rfl rfl ?_
  refine vg_new X (ci := 6) (C := RX3) (T := TX3) (N := 7) [.null, .null, .null, .null, .null, .null, .int 0] in_X6_init_X3 tyX3 tyX3_ok nc_X6_init_16 ni_X6_init_X3 nn_X6_init_X3 rfl dfX3_X6_init (Nat.le_of_ble_eq_true rfl) (Nat.le_of_ble_eq_true rfl) dX6_init_16 (fun aq12 wz13 ez14 => ?_)
  have hl15 : wz9.length = 6 := (vg_sl ez10).trans (lA)
  have fh16 : wz13[6]? = some (aq12, .inr (6, [.null, .null, .null, .null, .null, .null, .int 0])) := (show wz13[6]? = wz13[wz9.length]? by rw [hl15]).trans (vg_pl ez14)
  refine vg_dup X dX6_init_19 rfl ?_
  refine vg_aload_n X dX6_init_20 0 rfl rfl ?_
  have fh17 : wz13[0]? = some (ax, .inr (9, [.ref aq1, .null, .null, .null, .int 0])) := vg_pn ez14 (fh11)
  refine vg_get X in_X6_init_X6 0 fh17 rfl 0 (by decide) ml_X6_init_10 rfl rfl dX6_init_21 ?_
  have hl18 : wz13.length = 7 := (vg_plen ez14).trans (congrArg (· + 1) (hl15))
  refine vg_callv (vg_runI X (c_X3_init l fh16 hl18 (aN := aq1)) (cwI 1 X.2.2.2.2.1 gX6_init_X3_init rfl rfl rfl (X.2.2.2.2.1 _ ci_X6_init_X3) (X.2.2.2.2.1 _ ck_X6_init_18) (X.2.2.2.2.1 _ cj_X6_init_X3_init) rfl (by decide +kernel) ⟨(Nat.le_of_ble_eq_true rfl), (Nat.le_of_ble_eq_true rfl)⟩) rfl rfl (Nat.le_of_ble_eq_true rfl) dX6_init_24 ⟨(Nat.le_of_ble_eq_true rfl), (Nat.le_of_ble_eq_true rfl)⟩) (fun wz19 PP20 => ?_)
  obtain ⟨hI, lB, gB⟩ := PP20
  have f0B := (gB.2 0 (by rw [hl18]; decide) (by decide)).trans fh17
  have GA : vg_gr wz7 wz19 [0] := vg_gr_tr (vg_gr_app (vg_gr_set (vg_gr_rf wz7 [0]) ez10 (Or.inl (by decide))) ez14) gB (fun j hj => Or.inr (by rw [lA]; have := List.mem_singleton.mp hj; omega))
  refine vg_putF X in_X6_init_X6 tyX6 tyX6_ok nmX6 0 f0B rfl 1 (by decide) ml_X6_init_21 rfl rfl hinit rfl rfl rfl (Nat.le_of_ble_eq_true rfl) dX6_init_27 (fun wz21 ez22 => ?_)
  have fh23 : wz21[0]? = some (ax, .inr (9, [.ref aq1, .ref aq12, .null, .null, .int 0])) := vg_se ez22 f0B
  refine vg_aload_n X dX6_init_30 0 rfl rfl ?_
  refine vg_bipush X (nI 6) dX6_init_31 (by decide) ?_
  refine vg_newT X 6 nq_X6_init_25 hAO4 rfl (by decide) (Nat.le_of_ble_eq_true rfl) (Nat.le_of_ble_eq_true rfl) dX6_init_33 (fun aq24 wz25 ez26 => ?_)
  have hl27 : wz21.length = 15 := (vg_sl ez22).trans (lB)
  have fh28 : wz25[15]? = some (aq24, .inl (ay 3, 6, .inr (.inr (.inr (.inr (fun _ => none)))))) := (show wz25[15]? = wz25[wz21.length]? by rw [hl27]).trans (vg_pl ez26)
  have fh29 : wz25[0]? = some (ax, .inr (9, [.ref aq1, .ref aq12, .null, .null, .int 0])) := vg_pn ez26 (fh23)
  refine vg_putF X in_X6_init_X6 tyX6 tyX6_ok nmX6 0 fh29 rfl 2 (by decide) ml_X6_init_27 rfl rfl hinit rfl rfl rfl (Nat.le_of_ble_eq_true rfl) dX6_init_36 (fun wz30 ez31 => ?_)
  have fh32 : wz30[0]? = some (ax, .inr (9, [.ref aq1, .ref aq12, .ref aq24, .null, .int 0])) := vg_se ez31 fh29
  refine vg_aload_n X dX6_init_39 0 rfl rfl ?_
  refine vg_sipush X (nI 150) dX6_init_40 (by decide) ?_
  refine vg_newI X 150 na_X6_init_i rfl (by decide) (Nat.le_of_ble_eq_true rfl) (Nat.le_of_ble_eq_true rfl) dX6_init_43 (fun aq33 wz34 ez35 => ?_)
  have hl36 : wz30.length = 16 := (vg_sl ez31).trans ((vg_plen ez26).trans (congrArg (· + 1) (hl27)))
  have fh37 : wz34[16]? = some (aq33, .inl (ay 0, 150, .inl (fun _ => 0))) := (show wz34[16]? = wz34[wz30.length]? by rw [hl36]).trans (vg_pl ez35)
  have fh38 : wz34[0]? = some (ax, .inr (9, [.ref aq1, .ref aq12, .ref aq24, .null, .int 0])) := vg_pn ez35 (fh32)
  refine vg_putF X in_X6_init_X6 tyX6 tyX6_ok nmX6 0 fh38 rfl 3 (by decide) ml_X6_init_31 rfl rfl hinit rfl rfl rfl (Nat.le_of_ble_eq_true rfl) dX6_init_45 (fun wz39 ez40 => ?_)
  have fh41 : wz39[0]? = some (ax, .inr (9, [.ref aq1, .ref aq12, .ref aq24, .ref aq33, .int 0])) := vg_se ez40 fh38
  refine vg_iconst X (nI 0) dX6_init_48 (by decide) ?_
  refine vg_istore_n X [(1, .int (nI 0)), (0, .ref ax)] dX6_init_49 rfl (by decide) rfl ?_
  refine vg_iload_n X dX6_init_50 0 rfl rfl ?_
  refine vg_bipush X (nI 6) dX6_init_51 (by decide) ?_
  refine vg_icmp_ge X 75 dX6_init_53 (by decide) (fun c53 => ?_) (fun c53 => ?_)
  · have c53 : 6 ≤ 0 := (nI_leI (by omega) (by omega)).mp c53
    exact absurd c53 (by decide)
  · have c53 : ¬ 6 ≤ 0 := fun z => c53 ((nI_leI (by omega) (by omega)).mpr z)
    skip
    refine vg_aload_n X dX6_init_56 1 rfl rfl ?_
    refine vg_get X in_X6_init_X6 0 fh41 rfl 2 (by decide) ml_X6_init_27 rfl rfl dX6_init_57 ?_
    refine vg_iload_n X dX6_init_60 0 rfl rfl ?_
    refine vg_new X (ci := 7) (C := RX4) (T := TX4) (N := 4) [.null, .null, .int 0, .int 0] in_X6_init_X4 tyX4 tyX4_ok nc_X6_init_25 ni_X6_init_X4 nn_X6_init_X4 rfl dfX4_X6_init (Nat.le_of_ble_eq_true rfl) (Nat.le_of_ble_eq_true rfl) dX6_init_61 (fun aq42 wz43 ez44 => ?_)
    have hl45 : wz39.length = 17 := (vg_sl ez40).trans ((vg_plen ez35).trans (congrArg (· + 1) (hl36)))
    have fh46 : wz43[17]? = some (aq42, .inr (7, [.null, .null, .int 0, .int 0])) := (show wz43[17]? = wz43[wz39.length]? by rw [hl45]).trans (vg_pl ez44)
    refine vg_dup X dX6_init_64 rfl ?_
    have hl47 : wz43.length = 18 := (vg_plen ez44).trans (congrArg (· + 1) (hl45))
    have fh48 : wz43[0]? = some (ax, .inr (9, [.ref aq1, .ref aq12, .ref aq24, .ref aq33, .int 0])) := vg_pn ez44 (fh41)
    have fh49 : wz43[15]? = some (aq24, .inl (ay 3, 6, .inr (.inr (.inr (.inr (fun _ => none)))))) := vg_pn ez44 ((vg_sn ez40 (by decide)).trans (vg_pn ez35 ((vg_sn ez31 (by decide)).trans (fh28))))
    have fh50 : wz43[16]? = some (aq33, .inl (ay 0, 150, .inl (fun _ => 0))) := vg_pn ez44 ((vg_sn ez40 (by decide)).trans (fh37))
    refine vg_callv (vg_runIN X (c_X4_init l fh46 hl47) ⟨va_cnB 0 X.2.2.2.2.1 gX6_init_X4_init_n35 rfl rfl rfl hWm9 (X.2.2.2.2.1 _ ci_X6_init_X4) (by decide +kernel) ⟨(Nat.le_of_ble_eq_true rfl), (Nat.le_of_ble_eq_true rfl)⟩, rfl, X.2.2.2.2.1 _ cj_X6_init_X4_init⟩ rfl rfl (Nat.le_of_ble_eq_true rfl) dX6_init_65 ⟨(Nat.le_of_ble_eq_true rfl), (Nat.le_of_ble_eq_true rfl)⟩) (fun wz51 PP52 => ?_)
    obtain ⟨tl0, ga0, gb0, lC0, gC0⟩ := PP52
    have GC0 : vg_gr wz19 wz51 [0] := vg_gr_tr (vg_gr_app (vg_gr_set (vg_gr_app (vg_gr_set (vg_gr_app (vg_gr_set (vg_gr_rf wz19 [0]) ez22 (Or.inl (by decide))) ez26) ez31 (Or.inl (by decide))) ez35) ez40 (Or.inl (by decide))) ez44) gC0 (fun j hj => Or.inr (by rw [lB]; have := List.mem_singleton.mp hj; omega))
    have cx53 : wz51[0]? = some (ax, .inr (9, [.ref aq1, .ref aq12, .ref aq24, .ref aq33, .int 0])) := (gC0.2 0 (by rw [hl47]; decide) (by decide)).trans fh48
    have cx54 : wz51[15]? = some (aq24, .inl (ay 3, 6, .inr (.inr (.inr (.inr (fun _ => none)))))) := (gC0.2 15 (by rw [hl47]; decide) (by decide)).trans fh49
    have cx55 : wz51[16]? = some (aq33, .inl (ay 0, 150, .inl (fun _ => 0))) := (gC0.2 16 (by rw [hl47]; decide) (by decide)).trans fh50
    have ga0 : wz51[17]? = some (aq42, .inr (7, [.ref tl0, .null, .int 0, .int 0])) := ga0
    have gb0 : wz51[18]? = some (tl0, .inl (ay 1, 200, .inr (.inl (fun _ => 0)))) := gb0
    have lC0 : wz51.length = 19 := lC0
    refine vg_aastT X 15 cx54 17 ga0 rfl rfl (by omega) (by decide) dX6_init_68 (fun wz56 ez57 => ?_)
    have fh58 : wz56[15]? = some (aq24, .inl (ay 3, 6, .inr (.inr (.inr (.inr (va_up (fun _ => none) 0 (some aq42))))))) := vg_se ez57 cx54
    refine vg_iinc X (v := nI 1) [(1, .int (nI 1)), (0, .ref ax)] dX6_init_69 0 rfl (by decide) (by decide) rfl ?_
    refine vg_goto X 50 dX6_init_72 (by decide) ?_
    refine vg_iload_n X dX6_init_50 0 rfl rfl ?_
    refine vg_bipush X (nI 6) dX6_init_51 (by decide) ?_
    refine vg_icmp_ge X 75 dX6_init_53 (by decide) (fun c53 => ?_) (fun c53 => ?_)
    · have c53 : 6 ≤ 1 := (nI_leI (by omega) (by omega)).mp c53
      exact absurd c53 (by decide)
    · have c53 : ¬ 6 ≤ 1 := fun z => c53 ((nI_leI (by omega) (by omega)).mpr z)
      skip
      refine vg_aload_n X dX6_init_56 1 rfl rfl ?_
      have fh59 : wz56[0]? = some (ax, .inr (9, [.ref aq1, .ref aq12, .ref aq24, .ref aq33, .int 0])) := (vg_sn ez57 (by decide)).trans (cx53)
      refine vg_get X in_X6_init_X6 0 fh59 rfl 2 (by decide) ml_X6_init_27 rfl rfl dX6_init_57 ?_
      refine vg_iload_n X dX6_init_60 0 rfl rfl ?_
      refine vg_new X (ci := 7) (C := RX4) (T := TX4) (N := 4) [.null, .null, .int 0, .int 0] in_X6_init_X4 tyX4 tyX4_ok nc_X6_init_25 ni_X6_init_X4 nn_X6_init_X4 rfl dfX4_X6_init (Nat.le_of_ble_eq_true rfl) (Nat.le_of_ble_eq_true rfl) dX6_init_61 (fun aq60 wz61 ez62 => ?_)
      have hl63 : wz56.length = 19 := (vg_sl ez57).trans (lC0)
      have fh64 : wz61[19]? = some (aq60, .inr (7, [.null, .null, .int 0, .int 0])) := (show wz61[19]? = wz61[wz56.length]? by rw [hl63]).trans (vg_pl ez62)
      refine vg_dup X dX6_init_64 rfl ?_
      have hl65 : wz61.length = 20 := (vg_plen ez62).trans (congrArg (· + 1) (hl63))
      have fh66 : wz61[0]? = some (ax, .inr (9, [.ref aq1, .ref aq12, .ref aq24, .ref aq33, .int 0])) := vg_pn ez62 (fh59)
      have fh67 : wz61[15]? = some (aq24, .inl (ay 3, 6, .inr (.inr (.inr (.inr (va_up (fun _ => none) 0 (some aq42))))))) := vg_pn ez62 (fh58)
      have fh68 : wz61[16]? = some (aq33, .inl (ay 0, 150, .inl (fun _ => 0))) := vg_pn ez62 ((vg_sn ez57 (by decide)).trans (cx55))
      have fh69 : wz61[17]? = some (aq42, .inr (7, [.ref tl0, .null, .int 0, .int 0])) := vg_pn ez62 ((vg_sn ez57 (by decide)).trans (ga0))
      have fh70 : wz61[18]? = some (tl0, .inl (ay 1, 200, .inr (.inl (fun _ => 0)))) := vg_pn ez62 ((vg_sn ez57 (by decide)).trans (gb0))
      refine vg_callv (vg_runIN X (c_X4_init l fh64 hl65) ⟨va_cnB 0 X.2.2.2.2.1 gX6_init_X4_init_n35 rfl rfl rfl hWm9 (X.2.2.2.2.1 _ ci_X6_init_X4) (by decide +kernel) ⟨(Nat.le_of_ble_eq_true rfl), (Nat.le_of_ble_eq_true rfl)⟩, rfl, X.2.2.2.2.1 _ cj_X6_init_X4_init⟩ rfl rfl (Nat.le_of_ble_eq_true rfl) dX6_init_65 ⟨(Nat.le_of_ble_eq_true rfl), (Nat.le_of_ble_eq_true rfl)⟩) (fun wz71 PP72 => ?_)
      obtain ⟨tl1, ga1, gb1, lC1, gC1⟩ := PP72
      have GC1 : vg_gr wz19 wz71 [0] := vg_gr_tr (vg_gr_app (vg_gr_set GC0 ez57 (Or.inr (by rw [lB]; decide))) ez62) gC1 (fun j hj => Or.inr (by rw [lB]; have := List.mem_singleton.mp hj; omega))
      have cx73 : wz71[0]? = some (ax, .inr (9, [.ref aq1, .ref aq12, .ref aq24, .ref aq33, .int 0])) := (gC1.2 0 (by rw [hl65]; decide) (by decide)).trans fh66
      have cx74 : wz71[15]? = some (aq24, .inl (ay 3, 6, .inr (.inr (.inr (.inr (va_up (fun _ => none) 0 (some aq42))))))) := (gC1.2 15 (by rw [hl65]; decide) (by decide)).trans fh67
      have cx75 : wz71[16]? = some (aq33, .inl (ay 0, 150, .inl (fun _ => 0))) := (gC1.2 16 (by rw [hl65]; decide) (by decide)).trans fh68
      have cx76 : wz71[17]? = some (aq42, .inr (7, [.ref tl0, .null, .int 0, .int 0])) := (gC1.2 17 (by rw [hl65]; decide) (by decide)).trans fh69
      have cx77 : wz71[18]? = some (tl0, .inl (ay 1, 200, .inr (.inl (fun _ => 0)))) := (gC1.2 18 (by rw [hl65]; decide) (by decide)).trans fh70
      have ga1 : wz71[19]? = some (aq60, .inr (7, [.ref tl1, .null, .int 0, .int 0])) := ga1
      have gb1 : wz71[20]? = some (tl1, .inl (ay 1, 200, .inr (.inl (fun _ => 0)))) := gb1
      have lC1 : wz71.length = 21 := lC1
      refine vg_aastT X 15 cx74 19 ga1 rfl rfl (by omega) (by decide) dX6_init_68 (fun wz78 ez79 => ?_)
      have fh80 : wz78[15]? = some (aq24, .inl (ay 3, 6, .inr (.inr (.inr (.inr (va_up (va_up (fun _ => none) 0 (some aq42)) 1 (some aq60))))))) := vg_se ez79 cx74
      refine vg_iinc X (v := nI 2) [(1, .int (nI 2)), (0, .ref ax)] dX6_init_69 0 rfl (by decide) (by decide) rfl ?_
      refine vg_goto X 50 dX6_init_72 (by decide) ?_
      refine vg_iload_n X dX6_init_50 0 rfl rfl ?_
      refine vg_bipush X (nI 6) dX6_init_51 (by decide) ?_
      refine vg_icmp_ge X 75 dX6_init_53 (by decide) (fun c53 => ?_) (fun c53 => ?_)
      · have c53 : 6 ≤ 2 := (nI_leI (by omega) (by omega)).mp c53
        exact absurd c53 (by decide)
      · have c53 : ¬ 6 ≤ 2 := fun z => c53 ((nI_leI (by omega) (by omega)).mpr z)
        skip
        refine vg_aload_n X dX6_init_56 1 rfl rfl ?_
        have fh81 : wz78[0]? = some (ax, .inr (9, [.ref aq1, .ref aq12, .ref aq24, .ref aq33, .int 0])) := (vg_sn ez79 (by decide)).trans (cx73)
        refine vg_get X in_X6_init_X6 0 fh81 rfl 2 (by decide) ml_X6_init_27 rfl rfl dX6_init_57 ?_
        refine vg_iload_n X dX6_init_60 0 rfl rfl ?_
        refine vg_new X (ci := 7) (C := RX4) (T := TX4) (N := 4) [.null, .null, .int 0, .int 0] in_X6_init_X4 tyX4 tyX4_ok nc_X6_init_25 ni_X6_init_X4 nn_X6_init_X4 rfl dfX4_X6_init (Nat.le_of_ble_eq_true rfl) (Nat.le_of_ble_eq_true rfl) dX6_init_61 (fun aq82 wz83 ez84 => ?_)
        have hl85 : wz78.length = 21 := (vg_sl ez79).trans (lC1)
        have fh86 : wz83[21]? = some (aq82, .inr (7, [.null, .null, .int 0, .int 0])) := (show wz83[21]? = wz83[wz78.length]? by rw [hl85]).trans (vg_pl ez84)
        refine vg_dup X dX6_init_64 rfl ?_
        have hl87 : wz83.length = 22 := (vg_plen ez84).trans (congrArg (· + 1) (hl85))
        have fh88 : wz83[0]? = some (ax, .inr (9, [.ref aq1, .ref aq12, .ref aq24, .ref aq33, .int 0])) := vg_pn ez84 (fh81)
        have fh89 : wz83[15]? = some (aq24, .inl (ay 3, 6, .inr (.inr (.inr (.inr (va_up (va_up (fun _ => none) 0 (some aq42)) 1 (some aq60))))))) := vg_pn ez84 (fh80)
        have fh90 : wz83[16]? = some (aq33, .inl (ay 0, 150, .inl (fun _ => 0))) := vg_pn ez84 ((vg_sn ez79 (by decide)).trans (cx75))
        have fh91 : wz83[17]? = some (aq42, .inr (7, [.ref tl0, .null, .int 0, .int 0])) := vg_pn ez84 ((vg_sn ez79 (by decide)).trans (cx76))
        have fh92 : wz83[19]? = some (aq60, .inr (7, [.ref tl1, .null, .int 0, .int 0])) := vg_pn ez84 ((vg_sn ez79 (by decide)).trans (ga1))
        have fh93 : wz83[18]? = some (tl0, .inl (ay 1, 200, .inr (.inl (fun _ => 0)))) := vg_pn ez84 ((vg_sn ez79 (by decide)).trans (cx77))
        have fh94 : wz83[20]? = some (tl1, .inl (ay 1, 200, .inr (.inl (fun _ => 0)))) := vg_pn ez84 ((vg_sn ez79 (by decide)).trans (gb1))
        refine vg_callv (vg_runIN X (c_X4_init l fh86 hl87) ⟨va_cnB 0 X.2.2.2.2.1 gX6_init_X4_init_n35 rfl rfl rfl hWm9 (X.2.2.2.2.1 _ ci_X6_init_X4) (by decide +kernel) ⟨(Nat.le_of_ble_eq_true rfl), (Nat.le_of_ble_eq_true rfl)⟩, rfl, X.2.2.2.2.1 _ cj_X6_init_X4_init⟩ rfl rfl (Nat.le_of_ble_eq_true rfl) dX6_init_65 ⟨(Nat.le_of_ble_eq_true rfl), (Nat.le_of_ble_eq_true rfl)⟩) (fun wz95 PP96 => ?_)
        obtain ⟨tl2, ga2, gb2, lC2, gC2⟩ := PP96
        have GC2 : vg_gr wz19 wz95 [0] := vg_gr_tr (vg_gr_app (vg_gr_set GC1 ez79 (Or.inr (by rw [lB]; decide))) ez84) gC2 (fun j hj => Or.inr (by rw [lB]; have := List.mem_singleton.mp hj; omega))
        have cx97 : wz95[0]? = some (ax, .inr (9, [.ref aq1, .ref aq12, .ref aq24, .ref aq33, .int 0])) := (gC2.2 0 (by rw [hl87]; decide) (by decide)).trans fh88
        have cx98 : wz95[15]? = some (aq24, .inl (ay 3, 6, .inr (.inr (.inr (.inr (va_up (va_up (fun _ => none) 0 (some aq42)) 1 (some aq60))))))) := (gC2.2 15 (by rw [hl87]; decide) (by decide)).trans fh89
        have cx99 : wz95[16]? = some (aq33, .inl (ay 0, 150, .inl (fun _ => 0))) := (gC2.2 16 (by rw [hl87]; decide) (by decide)).trans fh90
        have cx100 : wz95[17]? = some (aq42, .inr (7, [.ref tl0, .null, .int 0, .int 0])) := (gC2.2 17 (by rw [hl87]; decide) (by decide)).trans fh91
        have cx101 : wz95[19]? = some (aq60, .inr (7, [.ref tl1, .null, .int 0, .int 0])) := (gC2.2 19 (by rw [hl87]; decide) (by decide)).trans fh92
        have cx102 : wz95[18]? = some (tl0, .inl (ay 1, 200, .inr (.inl (fun _ => 0)))) := (gC2.2 18 (by rw [hl87]; decide) (by decide)).trans fh93
        have cx103 : wz95[20]? = some (tl1, .inl (ay 1, 200, .inr (.inl (fun _ => 0)))) := (gC2.2 20 (by rw [hl87]; decide) (by decide)).trans fh94
        have ga2 : wz95[21]? = some (aq82, .inr (7, [.ref tl2, .null, .int 0, .int 0])) := ga2
        have gb2 : wz95[22]? = some (tl2, .inl (ay 1, 200, .inr (.inl (fun _ => 0)))) := gb2
        have lC2 : wz95.length = 23 := lC2
        refine vg_aastT X 15 cx98 21 ga2 rfl rfl (by omega) (by decide) dX6_init_68 (fun wz104 ez105 => ?_)
        have fh106 : wz104[15]? = some (aq24, .inl (ay 3, 6, .inr (.inr (.inr (.inr (va_up (va_up (va_up (fun _ => none) 0 (some aq42)) 1 (some aq60)) 2 (some aq82))))))) := vg_se ez105 cx98
        refine vg_iinc X (v := nI 3) [(1, .int (nI 3)), (0, .ref ax)] dX6_init_69 0 rfl (by decide) (by decide) rfl ?_
        refine vg_goto X 50 dX6_init_72 (by decide) ?_
        refine vg_iload_n X dX6_init_50 0 rfl rfl ?_
        refine vg_bipush X (nI 6) dX6_init_51 (by decide) ?_
        refine vg_icmp_ge X 75 dX6_init_53 (by decide) (fun c53 => ?_) (fun c53 => ?_)
        · have c53 : 6 ≤ 3 := (nI_leI (by omega) (by omega)).mp c53
          exact absurd c53 (by decide)
        · have c53 : ¬ 6 ≤ 3 := fun z => c53 ((nI_leI (by omega) (by omega)).mpr z)
          skip
          refine vg_aload_n X dX6_init_56 1 rfl rfl ?_
          have fh107 : wz104[0]? = some (ax, .inr (9, [.ref aq1, .ref aq12, .ref aq24, .ref aq33, .int 0])) := (vg_sn ez105 (by decide)).trans (cx97)
          refine vg_get X in_X6_init_X6 0 fh107 rfl 2 (by decide) ml_X6_init_27 rfl rfl dX6_init_57 ?_
          refine vg_iload_n X dX6_init_60 0 rfl rfl ?_
          refine vg_new X (ci := 7) (C := RX4) (T := TX4) (N := 4) [.null, .null, .int 0, .int 0] in_X6_init_X4 tyX4 tyX4_ok nc_X6_init_25 ni_X6_init_X4 nn_X6_init_X4 rfl dfX4_X6_init (Nat.le_of_ble_eq_true rfl) (Nat.le_of_ble_eq_true rfl) dX6_init_61 (fun aq108 wz109 ez110 => ?_)
          have hl111 : wz104.length = 23 := (vg_sl ez105).trans (lC2)
          have fh112 : wz109[23]? = some (aq108, .inr (7, [.null, .null, .int 0, .int 0])) := (show wz109[23]? = wz109[wz104.length]? by rw [hl111]).trans (vg_pl ez110)
          refine vg_dup X dX6_init_64 rfl ?_
          have hl113 : wz109.length = 24 := (vg_plen ez110).trans (congrArg (· + 1) (hl111))
          have fh114 : wz109[0]? = some (ax, .inr (9, [.ref aq1, .ref aq12, .ref aq24, .ref aq33, .int 0])) := vg_pn ez110 (fh107)
          have fh115 : wz109[15]? = some (aq24, .inl (ay 3, 6, .inr (.inr (.inr (.inr (va_up (va_up (va_up (fun _ => none) 0 (some aq42)) 1 (some aq60)) 2 (some aq82))))))) := vg_pn ez110 (fh106)
          have fh116 : wz109[16]? = some (aq33, .inl (ay 0, 150, .inl (fun _ => 0))) := vg_pn ez110 ((vg_sn ez105 (by decide)).trans (cx99))
          have fh117 : wz109[17]? = some (aq42, .inr (7, [.ref tl0, .null, .int 0, .int 0])) := vg_pn ez110 ((vg_sn ez105 (by decide)).trans (cx100))
          have fh118 : wz109[19]? = some (aq60, .inr (7, [.ref tl1, .null, .int 0, .int 0])) := vg_pn ez110 ((vg_sn ez105 (by decide)).trans (cx101))
          have fh119 : wz109[21]? = some (aq82, .inr (7, [.ref tl2, .null, .int 0, .int 0])) := vg_pn ez110 ((vg_sn ez105 (by decide)).trans (ga2))
          have fh120 : wz109[18]? = some (tl0, .inl (ay 1, 200, .inr (.inl (fun _ => 0)))) := vg_pn ez110 ((vg_sn ez105 (by decide)).trans (cx102))
          have fh121 : wz109[20]? = some (tl1, .inl (ay 1, 200, .inr (.inl (fun _ => 0)))) := vg_pn ez110 ((vg_sn ez105 (by decide)).trans (cx103))
          have fh122 : wz109[22]? = some (tl2, .inl (ay 1, 200, .inr (.inl (fun _ => 0)))) := vg_pn ez110 ((vg_sn ez105 (by decide)).trans (gb2))
          refine vg_callv (vg_runIN X (c_X4_init l fh112 hl113) ⟨va_cnB 0 X.2.2.2.2.1 gX6_init_X4_init_n35 rfl rfl rfl hWm9 (X.2.2.2.2.1 _ ci_X6_init_X4) (by decide +kernel) ⟨(Nat.le_of_ble_eq_true rfl), (Nat.le_of_ble_eq_true rfl)⟩, rfl, X.2.2.2.2.1 _ cj_X6_init_X4_init⟩ rfl rfl (Nat.le_of_ble_eq_true rfl) dX6_init_65 ⟨(Nat.le_of_ble_eq_true rfl), (Nat.le_of_ble_eq_true rfl)⟩) (fun wz123 PP124 => ?_)
          obtain ⟨tl3, ga3, gb3, lC3, gC3⟩ := PP124
          have GC3 : vg_gr wz19 wz123 [0] := vg_gr_tr (vg_gr_app (vg_gr_set GC2 ez105 (Or.inr (by rw [lB]; decide))) ez110) gC3 (fun j hj => Or.inr (by rw [lB]; have := List.mem_singleton.mp hj; omega))
          have cx125 : wz123[0]? = some (ax, .inr (9, [.ref aq1, .ref aq12, .ref aq24, .ref aq33, .int 0])) := (gC3.2 0 (by rw [hl113]; decide) (by decide)).trans fh114
          have cx126 : wz123[15]? = some (aq24, .inl (ay 3, 6, .inr (.inr (.inr (.inr (va_up (va_up (va_up (fun _ => none) 0 (some aq42)) 1 (some aq60)) 2 (some aq82))))))) := (gC3.2 15 (by rw [hl113]; decide) (by decide)).trans fh115
          have cx127 : wz123[16]? = some (aq33, .inl (ay 0, 150, .inl (fun _ => 0))) := (gC3.2 16 (by rw [hl113]; decide) (by decide)).trans fh116
          have cx128 : wz123[17]? = some (aq42, .inr (7, [.ref tl0, .null, .int 0, .int 0])) := (gC3.2 17 (by rw [hl113]; decide) (by decide)).trans fh117
          have cx129 : wz123[19]? = some (aq60, .inr (7, [.ref tl1, .null, .int 0, .int 0])) := (gC3.2 19 (by rw [hl113]; decide) (by decide)).trans fh118
          have cx130 : wz123[21]? = some (aq82, .inr (7, [.ref tl2, .null, .int 0, .int 0])) := (gC3.2 21 (by rw [hl113]; decide) (by decide)).trans fh119
          have cx131 : wz123[18]? = some (tl0, .inl (ay 1, 200, .inr (.inl (fun _ => 0)))) := (gC3.2 18 (by rw [hl113]; decide) (by decide)).trans fh120
          have cx132 : wz123[20]? = some (tl1, .inl (ay 1, 200, .inr (.inl (fun _ => 0)))) := (gC3.2 20 (by rw [hl113]; decide) (by decide)).trans fh121
          have cx133 : wz123[22]? = some (tl2, .inl (ay 1, 200, .inr (.inl (fun _ => 0)))) := (gC3.2 22 (by rw [hl113]; decide) (by decide)).trans fh122
          have ga3 : wz123[23]? = some (aq108, .inr (7, [.ref tl3, .null, .int 0, .int 0])) := ga3
          have gb3 : wz123[24]? = some (tl3, .inl (ay 1, 200, .inr (.inl (fun _ => 0)))) := gb3
          have lC3 : wz123.length = 25 := lC3
          refine vg_aastT X 15 cx126 23 ga3 rfl rfl (by omega) (by decide) dX6_init_68 (fun wz134 ez135 => ?_)
          have fh136 : wz134[15]? = some (aq24, .inl (ay 3, 6, .inr (.inr (.inr (.inr (va_up (va_up (va_up (va_up (fun _ => none) 0 (some aq42)) 1 (some aq60)) 2 (some aq82)) 3 (some aq108))))))) := vg_se ez135 cx126
          refine vg_iinc X (v := nI 4) [(1, .int (nI 4)), (0, .ref ax)] dX6_init_69 0 rfl (by decide) (by decide) rfl ?_
          refine vg_goto X 50 dX6_init_72 (by decide) ?_
          refine vg_iload_n X dX6_init_50 0 rfl rfl ?_
          refine vg_bipush X (nI 6) dX6_init_51 (by decide) ?_
          refine vg_icmp_ge X 75 dX6_init_53 (by decide) (fun c53 => ?_) (fun c53 => ?_)
          · have c53 : 6 ≤ 4 := (nI_leI (by omega) (by omega)).mp c53
            exact absurd c53 (by decide)
          · have c53 : ¬ 6 ≤ 4 := fun z => c53 ((nI_leI (by omega) (by omega)).mpr z)
            skip
            refine vg_aload_n X dX6_init_56 1 rfl rfl ?_
            have fh137 : wz134[0]? = some (ax, .inr (9, [.ref aq1, .ref aq12, .ref aq24, .ref aq33, .int 0])) := (vg_sn ez135 (by decide)).trans (cx125)
            refine vg_get X in_X6_init_X6 0 fh137 rfl 2 (by decide) ml_X6_init_27 rfl rfl dX6_init_57 ?_
            refine vg_iload_n X dX6_init_60 0 rfl rfl ?_
            refine vg_new X (ci := 7) (C := RX4) (T := TX4) (N := 4) [.null, .null, .int 0, .int 0] in_X6_init_X4 tyX4 tyX4_ok nc_X6_init_25 ni_X6_init_X4 nn_X6_init_X4 rfl dfX4_X6_init (Nat.le_of_ble_eq_true rfl) (Nat.le_of_ble_eq_true rfl) dX6_init_61 (fun aq138 wz139 ez140 => ?_)
            have hl141 : wz134.length = 25 := (vg_sl ez135).trans (lC3)
            have fh142 : wz139[25]? = some (aq138, .inr (7, [.null, .null, .int 0, .int 0])) := (show wz139[25]? = wz139[wz134.length]? by rw [hl141]).trans (vg_pl ez140)
            refine vg_dup X dX6_init_64 rfl ?_
            have hl143 : wz139.length = 26 := (vg_plen ez140).trans (congrArg (· + 1) (hl141))
            have fh144 : wz139[0]? = some (ax, .inr (9, [.ref aq1, .ref aq12, .ref aq24, .ref aq33, .int 0])) := vg_pn ez140 (fh137)
            have fh145 : wz139[15]? = some (aq24, .inl (ay 3, 6, .inr (.inr (.inr (.inr (va_up (va_up (va_up (va_up (fun _ => none) 0 (some aq42)) 1 (some aq60)) 2 (some aq82)) 3 (some aq108))))))) := vg_pn ez140 (fh136)
            have fh146 : wz139[16]? = some (aq33, .inl (ay 0, 150, .inl (fun _ => 0))) := vg_pn ez140 ((vg_sn ez135 (by decide)).trans (cx127))
            have fh147 : wz139[17]? = some (aq42, .inr (7, [.ref tl0, .null, .int 0, .int 0])) := vg_pn ez140 ((vg_sn ez135 (by decide)).trans (cx128))
            have fh148 : wz139[19]? = some (aq60, .inr (7, [.ref tl1, .null, .int 0, .int 0])) := vg_pn ez140 ((vg_sn ez135 (by decide)).trans (cx129))
            have fh149 : wz139[21]? = some (aq82, .inr (7, [.ref tl2, .null, .int 0, .int 0])) := vg_pn ez140 ((vg_sn ez135 (by decide)).trans (cx130))
            have fh150 : wz139[23]? = some (aq108, .inr (7, [.ref tl3, .null, .int 0, .int 0])) := vg_pn ez140 ((vg_sn ez135 (by decide)).trans (ga3))
            have fh151 : wz139[18]? = some (tl0, .inl (ay 1, 200, .inr (.inl (fun _ => 0)))) := vg_pn ez140 ((vg_sn ez135 (by decide)).trans (cx131))
            have fh152 : wz139[20]? = some (tl1, .inl (ay 1, 200, .inr (.inl (fun _ => 0)))) := vg_pn ez140 ((vg_sn ez135 (by decide)).trans (cx132))
            have fh153 : wz139[22]? = some (tl2, .inl (ay 1, 200, .inr (.inl (fun _ => 0)))) := vg_pn ez140 ((vg_sn ez135 (by decide)).trans (cx133))
            have fh154 : wz139[24]? = some (tl3, .inl (ay 1, 200, .inr (.inl (fun _ => 0)))) := vg_pn ez140 ((vg_sn ez135 (by decide)).trans (gb3))
            refine vg_callv (vg_runIN X (c_X4_init l fh142 hl143) ⟨va_cnB 0 X.2.2.2.2.1 gX6_init_X4_init_n35 rfl rfl rfl hWm9 (X.2.2.2.2.1 _ ci_X6_init_X4) (by decide +kernel) ⟨(Nat.le_of_ble_eq_true rfl), (Nat.le_of_ble_eq_true rfl)⟩, rfl, X.2.2.2.2.1 _ cj_X6_init_X4_init⟩ rfl rfl (Nat.le_of_ble_eq_true rfl) dX6_init_65 ⟨(Nat.le_of_ble_eq_true rfl), (Nat.le_of_ble_eq_true rfl)⟩) (fun wz155 PP156 => ?_)
            obtain ⟨tl4, ga4, gb4, lC4, gC4⟩ := PP156
            have GC4 : vg_gr wz19 wz155 [0] := vg_gr_tr (vg_gr_app (vg_gr_set GC3 ez135 (Or.inr (by rw [lB]; decide))) ez140) gC4 (fun j hj => Or.inr (by rw [lB]; have := List.mem_singleton.mp hj; omega))
            have cx157 : wz155[0]? = some (ax, .inr (9, [.ref aq1, .ref aq12, .ref aq24, .ref aq33, .int 0])) := (gC4.2 0 (by rw [hl143]; decide) (by decide)).trans fh144
            have cx158 : wz155[15]? = some (aq24, .inl (ay 3, 6, .inr (.inr (.inr (.inr (va_up (va_up (va_up (va_up (fun _ => none) 0 (some aq42)) 1 (some aq60)) 2 (some aq82)) 3 (some aq108))))))) := (gC4.2 15 (by rw [hl143]; decide) (by decide)).trans fh145
            have cx159 : wz155[16]? = some (aq33, .inl (ay 0, 150, .inl (fun _ => 0))) := (gC4.2 16 (by rw [hl143]; decide) (by decide)).trans fh146
            have cx160 : wz155[17]? = some (aq42, .inr (7, [.ref tl0, .null, .int 0, .int 0])) := (gC4.2 17 (by rw [hl143]; decide) (by decide)).trans fh147
            have cx161 : wz155[19]? = some (aq60, .inr (7, [.ref tl1, .null, .int 0, .int 0])) := (gC4.2 19 (by rw [hl143]; decide) (by decide)).trans fh148
            have cx162 : wz155[21]? = some (aq82, .inr (7, [.ref tl2, .null, .int 0, .int 0])) := (gC4.2 21 (by rw [hl143]; decide) (by decide)).trans fh149
            have cx163 : wz155[23]? = some (aq108, .inr (7, [.ref tl3, .null, .int 0, .int 0])) := (gC4.2 23 (by rw [hl143]; decide) (by decide)).trans fh150
            have cx164 : wz155[18]? = some (tl0, .inl (ay 1, 200, .inr (.inl (fun _ => 0)))) := (gC4.2 18 (by rw [hl143]; decide) (by decide)).trans fh151
            have cx165 : wz155[20]? = some (tl1, .inl (ay 1, 200, .inr (.inl (fun _ => 0)))) := (gC4.2 20 (by rw [hl143]; decide) (by decide)).trans fh152
            have cx166 : wz155[22]? = some (tl2, .inl (ay 1, 200, .inr (.inl (fun _ => 0)))) := (gC4.2 22 (by rw [hl143]; decide) (by decide)).trans fh153
            have cx167 : wz155[24]? = some (tl3, .inl (ay 1, 200, .inr (.inl (fun _ => 0)))) := (gC4.2 24 (by rw [hl143]; decide) (by decide)).trans fh154
            have ga4 : wz155[25]? = some (aq138, .inr (7, [.ref tl4, .null, .int 0, .int 0])) := ga4
            have gb4 : wz155[26]? = some (tl4, .inl (ay 1, 200, .inr (.inl (fun _ => 0)))) := gb4
            have lC4 : wz155.length = 27 := lC4
            refine vg_aastT X 15 cx158 25 ga4 rfl rfl (by omega) (by decide) dX6_init_68 (fun wz168 ez169 => ?_)
            have fh170 : wz168[15]? = some (aq24, .inl (ay 3, 6, .inr (.inr (.inr (.inr (va_up (va_up (va_up (va_up (va_up (fun _ => none) 0 (some aq42)) 1 (some aq60)) 2 (some aq82)) 3 (some aq108)) 4 (some aq138))))))) := vg_se ez169 cx158
            refine vg_iinc X (v := nI 5) [(1, .int (nI 5)), (0, .ref ax)] dX6_init_69 0 rfl (by decide) (by decide) rfl ?_
            refine vg_goto X 50 dX6_init_72 (by decide) ?_
            refine vg_iload_n X dX6_init_50 0 rfl rfl ?_
            refine vg_bipush X (nI 6) dX6_init_51 (by decide) ?_
            refine vg_icmp_ge X 75 dX6_init_53 (by decide) (fun c53 => ?_) (fun c53 => ?_)
            · have c53 : 6 ≤ 5 := (nI_leI (by omega) (by omega)).mp c53
              exact absurd c53 (by decide)
            · have c53 : ¬ 6 ≤ 5 := fun z => c53 ((nI_leI (by omega) (by omega)).mpr z)
              skip
              refine vg_aload_n X dX6_init_56 1 rfl rfl ?_
              have fh171 : wz168[0]? = some (ax, .inr (9, [.ref aq1, .ref aq12, .ref aq24, .ref aq33, .int 0])) := (vg_sn ez169 (by decide)).trans (cx157)
              refine vg_get X in_X6_init_X6 0 fh171 rfl 2 (by decide) ml_X6_init_27 rfl rfl dX6_init_57 ?_
              refine vg_iload_n X dX6_init_60 0 rfl rfl ?_
              refine vg_new X (ci := 7) (C := RX4) (T := TX4) (N := 4) [.null, .null, .int 0, .int 0] in_X6_init_X4 tyX4 tyX4_ok nc_X6_init_25 ni_X6_init_X4 nn_X6_init_X4 rfl dfX4_X6_init (Nat.le_of_ble_eq_true rfl) (Nat.le_of_ble_eq_true rfl) dX6_init_61 (fun aq172 wz173 ez174 => ?_)
              have hl175 : wz168.length = 27 := (vg_sl ez169).trans (lC4)
              have fh176 : wz173[27]? = some (aq172, .inr (7, [.null, .null, .int 0, .int 0])) := (show wz173[27]? = wz173[wz168.length]? by rw [hl175]).trans (vg_pl ez174)
              refine vg_dup X dX6_init_64 rfl ?_
              have hl177 : wz173.length = 28 := (vg_plen ez174).trans (congrArg (· + 1) (hl175))
              have fh178 : wz173[0]? = some (ax, .inr (9, [.ref aq1, .ref aq12, .ref aq24, .ref aq33, .int 0])) := vg_pn ez174 (fh171)
              have fh179 : wz173[15]? = some (aq24, .inl (ay 3, 6, .inr (.inr (.inr (.inr (va_up (va_up (va_up (va_up (va_up (fun _ => none) 0 (some aq42)) 1 (some aq60)) 2 (some aq82)) 3 (some aq108)) 4 (some aq138))))))) := vg_pn ez174 (fh170)
              have fh180 : wz173[16]? = some (aq33, .inl (ay 0, 150, .inl (fun _ => 0))) := vg_pn ez174 ((vg_sn ez169 (by decide)).trans (cx159))
              have fh181 : wz173[17]? = some (aq42, .inr (7, [.ref tl0, .null, .int 0, .int 0])) := vg_pn ez174 ((vg_sn ez169 (by decide)).trans (cx160))
              have fh182 : wz173[19]? = some (aq60, .inr (7, [.ref tl1, .null, .int 0, .int 0])) := vg_pn ez174 ((vg_sn ez169 (by decide)).trans (cx161))
              have fh183 : wz173[21]? = some (aq82, .inr (7, [.ref tl2, .null, .int 0, .int 0])) := vg_pn ez174 ((vg_sn ez169 (by decide)).trans (cx162))
              have fh184 : wz173[23]? = some (aq108, .inr (7, [.ref tl3, .null, .int 0, .int 0])) := vg_pn ez174 ((vg_sn ez169 (by decide)).trans (cx163))
              have fh185 : wz173[25]? = some (aq138, .inr (7, [.ref tl4, .null, .int 0, .int 0])) := vg_pn ez174 ((vg_sn ez169 (by decide)).trans (ga4))
              have fh186 : wz173[18]? = some (tl0, .inl (ay 1, 200, .inr (.inl (fun _ => 0)))) := vg_pn ez174 ((vg_sn ez169 (by decide)).trans (cx164))
              have fh187 : wz173[20]? = some (tl1, .inl (ay 1, 200, .inr (.inl (fun _ => 0)))) := vg_pn ez174 ((vg_sn ez169 (by decide)).trans (cx165))
              have fh188 : wz173[22]? = some (tl2, .inl (ay 1, 200, .inr (.inl (fun _ => 0)))) := vg_pn ez174 ((vg_sn ez169 (by decide)).trans (cx166))
              have fh189 : wz173[24]? = some (tl3, .inl (ay 1, 200, .inr (.inl (fun _ => 0)))) := vg_pn ez174 ((vg_sn ez169 (by decide)).trans (cx167))
              have fh190 : wz173[26]? = some (tl4, .inl (ay 1, 200, .inr (.inl (fun _ => 0)))) := vg_pn ez174 ((vg_sn ez169 (by decide)).trans (gb4))
              refine vg_callv (vg_runIN X (c_X4_init l fh176 hl177) ⟨va_cnB 0 X.2.2.2.2.1 gX6_init_X4_init_n35 rfl rfl rfl hWm9 (X.2.2.2.2.1 _ ci_X6_init_X4) (by decide +kernel) ⟨(Nat.le_of_ble_eq_true rfl), (Nat.le_of_ble_eq_true rfl)⟩, rfl, X.2.2.2.2.1 _ cj_X6_init_X4_init⟩ rfl rfl (Nat.le_of_ble_eq_true rfl) dX6_init_65 ⟨(Nat.le_of_ble_eq_true rfl), (Nat.le_of_ble_eq_true rfl)⟩) (fun wz191 PP192 => ?_)
              obtain ⟨tl5, ga5, gb5, lC5, gC5⟩ := PP192
              have GC5 : vg_gr wz19 wz191 [0] := vg_gr_tr (vg_gr_app (vg_gr_set GC4 ez169 (Or.inr (by rw [lB]; decide))) ez174) gC5 (fun j hj => Or.inr (by rw [lB]; have := List.mem_singleton.mp hj; omega))
              have cx193 : wz191[0]? = some (ax, .inr (9, [.ref aq1, .ref aq12, .ref aq24, .ref aq33, .int 0])) := (gC5.2 0 (by rw [hl177]; decide) (by decide)).trans fh178
              have cx194 : wz191[15]? = some (aq24, .inl (ay 3, 6, .inr (.inr (.inr (.inr (va_up (va_up (va_up (va_up (va_up (fun _ => none) 0 (some aq42)) 1 (some aq60)) 2 (some aq82)) 3 (some aq108)) 4 (some aq138))))))) := (gC5.2 15 (by rw [hl177]; decide) (by decide)).trans fh179
              have cx195 : wz191[16]? = some (aq33, .inl (ay 0, 150, .inl (fun _ => 0))) := (gC5.2 16 (by rw [hl177]; decide) (by decide)).trans fh180
              have cx196 : wz191[17]? = some (aq42, .inr (7, [.ref tl0, .null, .int 0, .int 0])) := (gC5.2 17 (by rw [hl177]; decide) (by decide)).trans fh181
              have cx197 : wz191[19]? = some (aq60, .inr (7, [.ref tl1, .null, .int 0, .int 0])) := (gC5.2 19 (by rw [hl177]; decide) (by decide)).trans fh182
              have cx198 : wz191[21]? = some (aq82, .inr (7, [.ref tl2, .null, .int 0, .int 0])) := (gC5.2 21 (by rw [hl177]; decide) (by decide)).trans fh183
              have cx199 : wz191[23]? = some (aq108, .inr (7, [.ref tl3, .null, .int 0, .int 0])) := (gC5.2 23 (by rw [hl177]; decide) (by decide)).trans fh184
              have cx200 : wz191[25]? = some (aq138, .inr (7, [.ref tl4, .null, .int 0, .int 0])) := (gC5.2 25 (by rw [hl177]; decide) (by decide)).trans fh185
              have cx201 : wz191[18]? = some (tl0, .inl (ay 1, 200, .inr (.inl (fun _ => 0)))) := (gC5.2 18 (by rw [hl177]; decide) (by decide)).trans fh186
              have cx202 : wz191[20]? = some (tl1, .inl (ay 1, 200, .inr (.inl (fun _ => 0)))) := (gC5.2 20 (by rw [hl177]; decide) (by decide)).trans fh187
              have cx203 : wz191[22]? = some (tl2, .inl (ay 1, 200, .inr (.inl (fun _ => 0)))) := (gC5.2 22 (by rw [hl177]; decide) (by decide)).trans fh188
              have cx204 : wz191[24]? = some (tl3, .inl (ay 1, 200, .inr (.inl (fun _ => 0)))) := (gC5.2 24 (by rw [hl177]; decide) (by decide)).trans fh189
              have cx205 : wz191[26]? = some (tl4, .inl (ay 1, 200, .inr (.inl (fun _ => 0)))) := (gC5.2 26 (by rw [hl177]; decide) (by decide)).trans fh190
              have ga5 : wz191[27]? = some (aq172, .inr (7, [.ref tl5, .null, .int 0, .int 0])) := ga5
              have gb5 : wz191[28]? = some (tl5, .inl (ay 1, 200, .inr (.inl (fun _ => 0)))) := gb5
              have lC5 : wz191.length = 29 := lC5
              refine vg_aastT X 15 cx194 27 ga5 rfl rfl (by omega) (by decide) dX6_init_68 (fun wz206 ez207 => ?_)
              have fh208 : wz206[15]? = some (aq24, .inl (ay 3, 6, .inr (.inr (.inr (.inr (va_up (va_up (va_up (va_up (va_up (va_up (fun _ => none) 0 (some aq42)) 1 (some aq60)) 2 (some aq82)) 3 (some aq108)) 4 (some aq138)) 5 (some aq172))))))) := vg_se ez207 cx194
              refine vg_iinc X (v := nI 6) [(1, .int (nI 6)), (0, .ref ax)] dX6_init_69 0 rfl (by decide) (by decide) rfl ?_
              refine vg_goto X 50 dX6_init_72 (by decide) ?_
              refine vg_iload_n X dX6_init_50 0 rfl rfl ?_
              refine vg_bipush X (nI 6) dX6_init_51 (by decide) ?_
              refine vg_icmp_ge X 75 dX6_init_53 (by decide) (fun c53 => ?_) (fun c53 => ?_)
              · have c53 : 6 ≤ 6 := (nI_leI (by omega) (by omega)).mp c53
                skip
                have fh209 : wz206[0]? = some (ax, .inr (9, [.ref aq1, .ref aq12, .ref aq24, .ref aq33, .int 0])) := (vg_sn ez207 (by decide)).trans (cx193)
                have fh210 : wz206[16]? = some (aq33, .inl (ay 0, 150, .inl (fun _ => 0))) := (vg_sn ez207 (by decide)).trans (cx195)
                have fh211 : wz206[17]? = some (aq42, .inr (7, [.ref tl0, .null, .int 0, .int 0])) := (vg_sn ez207 (by decide)).trans (cx196)
                have fh212 : wz206[18]? = some (tl0, .inl (ay 1, 200, .inr (.inl (fun _ => 0)))) := (vg_sn ez207 (by decide)).trans (cx201)
                have fh213 : wz206[19]? = some (aq60, .inr (7, [.ref tl1, .null, .int 0, .int 0])) := (vg_sn ez207 (by decide)).trans (cx197)
                have fh214 : wz206[20]? = some (tl1, .inl (ay 1, 200, .inr (.inl (fun _ => 0)))) := (vg_sn ez207 (by decide)).trans (cx202)
                have fh215 : wz206[21]? = some (aq82, .inr (7, [.ref tl2, .null, .int 0, .int 0])) := (vg_sn ez207 (by decide)).trans (cx198)
                have fh216 : wz206[22]? = some (tl2, .inl (ay 1, 200, .inr (.inl (fun _ => 0)))) := (vg_sn ez207 (by decide)).trans (cx203)
                have fh217 : wz206[23]? = some (aq108, .inr (7, [.ref tl3, .null, .int 0, .int 0])) := (vg_sn ez207 (by decide)).trans (cx199)
                have fh218 : wz206[24]? = some (tl3, .inl (ay 1, 200, .inr (.inl (fun _ => 0)))) := (vg_sn ez207 (by decide)).trans (cx204)
                have fh219 : wz206[25]? = some (aq138, .inr (7, [.ref tl4, .null, .int 0, .int 0])) := (vg_sn ez207 (by decide)).trans (cx200)
                have fh220 : wz206[26]? = some (tl4, .inl (ay 1, 200, .inr (.inl (fun _ => 0)))) := (vg_sn ez207 (by decide)).trans (cx205)
                have fh221 : wz206[27]? = some (aq172, .inr (7, [.ref tl5, .null, .int 0, .int 0])) := (vg_sn ez207 (by decide)).trans (ga5)
                have fh222 : wz206[28]? = some (tl5, .inl (ay 1, 200, .inr (.inl (fun _ => 0)))) := (vg_sn ez207 (by decide)).trans (gb5)
                have hl223 : wz206.length = 29 := (vg_sl ez207).trans (lC5)
                have GF : vg_gr wz19 wz206 [0] := (vg_gr_set GC5 ez207 (Or.inr (by rw [lB]; decide)))
                have lF : wz206.length = 29 := hl223
                have n0 : ∀ j : Nat, 1 ≤ j → j ∉ [0] := fun j h1 h2 => by have := List.mem_singleton.mp h2; omega
                have FA : ∀ j, 1 ≤ j → j < 6 → wz206[j]? = wz7[j]? := fun j q1 q2 => (GF.2 j (by rw [lB]; omega) (n0 j q1)).trans (GA.2 j (by rw [lA]; omega) (n0 j q1))
                have hT9 : ct_T ay wz206 aq24 0 ua (fun _ => 0) (fun _ => 0) (fun _ => 0) sk := ⟨fun k => if k = 0 then aq42 else if k = 1 then aq60 else if k = 2 then aq82 else if k = 3 then aq108 else if k = 4 then aq138 else if k = 5 then aq172 else 0, fun k => if k = 0 then tl0 else if k = 1 then tl1 else if k = 2 then tl2 else if k = 3 then tl3 else if k = 4 then tl4 else if k = 5 then tl5 else 0, _, fh208, fun k hk => by
                  rcases (show k = 0 ∨ k = 1 ∨ k = 2 ∨ k = 3 ∨ k = 4 ∨ k = 5 by omega) with rfl | rfl | rfl | rfl | rfl | rfl
                  · exact ⟨rfl, fun _ => 0, fh211, fh212, fun q9 => absurd rfl q9⟩
                  · exact ⟨rfl, fun _ => 0, fh213, fh214, fun q9 => absurd rfl q9⟩
                  · exact ⟨rfl, fun _ => 0, fh215, fh216, fun q9 => absurd rfl q9⟩
                  · exact ⟨rfl, fun _ => 0, fh217, fh218, fun q9 => absurd rfl q9⟩
                  · exact ⟨rfl, fun _ => 0, fh219, fh220, fun q9 => absurd rfl q9⟩
                  · exact ⟨rfl, fun _ => 0, fh221, fh222, fun q9 => absurd rfl q9⟩⟩
                exact vg_vret X rfl ⟨aq1, aq12, aq24, aq33, _, fh209, cs_I_f6 hI (fun j q1 q2 => GF.2 j (by rw [lB]; omega) (n0 j (by omega))), cw_N_fr hN (fun j q1 q2 => FA j q1 (by omega)) (fun j q1 => by rw [List.getElem?_eq_none (by rw [lF]; omega), List.getElem?_eq_none (by rw [lA]; omega)]), hT9, fh210, lF⟩ (Nat.le_of_ble_eq_true rfl) (Nat.le_of_ble_eq_true rfl) dX6_init_75
              · have c53 : ¬ 6 ≤ 6 := fun z => c53 ((nI_leI (by omega) (by omega)).mpr z)
                exact absurd (by decide) c53
