section VG3
variable {D : va_G} {ay : Nat → ClassId} {base : Nat} {Gx : State → Prop} {p : Program} {l : Launch} {e : Env} {R : Room} {s : State} {m : MethodId} {args : Array Value} {below : List Frame} {meth : Method} {c : Code} {nL cells slots : Nat} {Q : State → Prop} {lv : List (Nat × Value)} {st : List Value} {ws : va_W} {pc : Nat} {cc : ByteArray} {own : String} {Ts : List Cond} {ret : Option FieldType}
theorem vg_nonnull (X : vg_C D ay base Gx p s m args meth c cc nL own Ts ret) {x : Nat} {off : Int} (tgt : Nat) (hdg : decode cc pc = .ok (.ifnonnull off, 3)) (ht : (pc : Int) + off = (tgt : Int)) (kk : vg_V D base p l e R s m args below meth c nL cells slots Q lv st ws tgt) : vg_V D base p l e R s m args below meth c nL cells slots Q lv (.ref x :: st) ws pc := fun H locs ls hl hP hD hS => lv_ifnonnull X.1 X.2.1 hdg ht (kk H locs ls hl hP hD hS)
theorem vg_nonnullN (X : vg_C D ay base Gx p s m args meth c cc nL own Ts ret) {off : Int} (hdg : decode cc pc = .ok (.ifnonnull off, 3)) (kk : vg_V D base p l e R s m args below meth c nL cells slots Q lv st ws (pc + 3)) : vg_V D base p l e R s m args below meth c nL cells slots Q lv (.null :: st) ws pc := fun H locs ls hl hP hD hS => lv_ifnonnullN X.1 X.2.1 hdg (kk H locs ls hl hP hD hS)
end VG3
/-- seconds as the class tells them -/
def vs_rep (x : Nat) : Int64 := if x < ma_B then lN x else -1
theorem vs_rep_lt {x : Nat} (h : x < ma_B) : vs_rep x = lN x := if_pos h
theorem vs_rep_B : vs_rep ma_B = -1 := if_neg (Nat.lt_irrefl _)
theorem vs_rep_inj {x y : Nat} (hx : x ≤ ma_B) (hy : y ≤ ma_B) (h : vs_rep x = vs_rep y) : x = y := by
  have eB : ma_B = 2 ^ 60 := rfl
  unfold vs_rep at h
  split at h <;> split at h
  · exact (pk_lEQ (by omega) (by omega)).mp h
  · exact absurd h (lN_nm1 (by omega))
  · exact absurd h.symm (lN_nm1 (by omega))
  · omega
theorem cs_R_fr {ay : Nat → ClassId} {ws u : va_W} {asr aN k n : Nat} {kn st : Nat → Nat} {wk : Nat → Nat → Nat} {hn : Nat → Nat} {pl : Nat → Int32} {key : Nat → Nat} {sz : Nat} (h : cs_R ay ws asr aN k n kn st wk hn pl key sz) (e : ∀ j, 6 ≤ j → j < 15 → u[j]? = ws[j]?) : cs_R ay u asr aN k n kn st wk hn pl key sz := by
  obtain ⟨aq, aC, aW, aK, aT, fw, fk, ft, h6, h12, h13, h14, hQ, hr⟩ := h
  exact ⟨aq, aC, aW, aK, aT, fw, fk, ft, (e 6 (by decide) (by decide)).trans h6, (e 12 (by decide) (by decide)).trans h12, (e 13 (by decide) (by decide)).trans h13, (e 14 (by decide) (by decide)).trans h14, cq_St_fr hQ (e 7 (by decide) (by decide)) (e 8 (by decide) (by decide)) (e 9 (by decide) (by decide)) (e 10 (by decide) (by decide)), hr⟩
theorem cs_I_fr {ay : Nat → ClassId} {ws u : va_W} {asr aN : Nat} (h : cs_I ay ws asr aN) (e : ∀ j, 6 ≤ j → j < 15 → u[j]? = ws[j]?) : cs_I ay u asr aN := by
  obtain ⟨aq, aC, aW, aK, aT, k0, fc, fw, fk, ft, hn, pl, key, h6, h11, h12, h13, h14, hQ⟩ := h
  exact ⟨aq, aC, aW, aK, aT, k0, fc, fw, fk, ft, hn, pl, key, (e 6 (by decide) (by decide)).trans h6, (e 11 (by decide) (by decide)).trans h11, (e 12 (by decide) (by decide)).trans h12, (e 13 (by decide) (by decide)).trans h13, (e 14 (by decide) (by decide)).trans h14, cq_St_fr hQ (e 7 (by decide) (by decide)) (e 8 (by decide) (by decide)) (e 9 (by decide) (by decide)) (e 10 (by decide) (by decide))⟩
/-- what leastTo answers, in one word -/
theorem cs_rep {n : Nat} {kn : Nat → Nat} {wk T : Nat → Nat → Nat} (h : cs_res n 1 kn wk T) {v : Nat} (hv : v < n) {r : Int64} (h1 : 1 ≤ kn v → r = lN (wk v 0)) (h2 : ¬ 1 ≤ kn v → r = -1) : r = vs_rep (ma_d (T v) 1) := by
  have eB : ma_B = 2 ^ 60 := rfl
  have g := cs_res1 h hv
  by_cases q : 1 ≤ kn v
  · rw [h1 q, (g.1 q).1, vs_rep_lt (by have := (g.1 q).2; omega)]
  · rw [h2 q, g.2 q, vs_rep_B]
theorem in_X4_drop_X4 : ∀ w ∈ u_ws RX4 TX4 4, w ∈ wsX4_drop := by decide +kernel
theorem ml_X4_drop_15 : Cond.fieldLink RX4 15 "WayTimes$Tree" "unit" "LWayTimes$Unit;" ∈ wsX4_drop := by decide +kernel
theorem in_X4_plant_X4 : ∀ w ∈ u_ws RX4 TX4 4, w ∈ wsX4_plant := by decide +kernel
theorem ml_X4_plant_19 : Cond.fieldLink RX4 19 "WayTimes$Tree" "start" "I" ∈ wsX4_plant := by decide +kernel
theorem ml_X4_plant_15 : Cond.fieldLink RX4 15 "WayTimes$Tree" "unit" "LWayTimes$Unit;" ∈ wsX4_plant := by decide +kernel
theorem ml_X4_plant_23 : Cond.fieldLink RX4 23 "WayTimes$Tree" "t" "I" ∈ wsX4_plant := by decide +kernel
theorem in_X4_redo_X4 : ∀ w ∈ u_ws RX4 TX4 4, w ∈ wsX4_redo := by decide +kernel
theorem ml_X4_redo_15 : Cond.fieldLink RX4 15 "WayTimes$Tree" "unit" "LWayTimes$Unit;" ∈ wsX4_redo := by decide +kernel
theorem in_X4_redo_X3 : ∀ w ∈ u_ws RX3 TX3 7, w ∈ wsX4_redo := by decide +kernel
theorem ml_X4_redo_32 : Cond.fieldLink RX4 32 "WayTimes$Search" "net" "LWayTimes$Net;" ∈ wsX4_redo := by decide +kernel
theorem in_X4_redo_X0 : ∀ w ∈ u_ws RX0 TX0 5, w ∈ wsX4_redo := by decide +kernel
theorem ml_X4_redo_36 : Cond.fieldLink RX4 36 "WayTimes$Net" "nodes" "I" ∈ wsX4_redo := by decide +kernel
theorem ml_X4_redo_9 : Cond.fieldLink RX4 9 "WayTimes$Tree" "seconds" "[J" ∈ wsX4_redo := by decide +kernel
theorem ml_X4_redo_19 : Cond.fieldLink RX4 19 "WayTimes$Tree" "start" "I" ∈ wsX4_redo := by decide +kernel
theorem ml_X4_redo_23 : Cond.fieldLink RX4 23 "WayTimes$Tree" "t" "I" ∈ wsX4_redo := by decide +kernel
set_option maxHeartbeats 4000000 in
set_option maxRecDepth 100000 in
/-- drop() -/
theorem c_X4_drop (l : Launch) {D : va_G} {ay : Nat → ClassId} {base : Nat} {Gx : State → Prop} {ws : va_W} {q aT aS : Nat} {x2 x3 : Int32} {un : Value} (hT : ws[q]? = some (aT, .inr (7, [.ref aS, un, .int x2, .int x3]))) : Met l yX4_drop wsX4_drop ({ frames := 0, cells := 0, slots := 0, locals := 0 } : Room) (va_Pc [.ref aT] (vg_B D ay base Gx ws)) (va_Qv (fun u => u[q]? = some (aT, .inr (7, [.ref aS, .null, .int x2, .int x3])) ∧ vg_fr ws u [q]) (vg_B D ay base Gx) (vg_A base)) 0 0 (vg_A base) := by
  refine vg_met (cc := cX4_drop) (maxL := 1) (ret := none) (own := RX4) (lv := [(0, .ref aT)]) (by decide) rfl rfl (Nat.le_of_ble_eq_true rfl) rfl ?_
  intro p e s m args below meth c X hinit
  refine vg_aload_n X dX4_drop_0 0 rfl rfl ?_
  refine vg_null X dX4_drop_1 ?_
  refine vg_put X in_X4_drop_X4 tyX4 tyX4_ok nmX4 q hT rfl 1 (by decide) ml_X4_drop_15 rfl rfl rfl rfl (Nat.le_of_ble_eq_true rfl) dX4_drop_2 (fun wz1 ez2 => ?_)
  have fh3 : wz1[q]? = some (aT, .inr (7, [.ref aS, .null, .int x2, .int x3])) := vg_se ez2 hT
  exact vg_vret X rfl ⟨fh3, (vg_fr_set (vg_fr_rf ws _) ez2 (by simp))⟩ (Nat.le_refl _) (Nat.le_refl _) dX4_drop_5
set_option maxHeartbeats 4000000 in
set_option maxRecDepth 100000 in
/-- plant(node, unit, t) -/
theorem c_X4_plant (l : Launch) {D : va_G} {ay : Nat → ClassId} {base : Nat} {Gx : State → Prop} {ws : va_W} {q aT aS : Nat} {x2 x3 : Int32} {un : Value} {au start t : Nat} (hT : ws[q]? = some (aT, .inr (7, [.ref aS, un, .int x2, .int x3]))) : Met l yX4_plant wsX4_plant ({ frames := 0, cells := 0, slots := 0, locals := 0 } : Room) (va_Pc [.ref aT, .int (nI start), .ref au, .int (nI t)] (vg_B D ay base Gx ws)) (va_Qv (fun u => u[q]? = some (aT, .inr (7, [.ref aS, .ref au, .int (nI start), .int (nI t)])) ∧ vg_fr ws u [q]) (vg_B D ay base Gx) (vg_A base)) 0 0 (vg_A base) := by
  refine vg_met (cc := cX4_plant) (maxL := 4) (ret := none) (own := RX4) (lv := [(0, .ref aT), (1, .int (nI start)), (2, .ref au), (3, .int (nI t))]) (by decide) rfl rfl (Nat.le_of_ble_eq_true rfl) rfl ?_
  intro p e s m args below meth c X hinit
  refine vg_aload_n X dX4_plant_0 0 rfl rfl ?_
  refine vg_iload_n X dX4_plant_1 1 rfl rfl ?_
  refine vg_put X in_X4_plant_X4 tyX4 tyX4_ok nmX4 q hT rfl 2 (by decide) ml_X4_plant_19 rfl rfl rfl rfl (Nat.le_of_ble_eq_true rfl) dX4_plant_2 (fun wz1 ez2 => ?_)
  have fh3 : wz1[q]? = some (aT, .inr (7, [.ref aS, un, .int (nI start), .int x3])) := vg_se ez2 hT
  refine vg_aload_n X dX4_plant_5 0 rfl rfl ?_
  refine vg_aload_n X dX4_plant_6 2 rfl rfl ?_
  refine vg_put X in_X4_plant_X4 tyX4 tyX4_ok nmX4 q fh3 rfl 1 (by decide) ml_X4_plant_15 rfl rfl rfl rfl (Nat.le_of_ble_eq_true rfl) dX4_plant_7 (fun wz4 ez5 => ?_)
  have fh6 : wz4[q]? = some (aT, .inr (7, [.ref aS, .ref au, .int (nI start), .int x3])) := vg_se ez5 fh3
  refine vg_aload_n X dX4_plant_10 0 rfl rfl ?_
  refine vg_iload_n X dX4_plant_11 3 rfl rfl ?_
  refine vg_put X in_X4_plant_X4 tyX4 tyX4_ok nmX4 q fh6 rfl 3 (by decide) ml_X4_plant_23 rfl rfl rfl rfl (Nat.le_of_ble_eq_true rfl) dX4_plant_12 (fun wz7 ez8 => ?_)
  have fh9 : wz7[q]? = some (aT, .inr (7, [.ref aS, .ref au, .int (nI start), .int (nI t)])) := vg_se ez8 fh6
  exact vg_vret X rfl ⟨fh9, (vg_fr_set (vg_fr_set (vg_fr_set (vg_fr_rf ws _) ez2 (by simp)) ez5 (by simp)) ez8 (by simp))⟩ (Nat.le_refl _) (Nat.le_refl _) dX4_plant_15
set_option maxHeartbeats 4000000 in
set_option maxRecDepth 100000 in
/-- redo() where nothing is kept -/
theorem c_X4_redo_none (l : Launch) {D : va_G} {ay : Nat → ClassId} {base : Nat} {Gx : State → Prop} {ws : va_W} {q aT aS asr : Nat} {x2 x3 : Int32} (hT : ws[q]? = some (aT, .inr (7, [.ref aS, .null, .int x2, .int x3]))) : Met l yX4_redo wsX4_redo ({ frames := 5, cells := 0, slots := 0, locals := 136 } : Room) (va_Pc [.ref aT, .ref asr] (vg_B D ay base Gx ws)) (va_Qi (fun r u => u = ws ∧ r = 0) (vg_B D ay base Gx) (vg_A base)) 0 0 (vg_A base) := by
  refine vg_met (cc := cX4_redo) (maxL := 6) (ret := (some .boolean)) (own := RX4) (lv := [(0, .ref aT), (1, .ref asr)]) (by decide) rfl rfl (Nat.le_of_ble_eq_true rfl) rfl ?_
  intro p e s m args below meth c X hinit
  refine vg_aload_n X dX4_redo_0 0 rfl rfl ?_
  refine vg_get X in_X4_redo_X4 q hT rfl 1 (by decide) ml_X4_redo_15 rfl rfl dX4_redo_1 ?_
  refine vg_nonnullN X dX4_redo_4 ?_
  refine vg_iconst X (nI 0) dX4_redo_7 (by decide) ?_
  exact vg_zret X rfl rfl ⟨rfl, rfl⟩ (Nat.le_refl _) (Nat.le_refl _) dX4_redo_8
set_option maxHeartbeats 4000000 in
set_option maxRecDepth 100000 in
/-- redo() of a kept tree -/
theorem c_X4_redo (l : Launch) {D : va_G} {ay : Nat → ClassId} {base : Nat} {Gx : State → Prop} {ws : va_W} {asr aN n tE P : Nat} {el qp : Nat → Nat} {d fr to pe : Nat → Nat → Nat} {qu au t start : Nat} {v : Nat → Nat} {q aT aS : Nat} {fs : Nat → Int64} (hT : ws[q]? = some (aT, .inr (7, [.ref aS, .ref au, .int (nI start), .int (nI t)]))) (hS : ws[q + 1]? = some (aS, .inl (ay 1, 200, .inr (.inl fs)))) (hq : 17 ≤ q ∧ q < 58) (hI : cs_I ay ws asr aN) (hN : cn_N ay ws aN tE n P el qp d fr to pe) (hu : cu_P ws qu au v) (hqu : 56 ≤ qu) (hv : cu_R v) (ht : t < 2 ^ 31) (hst : start < n) : Met l yX4_redo wsX4_redo ({ frames := 5, cells := 0, slots := 0, locals := 136 } : Room) (va_Pc [.ref aT, .ref asr] (vg_B D ay base Gx ws)) (va_Qi (fun r u => ∃ fs2 : Nat → Int64, u[q + 1]? = some (aS, .inl (ay 1, 200, .inr (.inl fs2))) ∧ (∀ x, x < n → fs2 x = vs_rep (ma_d (ma_T P (fun i => d i 0) (fun i => d i 1) (fun i => ps_w (d i) (fr i) (to i) (pe i) v t) start x) 1)) ∧ cs_I ay u asr aN ∧ vg_fr ws u [6, 7, 8, 9, 10, 11, 12, 13, 14, q + 1] ∧ ((r = 1 ∧ ∃ x, x < n ∧ fs x ≠ fs2 x) ∨ (r = 0 ∧ ∀ x, x < n → fs x = fs2 x))) (vg_B D ay base Gx) (vg_A base)) 0 0 (vg_A base) := by
  refine vg_met (cc := cX4_redo) (maxL := 6) (ret := (some .boolean)) (own := RX4) (lv := [(0, .ref aT), (1, .ref asr)]) (by decide) rfl rfl (Nat.le_of_ble_eq_true rfl) rfl ?_
  intro p e s m args below meth c X hinit
  have nn : n ≤ 200 := by obtain ⟨_, _, _, _, _, _, _, _, _, _, _, g, _⟩ := hN; exact g
  obtain ⟨T, eT⟩ : ∃ z : Nat → Nat → Nat, z = ma_T P (fun i => d i 0) (fun i => d i 1) (fun i => ps_w (d i) (fr i) (to i) (pe i) v t) start := ⟨_, rfl⟩
  rw [← eT]
  have loop : ∀ (wsA : va_W) (kn st : Nat → Nat) (wk : Nat → Nat → Nat) (hn : Nat → Nat) (pl : Nat → Int32) (key : Nat → Nat) (k i : Nat) (o : Int32) (fs1 : Nat → Int64) (ws1 : va_W), cs_R ay wsA asr aN 1 n kn st wk hn pl key 0 → cs_I ay wsA asr aN → cs_res n 1 kn wk T → vg_fr ws wsA [6, 7, 8, 9, 10, 11, 12, 13, 14] → vg_fr wsA ws1 [q + 1] → i + k = n → ws1[q + 1]? = some (aS, .inl (ay 1, 200, .inr (.inl fs1))) → (∀ x, x < i → fs1 x = vs_rep (ma_d (T x) 1)) → (∀ x, i ≤ x → fs1 x = fs x) → ((o = 1 ∧ ∃ x, x < i ∧ fs x ≠ fs1 x) ∨ (o = 0 ∧ ∀ x, x < i → fs x = fs1 x)) → vg_V D base p l e ({ frames := 5, cells := 0, slots := 0, locals := 136 } : Room) s m args below meth c 6 0 0 (MQ below (va_Qi (fun r u => ∃ fs2 : Nat → Int64, u[q + 1]? = some (aS, .inl (ay 1, 200, .inr (.inl fs2))) ∧ (∀ x, x < n → fs2 x = vs_rep (ma_d (T x) 1)) ∧ cs_I ay u asr aN ∧ vg_fr ws u [6, 7, 8, 9, 10, 11, 12, 13, 14, q + 1] ∧ ((r = 1 ∧ ∃ x, x < n ∧ fs x ≠ fs2 x) ∨ (r = 0 ∧ ∀ x, x < n → fs x = fs2 x))) (vg_B D ay base Gx) (vg_A base)) args s 0 0 (vg_A base)) [(0, .ref aT), (1, .ref asr), (2, .int o), (3, .int (nI i))] [] ws1 30 := by
    intro wsA kn st wk hn pl key k
    induction k using Nat.strongRecOn with
    | ind k ih =>
      intro i o fs1 ws1 hRA hIA hres frA fr1 hk hS1 hlo hhi ho
      have nq : ∀ j, j ≠ q + 1 → ws1[j]? = wsA[j]? := fun j hj => fr1.2 j (by simpa using hj)
      have hR1 : cs_R ay ws1 asr aN 1 n kn st wk hn pl key 0 := cs_R_fr hRA (fun j h1 h2 => nq j (by omega))
      have hT1 : ws1[q]? = _ := (nq q (by omega)).trans ((frA.2 q (by simp only [List.mem_cons, List.not_mem_nil, or_false]; omega)).trans hT)
      obtain ⟨aP, aU, aH, aO, fh, fo, n1, nr⟩ := id hN
      have m1 : ws1[1]? = _ := (nq 1 (by omega)).trans ((frA.2 1 (by decide)).trans n1)
      obtain ⟨aq, aC, aW, aK, aTT, fw, fk, ft, h6, hr9⟩ := id hR1
      refine vg_iload_n X dX4_redo_30 3 rfl rfl ?_
      refine vg_aload_n X dX4_redo_31 1 rfl rfl ?_
      refine vg_get X in_X4_redo_X3 6 h6 rfl 0 (by decide) ml_X4_redo_32 rfl rfl dX4_redo_32 ?_
      refine vg_get X in_X4_redo_X0 1 m1 rfl 4 (by decide) ml_X4_redo_36 rfl rfl dX4_redo_35 ?_
      refine vg_icmp_ge X 76 dX4_redo_38 (by decide) (fun c38 => ?_) (fun c38 => ?_)
      · have c38 : n ≤ i := (nI_leI (by omega) (by omega)).mp c38
        refine vg_iload_n X dX4_redo_76 2 rfl rfl ?_
        have ei : i = n := by omega
        subst ei
        refine vg_zret X rfl (by rcases ho with ⟨q1, _⟩ | ⟨q1, _⟩ <;> rw [q1] <;> rfl) ⟨fs1, hS1, hlo, cs_I_fr hIA (fun j h1 h2 => nq j (by omega)), vg_fr_tr frA fr1 (by intro j hj; simp only [List.mem_cons, List.not_mem_nil, or_false] at hj ⊢; omega), ho⟩ (Nat.le_refl _) (Nat.le_refl _) dX4_redo_77
      · have c38 : ¬ n ≤ i := fun z => c38 ((nI_leI (by omega) (by omega)).mpr z)
        refine vg_aload_n X dX4_redo_41 1 rfl rfl ?_
        refine vg_iload_n X dX4_redo_42 3 rfl rfl ?_
        have c1 := (hres i (by omega)).1
        refine vg_calll (vg_runV X (c_X3_leastTo l hR1 nn (by omega) (node := i) (by omega) (by omega)) (cwV 1 X.2.2.2.2.1 gX4_redo_X3_leastTo rfl rfl rfl (by decide +kernel) ⟨Nat.le_of_ble_eq_true rfl, Nat.le_of_ble_eq_true rfl⟩) 6 h6 rfl rfl rfl (Nat.le_of_ble_eq_true rfl) dX4_redo_43 ⟨Nat.zero_le _, Nat.zero_le _⟩) (fun rr3 wz1 PP2 => ?_)
        obtain ⟨hw9, hy9, hn9⟩ := PP2
        rw [hw9]
        have e9 := cs_rep hres (by omega) hy9 hn9
        subst e9
        refine vg_lstore X [(4, .long (vs_rep (ma_d (T i) 1))), (0, .ref aT), (1, .ref asr), (2, .int o), (3, .int (nI i))] dX4_redo_46 (by decide) rfl ?_
        refine vg_aload_n X dX4_redo_48 1 rfl rfl ?_
        refine vg_get X in_X4_redo_X4 q hT1 rfl 0 (by decide) ml_X4_redo_9 rfl rfl dX4_redo_49 ?_
        refine vg_iload_n X dX4_redo_52 4 rfl rfl ?_
        refine vg_lald X (fs1 i) (q + 1) hS1 rfl (by omega) (by decide) rfl dX4_redo_53 ?_
        refine vg_lload X dX4_redo_54 0 rfl ?_
        refine vg_lcmp_eq X 70 dX4_redo_56 dX4_redo_57 (by decide) (fun c56 => ?_) (fun c56 => ?_)
        · skip
          refine vg_iinc X (v := nI (i + 1)) [(3, .int (nI (i + 1))), (4, .long (vs_rep (ma_d (T i) 1))), (0, .ref aT), (1, .ref asr), (2, .int o)] dX4_redo_70 4 rfl (by rw [show Int32.ofInt 1 = nI 1 by decide, nI_add]) (by decide) rfl ?_
          refine vg_goto X 30 dX4_redo_73 (by decide) ?_
          refine vg_locals [2, 3, 4, 0] rfl ?_
          refine ih (k - 1) (by omega) (i + 1) o fs1 ws1 hRA hIA hres frA fr1 (by omega) hS1 (fun x hx => ?_) (fun x hx => hhi x (by omega)) ?_
          · by_cases q9 : x = i
            · subst q9; exact c56
            · exact hlo x (by omega)
          · rcases ho with ⟨q1, x, q2, q3⟩ | ⟨q1, q2⟩
            · exact Or.inl ⟨q1, x, by omega, q3⟩
            · refine Or.inr ⟨q1, fun x hx => ?_⟩
              by_cases q9 : x = i
              · subst q9; exact (hhi x (Nat.le_refl _)).symm
              · exact q2 x (by omega)
        · skip
          refine vg_aload_n X dX4_redo_60 1 rfl rfl ?_
          refine vg_get X in_X4_redo_X4 q hT1 rfl 0 (by decide) ml_X4_redo_9 rfl rfl dX4_redo_61 ?_
          refine vg_iload_n X dX4_redo_64 4 rfl rfl ?_
          refine vg_lload X dX4_redo_65 0 rfl ?_
          refine vg_last X (q + 1) hS1 rfl (by omega) (by decide) dX4_redo_67 (fun wz4 ez5 => ?_)
          have fh6 : wz4[q + 1]? = some (aS, .inl (ay 1, 200, .inr (.inl (vp_updL fs1 i (vs_rep (ma_d (T i) 1)))))) := vg_se ez5 hS1
          refine vg_iconst X (nI 1) dX4_redo_68 (by decide) ?_
          refine vg_istore_n X [(2, .int (nI 1)), (4, .long (vs_rep (ma_d (T i) 1))), (0, .ref aT), (1, .ref asr), (3, .int (nI i))] dX4_redo_69 rfl (by decide) rfl ?_
          refine vg_iinc X (v := nI (i + 1)) [(3, .int (nI (i + 1))), (2, .int (nI 1)), (4, .long (vs_rep (ma_d (T i) 1))), (0, .ref aT), (1, .ref asr)] dX4_redo_70 4 rfl (by rw [show Int32.ofInt 1 = nI 1 by decide, nI_add]) (by decide) rfl ?_
          refine vg_goto X 30 dX4_redo_73 (by decide) ?_
          refine vg_locals [3, 4, 1, 0] rfl ?_
          refine ih (k - 1) (by omega) (i + 1) _ _ _ hRA hIA hres frA (vg_fr_set fr1 ez5 (by simp)) (by omega) fh6 (fun x hx => ?_) (fun x hx => ?_) (Or.inl ⟨by decide, i, by omega, ?_⟩)
          · by_cases q9 : x = i
            · subst q9; exact pk_uLs
            · rw [pk_uLn q9]; exact hlo x (by omega)
          · rw [pk_uLn (by omega)]; exact hhi x (by omega)
          · rw [pk_uLs, ← hhi i (Nat.le_refl _)]; exact c56
  obtain ⟨aq, aC, aW, aK, aTT, k0, fc, fw, fk, ft, hn0, pl0, key0, h6, hr9⟩ := id hI
  refine vg_aload_n X dX4_redo_0 0 rfl rfl ?_
  refine vg_get X in_X4_redo_X4 q hT rfl 1 (by decide) ml_X4_redo_15 rfl rfl dX4_redo_1 ?_
  refine vg_nonnull X 9 dX4_redo_4 (by decide) ?_
  refine vg_aload_n X dX4_redo_9 1 rfl rfl ?_
  refine vg_aload_n X dX4_redo_10 0 rfl rfl ?_
  refine vg_get X in_X4_redo_X4 q hT rfl 2 (by decide) ml_X4_redo_19 rfl rfl dX4_redo_11 ?_
  refine vg_aload_n X dX4_redo_14 0 rfl rfl ?_
  refine vg_get X in_X4_redo_X4 q hT rfl 1 (by decide) ml_X4_redo_15 rfl rfl dX4_redo_15 ?_
  refine vg_aload_n X dX4_redo_18 0 rfl rfl ?_
  refine vg_get X in_X4_redo_X4 q hT rfl 3 (by decide) ml_X4_redo_23 rfl rfl dX4_redo_19 ?_
  refine vg_iconst X (nI 1) dX4_redo_22 (by decide) ?_
  refine vg_callv (vg_runV X (c_X3_spread l hI hN hu hqu hv ht hst (k := 1) (by omega)) (cwV 4 X.2.2.2.2.1 gX4_redo_X3_spread rfl rfl rfl (by decide +kernel) ⟨Nat.le_of_ble_eq_true rfl, Nat.le_of_ble_eq_true rfl⟩) 6 h6 rfl rfl rfl (Nat.le_of_ble_eq_true rfl) dX4_redo_23 ⟨Nat.zero_le _, Nat.zero_le _⟩) (fun wz7 PP8 => ?_)
  rw [← eT] at PP8
  obtain ⟨kn, st, wk, hn, pl, key, v1, v2, v3, v4⟩ := PP8
  refine vg_iconst X (nI 0) dX4_redo_26 (by decide) ?_
  refine vg_istore_n X [(2, .int (nI 0)), (0, .ref aT), (1, .ref asr)] dX4_redo_27 rfl (by decide) rfl ?_
  refine vg_iconst X (nI 0) dX4_redo_28 (by decide) ?_
  refine vg_istore_n X [(3, .int (nI 0)), (2, .int (nI 0)), (0, .ref aT), (1, .ref asr)] dX4_redo_29 rfl (by decide) rfl ?_
  refine vg_locals [2, 3, 1, 0] rfl ?_
  exact loop wz7 kn st wk hn pl key n 0 _ fs wz7 v1 (cs_R_I v1 v2) v3 v4 (vg_fr_rf _ _) (by omega) ((v4.2 (q + 1) (by simp only [List.mem_cons, List.not_mem_nil, or_false]; omega)).trans hS) (fun x hx => absurd hx (by omega)) (fun x _ => rfl) (Or.inr ⟨nI_0, fun x hx => absurd hx (by omega)⟩)
