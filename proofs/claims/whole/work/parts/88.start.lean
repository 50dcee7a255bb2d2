theorem st_arr {s : State} {args : Array Value} {ty : FieldType} (h : (Cond.arrayClass ty).before args s = true) : ∃ cA : ClassId, ArrOfT s cA ty ∧ s.vm.findClass ("[" ++ ty.toString) = some cA := by
  obtain ⟨cA, kA, comp, h1, h2, h3⟩ := Cond.arrayClass_spec h
  exact ⟨cA, fun n z => ⟨fun k h => (by cases h), kA, h2, comp, h3⟩, h1⟩
theorem st_arrO {s : State} {C : String} (h : va_AO C s) : ∃ cA : ClassId, ArrOfT s cA (.object C) ∧ va_RA s cA (.object C) := by
  obtain ⟨comp, c, k, f1, _, f3, f4, f5⟩ := Cond.arrayOver_spec h
  exact ⟨c, fun N z => ⟨(fun k h => by cases h), k, f3, comp, f4⟩, k, comp, f3, f4, f1, f5⟩
theorem vg_wd {D : va_G} {base : Nat} {p : Program} {l : Launch} {e : Env} {R : Room} {s : State} {m : MethodId} {args : Array Value} {below : List Frame} {meth : Method} {c : Code} {nL cells slots k n : Nat} {Q : State → Prop} {lv : List (Nat × Value)} {st : List Value} {ws : va_W} {pc : Nat} (h1 : cells ≤ k) (h2 : slots ≤ n) (kk : vg_V D base p l e R s m args below meth c nL k n Q lv st ws pc) : vg_V D base p l e R s m args below meth c nL cells slots Q lv st ws pc := fun H locs ls hl hP hD hS => W.widen h1 h2 (kk H locs ls hl hP hD hS)
theorem s_A1 : ∀ q ∈ vs_txt, Cond.exactly (.string RX6 q.1) "java/lang/String" ∈ flatC (Jvm.Cond.and given_1 narrow_1) := by decide +kernel
theorem s_A2 : ∀ q ∈ vs_txt, Cond.stringRef RX6 q.1 q.2 ∈ lw_tbl := by decide +kernel
theorem s_A3 : ∀ q ∈ vs_cls, ∀ w ∈ vx_atS RX6 q.1 q.2.1 q.2.2, w ∈ lw_tbl := by decide +kernel
theorem s_A4 : ∀ w ∈ vs_more, w ∈ lw_tbl ∧ w.onTables = true := by decide +kernel
theorem s_A5 : ∀ q ∈ vn_pairs, Cond.not (.castable q.1 q.2) ∈ flatC (Jvm.Cond.and given_1 narrow_1) := by decide +kernel
theorem s_A6 : ∀ E ∈ vn_cls, Cond.castable E E ∈ lw_tbl := by decide +kernel
theorem dfX6_L_law : ∀ j, j < 5 → defaultValue (tyX6 j) = vp_V [.null, .null, .null, .null, .int 0] j := fun j hj => by
  rcases (show j = 0 ∨ j = 1 ∨ j = 2 ∨ j = 3 ∨ j = 4 by omega) with rfl | rfl | rfl | rfl | rfl <;> rfl
theorem nc_L_law_8 : Cond.classLink RL 8 RX6 ∈ wsL_law := by decide +kernel
theorem ni_L_law_X6 : Cond.instantiable RX6 5 ∈ wsL_law := by decide +kernel
theorem nn_L_law_X6 : Cond.initialized RX6 ∈ wsL_law := by decide +kernel
theorem in_L_law_X6 : ∀ w ∈ u_ws RX6 TX6 5, w ∈ wsL_law := by decide +kernel
theorem ci_law_X6 : Cond.initialized RX6 ∈ wsL_law := by decide +kernel
theorem cj_law_X6 : Cond.instanceMethod yX6_init ∈ wsL_law := by decide +kernel
theorem ck_law_84 : Cond.methodLink RL 84 yX6_init ∈ wsL_law := by decide +kernel
theorem dfX7_L_law : ∀ j, j < 30 → defaultValue (tyX7 j) = vp_V [.int 0, .int 0, .int 0, .null, .null, .null, .null, .null, .null, .null, .null, .null, .null, .null, .int 0, .null, .null, .null, .null, .null, .null, .null, .null, .null, .null, .null, .null, .null, .int 0, .null] j := fun j hj => by
  rcases (show j = 0 ∨ j = 1 ∨ j = 2 ∨ j = 3 ∨ j = 4 ∨ j = 5 ∨ j = 6 ∨ j = 7 ∨ j = 8 ∨ j = 9 ∨ j = 10 ∨ j = 11 ∨ j = 12 ∨ j = 13 ∨ j = 14 ∨ j = 15 ∨ j = 16 ∨ j = 17 ∨ j = 18 ∨ j = 19 ∨ j = 20 ∨ j = 21 ∨ j = 22 ∨ j = 23 ∨ j = 24 ∨ j = 25 ∨ j = 26 ∨ j = 27 ∨ j = 28 ∨ j = 29 by omega) with rfl | rfl | rfl | rfl | rfl | rfl | rfl | rfl | rfl | rfl | rfl | rfl | rfl | rfl | rfl | rfl | rfl | rfl | rfl | rfl | rfl | rfl | rfl | rfl | rfl | rfl | rfl | rfl | rfl | rfl <;> rfl
theorem nc_L_law_85 : Cond.classLink RL 85 RX7 ∈ wsL_law := by decide +kernel
theorem ni_L_law_X7 : Cond.instantiable RX7 30 ∈ wsL_law := by decide +kernel
theorem nn_L_law_X7 : Cond.initialized RX7 ∈ wsL_law := by decide +kernel
theorem in_L_law_X7 : ∀ w ∈ u_ws RX7 TX7 30, w ∈ wsL_law := by decide +kernel
theorem ci_L_law_X7 : Cond.initialized RX7 ∈ wsL_law := by decide +kernel
theorem cj_L_law_X7_init : Cond.instanceMethod yX7_init ∈ wsL_law := by decide +kernel
theorem ck_L_law_87 : Cond.methodLink RL 87 yX7_init ∈ wsL_law := by decide +kernel
theorem na_L_law_l : Cond.arrayClass .long ∈ wsL_law := by decide +kernel
set_option maxHeartbeats 8000000 in
set_option maxRecDepth 100000 in
/-- from the entry, for every script of at most 3072 ints, the law comes to its end with true -/
theorem whole_start {p : Program} {e : Env} {s : State} {m : MethodId} {below : List Frame} {meth : Method} {c : Code} (l : Launch) (hl9 : l.stackTraces = false) {b L : Nat} {xs : Nat → Int32} (hL : L ≤ 3072) (C0 : lw_At p s m meth c b L xs) : W p l e room_1 s m #[Value.ref b] below meth c s.heap [] 0 0 (lw_Z below #[Value.ref b] s) (entryFrame m ([Value.ref b] : List Value).toArray 8) := by
  obtain ⟨hx, hb, hr, hml, hown, hts, hX, hbl, hlocks, hgv⟩ := id C0
  have hw : ∀ w ∈ wsL_law, w.before #[Value.ref b] s = true := fun w h => hts w (wsL_law_in w h)
  have hs := flat_of_before _ hgv
  have hA : ∀ a : Nat, a < s.heap.size → ¬ vg_A s.heap.size a := fun a h z => Nat.not_le.mpr h z
  obtain ⟨kc0, ki0, kn0⟩ := u_known (C := RJx00060) (T := TJx00060) (N := 6) (n := 6) hw inlJx00060 (hts (.instantiable RJx00060 6) (by decide +kernel))
  obtain ⟨kc1, ki1, kn1⟩ := u_known (C := RJxde1cd) (T := TJxde1cd) (N := 6) (n := 6) hw inlJxde1cd (hts (.instantiable RJxde1cd 6) (by decide +kernel))
  obtain ⟨kc2, ki2, kn2⟩ := u_known (C := RJx4a65c) (T := TJx4a65c) (N := 3) (n := 3) hw inlJx4a65c (hts (.instantiable RJx4a65c 3) (by decide +kernel))
  obtain ⟨kc3, ki3, kn3⟩ := u_known (C := RX0) (T := TX0) (N := 5) (n := 5) hw inlX0 (hts (.instantiable RX0 5) (by decide +kernel))
  obtain ⟨kc4, ki4, kn4⟩ := u_known (C := RX1) (T := TX1) (N := 4) (n := 4) hw inlX1 (hts (.instantiable RX1 4) (by decide +kernel))
  obtain ⟨kc5, ki5, kn5⟩ := u_known (C := RX2) (T := TX2) (N := 11) (n := 11) hw inlX2 (hts (.instantiable RX2 11) (by decide +kernel))
  obtain ⟨kc6, ki6, kn6⟩ := u_known (C := RX3) (T := TX3) (N := 7) (n := 7) hw inlX3 (hts (.instantiable RX3 7) (by decide +kernel))
  obtain ⟨kc7, ki7, kn7⟩ := u_known (C := RX4) (T := TX4) (N := 4) (n := 4) hw inlX4 (hts (.instantiable RX4 4) (by decide +kernel))
  obtain ⟨kc8, ki8, kn8⟩ := u_known (C := RX5) (T := TX5) (N := 5) (n := 5) hw inlX5 (hts (.instantiable RX5 5) (by decide +kernel))
  obtain ⟨kc9, ki9, kn9⟩ := u_known (C := RX6) (T := TX6) (N := 5) (n := 5) hw inlX6 (hts (.instantiable RX6 5) (by decide +kernel))
  obtain ⟨kc10, ki10, kn10⟩ := u_known (C := RX7) (T := TX7) (N := 30) (n := 30) hw inlX7 (hts (.instantiable RX7 30) (by decide +kernel))
  obtain ⟨D, hKc⟩ : ∃ D : va_G, ∀ (k : Nat) (q : vw_C), vwCl[k]? = some q → u_Kn s q.1 q.2.1 q.2.2 (D.1 k) (D.2 k) := by
    refine ⟨(fun k => if k = 0 then kc0 else if k = 1 then kc1 else if k = 2 then kc2 else if k = 3 then kc3 else if k = 4 then kc4 else if k = 5 then kc5 else if k = 6 then kc6 else if k = 7 then kc7 else if k = 8 then kc8 else if k = 9 then kc9 else kc10, fun k => if k = 0 then ki0 else if k = 1 then ki1 else if k = 2 then ki2 else if k = 3 then ki3 else if k = 4 then ki4 else if k = 5 then ki5 else if k = 6 then ki6 else if k = 7 then ki7 else if k = 8 then ki8 else if k = 9 then ki9 else ki10), ?_⟩
    intro k q hq
    match k, hq with
    | 0, hq => cases hq; exact kn0
    | 1, hq => cases hq; exact kn1
    | 2, hq => cases hq; exact kn2
    | 3, hq => cases hq; exact kn3
    | 4, hq => cases hq; exact kn4
    | 5, hq => cases hq; exact kn5
    | 6, hq => cases hq; exact kn6
    | 7, hq => cases hq; exact kn7
    | 8, hq => cases hq; exact kn8
    | 9, hq => cases hq; exact kn9
    | 10, hq => cases hq; exact kn10
    | k + 11, hq => simp [vwCl] at hq
  obtain ⟨y0, ya0, yb0⟩ := st_arr (hts (.arrayClass .int) (by decide +kernel))
  obtain ⟨y1, ya1, yb1⟩ := st_arr (hts (.arrayClass .long) (by decide +kernel))
  obtain ⟨y2, ya2, yb2⟩ := st_arr (hts (.arrayClass .boolean) (by decide +kernel))
  have hO4 : va_AO RX4 s := va_AO.of (hts (.arrayOver (.object RX4)) (by decide +kernel))
  have hOO : va_AO "java/lang/Object" s := va_AO.of (hts (.arrayOver (.object "java/lang/Object")) (by decide +kernel))
  obtain ⟨y3, ya3, yb3⟩ := st_arrO hO4
  obtain ⟨y4, ya4, yb4⟩ := st_arrO hOO
  obtain ⟨ay, hay⟩ : ∃ ay : Nat → ClassId, ay 0 = y0 ∧ ay 1 = y1 ∧ ay 2 = y2 ∧ ay 3 = y3 ∧ ay 4 = y4 := ⟨fun k => if k = 0 then y0 else if k = 1 then y1 else if k = 2 then y2 else if k = 3 then y3 else y4, rfl, rfl, rfl, rfl, rfl⟩
  obtain ⟨rfl, rfl, rfl, rfl, rfl⟩ := hay
  have hK : va_K D vwCl (vg_tys ay) s := ⟨hKc, fun k q hq => by
    match k, hq with
    | 0, hq => cases hq; exact ⟨ya0, yb0⟩
    | 1, hq => cases hq; exact ⟨ya1, yb1⟩
    | 2, hq => cases hq; exact ⟨ya2, yb2⟩
    | 3, hq => cases hq; exact ⟨ya3, yb3⟩
    | 4, hq => cases hq; exact ⟨ya4, yb4⟩
    | k + 5, hq => simp [vg_tys] at hq⟩
  obtain ⟨tE, htE, hTE⟩ := va_Tof (N := 0) (f := fun _ => .null) (by decide) (hs (.arrayOf (.static "java/util/ArrayList" "DEFAULTCAPACITY_EMPTY_ELEMENTDATA" "[Ljava/lang/Object;") (.object "java/lang/Object")) (by decide +kernel)) (Cond.eq_int (hs (.eq (.length (.static "java/util/ArrayList" "DEFAULTCAPACITY_EMPTY_ELEMENTDATA" "[Ljava/lang/Object;")) (.int 0)) (by decide +kernel)) rfl) (fun j hj => absurd hj (Nat.not_lt_zero j)) hA
  have hZ := va_Zof (hts (.laysStatic "java/util/ArrayList" "DEFAULTCAPACITY_EMPTY_ELEMENTDATA" "[Ljava/lang/Object;") (by decide +kernel)) (hts (.initialized "java/util/ArrayList") (by decide +kernel)) htE hA
  obtain ⟨mi, hMi⟩ := va_Mi.of (hs (.isRef (.mirror "[Ljava/lang/Object;")) (by decide +kernel))
  have hDc : va_Dc s := va_Nw.of rfl (hts (.declares ⟨"java/lang/Object", "getClass", "()Ljava/lang/Class;"⟩) (by decide +kernel))
  have hc2 : va_Nw (.castable RX2 "java/lang/Object") s := va_Nw.of rfl (hts (.castable RX2 "java/lang/Object") (by decide +kernel))
  have hc5 : va_Nw (.castable RX5 "java/lang/Object") s := va_Nw.of rfl (hts (.castable RX5 "java/lang/Object") (by decide +kernel))
  have hU9 := vx_Zqof (hts (.laysStatic Bundle.tN "UNASSIGNED_STACK" Bundle.steD) (by decide +kernel)) (hts (.initialized Bundle.tN) (by decide +kernel)) (hs (.isRef (.static Bundle.tN "UNASSIGNED_STACK" Bundle.steD)) (by decide +kernel)) hA
  have hN9 := vx_Zqof (hts (.laysStatic Bundle.tN "SUPPRESSED_SENTINEL" Bundle.listD) (by decide +kernel)) (hts (.initialized Bundle.tN) (by decide +kernel)) (hs (.isRef (.static Bundle.tN "SUPPRESSED_SENTINEL" Bundle.listD)) (by decide +kernel)) hA
  have hX9 : vh_X s := ⟨fun q hq => va_Nc.of (hs _ (s_A5 q hq)), fun E hE => va_Nw.of rfl (hts _ (s_A6 E hE))⟩
  have hGx : vh_G2 s.heap.size tE mi s ∧ vh_X s := ⟨⟨⟨hZ, ⟨_, hTE⟩, hOO, hO4, hMi, hDc, hc2, hc5⟩, hU9, hN9⟩, hX9⟩
  have hst : vg_stb s.heap.size (fun U => vh_G2 s.heap.size tE mi U ∧ vh_X U) := fun u U h0 hvm hz hq h => ⟨vh_stb2 s.heap.size tE mi u U h0 hvm hz hq h.1, vh_Xm hvm h.2⟩
  have hWm9 : vs_W s := ⟨fun q hq => by
    obtain ⟨a, _, _, _, ha, _⟩ := Cond.exactly_spec (hs _ (s_A1 q hq))
    exact ⟨a, vk_R.of (hts _ (s_A2 q hq)) ha⟩, fun q hq w hw9 => vx_ot_at (State.WarmedH.refl s) rfl (vs_good q hq w hw9) (hts w (s_A3 q hq w hw9)), fun w hw9 => va_Nw.of (s_A4 w hw9).2 (hts w (s_A4 w hw9).1)⟩
  have hWi : vi_W s := va_Nw.of rfl (hts (.methodLinkNest RX6 35 yX4_init RX6) (by decide +kernel))
  have X : vg_C D ay s.heap.size (fun U => vh_G2 s.heap.size tE mi U ∧ vh_X U) p s m #[Value.ref b] meth c cL_law 8 RL wsL_law ret := ⟨hx, hb, hml, hown, hw, hK, Nat.le_refl _, hr, hlocks, hst, hGx⟩
  suffices hV : vg_V D s.heap.size p l e room_1 s m #[Value.ref b] below meth c 8 0 0 (lw_Z below #[Value.ref b] s) [(0, .ref b)] [] [] 0 by
    have hl := lv_entry ([.ref b]) (n := 8) (Nat.le_of_ble_eq_true rfl)
    rw [lg_entry_eq]
    exact hV s.heap [] _ hl (fun k q h => by simp at h) ⟨fun i j p q h => by simp at h, fun k q h => by simp at h⟩ va_S.rf
  refine vg_new X (ci := 9) (C := RX6) (T := TX6) (N := 5) [.null, .null, .null, .null, .int 0] in_L_law_X6 tyX6 tyX6_ok nc_L_law_8 ni_L_law_X6 nn_L_law_X6 rfl dfX6_L_law (Nat.le_of_ble_eq_true rfl) (Nat.le_of_ble_eq_true rfl) dL_law_0 (fun aq1 wz2 ez3 => ?_)
  have fh4 : wz2[0]? = some (aq1, .inr (9, [.null, .null, .null, .null, .int 0])) := vg_pl ez3
  refine vg_dup X dL_law_3 rfl ?_
  have hl5 : wz2.length = 1 := (vg_plen ez3).trans (congrArg (· + 1) (rfl))
  refine vg_callv (vg_runIW X vi_st hWi (c_X6_init l fh4 hl5 (fun U hU => hU.1.1) (el := fun _ => 0) (qp := fun _ => 0) (ua := fun _ => 0) (uq := fun _ => 0) (d := fun _ _ => 0) (fr := fun _ _ => 0) (to := fun _ _ => 0) (pe := fun _ _ => 0) (uv := fun _ _ => 0) (sk := fun _ _ => 0)) (cwI 0 X.2.2.2.2.1 gL_law_X6_init rfl rfl rfl (X.2.2.2.2.1 _ ci_law_X6) (X.2.2.2.2.1 _ ck_law_84) (X.2.2.2.2.1 _ cj_law_X6) rfl (by decide +kernel) ⟨(Nat.le_of_ble_eq_true rfl), (Nat.le_of_ble_eq_true rfl)⟩) rfl rfl (Nat.le_of_ble_eq_true rfl) dL_law_4 ⟨(Nat.le_of_ble_eq_true rfl), (Nat.le_of_ble_eq_true rfl)⟩) (fun w6 P6 => ?_)
  obtain ⟨aN, asr, aTs, aWB, fb, q0, qI, qN, qT, q16, ql⟩ := P6
  refine vg_astore_n X [(1, .ref aq1), (0, .ref b)] dL_law_7 rfl (by decide) rfl ?_
  refine vg_new X (ci := 10) (C := RX7) (T := TX7) (N := 30) [.int 0, .int 0, .int 0, .null, .null, .null, .null, .null, .null, .null, .null, .null, .null, .null, .int 0, .null, .null, .null, .null, .null, .null, .null, .null, .null, .null, .null, .null, .null, .int 0, .null] in_L_law_X7 tyX7 tyX7_ok nc_L_law_85 ni_L_law_X7 nn_L_law_X7 rfl dfX7_L_law (Nat.le_of_ble_eq_true rfl) (Nat.le_of_ble_eq_true rfl) dL_law_8 (fun aq6 wz7 ez8 => ?_)
  have fh9 : wz7[29]? = some (aq6, .inr (10, [.int 0, .int 0, .int 0, .null, .null, .null, .null, .null, .null, .null, .null, .null, .null, .null, .int 0, .null, .null, .null, .null, .null, .null, .null, .null, .null, .null, .null, .null, .null, .int 0, .null])) := (show wz7[29]? = wz7[w6.length]? by rw [ql]).trans (vg_pl ez8)
  refine vg_dup X dL_law_11 rfl ?_
  have hl10 : wz7.length = 30 := (vg_plen ez8).trans (congrArg (· + 1) (ql))
  refine vg_callv (vg_runI X (c_X7_init l fh9 hl10 (d := fun _ _ => 0) (fr := fun _ _ => 0) (to := fun _ _ => 0) (pe := fun _ _ => 0) (uv := fun _ _ => 0) (sk := fun _ _ => 0) (ks := fun _ => 0) (kt := fun _ => 0) (wp := fun _ => 0)) (cwI 0 X.2.2.2.2.1 gL_law_X7_init rfl rfl rfl (X.2.2.2.2.1 _ ci_L_law_X7) (X.2.2.2.2.1 _ ck_L_law_87) (X.2.2.2.2.1 _ cj_L_law_X7_init) rfl (by decide +kernel) ⟨(Nat.le_of_ble_eq_true rfl), (Nat.le_of_ble_eq_true rfl)⟩) rfl rfl (Nat.le_of_ble_eq_true rfl) dL_law_12 ⟨(Nat.le_of_ble_eq_true rfl), (Nat.le_of_ble_eq_true rfl)⟩) (fun wz11 PP12 => ?_)
  obtain ⟨⟨aa, qM⟩, ql7, qg⟩ := PP12
  have F7 : ∀ j, j < 29 → wz11[j]? = w6[j]? := fun j hj => (qg.2 j (by rw [hl10]; omega) (fun z => by have := List.mem_singleton.mp z; omega)).trans (by rw [ez8, List.getElem?_append_left (by rw [ql]; exact hj)])
  refine vg_astore_n X [(2, .ref aq6), (1, .ref aq1), (0, .ref b)] dL_law_15 rfl (by decide) rfl ?_
  refine vg_iconst X (nI 1) dL_law_16 (by decide) ?_
  refine vg_newJ X 1 na_L_law_l rfl (by decide) (Nat.le_of_ble_eq_true rfl) (Nat.le_of_ble_eq_true rfl) dL_law_17 (fun aq13 wz14 ez15 => ?_)
  have fh16 : wz14[55]? = some (aq13, .inl (ay 1, 1, .inr (.inl (fun _ => 0)))) := (show wz14[55]? = wz14[wz11.length]? by rw [ql7]).trans (vg_pl ez15)
  refine vg_astore_n X [(3, .ref aq13), (2, .ref aq6), (1, .ref aq1), (0, .ref b)] dL_law_19 rfl (by decide) rfl ?_
  refine vg_iconst X (nI 0) dL_law_20 (by decide) ?_
  refine vg_istore X [(4, .int (nI 0)), (3, .ref aq13), (2, .ref aq6), (1, .ref aq1), (0, .ref b)] dL_law_21 (by decide) rfl ?_
  have hl17 : wz14.length = 56 := (vg_plen ez15).trans (congrArg (· + 1) (ql7))
  have F8 : ∀ j, j < 55 → wz14[j]? = wz11[j]? := fun j hj => by rw [ez15, List.getElem?_append_left (by rw [ql7]; exact hj)]
  have F9 : ∀ j, j < 29 → wz14[j]? = w6[j]? := fun j hj => (F8 j (by omega)).trans (F7 j hj)
  have hj : jo_S ay wz14 aq1 tE aq6 aa 0 aq13 (fun _ => 0) := ⟨0, 0, 0, fun _ _ => 0, fun _ _ => 0, fun _ _ => 0, fun _ _ => 0, fun _ _ => 0, fun _ => 0, fun _ => 0, fun _ => 0, fun _ _ => 0, 0, fun _ => 0, ⟨aN, asr, aTs, aWB, fun _ => 0, fun _ => 0, fun _ => 0, fun _ => 0, fb, (F9 0 (by decide)).trans q0, cs_I_f6 qI (fun j q1 q2 => F9 j (by omega)), cw_N_fr qN (fun j q1 q2 => F9 j (by omega)) (fun j q1 => by rw [List.getElem?_eq_none (by rw [hl17]; omega), List.getElem?_eq_none (by rw [ql]; omega)]), ct_T_fr qT (fun j hj => F9 j (by omega)), fun k _ q9 => absurd rfl q9, (F9 16 (by decide)).trans q16, by decide, fun j hj => absurd hj (Nat.not_lt_zero j), by rw [hl17]; decide⟩, cm_St_fr qM (fun j q1 q2 => F8 j (by omega)), fh16⟩
  refine vg_wd (k := 100 + 10 * 0) (n := 20000 + 400 * 0) (Nat.le_of_ble_eq_true rfl) (Nat.le_of_ble_eq_true rfl) ?_
  exact law_loop l hl9 X (fun U hU => hU.1) (fun U hU => hU.2) hWm9 hX hbl hL hr 4000 0 wz14 0 (fun _ => 0) (by decide) (by omega) hj
