theorem cq_St_fr {ay : Nat → ClassId} {ws u : va_W} {aq : Nat} {hn : Nat → Nat} {pl : Nat → Int32} {key : Nat → Nat} {sz : Nat} (h : cq_St ay ws aq hn pl key sz) (e7 : u[7]? = ws[7]?) (e8 : u[8]? = ws[8]?) (e9 : u[9]? = ws[9]?) (e10 : u[10]? = ws[10]?) : cq_St ay u aq hn pl key sz := by
  obtain ⟨ah, ap, asx, hp, qs, h7, h8, h9, h10, hr⟩ := h
  exact ⟨ah, ap, asx, hp, qs, e7.trans h7, e8.trans h8, e9.trans h9, e10.trans h10, hr⟩
/-- the search's rows (places 6, 12, 13, 14) and its queue -/
def cs_R (ay : Nat → ClassId) (ws : va_W) (asr aN k n : Nat) (kn st : Nat → Nat) (wk : Nat → Nat → Nat) (hn : Nat → Nat) (pl : Nat → Int32) (key : Nat → Nat) (sz : Nat) : Prop :=
  ∃ (aq aC aW aK aT : Nat) (fw : Nat → Int64) (fk ft : Nat → Int32), ws[6]? = some (asr, .inr (6, [.ref aN, .ref aq, .ref aC, .ref aW, .ref aK, .ref aT, .int (nI k)])) ∧ ws[12]? = some (aW, .inl (ay 1, 1200, .inr (.inl fw))) ∧ ws[13]? = some (aK, .inl (ay 0, 200, .inl fk)) ∧ ws[14]? = some (aT, .inl (ay 0, 200, .inl ft)) ∧ cq_St ay ws aq hn pl key sz ∧
  (∀ v, v < 200 → fk v = nI (kn v) ∧ ft v = nI (st v)) ∧ ∀ v, v < n → ∀ j, j < kn v → fw (v * 6 + j) = lN (wk v j)
/-- who waits: the nodes that have more known walks than settled ones, with the next one's seconds -/
def cs_sync (n : Nat) (kn st : Nat → Nat) (wk : Nat → Nat → Nat) (pl : Nat → Int32) (key : Nat → Nat) : Prop := (∀ v, v < 200 → n ≤ v → pl v = -1) ∧ ∀ v, v < n → (pl v = -1 ↔ ¬ st v < kn v) ∧ (st v < kn v → key v = wk v (st v))
theorem in_X3_nthTo_X3 : ∀ w ∈ u_ws RX3 TX3 7, w ∈ wsX3_nthTo := by decide +kernel
theorem ml_X3_nthTo_25 : Cond.fieldLink RX3 25 "WayTimes$Search" "known" "[I" ∈ wsX3_nthTo := by decide +kernel
theorem mk_X3_nthTo_71 : Jvm.Cond.constantLong RX3 71 (-1) ∈ wsX3_nthTo := by decide +kernel
theorem ml_X3_nthTo_22 : Cond.fieldLink RX3 22 "WayTimes$Search" "walks" "[J" ∈ wsX3_nthTo := by decide +kernel
theorem in_X3_offer_X3 : ∀ w ∈ u_ws RX3 TX3 7, w ∈ wsX3_offer := by decide +kernel
theorem ml_X3_offer_22 : Cond.fieldLink RX3 22 "WayTimes$Search" "walks" "[J" ∈ wsX3_offer := by decide +kernel
theorem ml_X3_offer_25 : Cond.fieldLink RX3 25 "WayTimes$Search" "known" "[I" ∈ wsX3_offer := by decide +kernel
theorem ml_X3_offer_29 : Cond.fieldLink RX3 29 "WayTimes$Search" "settled" "[I" ∈ wsX3_offer := by decide +kernel
theorem ml_X3_offer_12 : Cond.fieldLink RX3 12 "WayTimes$Search" "queue" "LWayTimes$NodeQueue;" ∈ wsX3_offer := by decide +kernel
theorem ml_X3_offer_36 : Cond.fieldLink RX3 36 "WayTimes$Search" "wanted" "I" ∈ wsX3_offer := by decide +kernel
set_option maxHeartbeats 4000000 in
set_option maxRecDepth 100000 in
/-- nthTo(node, i) -/
theorem c_X3_nthTo (l : Launch) {D : va_G} {ay : Nat → ClassId} {base : Nat} {Gx : State → Prop} {ws : va_W} {asr aN k n : Nat} {kn st : Nat → Nat} {wk : Nat → Nat → Nat} {hn : Nat → Nat} {pl : Nat → Int32} {key : Nat → Nat} {sz : Nat} {node i : Nat} (hR : cs_R ay ws asr aN k n kn st wk hn pl key sz) (hn200 : n ≤ 200) (hk : 1 ≤ k ∧ k ≤ 6) (hnode : node < n) (hi : 1 ≤ i ∧ i ≤ 6) (hkn : kn node ≤ 6) : Met l yX3_nthTo wsX3_nthTo ({ frames := 0, cells := 0, slots := 0, locals := 0 } : Room) (va_Pc [.ref asr, .int (nI node), .int (nI i)] (vg_B D ay base Gx ws)) (va_Ql (fun r u => u = ws ∧ (i ≤ kn node → r = lN (wk node (i - 1))) ∧ (¬ i ≤ kn node → r = -1)) (vg_B D ay base Gx) (vg_A base)) 0 0 (vg_A base) := by
  refine vg_met (cc := cX3_nthTo) (maxL := 3) (ret := (some .long)) (own := RX3) (lv := [(0, .ref asr), (1, .int (nI node)), (2, .int (nI i))]) (by decide) rfl rfl (Nat.le_of_ble_eq_true rfl) rfl ?_
  intro p e s m args below meth c X hinit
  obtain ⟨aq, aC, aW, aK, aT, fw, fk, ft, h6, h12, h13, h14, hQ, hkt, hwk⟩ := id hR
  refine vg_aload_n X dX3_nthTo_0 0 rfl rfl ?_
  refine vg_get X in_X3_nthTo_X3 6 h6 rfl 4 (by decide) ml_X3_nthTo_25 rfl rfl dX3_nthTo_1 ?_
  refine vg_iload_n X dX3_nthTo_4 1 rfl rfl ?_
  refine vg_iald X (nI (kn node)) 13 h13 rfl (by omega) (by decide) (hkt node (by omega)).1 dX3_nthTo_5 ?_
  refine vg_iload_n X dX3_nthTo_6 2 rfl rfl ?_
  refine vg_icmp_lt X 26 dX3_nthTo_7 (by decide) (fun c7 => ?_) (fun c7 => ?_)
  · have c7 : kn node < i := (nI_ltI (by omega) (by omega)).mp c7
    refine vg_ldc2 X (-1) dX3_nthTo_26 mk_X3_nthTo_71 ?_
    exact vg_lret X rfl ⟨rfl, fun h => absurd h (by omega), fun _ => rfl⟩ (Nat.le_refl _) (Nat.le_refl _) dX3_nthTo_29
  · have c7 : ¬ kn node < i := fun z => c7 ((nI_ltI (by omega) (by omega)).mpr z)
    refine vg_aload_n X dX3_nthTo_10 0 rfl rfl ?_
    refine vg_get X in_X3_nthTo_X3 6 h6 rfl 3 (by decide) ml_X3_nthTo_22 rfl rfl dX3_nthTo_11 ?_
    refine vg_iload_n X dX3_nthTo_14 1 rfl rfl ?_
    refine vg_bipush X (nI 6) dX3_nthTo_15 (by decide) ?_
    refine vg_imul X (nI (node * 6)) dX3_nthTo_17 (pk_mul _ _) ?_
    refine vg_iload_n X dX3_nthTo_18 2 rfl rfl ?_
    refine vg_iadd X (nI (node * 6 + i)) dX3_nthTo_19 (nI_add _ _) ?_
    refine vg_iconst X (nI 1) dX3_nthTo_20 (by decide) ?_
    refine vg_isub X (nI (node * 6 + (i - 1))) dX3_nthTo_21 (by rw [pk_sub (by omega), show node * 6 + i - 1 = node * 6 + (i - 1) by omega]) ?_
    refine vg_lald X (lN (wk node (i - 1))) 12 h12 rfl (by omega) (by decide) (hwk node hnode (i - 1) (by omega)) dX3_nthTo_22 ?_
    refine vg_goto X 29 dX3_nthTo_23 (by decide) ?_
    exact vg_lret X rfl ⟨rfl, fun _ => rfl, fun h => absurd h (by omega)⟩ (Nat.le_refl _) (Nat.le_refl _) dX3_nthTo_29
set_option maxHeartbeats 4000000 in
set_option maxRecDepth 100000 in
/-- leastTo(node) -/
theorem c_X3_leastTo (l : Launch) {D : va_G} {ay : Nat → ClassId} {base : Nat} {Gx : State → Prop} {ws : va_W} {asr aN k n : Nat} {kn st : Nat → Nat} {wk : Nat → Nat → Nat} {hn : Nat → Nat} {pl : Nat → Int32} {key : Nat → Nat} {sz : Nat} {node : Nat} (hR : cs_R ay ws asr aN k n kn st wk hn pl key sz) (hn200 : n ≤ 200) (hk : 1 ≤ k ∧ k ≤ 6) (hnode : node < n) (hkn : kn node ≤ 6) : Met l yX3_leastTo wsX3_leastTo ({ frames := 1, cells := 0, slots := 0, locals := 22 } : Room) (va_Pc [.ref asr, .int (nI node)] (vg_B D ay base Gx ws)) (va_Ql (fun r u => u = ws ∧ (1 ≤ kn node → r = lN (wk node 0)) ∧ (¬ 1 ≤ kn node → r = -1)) (vg_B D ay base Gx) (vg_A base)) 0 0 (vg_A base) := by
  refine vg_met (cc := cX3_leastTo) (maxL := 2) (ret := (some .long)) (own := RX3) (lv := [(0, .ref asr), (1, .int (nI node))]) (by decide) rfl rfl (Nat.le_of_ble_eq_true rfl) rfl ?_
  intro p e s m args below meth c X hinit
  obtain ⟨aq, aC, aW, aK, aT, fw, fk, ft, h6, h12, h13, h14, hQ, hkt, hwk⟩ := id hR
  refine vg_aload_n X dX3_leastTo_0 0 rfl rfl ?_
  refine vg_iload_n X dX3_leastTo_1 1 rfl rfl ?_
  refine vg_iconst X (nI 1) dX3_leastTo_2 (by decide) ?_
  refine vg_calll (vg_runV X (c_X3_nthTo l hR hn200 hk hnode (i := 1) (by omega) hkn) (cwV 2 X.2.2.2.2.1 gX3_leastTo_X3_nthTo rfl rfl rfl (by decide +kernel) ⟨Nat.le_of_ble_eq_true rfl, Nat.le_of_ble_eq_true rfl⟩) 6 h6 rfl rfl rfl (Nat.le_of_ble_eq_true rfl) dX3_leastTo_3 ⟨Nat.zero_le _, Nat.zero_le _⟩) (fun rr wz1 PP2 => ?_)
  exact vg_lret X rfl PP2 (Nat.le_refl _) (Nat.le_refl _) dX3_leastTo_6
set_option maxHeartbeats 4000000 in
set_option maxRecDepth 100000 in
/-- offer(node, sv): one more walk is known, or none -/
theorem c_X3_offer (l : Launch) {D : va_G} {ay : Nat → ClassId} {base : Nat} {Gx : State → Prop} {ws : va_W} {asr aN k n : Nat} {kn st : Nat → Nat} {wk : Nat → Nat → Nat} {hn : Nat → Nat} {pl : Nat → Int32} {key : Nat → Nat} {sz : Nat} {Of : Nat → Nat → Nat} {L U node sv : Nat} (hR : cs_R ay ws asr aN k n kn st wk hn pl key sz) (hn200 : n ≤ 200) (hk : 1 ≤ k ∧ k ≤ 6) (hJ : dj_inv n k kn st wk Of L U) (hY : cs_sync n kn st wk pl key) (hnode : node < n) (hL : L ≤ sv) (hU : sv ≤ U) (hU2 : U < 2 ^ 62) : Met l yX3_offer wsX3_offer ({ frames := 1, cells := 0, slots := 0, locals := 25 } : Room) (va_Pc [.ref asr, .int (nI node), .long (lN sv)] (vg_B D ay base Gx ws)) (va_Qv (fun u => ∃ (kn2 : Nat → Nat) (wk2 : Nat → Nat → Nat) (hn2 : Nat → Nat) (pl2 : Nat → Int32) (key2 : Nat → Nat) (sz2 : Nat), cs_R ay u asr aN k n kn2 st wk2 hn2 pl2 key2 sz2 ∧ dj_inv n k kn2 st wk2 (dj_of Of node sv) L U ∧ cs_sync n kn2 st wk2 pl2 key2 ∧ (∀ v, v < n → ∀ j, j < st v → wk2 v j = wk v j) ∧ vg_fr ws u [7, 8, 9, 10, 12, 13]) (vg_B D ay base Gx) (vg_A base)) 0 0 (vg_A base) := by
  refine vg_met (cc := cX3_offer) (maxL := 6) (ret := none) (own := RX3) (lv := [(0, .ref asr), (1, .int (nI node)), (2, .long (lN sv))]) (by decide) rfl rfl (Nat.le_of_ble_eq_true rfl) rfl ?_
  intro p e s m args below meth c X hinit
  obtain ⟨aq, aC, aW, aK, aT, fw, fk, ft, h6, h12, h13, h14, hQ, hkt, hwk⟩ := id hR
  obtain ⟨j1, j2, j3, j4, j5⟩ := id hJ
  have jn := j1 node hnode
  have fin : ∀ (mm : Nat) (fk1 : Nat → Int32) (i : Nat) (fw1 : Nat → Int64) (ws1 : va_W), ws1[6]? = some (asr, .inr (6, [.ref aN, .ref aq, .ref aC, .ref aW, .ref aK, .ref aT, .int (nI k)])) → ws1[12]? = some (aW, .inl (ay 1, 1200, .inr (.inl fw1))) → ws1[13]? = some (aK, .inl (ay 0, 200, .inl fk1)) → ws1[14]? = some (aT, .inl (ay 0, 200, .inl ft)) → vg_fr ws ws1 [7, 8, 9, 10, 12, 13] → cq_St ay ws1 aq hn pl key sz → fk1 node = nI mm → (∀ v, v < 200 → v ≠ node → fk1 v = nI (kn v)) → ((kn node < k ∧ mm = kn node) ∨ (kn node = k ∧ mm + 1 = k ∧ sv < wk node mm)) → st node ≤ i → i ≤ mm → (∀ v, v < n → v ≠ node → ∀ j, j < kn v → fw1 (v * 6 + j) = lN (wk v j)) → (∀ j, j < i → fw1 (node * 6 + j) = lN (wk node j)) → (∀ j, i < j → j ≤ mm → fw1 (node * 6 + j) = lN (wk node (j - 1))) → (∀ j, i ≤ j → j < mm → sv < wk node j) → (i = st node ∨ (0 < i ∧ wk node (i - 1) ≤ sv)) → vg_V D base p l e ({ frames := 1, cells := 0, slots := 0, locals := 25 } : Room) s m args below meth c 6 0 0 (MQ below (va_Qv (fun u => ∃ (kn2 : Nat → Nat) (wk2 : Nat → Nat → Nat) (hn2 : Nat → Nat) (pl2 : Nat → Int32) (key2 : Nat → Nat) (sz2 : Nat), cs_R ay u asr aN k n kn2 st wk2 hn2 pl2 key2 sz2 ∧ dj_inv n k kn2 st wk2 (dj_of Of node sv) L U ∧ cs_sync n kn2 st wk2 pl2 key2 ∧ (∀ v, v < n → ∀ j, j < st v → wk2 v j = wk v j) ∧ vg_fr ws u [7, 8, 9, 10, 12, 13]) (vg_B D ay base Gx) (vg_A base)) args s 0 0 (vg_A base)) [(0, .ref asr), (1, .int (nI node)), (2, .long (lN sv)), (4, .int (nI (node * 6))), (5, .int (nI i))] [] ws1 115 := by
    intro mm fk1 i fw1 ws1 h6 h12 h13 h14 hfr hQ1 hf1 hf2 hm hi0 hi1 w1 w2 w3 w4 hlo
    have hmk : mm + 1 ≤ k := by omega
    have hmk2 : mm ≤ kn node := by omega
    obtain ⟨kn2, ekn⟩ : ∃ z : Nat → Nat, z = (fun v => if v = node then mm + 1 else kn v) := ⟨_, rfl⟩
    obtain ⟨wk2, ewk⟩ : ∃ z : Nat → Nat → Nat, z = (fun v j => if v = node then (if j < i then wk node j else if j = i then sv else wk node (j - 1)) else wk v j) := ⟨_, rfl⟩
    have a1 : ∀ v, v ≠ node → kn2 v = kn v := fun v hv => by rw [ekn]; exact if_neg hv
    have a2 : kn2 node = mm + 1 := by rw [ekn]; exact if_pos rfl
    have a3 : ∀ v j, v ≠ node → wk2 v j = wk v j := fun v j hv => by rw [ewk]; exact if_neg hv
    have a4 : ∀ j, j < i → wk2 node j = wk node j := fun j hj => by rw [ewk]; show (if node = node then _ else _) = _; rw [if_pos rfl, if_pos hj]
    have a5 : wk2 node i = sv := by rw [ewk]; show (if node = node then _ else _) = _; rw [if_pos rfl, if_neg (Nat.lt_irrefl i), if_pos rfl]
    have a6 : ∀ j, i < j → wk2 node j = wk node (j - 1) := fun j hj => by rw [ewk]; show (if node = node then _ else _) = _; rw [if_pos rfl, if_neg (by omega), if_neg (by omega)]
    have hJ2 : dj_inv n k kn2 st wk2 (dj_of Of node sv) L U := dj_ins hJ hnode hL hU hm hi0 hi1 hlo w4 (fun v hv => by rw [ekn]) (fun v hv hne j hj => a3 v j hne) a4 a5 (fun j h1 h2 => a6 j h1)
    have hpre : ∀ v, v < n → ∀ j, j < st v → wk2 v j = wk v j := fun v hv j hj => by
      by_cases c9 : v = node
      · subst c9; exact a4 j (by omega)
      · exact a3 v j c9
    refine vg_aload_n X dX3_offer_115 0 rfl rfl ?_
    refine vg_get X in_X3_offer_X3 6 h6 rfl 3 (by decide) ml_X3_offer_22 rfl rfl dX3_offer_116 ?_
    refine vg_iload X dX3_offer_119 3 rfl ?_
    refine vg_iload X dX3_offer_121 4 rfl ?_
    refine vg_iadd X (nI (node * 6 + i)) dX3_offer_123 (nI_add _ _) ?_
    refine vg_lload_n X dX3_offer_124 2 rfl rfl ?_
    refine vg_last X 12 h12 rfl (by omega) (by decide) dX3_offer_125 (fun wz1 ez2 => ?_)
    have fh3 : wz1[12]? = some (aW, .inl (ay 1, 1200, .inr (.inl (vp_updL fw1 (node * 6 + i) (lN sv))))) := vg_se ez2 h12
    refine vg_aload_n X dX3_offer_126 0 rfl rfl ?_
    have fh4 : wz1[6]? = some (asr, .inr (6, [.ref aN, .ref aq, .ref aC, .ref aW, .ref aK, .ref aT, .int (nI k)])) := (vg_sn ez2 (by decide)).trans (h6)
    refine vg_get X in_X3_offer_X3 6 fh4 rfl 4 (by decide) ml_X3_offer_25 rfl rfl dX3_offer_127 ?_
    refine vg_iload_n X dX3_offer_130 1 rfl rfl ?_
    refine vg_dup2 X dX3_offer_131 rfl rfl ?_
    have fh5 : wz1[13]? = some (aK, .inl (ay 0, 200, .inl fk1)) := (vg_sn ez2 (by decide)).trans (h13)
    refine vg_iald X (nI mm) 13 fh5 rfl (by omega) (by decide) hf1 dX3_offer_132 ?_
    refine vg_iconst X (nI 1) dX3_offer_133 (by decide) ?_
    refine vg_iadd X (nI (mm + 1)) dX3_offer_134 (nI_add _ _) ?_
    refine vg_iast X 13 fh5 rfl (by omega) (by decide) dX3_offer_135 (fun wz6 ez7 => ?_)
    have fh8 : wz6[13]? = some (aK, .inl (ay 0, 200, .inl (upd fk1 node (nI (mm + 1))))) := vg_se ez7 fh5
    refine vg_iload X dX3_offer_136 4 rfl ?_
    refine vg_aload_n X dX3_offer_138 0 rfl rfl ?_
    have fh9 : wz6[6]? = some (asr, .inr (6, [.ref aN, .ref aq, .ref aC, .ref aW, .ref aK, .ref aT, .int (nI k)])) := (vg_sn ez7 (by decide)).trans (fh4)
    refine vg_get X in_X3_offer_X3 6 fh9 rfl 5 (by decide) ml_X3_offer_29 rfl rfl dX3_offer_139 ?_
    refine vg_iload_n X dX3_offer_142 1 rfl rfl ?_
    have fh10 : wz6[14]? = some (aT, .inl (ay 0, 200, .inl ft)) := (vg_sn ez7 (by decide)).trans ((vg_sn ez2 (by decide)).trans (h14))
    refine vg_iald X (nI (st node)) 14 fh10 rfl (by omega) (by decide) (hkt node (by omega)).2 dX3_offer_143 ?_
    refine vg_icmp_ne X 156 dX3_offer_144 (by decide) (fun c144 => ?_) (fun c144 => ?_)
    · have c144 : ¬ i = st node := fun z => c144 ((nI_eq (by omega) (by omega)).mpr z)
      have b1 : ∀ v, v < 200 → upd fk1 node (nI (mm + 1)) v = nI (kn2 v) ∧ ft v = nI (st v) := fun v hv => by
        by_cases c9 : v = node
        · subst c9; rw [pk_us, a2]; exact ⟨rfl, (hkt v hv).2⟩
        · rw [pk_un c9, hf2 v hv c9, a1 v c9]; exact ⟨rfl, (hkt v hv).2⟩
      have b2 : ∀ v, v < n → ∀ j, j < kn2 v → vp_updL fw1 (node * 6 + i) (lN sv) (v * 6 + j) = lN (wk2 v j) := fun v hv j hj => by
        by_cases c9 : v = node
        · subst c9; rw [a2] at hj
          by_cases c8 : j = i
          · subst c8; rw [pk_uLs, a5]
          · rw [pk_uLn (by omega)]
            by_cases c7 : j < i
            · rw [w2 j c7, a4 j c7]
            · rw [w3 j (by omega) (by omega), a6 j (by omega)]
        · rw [a1 v c9] at hj
          have c6 := j1 v hv
          rw [pk_uLn (by omega), w1 v hv c9 j hj, a3 v j c9]
      have fh11 : wz6[12]? = some (aW, .inl (ay 1, 1200, .inr (.inl (vp_updL fw1 (node * 6 + i) (lN sv))))) := (vg_sn ez7 (by decide)).trans (fh3)
      refine vg_vret X rfl ⟨kn2, wk2, hn, pl, key, sz, ⟨aq, aC, aW, aK, aT, _, _, ft, fh9, fh11, fh8, fh10, cq_St_fr hQ1 (((vg_sn (j := 7) ez7 (by decide))).trans ((vg_sn (j := 7) ez2 (by decide)))) (((vg_sn (j := 8) ez7 (by decide))).trans ((vg_sn (j := 8) ez2 (by decide)))) (((vg_sn (j := 9) ez7 (by decide))).trans ((vg_sn (j := 9) ez2 (by decide)))) (((vg_sn (j := 10) ez7 (by decide))).trans ((vg_sn (j := 10) ez2 (by decide)))), b1, b2⟩, hJ2, ⟨hY.1, fun v hv => ?_⟩, hpre, (vg_fr_set (vg_fr_set hfr ez2 (by decide)) ez7 (by decide))⟩ (Nat.le_refl _) (Nat.le_refl _) dX3_offer_156
      have c5 := hY.2 v hv
      by_cases c9 : v = node
      · subst c9; rw [a2, a4 (st v) (by omega), c5.1]
        exact ⟨by omega, fun _ => c5.2 (by omega)⟩
      · rw [a1 v c9, a3 v _ c9]; exact c5
    · have c144 : i = st node := (nI_eq (by omega) (by omega)).mp c144
      refine vg_aload_n X dX3_offer_147 0 rfl rfl ?_
      refine vg_get X in_X3_offer_X3 6 fh9 rfl 1 (by decide) ml_X3_offer_12 rfl rfl dX3_offer_148 ?_
      refine vg_iload_n X dX3_offer_151 1 rfl rfl ?_
      refine vg_lload_n X dX3_offer_152 2 rfl rfl ?_
      have b1 : ∀ v, v < 200 → upd fk1 node (nI (mm + 1)) v = nI (kn2 v) ∧ ft v = nI (st v) := fun v hv => by
        by_cases c9 : v = node
        · subst c9; rw [pk_us, a2]; exact ⟨rfl, (hkt v hv).2⟩
        · rw [pk_un c9, hf2 v hv c9, a1 v c9]; exact ⟨rfl, (hkt v hv).2⟩
      have b2 : ∀ v, v < n → ∀ j, j < kn2 v → vp_updL fw1 (node * 6 + i) (lN sv) (v * 6 + j) = lN (wk2 v j) := fun v hv j hj => by
        by_cases c9 : v = node
        · subst c9; rw [a2] at hj
          by_cases c8 : j = i
          · subst c8; rw [pk_uLs, a5]
          · rw [pk_uLn (by omega)]
            by_cases c7 : j < i
            · rw [w2 j c7, a4 j c7]
            · rw [w3 j (by omega) (by omega), a6 j (by omega)]
        · rw [a1 v c9] at hj
          have c6 := j1 v hv
          rw [pk_uLn (by omega), w1 v hv c9 j hj, a3 v j c9]
      have fh12 : wz6[12]? = some (aW, .inl (ay 1, 1200, .inr (.inl (vp_updL fw1 (node * 6 + i) (lN sv))))) := (vg_sn ez7 (by decide)).trans (fh3)
      have hQ2 := cq_St_fr hQ1 (((vg_sn (j := 7) ez7 (by decide))).trans ((vg_sn (j := 7) ez2 (by decide)))) (((vg_sn (j := 8) ez7 (by decide))).trans ((vg_sn (j := 8) ez2 (by decide)))) (((vg_sn (j := 9) ez7 (by decide))).trans ((vg_sn (j := 9) ez2 (by decide)))) (((vg_sn (j := 10) ez7 (by decide))).trans ((vg_sn (j := 10) ez2 (by decide))))
      have c5 := hY.2 node hnode
      have hlow : pl node = -1 ∨ sv ≤ key node := by
        by_cases c4 : st node < kn node
        · right; rw [c5.2 c4]
          by_cases c3 : st node < mm
          · have := w4 (st node) (by omega) c3; omega
          · have c2 : st node = mm := by omega
            rw [c2]; omega
        · left; exact c5.1.mpr c4
      obtain ⟨ah, ap, asx, hp, qs, g7, g8⟩ := id hQ2
      refine vg_callv (vg_runV X (c_X1_put l hQ2 (node := node) (sv := sv) (by omega) (by omega) hlow) (cwV 2 X.2.2.2.2.1 gX3_offer_X1_put rfl rfl rfl (by decide +kernel) ⟨Nat.le_of_ble_eq_true rfl, Nat.le_of_ble_eq_true rfl⟩) 7 g7 rfl rfl rfl (Nat.le_of_ble_eq_true rfl) dX3_offer_153 ⟨Nat.zero_le _, Nat.zero_le _⟩) (fun wz13 PP14 => ?_)
      obtain ⟨hn2, pl2, sz2, p1, p2, p3⟩ := PP14
      refine vg_vret X rfl ⟨kn2, wk2, hn2, pl2, _, sz2, ⟨aq, aC, aW, aK, aT, _, _, ft, ((p3.2 _ (by decide)).trans fh9), ((p3.2 _ (by decide)).trans fh12), ((p3.2 _ (by decide)).trans fh8), ((p3.2 _ (by decide)).trans fh10), p1, b1, b2⟩, hJ2, ⟨fun v hv hv2 => ?_, fun v hv => ?_⟩, hpre, vg_fr_trd (vg_fr_set (vg_fr_set hfr ez2 (by decide)) ez7 (by decide)) p3 (by decide)⟩ (Nat.le_refl _) (Nat.le_refl _) dX3_offer_156
      · exact (p2 v hv).mpr ⟨hY.1 v hv hv2, by omega⟩
      · rw [p2 v (by omega)]
        have c3 := hY.2 v hv
        by_cases c9 : v = node
        · subst c9; rw [a2, va_up_self, show st v = i by omega, a5]; exact ⟨⟨fun z => absurd rfl z.2, fun z => absurd (show i < mm + 1 by omega) z⟩, fun _ => rfl⟩
        · rw [a1 v c9, a3 v _ c9, va_up_ne _ _ c9, c3.1]; exact ⟨⟨fun z => z.1, fun z => ⟨z, c9⟩⟩, c3.2⟩
  have loop : ∀ (mm : Nat) (fk1 : Nat → Int32) (i : Nat) (fw1 : Nat → Int64) (ws1 : va_W), ws1[6]? = some (asr, .inr (6, [.ref aN, .ref aq, .ref aC, .ref aW, .ref aK, .ref aT, .int (nI k)])) → ws1[12]? = some (aW, .inl (ay 1, 1200, .inr (.inl fw1))) → ws1[13]? = some (aK, .inl (ay 0, 200, .inl fk1)) → ws1[14]? = some (aT, .inl (ay 0, 200, .inl ft)) → vg_fr ws ws1 [7, 8, 9, 10, 12, 13] → cq_St ay ws1 aq hn pl key sz → fk1 node = nI mm → (∀ v, v < 200 → v ≠ node → fk1 v = nI (kn v)) → ((kn node < k ∧ mm = kn node) ∨ (kn node = k ∧ mm + 1 = k ∧ sv < wk node mm)) → st node ≤ i → i ≤ mm → (∀ v, v < n → v ≠ node → ∀ j, j < kn v → fw1 (v * 6 + j) = lN (wk v j)) → (∀ j, j < i → fw1 (node * 6 + j) = lN (wk node j)) → (∀ j, i < j → j ≤ mm → fw1 (node * 6 + j) = lN (wk node (j - 1))) → (∀ j, i ≤ j → j < mm → sv < wk node j) → vg_V D base p l e ({ frames := 1, cells := 0, slots := 0, locals := 25 } : Room) s m args below meth c 6 0 0 (MQ below (va_Qv (fun u => ∃ (kn2 : Nat → Nat) (wk2 : Nat → Nat → Nat) (hn2 : Nat → Nat) (pl2 : Nat → Int32) (key2 : Nat → Nat) (sz2 : Nat), cs_R ay u asr aN k n kn2 st wk2 hn2 pl2 key2 sz2 ∧ dj_inv n k kn2 st wk2 (dj_of Of node sv) L U ∧ cs_sync n kn2 st wk2 pl2 key2 ∧ (∀ v, v < n → ∀ j, j < st v → wk2 v j = wk v j) ∧ vg_fr ws u [7, 8, 9, 10, 12, 13]) (vg_B D ay base Gx) (vg_A base)) args s 0 0 (vg_A base)) [(0, .ref asr), (1, .int (nI node)), (2, .long (lN sv)), (4, .int (nI (node * 6))), (5, .int (nI i))] [] ws1 59 := by
    intro mm fk1 i
    induction i with
    | zero =>
      intro fw1 ws1 h6 h12 h13 h14 hfr hQ1 hf1 hf2 hm hi0 hi1 w1 w2 w3 w4
      refine vg_iload X dX3_offer_59 4 rfl ?_
      refine vg_aload_n X dX3_offer_61 0 rfl rfl ?_
      refine vg_get X in_X3_offer_X3 6 h6 rfl 5 (by decide) ml_X3_offer_29 rfl rfl dX3_offer_62 ?_
      refine vg_iload_n X dX3_offer_65 1 rfl rfl ?_
      refine vg_iald X (nI (st node)) 14 h14 rfl (by omega) (by decide) (hkt node (by omega)).2 dX3_offer_66 ?_
      refine vg_icmp_le X 115 dX3_offer_67 (by decide) (fun c67 => ?_) (fun c67 => ?_)
      · have c67 : 0 ≤ st node := (nI_leI (by omega) (by omega)).mp c67
        exact fin mm fk1 (0) fw1 ws1 h6 h12 h13 h14 hfr hQ1 hf1 hf2 hm hi0 hi1 w1 w2 w3 w4 (Or.inl (by omega))
      · have c67 : ¬ 0 ≤ st node := fun z => c67 ((nI_leI (by omega) (by omega)).mpr z)
        exact absurd hi0 (by omega)
    | succ i ih =>
      intro fw1 ws1 h6 h12 h13 h14 hfr hQ1 hf1 hf2 hm hi0 hi1 w1 w2 w3 w4
      refine vg_iload X dX3_offer_59 4 rfl ?_
      refine vg_aload_n X dX3_offer_61 0 rfl rfl ?_
      refine vg_get X in_X3_offer_X3 6 h6 rfl 5 (by decide) ml_X3_offer_29 rfl rfl dX3_offer_62 ?_
      refine vg_iload_n X dX3_offer_65 1 rfl rfl ?_
      refine vg_iald X (nI (st node)) 14 h14 rfl (by omega) (by decide) (hkt node (by omega)).2 dX3_offer_66 ?_
      refine vg_icmp_le X 115 dX3_offer_67 (by decide) (fun c67 => ?_) (fun c67 => ?_)
      · have c67 : i + 1 ≤ st node := (nI_leI (by omega) (by omega)).mp c67
        exact fin mm fk1 (i + 1) fw1 ws1 h6 h12 h13 h14 hfr hQ1 hf1 hf2 hm hi0 hi1 w1 w2 w3 w4 (Or.inl (by omega))
      · have c67 : ¬ i + 1 ≤ st node := fun z => c67 ((nI_leI (by omega) (by omega)).mpr z)
        have c6 : wk node i < 2 ^ 62 := by
          have := j5 node hnode i (by omega)
          omega
        refine vg_aload_n X dX3_offer_70 0 rfl rfl ?_
        refine vg_get X in_X3_offer_X3 6 h6 rfl 3 (by decide) ml_X3_offer_22 rfl rfl dX3_offer_71 ?_
        refine vg_iload X dX3_offer_74 3 rfl ?_
        refine vg_iload X dX3_offer_76 4 rfl ?_
        refine vg_iadd X (nI (node * 6 + (i + 1))) dX3_offer_78 (nI_add _ _) ?_
        refine vg_iconst X (nI 1) dX3_offer_79 (by decide) ?_
        refine vg_isub X (nI (node * 6 + i)) dX3_offer_80 (by rw [pk_sub (by omega), show node * 6 + (i + 1) - 1 = node * 6 + i by omega]) ?_
        refine vg_lald X (lN (wk node i)) 12 h12 rfl (by omega) (by decide) (w2 i (by omega)) dX3_offer_81 ?_
        refine vg_lload_n X dX3_offer_82 2 rfl rfl ?_
        refine vg_lcmp_le X 115 dX3_offer_83 dX3_offer_84 (by decide) (fun c83 => ?_) (fun c83 => ?_)
        · have c83 : wk node i ≤ sv := (pk_lLE (by omega) (by omega)).mp c83
          exact fin mm fk1 (i + 1) fw1 ws1 h6 h12 h13 h14 hfr hQ1 hf1 hf2 hm hi0 hi1 w1 w2 w3 w4 (Or.inr ⟨by omega, by rw [Nat.add_sub_cancel]; exact c83⟩)
        · have c83 : ¬ wk node i ≤ sv := fun z => c83 ((pk_lLE (by omega) (by omega)).mpr z)
          refine vg_aload_n X dX3_offer_87 0 rfl rfl ?_
          refine vg_get X in_X3_offer_X3 6 h6 rfl 3 (by decide) ml_X3_offer_22 rfl rfl dX3_offer_88 ?_
          refine vg_iload X dX3_offer_91 3 rfl ?_
          refine vg_iload X dX3_offer_93 4 rfl ?_
          refine vg_iadd X (nI (node * 6 + (i + 1))) dX3_offer_95 (nI_add _ _) ?_
          refine vg_aload_n X dX3_offer_96 0 rfl rfl ?_
          refine vg_get X in_X3_offer_X3 6 h6 rfl 3 (by decide) ml_X3_offer_22 rfl rfl dX3_offer_97 ?_
          refine vg_iload X dX3_offer_100 3 rfl ?_
          refine vg_iload X dX3_offer_102 4 rfl ?_
          refine vg_iadd X (nI (node * 6 + (i + 1))) dX3_offer_104 (nI_add _ _) ?_
          refine vg_iconst X (nI 1) dX3_offer_105 (by decide) ?_
          refine vg_isub X (nI (node * 6 + i)) dX3_offer_106 (by rw [pk_sub (by omega), show node * 6 + (i + 1) - 1 = node * 6 + i by omega]) ?_
          refine vg_lald X (lN (wk node i)) 12 h12 rfl (by omega) (by decide) (w2 i (by omega)) dX3_offer_107 ?_
          refine vg_last X 12 h12 rfl (by omega) (by decide) dX3_offer_108 (fun wz15 ez16 => ?_)
          have fh17 : wz15[12]? = some (aW, .inl (ay 1, 1200, .inr (.inl (vp_updL fw1 (node * 6 + (i + 1)) (lN (wk node i)))))) := vg_se ez16 h12
          refine vg_iinc X (v := nI i) [(5, .int (nI i)), (0, .ref asr), (1, .int (nI node)), (2, .long (lN sv)), (4, .int (nI (node * 6)))] dX3_offer_109 4 rfl (by rw [show Int32.ofInt (-1) = -1 by decide]; exact pk_m1 i) (by decide) rfl ?_
          refine vg_goto X 59 dX3_offer_112 (by decide) ?_
          refine vg_locals [1, 2, 3, 4, 0] rfl ?_
          have fh18 : wz15[6]? = some (asr, .inr (6, [.ref aN, .ref aq, .ref aC, .ref aW, .ref aK, .ref aT, .int (nI k)])) := (vg_sn ez16 (by decide)).trans (h6)
          have fh19 : wz15[13]? = some (aK, .inl (ay 0, 200, .inl fk1)) := (vg_sn ez16 (by decide)).trans (h13)
          have fh20 : wz15[14]? = some (aT, .inl (ay 0, 200, .inl ft)) := (vg_sn ez16 (by decide)).trans (h14)
          refine ih _ _ fh18 fh17 fh19 fh20 (vg_fr_set hfr ez16 (by decide)) (cq_St_fr hQ1 ((vg_sn (j := 7) ez16 (by decide))) ((vg_sn (j := 8) ez16 (by decide))) ((vg_sn (j := 9) ez16 (by decide))) ((vg_sn (j := 10) ez16 (by decide)))) hf1 hf2 hm (by omega) (by omega) (fun v hv hne j hj => ?_) (fun j hj => ?_) (fun j h1 h2 => ?_) (fun j h1 h2 => ?_)
          · have c6 := j1 v hv
            rw [pk_uLn (by omega)]; exact w1 v hv hne j hj
          · rw [pk_uLn (by omega)]; exact w2 j (by omega)
          · by_cases c8 : j = i + 1
            · subst c8; rw [pk_uLs, Nat.add_sub_cancel]
            · rw [pk_uLn (by omega)]; exact w3 j (by omega) h2
          · by_cases c8 : j = i
            · subst c8; omega
            · exact w4 j (by omega) h2
  have mid : ∀ (mm : Nat) (fk1 : Nat → Int32) (ws1 : va_W), ws1[6]? = some (asr, .inr (6, [.ref aN, .ref aq, .ref aC, .ref aW, .ref aK, .ref aT, .int (nI k)])) → ws1[12]? = some (aW, .inl (ay 1, 1200, .inr (.inl fw))) → ws1[13]? = some (aK, .inl (ay 0, 200, .inl fk1)) → ws1[14]? = some (aT, .inl (ay 0, 200, .inl ft)) → vg_fr ws ws1 [7, 8, 9, 10, 12, 13] → cq_St ay ws1 aq hn pl key sz → fk1 node = nI mm → (∀ v, v < 200 → v ≠ node → fk1 v = nI (kn v)) → ((kn node < k ∧ mm = kn node) ∨ (kn node = k ∧ mm + 1 = k ∧ sv < wk node mm)) → vg_V D base p l e ({ frames := 1, cells := 0, slots := 0, locals := 25 } : Room) s m args below meth c 6 0 0 (MQ below (va_Qv (fun u => ∃ (kn2 : Nat → Nat) (wk2 : Nat → Nat → Nat) (hn2 : Nat → Nat) (pl2 : Nat → Int32) (key2 : Nat → Nat) (sz2 : Nat), cs_R ay u asr aN k n kn2 st wk2 hn2 pl2 key2 sz2 ∧ dj_inv n k kn2 st wk2 (dj_of Of node sv) L U ∧ cs_sync n kn2 st wk2 pl2 key2 ∧ (∀ v, v < n → ∀ j, j < st v → wk2 v j = wk v j) ∧ vg_fr ws u [7, 8, 9, 10, 12, 13]) (vg_B D ay base Gx) (vg_A base)) args s 0 0 (vg_A base)) [(4, .int (nI (node * 6))), (0, .ref asr), (1, .int (nI node)), (2, .long (lN sv))] [] ws1 51 := by
    intro mm fk1 ws1 h6 h12 h13 h14 hfr hQ1 hf1 hf2 hm
    have hst : st node ≤ mm := by
      rcases hm with ⟨_, c9⟩ | ⟨c9, c8, c7⟩
      · omega
      · rcases Nat.lt_or_ge mm (st node) with c6 | c6
        · have := (j3 node hnode).1 mm c6; omega
        · exact c6
    refine vg_aload_n X dX3_offer_51 1 rfl rfl ?_
    refine vg_get X in_X3_offer_X3 6 h6 rfl 4 (by decide) ml_X3_offer_25 rfl rfl dX3_offer_52 ?_
    refine vg_iload_n X dX3_offer_55 2 rfl rfl ?_
    refine vg_iald X (nI mm) 13 h13 rfl (by omega) (by decide) hf1 dX3_offer_56 ?_
    refine vg_istore X [(5, .int (nI mm)), (4, .int (nI (node * 6))), (0, .ref asr), (1, .int (nI node)), (2, .long (lN sv))] dX3_offer_57 (by decide) rfl ?_
    refine vg_locals [2, 3, 4, 1, 0] rfl ?_
    exact loop mm fk1 mm fw ws1 h6 h12 h13 h14 hfr hQ1 hf1 hf2 hm hst (Nat.le_refl _) (fun v hv _ j hj => hwk v hv j hj) (fun j hj => hwk node hnode j (by omega)) (fun j h1 h2 => absurd h1 (by omega)) (fun j h1 h2 => absurd h1 (by omega))
  refine vg_iload_n X dX3_offer_0 1 rfl rfl ?_
  refine vg_bipush X (nI 6) dX3_offer_1 (by decide) ?_
  refine vg_imul X (nI (node * 6)) dX3_offer_3 (pk_mul _ _) ?_
  refine vg_istore X [(4, .int (nI (node * 6))), (0, .ref asr), (1, .int (nI node)), (2, .long (lN sv))] dX3_offer_4 (by decide) rfl ?_
  refine vg_aload_n X dX3_offer_6 1 rfl rfl ?_
  refine vg_get X in_X3_offer_X3 6 h6 rfl 4 (by decide) ml_X3_offer_25 rfl rfl dX3_offer_7 ?_
  refine vg_iload_n X dX3_offer_10 2 rfl rfl ?_
  refine vg_iald X (nI (kn node)) 13 h13 rfl (by omega) (by decide) (hkt node (by omega)).1 dX3_offer_11 ?_
  refine vg_aload_n X dX3_offer_12 1 rfl rfl ?_
  refine vg_get X in_X3_offer_X3 6 h6 rfl 6 (by decide) ml_X3_offer_36 rfl rfl dX3_offer_13 ?_
  refine vg_icmp_lt X 51 dX3_offer_16 (by decide) (fun c16 => ?_) (fun c16 => ?_)
  · have c16 : kn node < k := (nI_ltI (by omega) (by omega)).mp c16
    exact mid (kn node) fk ws h6 h12 h13 h14 (vg_fr_rf ws _) hQ (hkt node (by omega)).1 (fun v hv _ => (hkt v hv).1) (Or.inl ⟨by omega, rfl⟩)
  · have c16 : ¬ kn node < k := fun z => c16 ((nI_ltI (by omega) (by omega)).mpr z)
    have c6 : wk node (k - 1) < 2 ^ 62 := by
      have := j5 node hnode (k - 1) (by omega)
      omega
    refine vg_lload_n X dX3_offer_19 3 rfl rfl ?_
    refine vg_aload_n X dX3_offer_20 1 rfl rfl ?_
    refine vg_get X in_X3_offer_X3 6 h6 rfl 3 (by decide) ml_X3_offer_22 rfl rfl dX3_offer_21 ?_
    refine vg_iload X dX3_offer_24 0 rfl ?_
    refine vg_aload_n X dX3_offer_26 1 rfl rfl ?_
    refine vg_get X in_X3_offer_X3 6 h6 rfl 6 (by decide) ml_X3_offer_36 rfl rfl dX3_offer_27 ?_
    refine vg_iadd X (nI (node * 6 + k)) dX3_offer_30 (nI_add _ _) ?_
    refine vg_iconst X (nI 1) dX3_offer_31 (by decide) ?_
    refine vg_isub X (nI (node * 6 + (k - 1))) dX3_offer_32 (by rw [pk_sub (by omega), show node * 6 + k - 1 = node * 6 + (k - 1) by omega]) ?_
    refine vg_lald X (lN (wk node (k - 1))) 12 h12 rfl (by omega) (by decide) (hwk node hnode (k - 1) (by omega)) dX3_offer_33 ?_
    refine vg_lcmp_lt X 39 dX3_offer_34 dX3_offer_35 (by decide) (fun c34 => ?_) (fun c34 => ?_)
    · have c34 : sv < wk node (k - 1) := (pk_lLT (by omega) (by omega)).mp c34
      refine vg_aload_n X dX3_offer_39 1 rfl rfl ?_
      refine vg_get X in_X3_offer_X3 6 h6 rfl 4 (by decide) ml_X3_offer_25 rfl rfl dX3_offer_40 ?_
      refine vg_iload_n X dX3_offer_43 2 rfl rfl ?_
      refine vg_aload_n X dX3_offer_44 1 rfl rfl ?_
      refine vg_get X in_X3_offer_X3 6 h6 rfl 6 (by decide) ml_X3_offer_36 rfl rfl dX3_offer_45 ?_
      refine vg_iconst X (nI 1) dX3_offer_48 (by decide) ?_
      refine vg_isub X (nI (k - 1)) dX3_offer_49 (pk_sub (by omega)) ?_
      refine vg_iast X 13 h13 rfl (by omega) (by decide) dX3_offer_50 (fun wz21 ez22 => ?_)
      have fh23 : wz21[13]? = some (aK, .inl (ay 0, 200, .inl (upd fk node (nI (k - 1))))) := vg_se ez22 h13
      have fh24 : wz21[6]? = some (asr, .inr (6, [.ref aN, .ref aq, .ref aC, .ref aW, .ref aK, .ref aT, .int (nI k)])) := (vg_sn ez22 (by decide)).trans (h6)
      have fh25 : wz21[12]? = some (aW, .inl (ay 1, 1200, .inr (.inl fw))) := (vg_sn ez22 (by decide)).trans (h12)
      have fh26 : wz21[14]? = some (aT, .inl (ay 0, 200, .inl ft)) := (vg_sn ez22 (by decide)).trans (h14)
      exact mid (k - 1) _ _ fh24 fh25 fh23 fh26 (vg_fr_set (vg_fr_rf ws _) ez22 (by decide)) (cq_St_fr hQ (vg_sn ez22 (by decide)) (vg_sn ez22 (by decide)) (vg_sn ez22 (by decide)) (vg_sn ez22 (by decide))) pk_us (fun v hv hne => by rw [pk_un hne]; exact (hkt v hv).1) (Or.inr ⟨by omega, by omega, by omega⟩)
    · have c34 : ¬ sv < wk node (k - 1) := fun z => c34 ((pk_lLT (by omega) (by omega)).mpr z)
      exact vg_vret X rfl ⟨kn, wk, hn, pl, key, sz, hR, dj_keep hJ hnode (by omega) (by omega) (by omega), hY, fun _ _ _ _ => rfl, vg_fr_rf ws _⟩ (Nat.le_refl _) (Nat.le_refl _) dX3_offer_38
