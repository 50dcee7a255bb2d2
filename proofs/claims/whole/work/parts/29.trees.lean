/-- the units: their list at place 3, each at its own place -/
def cu_U (ay : Nat → ClassId) (ws : va_W) (aN tE n U : Nat) (ua uq : Nat → Nat) (uv : Nat → Nat → Nat) : Prop :=
  ∃ (x0 aU x2 x3 : Nat) (x4 : Int32), ws[1]? = some (aN, .inr (3, [.ref x0, .ref aU, .ref x2, .ref x3, .int x4])) ∧ cl_L ay ws 3 aU tE U ua ∧ U ≤ 12 ∧ ∀ j, j < U → 56 ≤ uq j ∧ cu_P ws (uq j) (ua j) (uv j) ∧ cu_R (uv j) ∧ uv j 4 < n
theorem cu_U_fr {ay : Nat → ClassId} {ws u : va_W} {aN tE n U : Nat} {ua uq : Nat → Nat} {uv : Nat → Nat → Nat} (h : cu_U ay ws aN tE n U ua uq uv) (h1 : u[1]? = ws[1]?) (h3 : u[3]? = ws[3]?) (hd : ∀ j, 56 ≤ j → u[j]? = ws[j]?) : cu_U ay u aN tE n U ua uq uv := by
  obtain ⟨x0, aU, x2, x3, x4, g1, g2, g3, g4⟩ := h
  exact ⟨x0, aU, x2, x3, x4, h1.trans g1, cl_L_fr g2 h3 hd, g3, fun j hj => ⟨(g4 j hj).1, (hd _ (g4 j hj).1).trans (g4 j hj).2.1, (g4 j hj).2.2⟩⟩
/-- the trees: ku k = 0: nothing kept; else unit ku k - 1, start ks k, time kt k; sk k x: the seconds told -/
def ct_T (ay : Nat → ClassId) (ws : va_W) (aTs n : Nat) (ua ku ks kt : Nat → Nat) (sk : Nat → Nat → Nat) : Prop :=
  ∃ (ta ts : Nat → Nat) (f : Nat → Option Nat), ws[15]? = some (aTs, .inl (ay 3, 6, .inr (.inr (.inr (.inr f))))) ∧ ∀ k, k < 6 → f k = some (ta k) ∧ ∃ fs : Nat → Int64, ws[17 + 2 * k]? = some (ta k, .inr (7, [.ref (ts k), va_rf (if ku k = 0 then none else some (ua (ku k - 1))), .int (nI (ks k)), .int (nI (kt k))])) ∧ ws[17 + 2 * k + 1]? = some (ts k, .inl (ay 1, 200, .inr (.inl fs))) ∧ (ku k ≠ 0 → ∀ x, x < n → fs x = vs_rep (sk k x) ∧ sk k x ≤ ma_B)
def ct_k (n U : Nat) (ku ks kt : Nat → Nat) : Prop := ∀ k, k < 6 → ku k ≠ 0 → ku k ≤ U ∧ ks k < n ∧ kt k < 2 ^ 31
/-- the seconds of tree k as they are anew -/
noncomputable def ct_new (P : Nat) (d fr to pe uv : Nat → Nat → Nat) (ku ks kt : Nat → Nat) (k x : Nat) : Nat := ma_d (ma_T P (fun i => d i 0) (fun i => d i 1) (fun i => ps_w (d i) (fr i) (to i) (pe i) (uv (ku k - 1)) (kt k)) (ks k) x) 1
/-- how many kept trees among the first j tell others -/
noncomputable def ct_cnt (n : Nat) (ku : Nat → Nat) (sk sn : Nat → Nat → Nat) (j : Nat) : Nat := ma_sum (fun k => @ite _ (ku k ≠ 0 ∧ ∃ x, x < n ∧ sk k x ≠ sn k x) (Classical.propDecidable _) 1 0) j
theorem ct_cnt_yes {n : Nat} {ku : Nat → Nat} {sk sn : Nat → Nat → Nat} {j : Nat} (h : ku j ≠ 0 ∧ ∃ x, x < n ∧ sk j x ≠ sn j x) : ct_cnt n ku sk sn (j + 1) = ct_cnt n ku sk sn j + 1 := congrArg (fun z => ct_cnt n ku sk sn j + z) (if_pos h)
theorem ct_cnt_no {n : Nat} {ku : Nat → Nat} {sk sn : Nat → Nat → Nat} {j : Nat} (h : ¬ (ku j ≠ 0 ∧ ∃ x, x < n ∧ sk j x ≠ sn j x)) : ct_cnt n ku sk sn (j + 1) = ct_cnt n ku sk sn j := congrArg (fun z => ct_cnt n ku sk sn j + z) (if_neg h)
def ct_mix (k : Nat) (sn sk : Nat → Nat → Nat) : Nat → Nat → Nat := fun j x => if j < k then sn j x else sk j x
theorem ct_mix_lt {k j x : Nat} {sn sk : Nat → Nat → Nat} (h : j < k) : ct_mix k sn sk j x = sn j x := if_pos h
theorem ct_mix_ge {k j x : Nat} {sn sk : Nat → Nat → Nat} (h : ¬ j < k) : ct_mix k sn sk j x = sk j x := if_neg h
theorem ct_cnt_le {n : Nat} {ku : Nat → Nat} {sk sn : Nat → Nat → Nat} : ∀ j, ct_cnt n ku sk sn j ≤ j
  | 0 => Nat.le_refl _
  | j + 1 => by
    have := ct_cnt_le (n := n) (ku := ku) (sk := sk) (sn := sn) j
    by_cases h : ku j ≠ 0 ∧ ∃ x, x < n ∧ sk j x ≠ sn j x
    · rw [ct_cnt_yes h]; omega
    · rw [ct_cnt_no h]; omega
theorem in_X6_redoTrees_X6 : ∀ w ∈ u_ws RX6 TX6 5, w ∈ wsX6_redoTrees := by decide +kernel
theorem ml_X6_redoTrees_27 : Cond.fieldLink RX6 27 "WayTimes" "trees" "[LWayTimes$Tree;" ∈ wsX6_redoTrees := by decide +kernel
theorem ml_X6_redoTrees_21 : Cond.fieldLink RX6 21 "WayTimes" "search" "LWayTimes$Search;" ∈ wsX6_redoTrees := by decide +kernel
theorem in_X6_noteSteps_X6 : ∀ w ∈ u_ws RX6 TX6 5, w ∈ wsX6_noteSteps := by decide +kernel
theorem ml_X6_noteSteps_55 : Cond.fieldLink RX6 55 "WayTimes" "waySteps" "I" ∈ wsX6_noteSteps := by decide +kernel
theorem ml_X6_noteSteps_21 : Cond.fieldLink RX6 21 "WayTimes" "search" "LWayTimes$Search;" ∈ wsX6_noteSteps := by decide +kernel
theorem ml_X6_noteSteps_31 : Cond.fieldLink RX6 31 "WayTimes" "wayBack" "[I" ∈ wsX6_noteSteps := by decide +kernel
theorem ml_X6_noteSteps_10 : Cond.fieldLink RX6 10 "WayTimes" "net" "LWayTimes$Net;" ∈ wsX6_noteSteps := by decide +kernel
theorem in_X6_noteSteps_X0 : ∀ w ∈ u_ws RX0 TX0 5, w ∈ wsX6_noteSteps := by decide +kernel
theorem ml_X6_noteSteps_69 : Cond.fieldLink RX6 69 "WayTimes$Net" "pieces" "Ljava/util/ArrayList;" ∈ wsX6_noteSteps := by decide +kernel
theorem mc_X6_noteSteps_84 : Cond.classLink RX6 84 "WayTimes$Piece" ∈ wsX6_noteSteps := by decide +kernel
set_option maxHeartbeats 4000000 in
set_option maxRecDepth 100000 in
/-- redoTrees() -/
theorem c_X6_redoTrees (l : Launch) {D : va_G} {ay : Nat → ClassId} {base : Nat} {Gx : State → Prop} {ws : va_W} {ax asr aN aTs n tE P U : Nat} {y3 : Nat} {y4 : Int32} {el qp : Nat → Nat} {d fr to pe : Nat → Nat → Nat} {ua uq : Nat → Nat} {uv : Nat → Nat → Nat} {ku ks kt : Nat → Nat} {sk : Nat → Nat → Nat} (h0 : ws[0]? = some (ax, .inr (9, [.ref aN, .ref asr, .ref aTs, .ref y3, .int y4]))) (hI : cs_I ay ws asr aN) (hN : cn_N ay ws aN tE n P el qp d fr to pe) (hU : cu_U ay ws aN tE n U ua uq uv) (hT : ct_T ay ws aTs n ua ku ks kt sk) (hK : ct_k n U ku ks kt) : Met l yX6_redoTrees wsX6_redoTrees ({ frames := 6, cells := 0, slots := 0, locals := 161 } : Room) (va_Pc [.ref ax] (vg_B D ay base Gx ws)) (va_Qi (fun r u => r = nI (ct_cnt n ku sk (ct_new P d fr to pe uv ku ks kt) 6) ∧ ct_T ay u aTs n ua ku ks kt (ct_new P d fr to pe uv ku ks kt) ∧ cs_I ay u asr aN ∧ vg_fr ws u [6, 7, 8, 9, 10, 11, 12, 13, 14, 18, 20, 22, 24, 26, 28]) (vg_B D ay base Gx) (vg_A base)) 0 0 (vg_A base) := by
  refine vg_met (cc := cX6_redoTrees) (maxL := 3) (ret := (some .int)) (own := RX6) (lv := [(0, .ref ax)]) (by decide) rfl rfl (Nat.le_of_ble_eq_true rfl) rfl ?_
  intro p e s m args below meth c X hinit
  have loop : ∀ (rm9 k cnt : Nat) (ws1 : va_W), k + rm9 = 6 → cnt = ct_cnt n ku sk (ct_new P d fr to pe uv ku ks kt) k → ct_T ay ws1 aTs n ua ku ks kt (ct_mix k (ct_new P d fr to pe uv ku ks kt) sk) → cs_I ay ws1 asr aN → vg_fr ws ws1 [6, 7, 8, 9, 10, 11, 12, 13, 14, 18, 20, 22, 24, 26, 28] → vg_V D base p l e ({ frames := 6, cells := 0, slots := 0, locals := 161 } : Room) s m args below meth c 3 0 0 (MQ below (va_Qi (fun r u => r = nI (ct_cnt n ku sk (ct_new P d fr to pe uv ku ks kt) 6) ∧ ct_T ay u aTs n ua ku ks kt (ct_new P d fr to pe uv ku ks kt) ∧ cs_I ay u asr aN ∧ vg_fr ws u [6, 7, 8, 9, 10, 11, 12, 13, 14, 18, 20, 22, 24, 26, 28]) (vg_B D ay base Gx) (vg_A base)) args s 0 0 (vg_A base)) [(0, .ref ax), (1, .int (nI cnt)), (2, .int (nI k))] [] ws1 4 := by
    intro rm9
    induction rm9 using Nat.strongRecOn with
    | ind rm9 ih =>
      intro k cnt ws1 hk hc9 hT1 hI1 hfr
      have hcl := ct_cnt_le (n := n) (ku := ku) (sk := sk) (sn := ct_new P d fr to pe uv ku ks kt) k
      have f60 : ∀ j, 56 ≤ j → ws1[j]? = ws[j]? := fun j hj => hfr.2 j (by simp only [List.mem_cons, List.not_mem_nil, or_false]; omega)
      have hN1 : cn_N ay ws1 aN tE n P el qp d fr to pe := cn_N_fr hN (hfr.2 1 (by decide)) (hfr.2 2 (by decide)) (hfr.2 4 (by decide)) (hfr.2 5 (by decide)) f60
      have hU1 : cu_U ay ws1 aN tE n U ua uq uv := cu_U_fr hU (hfr.2 1 (by decide)) (hfr.2 3 (by decide)) f60
      have m0 : ws1[0]? = _ := (hfr.2 0 (by decide)).trans h0
      obtain ⟨ta, ts, f, m15, ht9⟩ := id hT1
      refine vg_iload_n X dX6_redoTrees_4 2 rfl rfl ?_
      refine vg_bipush X (nI 6) dX6_redoTrees_5 (by decide) ?_
      refine vg_icmp_ge X 35 dX6_redoTrees_7 (by decide) (fun c7 => ?_) (fun c7 => ?_)
      · have c7 : 6 ≤ k := (nI_leI (by omega) (by omega)).mp c7
        refine vg_iload_n X dX6_redoTrees_35 1 rfl rfl ?_
        have ek : k = 6 := by omega
        subst ek
        refine vg_iret X rfl ⟨by rw [hc9], ⟨ta, ts, f, m15, fun j hj => ⟨(ht9 j hj).1, ?_⟩⟩, hI1, hfr⟩ (Nat.le_refl _) (Nat.le_refl _) dX6_redoTrees_36
        obtain ⟨_, fs3, w1, w2, w3⟩ := ht9 j hj
        refine ⟨fs3, w1, w2, fun q8 x hx => ?_⟩
        have w4 := w3 q8 x hx
        rw [ct_mix_lt hj] at w4; exact w4
      · have c7 : ¬ 6 ≤ k := fun z => c7 ((nI_leI (by omega) (by omega)).mpr z)
        refine vg_aload_n X dX6_redoTrees_10 0 rfl rfl ?_
        refine vg_get X in_X6_redoTrees_X6 0 m0 rfl 2 (by decide) ml_X6_redoTrees_27 rfl rfl dX6_redoTrees_11 ?_
        refine vg_iload_n X dX6_redoTrees_14 2 rfl rfl ?_
        obtain ⟨ef, fs, tq, tS, tk⟩ := ht9 k (by omega)
        refine vg_aaldT X (.ref (ta k)) 15 m15 rfl (by omega) (by decide) (by rw [ef]; rfl) dX6_redoTrees_15 ?_
        refine vg_aload_n X dX6_redoTrees_16 0 rfl rfl ?_
        refine vg_get X in_X6_redoTrees_X6 0 m0 rfl 1 (by decide) ml_X6_redoTrees_21 rfl rfl dX6_redoTrees_17 ?_
        by_cases q0 : ku k = 0
        · rw [if_pos q0] at tq
          refine vg_calli (vg_runV X (c_X4_redo_none l (asr := asr) tq) (cwV 1 X.2.2.2.2.1 gX6_redoTrees_X4_redo rfl rfl rfl (by decide +kernel) ⟨Nat.le_of_ble_eq_true rfl, Nat.le_of_ble_eq_true rfl⟩) (17 + 2 * k) tq rfl rfl rfl (Nat.le_of_ble_eq_true rfl) dX6_redoTrees_20 ⟨Nat.zero_le _, Nat.zero_le _⟩) (fun rr3 wz1 PP2 => ?_)
          obtain ⟨hw9, rfl⟩ := PP2
          rw [hw9]
          refine vg_if_eq X 29 dX6_redoTrees_23 (by decide) (fun c23 => ?_) (fun c23 => ?_)
          · skip
            refine vg_iinc X (v := nI (k + 1)) [(2, .int (nI (k + 1))), (0, .ref ax), (1, .int (nI cnt))] dX6_redoTrees_29 2 rfl (by rw [show Int32.ofInt 1 = nI 1 by decide, nI_add]) (by decide) rfl ?_
            refine vg_goto X 4 dX6_redoTrees_32 (by decide) ?_
            refine vg_locals [1, 2, 0] rfl ?_
            refine ih (rm9 - 1) (by omega) (k + 1) cnt ws1 (by omega) (by rw [hc9, ct_cnt_no (fun q9 => q9.1 q0)]) ⟨ta, ts, f, m15, fun j hj => ⟨(ht9 j hj).1, ?_⟩⟩ hI1 hfr
            obtain ⟨_, fs3, w1, w2, w3⟩ := ht9 j hj
            refine ⟨fs3, w1, w2, fun q8 x hx => ?_⟩
            have w4 := w3 q8 x hx
            have q7 : j ≠ k := fun q9 => q8 (by rw [q9]; exact q0)
            by_cases q6 : j < k
            · rw [ct_mix_lt q6] at w4; rw [ct_mix_lt (by omega)]; exact w4
            · rw [ct_mix_ge q6] at w4; rw [ct_mix_ge (by omega)]; exact w4
          · exact absurd rfl c23
        · rw [if_neg q0] at tq
          obtain ⟨x0, aU, x2, x3, x4, g1, g2, g3, g4⟩ := id hU1
          obtain ⟨kk1, kk2, kk3⟩ := hK k (by omega) q0
          obtain ⟨u1, u2, u3, u4⟩ := g4 (ku k - 1) (by omega)
          refine vg_calli (vg_runV X (c_X4_redo l tq tS (by omega) hI1 hN1 u2 u1 u3 kk3 kk2) (cwV 1 X.2.2.2.2.1 gX6_redoTrees_X4_redo rfl rfl rfl (by decide +kernel) ⟨Nat.le_of_ble_eq_true rfl, Nat.le_of_ble_eq_true rfl⟩) (17 + 2 * k) tq rfl rfl rfl (Nat.le_of_ble_eq_true rfl) dX6_redoTrees_20 ⟨Nat.zero_le _, Nat.zero_le _⟩) (fun rr6 wz4 PP5 => ?_)
          obtain ⟨fs2, v1, v2, v3, v4, v5⟩ := PP5
          have v2 : ∀ x, x < n → fs2 x = vs_rep (ct_new P d fr to pe uv ku ks kt k x) := v2
          have hT2 : ct_T ay wz4 aTs n ua ku ks kt (ct_mix (k + 1) (ct_new P d fr to pe uv ku ks kt) sk) := by
            refine ⟨ta, ts, f, (v4.2 15 (by simp only [List.mem_cons, List.not_mem_nil, or_false]; omega)).trans m15, fun j hj => ⟨(ht9 j hj).1, ?_⟩⟩
            by_cases q9 : j = k
            · subst q9
              refine ⟨fs2, (v4.2 (17 + 2 * j) (by simp only [List.mem_cons, List.not_mem_nil, or_false]; omega)).trans (by rw [if_neg q0]; exact tq), v1, fun _ x hx => ?_⟩
              rw [ct_mix_lt (show j < j + 1 by omega)]; exact ⟨v2 x hx, ma_d_leB _ _⟩
            · obtain ⟨_, fs3, w1, w2, w3⟩ := ht9 j hj
              refine ⟨fs3, (v4.2 _ (by simp only [List.mem_cons, List.not_mem_nil, or_false]; omega)).trans w1, (v4.2 _ (by simp only [List.mem_cons, List.not_mem_nil, or_false]; omega)).trans w2, fun q8 x hx => ?_⟩
              have w4 := w3 q8 x hx
              by_cases q7 : j < k
              · rw [ct_mix_lt q7] at w4; rw [ct_mix_lt (by omega)]; exact w4
              · rw [ct_mix_ge q7] at w4; rw [ct_mix_ge (by omega)]; exact w4
          have fr2 : vg_fr ws wz4 [6, 7, 8, 9, 10, 11, 12, 13, 14, 18, 20, 22, 24, 26, 28] := vg_fr_tr hfr v4 (by intro j hj; simp only [List.mem_cons, List.not_mem_nil, or_false] at hj ⊢; omega)
          have old : ∀ x, x < n → (fs x = fs2 x ↔ sk k x = ct_new P d fr to pe uv ku ks kt k x) := fun x hx => by
            have w4 := tk q0 x hx
            rw [ct_mix_ge (Nat.lt_irrefl k)] at w4
            rw [w4.1, v2 x hx]; exact ⟨fun q9 => vs_rep_inj w4.2 (ma_d_leB _ _) q9, fun q9 => by rw [q9]⟩
          rcases v5 with ⟨rfl, x9, q1, q2⟩ | ⟨rfl, q1⟩
          · skip
            refine vg_if_eq X 29 dX6_redoTrees_23 (by decide) (fun c23 => ?_) (fun c23 => ?_)
            · exact absurd c23 (by decide)
            · skip
              refine vg_iinc X (v := nI (cnt + 1)) [(1, .int (nI (cnt + 1))), (0, .ref ax), (2, .int (nI k))] dX6_redoTrees_26 1 rfl (by rw [show Int32.ofInt 1 = nI 1 by decide, nI_add]) (by decide) rfl ?_
              refine vg_iinc X (v := nI (k + 1)) [(2, .int (nI (k + 1))), (1, .int (nI (cnt + 1))), (0, .ref ax)] dX6_redoTrees_29 2 rfl (by rw [show Int32.ofInt 1 = nI 1 by decide, nI_add]) (by decide) rfl ?_
              refine vg_goto X 4 dX6_redoTrees_32 (by decide) ?_
              refine vg_locals [2, 1, 0] rfl ?_
              exact ih (rm9 - 1) (by omega) (k + 1) (cnt + 1) wz4 (by omega) (by rw [hc9, ct_cnt_yes ⟨q0, x9, q1, fun q9 => q2 ((old x9 q1).mpr q9)⟩]) hT2 v3 fr2
          · skip
            refine vg_if_eq X 29 dX6_redoTrees_23 (by decide) (fun c23 => ?_) (fun c23 => ?_)
            · skip
              refine vg_iinc X (v := nI (k + 1)) [(2, .int (nI (k + 1))), (0, .ref ax), (1, .int (nI cnt))] dX6_redoTrees_29 2 rfl (by rw [show Int32.ofInt 1 = nI 1 by decide, nI_add]) (by decide) rfl ?_
              refine vg_goto X 4 dX6_redoTrees_32 (by decide) ?_
              refine vg_locals [1, 2, 0] rfl ?_
              exact ih (rm9 - 1) (by omega) (k + 1) cnt wz4 (by omega) (by rw [hc9, ct_cnt_no (fun q9 => q9.2.elim (fun x9 q8 => q8.2 ((old x9 q8.1).mp (q1 x9 q8.1))))]) hT2 v3 fr2
            · exact absurd rfl c23
  refine vg_iconst X (nI 0) dX6_redoTrees_0 (by decide) ?_
  refine vg_istore_n X [(1, .int (nI 0)), (0, .ref ax)] dX6_redoTrees_1 rfl (by decide) rfl ?_
  refine vg_iconst X (nI 0) dX6_redoTrees_2 (by decide) ?_
  refine vg_istore_n X [(2, .int (nI 0)), (1, .int (nI 0)), (0, .ref ax)] dX6_redoTrees_3 rfl (by decide) rfl ?_
  refine vg_locals [2, 1, 0] rfl ?_
  refine loop 6 0 0 ws (by omega) rfl ?_ hI (vg_fr_rf ws _)
  obtain ⟨ta, ts, f, m15, ht9⟩ := hT
  refine ⟨ta, ts, f, m15, fun j hj => ⟨(ht9 j hj).1, ?_⟩⟩
  obtain ⟨_, fs3, w1, w2, w3⟩ := ht9 j hj
  refine ⟨fs3, w1, w2, fun q8 x hx => ?_⟩
  rw [ct_mix_ge (Nat.not_lt_zero j)]; exact w3 q8 x hx
set_option maxHeartbeats 4000000 in
set_option maxRecDepth 100000 in
/-- noteSteps(a, b) -/
theorem c_X6_noteSteps (l : Launch) {D : va_G} {ay : Nat → ClassId} {base : Nat} {Gx : State → Prop} {ws : va_W} {asr aN n : Nat} {kn st : Nat → Nat} {wk : Nat → Nat → Nat} {hn : Nat → Nat} {pl : Nat → Int32} {key : Nat → Nat} {sz : Nat} {ax aTs aWB a b tE P WM : Nat} {y4 : Int32} {fb : Nat → Int32} {el qp : Nat → Nat} {d fr to pe : Nat → Nat → Nat} {w : Nat → Nat} (h0 : ws[0]? = some (ax, .inr (9, [.ref aN, .ref asr, .ref aTs, .ref aWB, .int y4]))) (h16 : ws[16]? = some (aWB, .inl (ay 0, 150, .inl fb))) (hR : cs_R ay ws asr aN 1 n kn st wk hn pl key sz) (hC : cs_C ay ws asr P WM w) (hWM : WM < 2 ^ 59) (hN : cn_N ay ws aN tE n P el qp d fr to pe) (hres : cs_res n 1 kn wk (ma_T P (fun i => d i 0) (fun i => d i 1) w a)) (ha : a < n) (hb : b < n) : Met l yX6_noteSteps wsX6_noteSteps ({ frames := 5, cells := 0, slots := 0, locals := 112 } : Room) (va_Pc [.ref ax, .int (nI a), .int (nI b)] (vg_B D ay base Gx ws)) (va_Qv (fun u => ∃ (wl : Nat) (wp nd : Nat → Nat) (fb2 : Nat → Int32), u[0]? = some (ax, .inr (9, [.ref aN, .ref asr, .ref aTs, .ref aWB, .int (nI wl)])) ∧ u[16]? = some (aWB, .inl (ay 0, 150, .inl fb2)) ∧ wl ≤ 150 ∧ (∀ j, j < wl → fb2 j = nI (wp j) ∧ wp j < P) ∧ vg_fr ws u [0, 16] ∧ (ma_d (ma_T P (fun i => d i 0) (fun i => d i 1) w a b) 1 < ma_B → wy_path P (fun i => d i 0) (fun i => d i 1) w (fun x => ma_d (ma_T P (fun i => d i 0) (fun i => d i 1) w a x) 1) a b wl wp nd ∧ nd wl = a) ∧ (¬ ma_d (ma_T P (fun i => d i 0) (fun i => d i 1) w a b) 1 < ma_B → wl = 0)) (vg_B D ay base Gx) (vg_A base)) 0 0 (vg_A base) := by
  refine vg_met (cc := cX6_noteSteps) (maxL := 5) (ret := none) (own := RX6) (lv := [(0, .ref ax), (1, .int (nI a)), (2, .int (nI b))]) (by decide) rfl rfl (Nat.le_of_ble_eq_true rfl) rfl ?_
  intro p e s m args below meth c X hinit
  obtain ⟨aP, aU, aH, aO, fh, fo, n1, nL2, n4, n5, np, nn, nP, nh, no⟩ := id hN
  have hea : ∀ i, i < P → (fun i => d i 0) i < n := fun i hi => (np i hi).2.2.2.1
  have heb : ∀ i, i < P → (fun i => d i 1) i < n := fun i hi => (np i hi).2.2.2.2.1
  have loop : ∀ (cw wl : Nat) (wp nd : Nat → Nat) (fb1 : Nat → Int32) (ws1 : va_W), ws1[0]? = some (ax, .inr (9, [.ref aN, .ref asr, .ref aTs, .ref aWB, .int (nI wl)])) → ws1[16]? = some (aWB, .inl (ay 0, 150, .inl fb1)) → vg_fr ws ws1 [0, 16] → wy_path P (fun i => d i 0) (fun i => d i 1) w (fun x => ma_d (ma_T P (fun i => d i 0) (fun i => d i 1) w a x) 1) a b wl wp nd → (∀ j, j < wl → fb1 j = nI (wp j) ∧ wp j < P) → wl + wy_C P (fun i => d i 0) (fun i => d i 1) (fun x => ma_d (ma_T P (fun i => d i 0) (fun i => d i 1) w a x) 1) (nd wl) ≤ P → nd wl < n → (ma_d (ma_T P (fun i => d i 0) (fun i => d i 1) w a (nd wl)) 1 < ma_B ∧ ma_d (ma_T P (fun i => d i 0) (fun i => d i 1) w a b) 1 < ma_B ∨ wl = 0) → cw = wy_C P (fun i => d i 0) (fun i => d i 1) (fun x => ma_d (ma_T P (fun i => d i 0) (fun i => d i 1) w a x) 1) (nd wl) → vg_V D base p l e ({ frames := 5, cells := 0, slots := 0, locals := 112 } : Room) s m args below meth c 5 0 0 (MQ below (va_Qv (fun u => ∃ (wl : Nat) (wp nd : Nat → Nat) (fb2 : Nat → Int32), u[0]? = some (ax, .inr (9, [.ref aN, .ref asr, .ref aTs, .ref aWB, .int (nI wl)])) ∧ u[16]? = some (aWB, .inl (ay 0, 150, .inl fb2)) ∧ wl ≤ 150 ∧ (∀ j, j < wl → fb2 j = nI (wp j) ∧ wp j < P) ∧ vg_fr ws u [0, 16] ∧ (ma_d (ma_T P (fun i => d i 0) (fun i => d i 1) w a b) 1 < ma_B → wy_path P (fun i => d i 0) (fun i => d i 1) w (fun x => ma_d (ma_T P (fun i => d i 0) (fun i => d i 1) w a x) 1) a b wl wp nd ∧ nd wl = a) ∧ (¬ ma_d (ma_T P (fun i => d i 0) (fun i => d i 1) w a b) 1 < ma_B → wl = 0)) (vg_B D ay base Gx) (vg_A base)) args s 0 0 (vg_A base)) [(0, .ref ax), (1, .int (nI a)), (3, .int (nI (nd wl)))] [] ws1 7 := by
    intro cw
    induction cw using Nat.strongRecOn with
    | ind cw ih =>
      intro wl wp nd fb1 ws1 m0 m16 hfr hp hw hC9 hnd hre ecw
      have f60 : ∀ j, 56 ≤ j → ws1[j]? = ws[j]? := fun j hj => hfr.2 j (by simp only [List.mem_cons, List.not_mem_nil, or_false]; omega)
      have hN1 : cn_N ay ws1 aN tE n P el qp d fr to pe := cn_N_fr hN (hfr.2 1 (by decide)) (hfr.2 2 (by decide)) (hfr.2 4 (by decide)) (hfr.2 5 (by decide)) f60
      have hR1 : cs_R ay ws1 asr aN 1 n kn st wk hn pl key sz := cs_R_fr hR (fun j h1 h2 => hfr.2 j (by simp only [List.mem_cons, List.not_mem_nil, or_false]; omega))
      have hC1 : cs_C ay ws1 asr P WM w := cs_C_fr hC (hfr.2 6 (by decide)) (hfr.2 11 (by decide))
      have m1 : ws1[1]? = _ := (hfr.2 1 (by decide)).trans n1
      have mL := cl_L_fr nL2 (hfr.2 2 (by decide)) f60
      obtain ⟨mo, aE, bq, bE⟩ := id mL
      obtain ⟨aq, aC, aW, aK, aTT, fw, fk, ft, h6, hr9⟩ := id hR1
      have more : ma_d (ma_T P (fun i => d i 0) (fun i => d i 1) w a (nd wl)) 1 < ma_B → nd wl ≠ a → ∃ i, wy_low P (fun i => d i 0) (fun i => d i 1) w (fun x => ma_d (ma_T P (fun i => d i 0) (fun i => d i 1) w a x) 1) (nd wl) i := fun h1 h2 => wy_ex (n := n) (fun _ _ => rfl) hea heb hnd h2 h1
      have step9 : ∀ i, wy_fit P (fun i => d i 0) (fun i => d i 1) w (fun x => ma_d (ma_T P (fun i => d i 0) (fun i => d i 1) w a x) 1) (nd wl) i → wy_C P (fun i => d i 0) (fun i => d i 1) (fun x => ma_d (ma_T P (fun i => d i 0) (fun i => d i 1) w a x) 1) (wy_oth (fun i => d i 0) (fun i => d i 1) i (nd wl)) < wy_C P (fun i => d i 0) (fun i => d i 1) (fun x => ma_d (ma_T P (fun i => d i 0) (fun i => d i 1) w a x) 1) (nd wl) := fun i h1 => wy_C_step h1 (np i h1.1).2.2.2.2.2
      refine vg_aload_n X dX6_noteSteps_7 0 rfl rfl ?_
      refine vg_get X in_X6_noteSteps_X6 0 m0 rfl 4 (by decide) ml_X6_noteSteps_55 rfl rfl dX6_noteSteps_8 ?_
      refine vg_sipush X (nI 150) dX6_noteSteps_11 (by decide) ?_
      refine vg_icmp_ge X 83 dX6_noteSteps_14 (by decide) (fun c14 => ?_) (fun c14 => ?_)
      · have c14 : 150 ≤ wl := (nI_leI (by omega) (by omega)).mp c14
        have ea9 : nd wl = a := Classical.byContradiction (fun q9 => by
          rcases hre with q8 | q8
          · obtain ⟨i, hi⟩ := more q8.1 q9
            have := step9 i hi.1
            omega
          · omega)
        exact vg_vret X rfl ⟨wl, wp, nd, fb1, m0, m16, by omega, hw, hfr, fun q9 => ⟨hp, ea9⟩, fun q9 => by rcases hre with q8 | q8; exact absurd q8.2 q9; exact q8⟩ (Nat.le_refl _) (Nat.le_refl _) dX6_noteSteps_83
      · have c14 : ¬ 150 ≤ wl := fun z => c14 ((nI_leI (by omega) (by omega)).mpr z)
        refine vg_iload_n X dX6_noteSteps_17 2 rfl rfl ?_
        refine vg_iload_n X dX6_noteSteps_18 1 rfl rfl ?_
        refine vg_icmp_eq X 83 dX6_noteSteps_19 (by decide) (fun c19 => ?_) (fun c19 => ?_)
        · have c19 : nd wl = a := (nI_eq (by omega) (by omega)).mp c19
          exact vg_vret X rfl ⟨wl, wp, nd, fb1, m0, m16, by omega, hw, hfr, fun q9 => ⟨hp, c19⟩, fun q9 => by rcases hre with q8 | q8; exact absurd q8.2 q9; exact q8⟩ (Nat.le_refl _) (Nat.le_refl _) dX6_noteSteps_83
        · have c19 : ¬ nd wl = a := fun z => c19 ((nI_eq (by omega) (by omega)).mpr z)
          refine vg_aload_n X dX6_noteSteps_22 0 rfl rfl ?_
          refine vg_get X in_X6_noteSteps_X6 0 m0 rfl 1 (by decide) ml_X6_noteSteps_21 rfl rfl dX6_noteSteps_23 ?_
          refine vg_iload_n X dX6_noteSteps_26 2 rfl rfl ?_
          refine vg_calli (vg_runV X (c_X3_lastPieceTo l hR1 hC1 hWM hN1 hres (node := nd wl) hnd) (cwV 1 X.2.2.2.2.1 gX6_noteSteps_X3_lastPieceTo rfl rfl rfl (by decide +kernel) ⟨Nat.le_of_ble_eq_true rfl, Nat.le_of_ble_eq_true rfl⟩) 6 h6 rfl rfl rfl (Nat.le_of_ble_eq_true rfl) dX6_noteSteps_27 ⟨Nat.zero_le _, Nat.zero_le _⟩) (fun rr3 wz1 PP2 => ?_)
          obtain ⟨hw9, hlp⟩ := PP2
          rw [hw9]
          rcases hlp with ⟨rfl, hno⟩ | ⟨i, rfl, hi9, hlow⟩
          · skip
            refine vg_istore X [(4, .int (-1)), (0, .ref ax), (1, .int (nI a)), (3, .int (nI (nd wl)))] dX6_noteSteps_30 (by decide) rfl ?_
            refine vg_iload X dX6_noteSteps_32 0 rfl ?_
            refine vg_iconst X (-1) dX6_noteSteps_34 (by decide) ?_
            refine vg_icmp_ne X 39 dX6_noteSteps_35 (by decide) (fun c35 => ?_) (fun c35 => ?_)
            · exact absurd rfl c35
            · skip
              have un : ¬ ma_d (ma_T P (fun i => d i 0) (fun i => d i 1) w a (nd wl)) 1 < ma_B := fun q9 => by
                obtain ⟨i, hi⟩ := more q9 c19
                exact hno i hi.1
              have wl0 : wl = 0 := by
                rcases hre with q8 | q8
                · exact absurd q8.1 un
                · exact q8
              have eb9 : nd wl = b := by rw [wl0]; exact hp.1
              rw [eb9] at un
              exact vg_vret X rfl ⟨wl, wp, nd, fb1, m0, m16, by omega, hw, hfr, fun q9 => absurd q9 un, fun _ => wl0⟩ (Nat.le_refl _) (Nat.le_refl _) dX6_noteSteps_38
          · skip
            refine vg_istore X [(4, .int (nI i)), (0, .ref ax), (1, .int (nI a)), (3, .int (nI (nd wl)))] dX6_noteSteps_30 (by decide) rfl ?_
            refine vg_iload X dX6_noteSteps_32 0 rfl ?_
            refine vg_iconst X (-1) dX6_noteSteps_34 (by decide) ?_
            refine vg_icmp_ne X 39 dX6_noteSteps_35 (by decide) (fun c35 => ?_) (fun c35 => ?_)
            · skip
              refine vg_aload_n X dX6_noteSteps_39 1 rfl rfl ?_
              refine vg_get X in_X6_noteSteps_X6 0 m0 rfl 3 (by decide) ml_X6_noteSteps_31 rfl rfl dX6_noteSteps_40 ?_
              refine vg_aload_n X dX6_noteSteps_43 1 rfl rfl ?_
              refine vg_get X in_X6_noteSteps_X6 0 m0 rfl 4 (by decide) ml_X6_noteSteps_55 rfl rfl dX6_noteSteps_44 ?_
              refine vg_iload X dX6_noteSteps_47 0 rfl ?_
              refine vg_iast X 16 m16 rfl (by omega) (by decide) dX6_noteSteps_49 (fun wz4 ez5 => ?_)
              have fh6 : wz4[16]? = some (aWB, .inl (ay 0, 150, .inl (upd fb1 wl (nI i)))) := vg_se ez5 m16
              refine vg_aload_n X dX6_noteSteps_50 1 rfl rfl ?_
              refine vg_dup X dX6_noteSteps_51 rfl ?_
              have fh7 : wz4[0]? = some (ax, .inr (9, [.ref aN, .ref asr, .ref aTs, .ref aWB, .int (nI wl)])) := (vg_sn ez5 (by decide)).trans (m0)
              refine vg_get X in_X6_noteSteps_X6 0 fh7 rfl 4 (by decide) ml_X6_noteSteps_55 rfl rfl dX6_noteSteps_52 ?_
              refine vg_iconst X (nI 1) dX6_noteSteps_55 (by decide) ?_
              refine vg_iadd X (nI (wl + 1)) dX6_noteSteps_56 (nI_add _ _) ?_
              refine vg_put X in_X6_noteSteps_X6 tyX6 tyX6_ok nmX6 0 fh7 rfl 4 (by decide) ml_X6_noteSteps_55 rfl rfl rfl rfl (Nat.le_of_ble_eq_true rfl) dX6_noteSteps_57 (fun wz8 ez9 => ?_)
              have fh10 : wz8[0]? = some (ax, .inr (9, [.ref aN, .ref asr, .ref aTs, .ref aWB, .int (nI (wl + 1))])) := vg_se ez9 fh7
              refine vg_aload_n X dX6_noteSteps_60 1 rfl rfl ?_
              refine vg_get X in_X6_noteSteps_X6 0 fh10 rfl 0 (by decide) ml_X6_noteSteps_10 rfl rfl dX6_noteSteps_61 ?_
              have fh11 : wz8[1]? = some (aN, .inr (3, [.ref aP, .ref aU, .ref aH, .ref aO, .int (nI n)])) := (vg_sn ez9 (by decide)).trans ((vg_sn ez5 (by decide)).trans (m1))
              refine vg_get X in_X6_noteSteps_X0 1 fh11 rfl 0 (by decide) ml_X6_noteSteps_69 rfl rfl dX6_noteSteps_64 ?_
              refine vg_iload X dX6_noteSteps_67 0 rfl ?_
              obtain ⟨z1, z2, z3, z4, z5, z6⟩ := np i hi9
              have g60 : ∀ j, 56 ≤ j → wz8[j]? = ws[j]? := fun j hj => (((vg_sn (j := j) ez9 (by omega)).trans (vg_sn (j := j) ez5 (by omega)))).trans (f60 j hj)
              have mL2 := cl_L_fr mL ((vg_sn (j := 2) ez9 (by omega)).trans (vg_sn (j := 2) ez5 (by omega))) (fun j hj => ((vg_sn (j := j) ez9 (by omega)).trans (vg_sn (j := j) ez5 (by omega))))
              have z2b := cp_P_fr z2 z1 g60
              have fh12 : wz8[2]? = some (aP, .inr (2, [.int mo, .ref aE, .int (nI P)])) := (vg_sn ez9 (by decide)).trans ((vg_sn ez5 (by decide)).trans (bq))
              refine vg_callr (vg_runV X (c_Jx4a65c_get_915e3 l mL2 (i := i) hi9) (cwV 1 X.2.2.2.2.1 gX6_noteSteps_Jx4a65c_get_915e3 rfl rfl rfl (by decide +kernel) ⟨Nat.le_of_ble_eq_true rfl, Nat.le_of_ble_eq_true rfl⟩) 2 fh12 rfl rfl rfl (Nat.le_of_ble_eq_true rfl) dX6_noteSteps_69 ⟨Nat.zero_le _, Nat.zero_le _⟩) (fun rr15 wz13 PP14 PP14q => ?_)
              obtain rfl := PP14q
              rw [PP14]
              obtain ⟨af, at2, ag, ff, ft9, fg, k0, kr⟩ := id z2b
              refine vg_cast X (qp i) k0 rfl mc_X6_noteSteps_84 dX6_noteSteps_72 ?_
              refine vg_iload_n X dX6_noteSteps_75 3 rfl rfl ?_
              refine vg_calli (vg_runV X (c_X2_otherEnd l z2b z3 (node := nd wl) (by omega)) (cwV 1 X.2.2.2.2.1 gX6_noteSteps_X2_otherEnd rfl rfl rfl (by decide +kernel) ⟨Nat.le_of_ble_eq_true rfl, Nat.le_of_ble_eq_true rfl⟩) (qp i) k0 rfl rfl rfl (Nat.le_of_ble_eq_true rfl) dX6_noteSteps_76 ⟨Nat.zero_le _, Nat.zero_le _⟩) (fun rr18 wz16 PP17 => ?_)
              obtain ⟨hw9, hr9⟩ := PP17
              rw [hw9]
              have e9 : rr18 = nI (va_up nd (wl + 1) (wy_oth (fun i => d i 0) (fun i => d i 1) i (nd wl)) (wl + 1)) := by
                rw [hr9, va_up_self]; congr 1; unfold wy_oth
                by_cases q9 : nd wl = d i 0
                · rw [if_pos q9, if_pos q9.symm]
                · rw [if_neg q9, if_neg (fun q8 => q9 q8.symm)]
              subst e9
              refine vg_istore_n X [(3, .int (nI (va_up nd (wl + 1) (wy_oth (fun i => d i 0) (fun i => d i 1) i (nd wl)) (wl + 1)))), (4, .int (nI i)), (0, .ref ax), (1, .int (nI a))] dX6_noteSteps_79 rfl (by decide) rfl ?_
              refine vg_goto X 7 dX6_noteSteps_80 (by decide) ?_
              refine vg_locals [2, 3, 0] rfl ?_
              have fh19 : wz8[16]? = some (aWB, .inl (ay 0, 150, .inl (upd fb1 wl (nI i)))) := (vg_sn ez9 (by decide)).trans (fh6)
              have hso := wy_fit_oth hlow.1 z6
              have hst := step9 i hlow.1
              have hrr := hlow.1.2.2.1
              have hon : wy_oth (fun i => d i 0) (fun i => d i 1) i (nd wl) < n := by unfold wy_oth; split; exact z5; exact z4
              have hso : ma_d (ma_T P (fun i => d i 0) (fun i => d i 1) w a (wy_oth (fun i => d i 0) (fun i => d i 1) i (nd wl))) 1 + w i = ma_d (ma_T P (fun i => d i 0) (fun i => d i 1) w a (nd wl)) 1 := hso
              have hrr : ma_d (ma_T P (fun i => d i 0) (fun i => d i 1) w a (nd wl)) 1 < ma_B := hrr
              refine ih (wy_C P (fun i => d i 0) (fun i => d i 1) (fun x => ma_d (ma_T P (fun i => d i 0) (fun i => d i 1) w a x) 1) (va_up nd (wl + 1) (wy_oth (fun i => d i 0) (fun i => d i 1) i (nd wl)) (wl + 1))) (by rw [va_up_self, ecw]; exact hst) (wl + 1) (va_up wp wl i) (va_up nd (wl + 1) (wy_oth (fun i => d i 0) (fun i => d i 1) i (nd wl))) _ _ fh10 fh19 (vg_fr_set (vg_fr_set hfr ez5 (by decide)) ez9 (by decide)) (wy_path_ext hp c19 hlow) (fun j hj => ?_) (by rw [va_up_self]; omega) (by rw [va_up_self]; exact hon) (Or.inl ⟨by rw [va_up_self]; omega, ?_⟩) rfl
              · by_cases q9 : j = wl
                · subst q9; rw [pk_us, va_up_self]; exact ⟨rfl, hi9⟩
                · rw [pk_un q9, va_up_ne _ _ q9]; exact hw j (by omega)
              · rcases hre with q8 | q8
                · exact q8.2
                · rw [q8, hp.1] at hrr; exact hrr
            · exact absurd c35 (hq_nm1 (by omega))
  refine vg_aload_n X dX6_noteSteps_0 0 rfl rfl ?_
  refine vg_iconst X (nI 0) dX6_noteSteps_1 (by decide) ?_
  refine vg_put X in_X6_noteSteps_X6 tyX6 tyX6_ok nmX6 0 h0 rfl 4 (by decide) ml_X6_noteSteps_55 rfl rfl rfl rfl (Nat.le_of_ble_eq_true rfl) dX6_noteSteps_2 (fun wz20 ez21 => ?_)
  have fh22 : wz20[0]? = some (ax, .inr (9, [.ref aN, .ref asr, .ref aTs, .ref aWB, .int (nI 0)])) := vg_se ez21 h0
  refine vg_iload_n X dX6_noteSteps_5 2 rfl rfl ?_
  refine vg_istore_n X [(3, .int (nI b)), (0, .ref ax), (1, .int (nI a)), (2, .int (nI b))] dX6_noteSteps_6 rfl (by decide) rfl ?_
  refine vg_locals [1, 2, 0] rfl ?_
  exact loop _ 0 (fun _ => 0) (fun _ => b) fb _ fh22 ((vg_sn ez21 (by decide)).trans h16) (vg_fr_set (vg_fr_rf ws _) ez21 (by decide)) ⟨rfl, fun j hj => absurd hj (by omega)⟩ (fun j hj => absurd hj (by omega)) (by have := wy_C_le P (fun i => d i 0) (fun i => d i 1) (fun x => ma_d (ma_T P (fun i => d i 0) (fun i => d i 1) w a x) 1) b; omega) hb (Or.inr rfl) rfl
