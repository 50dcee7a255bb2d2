/-- the reference's trees (places 46 to 50) -/
def cm_T (ay : Nat → ClassId) (ws : va_W) (aa : Nat → Nat) (n : Nat) (ku ks kt : Nat → Nat) (sk : Nat → Nat → Nat) : Prop :=
  ∃ (f16 f17 f18 f19 : Nat → Int32) (f20 : Nat → Int64), ws[46]? = some ((aa 16), .inl (ay 2, 6, .inl f16)) ∧ ws[47]? = some ((aa 17), .inl (ay 0, 6, .inl f17)) ∧ ws[48]? = some ((aa 18), .inl (ay 0, 6, .inl f18)) ∧ ws[49]? = some ((aa 19), .inl (ay 0, 6, .inl f19)) ∧ ws[50]? = some ((aa 20), .inl (ay 1, 1200, .inr (.inl f20))) ∧ ∀ k, k < 6 → (ku k = 0 → f16 k = nI 0) ∧ (ku k ≠ 0 → f16 k = nI 1 ∧ f17 k = nI (ks k) ∧ f18 k = nI (ku k - 1) ∧ f19 k = nI (kt k) ∧ ∀ x, x < n → f20 (k * 200 + x) = lN (sk k x) ∧ sk k x ≤ ma_B)
theorem in_X7_redo_X7 : ∀ w ∈ u_ws RX7 TX7 30, w ∈ wsX7_redo := by decide +kernel
theorem ml_X7_redo_59 : Cond.fieldLink RX7 59 "WayTimesModel" "has" "[Z" ∈ wsX7_redo := by decide +kernel
theorem ml_X7_redo_65 : Cond.fieldLink RX7 65 "WayTimesModel" "rider" "[I" ∈ wsX7_redo := by decide +kernel
theorem ml_X7_redo_62 : Cond.fieldLink RX7 62 "WayTimesModel" "root" "[I" ∈ wsX7_redo := by decide +kernel
theorem ml_X7_redo_68 : Cond.fieldLink RX7 68 "WayTimesModel" "when" "[I" ∈ wsX7_redo := by decide +kernel
theorem ml_X7_redo_91 : Cond.fieldLink RX7 91 "WayTimesModel" "nodes" "I" ∈ wsX7_redo := by decide +kernel
theorem ml_X7_redo_71 : Cond.fieldLink RX7 71 "WayTimesModel" "tree" "[J" ∈ wsX7_redo := by decide +kernel
theorem ml_X7_redo_75 : Cond.fieldLink RX7 75 "WayTimesModel" "least" "[J" ∈ wsX7_redo := by decide +kernel
set_option maxHeartbeats 4000000 in
set_option maxRecDepth 100000 in
/-- redo() -/
theorem c_X7_redo (l : Launch) {D : va_G} {ay : Nat → ClassId} {base : Nat} {Gx : State → Prop} {ws : va_W} {am : Nat} {aa : Nat → Nat} {th sp : Int32} {n P U : Nat} {d fr to pe uv : Nat → Nat → Nat} {ku ks kt : Nat → Nat} {sk : Nat → Nat → Nat} {fl : Nat → Int64} (hO : cm_O ws am aa th n P U sp) (hD : cm_D ay ws aa n P U d fr to pe uv) (hR : cm_R n P U d fr to pe uv) (hT : cm_T ay ws aa n ku ks kt sk) (hK : ct_k n U ku ks kt) (hL : ws[51]? = some ((aa 21), .inl (ay 1, 200, .inr (.inl fl)))) : Met l yX7_redo wsX7_redo ({ frames := 4, cells := 0, slots := 0, locals := 103 } : Room) (va_Pc [.ref am] (vg_B D ay base Gx ws)) (va_Qi (fun r u => r = nI (ct_cnt n ku sk (ct_new P d fr to pe uv ku ks kt) 6) ∧ cm_T ay u aa n ku ks kt (ct_new P d fr to pe uv ku ks kt) ∧ (∃ fl2 : Nat → Int64, u[51]? = some ((aa 21), .inl (ay 1, 200, .inr (.inl fl2)))) ∧ vg_fr ws u [50, 51]) (vg_B D ay base Gx) (vg_A base)) 0 0 (vg_A base) := by
  refine vg_met (cc := cX7_redo) (maxL := 5) (ret := (some .int)) (own := RX7) (lv := [(0, .ref am)]) (by decide) rfl rfl (Nat.le_of_ble_eq_true rfl) rfl ?_
  intro p e s m args below meth c X hinit
  have nn := hR.1
  have eB : ma_B = 2 ^ 60 := rfl
  have loop : ∀ (rm9 k cnt : Nat) (fl1 : Nat → Int64) (ws1 : va_W), k + rm9 = 6 → cnt = ct_cnt n ku sk (ct_new P d fr to pe uv ku ks kt) k → cm_T ay ws1 aa n ku ks kt (ct_mix k (ct_new P d fr to pe uv ku ks kt) sk) → ws1[51]? = some ((aa 21), .inl (ay 1, 200, .inr (.inl fl1))) → vg_fr ws ws1 [50, 51] → vg_V D base p l e ({ frames := 4, cells := 0, slots := 0, locals := 103 } : Room) s m args below meth c 5 0 0 (MQ below (va_Qi (fun r u => r = nI (ct_cnt n ku sk (ct_new P d fr to pe uv ku ks kt) 6) ∧ cm_T ay u aa n ku ks kt (ct_new P d fr to pe uv ku ks kt) ∧ (∃ fl2 : Nat → Int64, u[51]? = some ((aa 21), .inl (ay 1, 200, .inr (.inl fl2)))) ∧ vg_fr ws u [50, 51]) (vg_B D ay base Gx) (vg_A base)) args s 0 0 (vg_A base)) [(0, .ref am), (1, .int (nI cnt)), (2, .int (nI k))] [] ws1 4 := by
    intro rm9
    induction rm9 using Nat.strongRecOn with
    | ind rm9 ih =>
      intro k cnt fl1 ws1 hk hc9 hT1 g51 hfr
      have hcl := ct_cnt_le (n := n) (ku := ku) (sk := sk) (sn := ct_new P d fr to pe uv ku ks kt) k
      have e1 : ∀ q, q ≠ 50 → q ≠ 51 → ws1[q]? = ws[q]? := fun q h1 h2 => hfr.2 q (by simp only [List.mem_cons, List.not_mem_nil, or_false]; omega)
      have hO1 : cm_O ws1 am aa th n P U sp := (e1 29 (by decide) (by decide)).trans hO
      have hD1 : cm_D ay ws1 aa n P U d fr to pe uv := cm_D_fr hD (fun q h1 h2 => e1 q (by omega) (by omega))
      have hP1 := hO1
      unfold cm_O at hP1
      obtain ⟨f16, f17, f18, f19, f20, h16, h17, h18, h19, h20, ht⟩ := id hT1
      refine vg_iload_n X dX7_redo_4 2 rfl rfl ?_
      refine vg_bipush X (nI 6) dX7_redo_5 (by decide) ?_
      refine vg_icmp_ge X 131 dX7_redo_7 (by decide) (fun c7 => ?_) (fun c7 => ?_)
      · have c7 : 6 ≤ k := (nI_leI (by omega) (by omega)).mp c7
        refine vg_iload_n X dX7_redo_131 1 rfl rfl ?_
        have ek : k = 6 := by omega
        subst ek
        refine vg_iret X rfl ⟨by rw [hc9], ⟨f16, f17, f18, f19, f20, h16, h17, h18, h19, h20, fun j hj => ⟨(ht j hj).1, fun q8 => ?_⟩⟩, ⟨fl1, g51⟩, hfr⟩ (Nat.le_refl _) (Nat.le_refl _) dX7_redo_132
        obtain ⟨w0, w1, w2, w3, w4⟩ := (ht j hj).2 q8
        refine ⟨w0, w1, w2, w3, fun x hx => ?_⟩
        have w5 := w4 x hx
        rw [ct_mix_lt hj] at w5; exact w5
      · have c7 : ¬ 6 ≤ k := fun z => c7 ((nI_leI (by omega) (by omega)).mpr z)
        obtain ⟨t0, t1⟩ := ht k (by omega)
        by_cases q0 : ku k = 0
        · skip
          refine vg_aload_n X dX7_redo_10 0 rfl rfl ?_
          refine vg_get X in_X7_redo_X7 29 hP1 rfl 20 (by decide) ml_X7_redo_59 rfl rfl dX7_redo_11 ?_
          refine vg_iload_n X dX7_redo_14 2 rfl rfl ?_
          refine vg_zald X (nI 0) 46 h16 rfl (by omega) (by decide) (t0 q0) dX7_redo_15 ?_
          refine vg_if_ne X 22 dX7_redo_16 (by decide) (fun c16 => ?_) (fun c16 => ?_)
          · have c16 : ¬ 0 = 0 := fun z => c16 ((vg_eq0 (by omega)).mpr z)
            exact absurd rfl c16
          · have c16 : 0 = 0 := (vg_eq0 (by omega)).mp c16
            skip
            refine vg_goto X 125 dX7_redo_19 (by decide) ?_
            refine vg_iinc X (v := nI (k + 1)) [(2, .int (nI (k + 1))), (0, .ref am), (1, .int (nI cnt))] dX7_redo_125 2 rfl (by rw [show Int32.ofInt 1 = nI 1 by decide, nI_add]) (by decide) rfl ?_
            refine vg_goto X 4 dX7_redo_128 (by decide) ?_
            refine vg_locals [1, 2, 0] rfl ?_
            refine ih (rm9 - 1) (by omega) (k + 1) cnt fl1 ws1 (by omega) (by rw [hc9, ct_cnt_no (fun q9 => q9.1 q0)]) ⟨f16, f17, f18, f19, f20, h16, h17, h18, h19, h20, fun j hj => ⟨(ht j hj).1, fun q8 => ?_⟩⟩ g51 hfr
            obtain ⟨w0, w1, w2, w3, w4⟩ := (ht j hj).2 q8
            refine ⟨w0, w1, w2, w3, fun x hx => ?_⟩
            have w5 := w4 x hx
            have q7 : j ≠ k := fun q9 => q8 (by rw [q9]; exact q0)
            by_cases q6 : j < k
            · rw [ct_mix_lt q6] at w5; rw [ct_mix_lt (by omega)]; exact w5
            · rw [ct_mix_ge q6] at w5; rw [ct_mix_ge (by omega)]; exact w5
        · skip
          obtain ⟨v0, v1, v2, v3, v4⟩ := t1 q0
          obtain ⟨kk1, kk2, kk3⟩ := hK k (by omega) q0
          refine vg_aload_n X dX7_redo_10 0 rfl rfl ?_
          refine vg_get X in_X7_redo_X7 29 hP1 rfl 20 (by decide) ml_X7_redo_59 rfl rfl dX7_redo_11 ?_
          refine vg_iload_n X dX7_redo_14 2 rfl rfl ?_
          refine vg_zald X (nI 1) 46 h16 rfl (by omega) (by decide) v0 dX7_redo_15 ?_
          refine vg_if_ne X 22 dX7_redo_16 (by decide) (fun c16 => ?_) (fun c16 => ?_)
          · have c16 : ¬ 1 = 0 := fun z => c16 ((vg_eq0 (by omega)).mpr z)
            skip
            refine vg_aload_n X dX7_redo_22 0 rfl rfl ?_
            refine vg_aload_n X dX7_redo_23 0 rfl rfl ?_
            refine vg_get X in_X7_redo_X7 29 hP1 rfl 22 (by decide) ml_X7_redo_65 rfl rfl dX7_redo_24 ?_
            refine vg_iload_n X dX7_redo_27 2 rfl rfl ?_
            refine vg_iald X (nI (ku k - 1)) 48 h18 rfl (by omega) (by decide) v2 dX7_redo_28 ?_
            refine vg_aload_n X dX7_redo_29 0 rfl rfl ?_
            refine vg_get X in_X7_redo_X7 29 hP1 rfl 21 (by decide) ml_X7_redo_62 rfl rfl dX7_redo_30 ?_
            refine vg_iload_n X dX7_redo_33 2 rfl rfl ?_
            refine vg_iald X (nI (ks k)) 47 h17 rfl (by omega) (by decide) v1 dX7_redo_34 ?_
            refine vg_aload_n X dX7_redo_35 0 rfl rfl ?_
            refine vg_get X in_X7_redo_X7 29 hP1 rfl 23 (by decide) ml_X7_redo_68 rfl rfl dX7_redo_36 ?_
            refine vg_iload_n X dX7_redo_39 2 rfl rfl ?_
            refine vg_iald X (nI (kt k)) 49 h19 rfl (by omega) (by decide) v3 dX7_redo_40 ?_
            refine vg_callv (vg_runV X (c_X7_spread l hO1 hD1 hR g51 (j := ku k - 1) (a := ks k) (t := kt k) (by omega) kk2 kk3) (cwV 3 X.2.2.2.2.1 gX7_redo_X7_spread rfl rfl rfl (by decide +kernel) ⟨Nat.le_of_ble_eq_true rfl, Nat.le_of_ble_eq_true rfl⟩) 29 hP1 rfl rfl rfl (Nat.le_of_ble_eq_true rfl) dX7_redo_41 ⟨Nat.zero_le _, Nat.zero_le _⟩) (fun wz1 PP2 => ?_)
            obtain ⟨fl2, y1, y2, y3⟩ := PP2
            have y2 : ∀ x, x < n → fl2 x = lN (ct_new P d fr to pe uv ku ks kt k x) := y2
            refine vg_iconst X (nI 0) dX7_redo_44 (by decide) ?_
            refine vg_istore_n X [(3, .int (nI 0)), (0, .ref am), (1, .int (nI cnt)), (2, .int (nI k))] dX7_redo_45 rfl (by decide) rfl ?_
            refine vg_iconst X (nI 0) dX7_redo_46 (by decide) ?_
            refine vg_istore X [(4, .int (nI 0)), (3, .int (nI 0)), (0, .ref am), (1, .int (nI cnt)), (2, .int (nI k))] dX7_redo_47 (by decide) rfl ?_
            refine vg_locals [2, 3, 4, 1, 0] rfl ?_
            have fA : vg_fr ws wz1 [50, 51] := vg_fr_trd hfr y3 (by decide)
            have inn : ∀ (k2 x : Nat) (o : Int32) (ft : Nat → Int64) (ws2 : va_W), x + k2 = n → ws2[50]? = some ((aa 20), .inl (ay 1, 1200, .inr (.inl ft))) → vg_fr wz1 ws2 [50] → (∀ q, q < x → ft (k * 200 + q) = lN (ct_new P d fr to pe uv ku ks kt k q)) → (∀ q, q < k * 200 + 0 ∨ k * 200 + x ≤ q → ft q = f20 q) → ((o = 1 ∧ ∃ q, q < x ∧ sk k q ≠ ct_new P d fr to pe uv ku ks kt k q) ∨ (o = 0 ∧ ∀ q, q < x → sk k q = ct_new P d fr to pe uv ku ks kt k q)) → vg_V D base p l e ({ frames := 4, cells := 0, slots := 0, locals := 103 } : Room) s m args below meth c 5 0 0 (MQ below (va_Qi (fun r u => r = nI (ct_cnt n ku sk (ct_new P d fr to pe uv ku ks kt) 6) ∧ cm_T ay u aa n ku ks kt (ct_new P d fr to pe uv ku ks kt) ∧ (∃ fl2 : Nat → Int64, u[51]? = some ((aa 21), .inl (ay 1, 200, .inr (.inl fl2)))) ∧ vg_fr ws u [50, 51]) (vg_B D ay base Gx) (vg_A base)) args s 0 0 (vg_A base)) [(0, .ref am), (1, .int (nI cnt)), (2, .int (nI k)), (3, .int o), (4, .int (nI x))] [] ws2 49 := by
              intro k2
              induction k2 using Nat.strongRecOn with
              | ind k2 ih2 =>
                intro x o ft ws2 hk2 g50 fr2 w1 w2 ho
                have fB : vg_fr ws ws2 [50, 51] := vg_fr_trd fA fr2 (by decide)
                have e2 : ∀ q, q ≠ 50 → q ≠ 51 → ws2[q]? = ws[q]? := fun q h1 h2 => fB.2 q (by simp only [List.mem_cons, List.not_mem_nil, or_false]; omega)
                have hO2 : cm_O ws2 am aa th n P U sp := (e2 29 (by decide) (by decide)).trans hO
                have hD2 : cm_D ay ws2 aa n P U d fr to pe uv := cm_D_fr hD (fun q h1 h2 => e2 q (by omega) (by omega))
                have hP2 := hO2
                unfold cm_O at hP2
                have y51 : ws2[51]? = _ := (fr2.2 51 (by decide)).trans y1
                refine vg_iload X dX7_redo_49 4 rfl ?_
                refine vg_aload_n X dX7_redo_51 0 rfl rfl ?_
                refine vg_get X in_X7_redo_X7 29 hP2 rfl 1 (by decide) ml_X7_redo_91 rfl rfl dX7_redo_52 ?_
                refine vg_icmp_ge X 118 dX7_redo_55 (by decide) (fun c55 => ?_) (fun c55 => ?_)
                · have c55 : n ≤ x := (nI_leI (by omega) (by omega)).mp c55
                  refine vg_locals [0, 1, 2, 3] rfl ?_
                  have ex : x = n := by omega
                  subst ex
                  have hT2 : cm_T ay ws2 aa x ku ks kt (ct_mix (k + 1) (ct_new P d fr to pe uv ku ks kt) sk) := by
                    refine ⟨f16, f17, f18, f19, ft, (fr2.2 46 (by decide)).trans ((y3.2 46 (by decide)).trans h16), (fr2.2 47 (by decide)).trans ((y3.2 47 (by decide)).trans h17), (fr2.2 48 (by decide)).trans ((y3.2 48 (by decide)).trans h18), (fr2.2 49 (by decide)).trans ((y3.2 49 (by decide)).trans h19), g50, fun j hj => ⟨(ht j hj).1, fun q8 => ?_⟩⟩
                    obtain ⟨z0, z1, z2, z3, z4⟩ := (ht j hj).2 q8
                    refine ⟨z0, z1, z2, z3, fun q hq => ?_⟩
                    by_cases q7 : j = k
                    · subst q7; rw [ct_mix_lt (by omega)]; exact ⟨w1 q hq, ma_d_leB _ _⟩
                    · have z5 := z4 q hq
                      rw [w2 _ (by omega)]
                      by_cases q6 : j < k
                      · rw [ct_mix_lt q6] at z5; rw [ct_mix_lt (by omega)]; exact z5
                      · rw [ct_mix_ge q6] at z5; rw [ct_mix_ge (by omega)]; exact z5
                  rcases ho with ⟨rfl, q1, q2, q3⟩ | ⟨rfl, q1⟩
                  · skip
                    rw [show (1 : Int32) = nI 1 by decide]
                    refine vg_iload_n X dX7_redo_118 3 rfl rfl ?_
                    refine vg_if_eq X 125 dX7_redo_119 (by decide) (fun c119 => ?_) (fun c119 => ?_)
                    · have c119 : 1 = 0 := (vg_eq0 (by omega)).mp c119
                      exact absurd c119 (by decide)
                    · have c119 : ¬ 1 = 0 := fun z => c119 ((vg_eq0 (by omega)).mpr z)
                      skip
                      refine vg_iinc X (v := nI (cnt + 1)) [(1, .int (nI (cnt + 1))), (0, .ref am), (2, .int (nI k)), (3, .int (nI 1))] dX7_redo_122 1 rfl (by rw [show Int32.ofInt 1 = nI 1 by decide, nI_add]) (by decide) rfl ?_
                      refine vg_iinc X (v := nI (k + 1)) [(2, .int (nI (k + 1))), (1, .int (nI (cnt + 1))), (0, .ref am), (3, .int (nI 1))] dX7_redo_125 2 rfl (by rw [show Int32.ofInt 1 = nI 1 by decide, nI_add]) (by decide) rfl ?_
                      refine vg_goto X 4 dX7_redo_128 (by decide) ?_
                      refine vg_locals [2, 1, 0] rfl ?_
                      exact ih (rm9 - 1) (by omega) (k + 1) (cnt + 1) fl2 ws2 (by omega) (by rw [hc9, ct_cnt_yes ⟨q0, q1, q2, q3⟩]) hT2 y51 fB
                  · skip
                    rw [show (0 : Int32) = nI 0 by decide]
                    refine vg_iload_n X dX7_redo_118 3 rfl rfl ?_
                    refine vg_if_eq X 125 dX7_redo_119 (by decide) (fun c119 => ?_) (fun c119 => ?_)
                    · have c119 : 0 = 0 := (vg_eq0 (by omega)).mp c119
                      skip
                      refine vg_iinc X (v := nI (k + 1)) [(2, .int (nI (k + 1))), (0, .ref am), (1, .int (nI cnt)), (3, .int (nI 0))] dX7_redo_125 2 rfl (by rw [show Int32.ofInt 1 = nI 1 by decide, nI_add]) (by decide) rfl ?_
                      refine vg_goto X 4 dX7_redo_128 (by decide) ?_
                      refine vg_locals [1, 2, 0] rfl ?_
                      exact ih (rm9 - 1) (by omega) (k + 1) cnt fl2 ws2 (by omega) (by rw [hc9, ct_cnt_no (fun q9 => q9.2.elim (fun q8 q7 => q7.2 (q1 q8 q7.1)))]) hT2 y51 fB
                    · have c119 : ¬ 0 = 0 := fun z => c119 ((vg_eq0 (by omega)).mpr z)
                      exact absurd rfl c119
                · have c55 : ¬ n ≤ x := fun z => c55 ((nI_leI (by omega) (by omega)).mpr z)
                  have v5 := v4 x (by omega)
                  rw [ct_mix_ge (Nat.lt_irrefl k)] at v5
                  refine vg_iload_n X dX7_redo_58 3 rfl rfl ?_
                  refine vg_if_ne X 86 dX7_redo_59 (by decide) (fun c59 => ?_) (fun c59 => ?_)
                  · skip
                    refine vg_iconst X (nI 1) dX7_redo_86 (by decide) ?_
                    refine vg_goto X 91 dX7_redo_87 (by decide) ?_
                    refine vg_istore_n X [(3, .int (nI 1)), (0, .ref am), (1, .int (nI cnt)), (2, .int (nI k)), (4, .int (nI x))] dX7_redo_91 rfl (by decide) rfl ?_
                    refine vg_aload_n X dX7_redo_92 1 rfl rfl ?_
                    refine vg_get X in_X7_redo_X7 29 hP2 rfl 24 (by decide) ml_X7_redo_71 rfl rfl dX7_redo_93 ?_
                    refine vg_iload_n X dX7_redo_96 3 rfl rfl ?_
                    refine vg_sipush X (nI 200) dX7_redo_97 (by decide) ?_
                    refine vg_imul X (nI (k * 200)) dX7_redo_100 (pk_mul _ _) ?_
                    refine vg_iload X dX7_redo_101 4 rfl ?_
                    refine vg_iadd X (nI (k * 200 + x)) dX7_redo_103 (nI_add _ _) ?_
                    refine vg_aload_n X dX7_redo_104 1 rfl rfl ?_
                    refine vg_get X in_X7_redo_X7 29 hP2 rfl 25 (by decide) ml_X7_redo_75 rfl rfl dX7_redo_105 ?_
                    refine vg_iload X dX7_redo_108 4 rfl ?_
                    refine vg_lald X (lN (ct_new P d fr to pe uv ku ks kt k x)) 51 y51 rfl (by omega) (by decide) (y2 x (by omega)) dX7_redo_110 ?_
                    refine vg_last X 50 g50 rfl (by omega) (by decide) dX7_redo_111 (fun wz4 ez5 => ?_)
                    have fh6 : wz4[50]? = some ((aa 20), .inl (ay 1, 1200, .inr (.inl (vp_updL ft (k * 200 + x) (lN (ct_new P d fr to pe uv ku ks kt k x)))))) := vg_se ez5 g50
                    refine vg_iinc X (v := nI (x + 1)) [(4, .int (nI (x + 1))), (3, .int (nI 1)), (0, .ref am), (1, .int (nI cnt)), (2, .int (nI k))] dX7_redo_112 4 rfl (by rw [show Int32.ofInt 1 = nI 1 by decide, nI_add]) (by decide) rfl ?_
                    refine vg_goto X 49 dX7_redo_115 (by decide) ?_
                    refine vg_locals [2, 3, 4, 1, 0] rfl ?_
                    refine ih2 (k2 - 1) (by omega) (x + 1) _ _ _ (by omega) fh6 (vg_fr_set fr2 ez5 (by decide)) (fun q hq => ?_) (fun q hq => ?_) ?_
                    · by_cases q9 : q = x
                      · subst q9; exact pk_uLs
                      · rw [pk_uLn (by omega)]; exact w1 q (by omega)
                    · rw [pk_uLn (by omega)]; exact w2 q (by omega)
                    · obtain ⟨q1, q2, q3, q4⟩ := ho.resolve_right (fun q9 => c59 q9.1)
                      exact Or.inl ⟨by decide, q2, by omega, q4⟩
                  · have hbn : ct_new P d fr to pe uv ku ks kt k x ≤ ma_B := ma_d_leB _ _
                    refine vg_aload_n X dX7_redo_62 0 rfl rfl ?_
                    refine vg_get X in_X7_redo_X7 29 hP2 rfl 24 (by decide) ml_X7_redo_71 rfl rfl dX7_redo_63 ?_
                    refine vg_iload_n X dX7_redo_66 2 rfl rfl ?_
                    refine vg_sipush X (nI 200) dX7_redo_67 (by decide) ?_
                    refine vg_imul X (nI (k * 200)) dX7_redo_70 (pk_mul _ _) ?_
                    refine vg_iload X dX7_redo_71 4 rfl ?_
                    refine vg_iadd X (nI (k * 200 + x)) dX7_redo_73 (nI_add _ _) ?_
                    refine vg_lald X (lN (sk k x)) 50 g50 rfl (by omega) (by decide) (by rw [w2 _ (by omega)]; exact v5.1) dX7_redo_74 ?_
                    refine vg_aload_n X dX7_redo_75 0 rfl rfl ?_
                    refine vg_get X in_X7_redo_X7 29 hP2 rfl 25 (by decide) ml_X7_redo_75 rfl rfl dX7_redo_76 ?_
                    refine vg_iload X dX7_redo_79 4 rfl ?_
                    refine vg_lald X (lN (ct_new P d fr to pe uv ku ks kt k x)) 51 y51 rfl (by omega) (by decide) (y2 x (by omega)) dX7_redo_81 ?_
                    refine vg_lcmp_eq X 90 dX7_redo_82 dX7_redo_83 (by decide) (fun c82 => ?_) (fun c82 => ?_)
                    · have c82 : sk k x = ct_new P d fr to pe uv ku ks kt k x := (pk_lEQ (by omega) (by omega)).mp c82
                      skip
                      refine vg_iconst X (nI 0) dX7_redo_90 (by decide) ?_
                      refine vg_istore_n X [(3, .int (nI 0)), (0, .ref am), (1, .int (nI cnt)), (2, .int (nI k)), (4, .int (nI x))] dX7_redo_91 rfl (by decide) rfl ?_
                      refine vg_aload_n X dX7_redo_92 1 rfl rfl ?_
                      refine vg_get X in_X7_redo_X7 29 hP2 rfl 24 (by decide) ml_X7_redo_71 rfl rfl dX7_redo_93 ?_
                      refine vg_iload_n X dX7_redo_96 3 rfl rfl ?_
                      refine vg_sipush X (nI 200) dX7_redo_97 (by decide) ?_
                      refine vg_imul X (nI (k * 200)) dX7_redo_100 (pk_mul _ _) ?_
                      refine vg_iload X dX7_redo_101 4 rfl ?_
                      refine vg_iadd X (nI (k * 200 + x)) dX7_redo_103 (nI_add _ _) ?_
                      refine vg_aload_n X dX7_redo_104 1 rfl rfl ?_
                      refine vg_get X in_X7_redo_X7 29 hP2 rfl 25 (by decide) ml_X7_redo_75 rfl rfl dX7_redo_105 ?_
                      refine vg_iload X dX7_redo_108 4 rfl ?_
                      refine vg_lald X (lN (ct_new P d fr to pe uv ku ks kt k x)) 51 y51 rfl (by omega) (by decide) (y2 x (by omega)) dX7_redo_110 ?_
                      refine vg_last X 50 g50 rfl (by omega) (by decide) dX7_redo_111 (fun wz7 ez8 => ?_)
                      have fh9 : wz7[50]? = some ((aa 20), .inl (ay 1, 1200, .inr (.inl (vp_updL ft (k * 200 + x) (lN (ct_new P d fr to pe uv ku ks kt k x)))))) := vg_se ez8 g50
                      refine vg_iinc X (v := nI (x + 1)) [(4, .int (nI (x + 1))), (3, .int (nI 0)), (0, .ref am), (1, .int (nI cnt)), (2, .int (nI k))] dX7_redo_112 4 rfl (by rw [show Int32.ofInt 1 = nI 1 by decide, nI_add]) (by decide) rfl ?_
                      refine vg_goto X 49 dX7_redo_115 (by decide) ?_
                      refine vg_locals [2, 3, 4, 1, 0] rfl ?_
                      refine ih2 (k2 - 1) (by omega) (x + 1) _ _ _ (by omega) fh9 (vg_fr_set fr2 ez8 (by decide)) (fun q hq => ?_) (fun q hq => ?_) ?_
                      · by_cases q9 : q = x
                        · subst q9; exact pk_uLs
                        · rw [pk_uLn (by omega)]; exact w1 q (by omega)
                      · rw [pk_uLn (by omega)]; exact w2 q (by omega)
                      · refine Or.inr ⟨by decide, fun q hq => ?_⟩
                        by_cases q9 : q = x
                        · subst q9; exact c82
                        · exact (ho.resolve_left (fun q8 => by rw [q8.1] at c59; exact absurd c59 (by decide))).2 q (by omega)
                    · have c82 : ¬ sk k x = ct_new P d fr to pe uv ku ks kt k x := fun z => c82 ((pk_lEQ (by omega) (by omega)).mpr z)
                      skip
                      refine vg_iconst X (nI 1) dX7_redo_86 (by decide) ?_
                      refine vg_goto X 91 dX7_redo_87 (by decide) ?_
                      refine vg_istore_n X [(3, .int (nI 1)), (0, .ref am), (1, .int (nI cnt)), (2, .int (nI k)), (4, .int (nI x))] dX7_redo_91 rfl (by decide) rfl ?_
                      refine vg_aload_n X dX7_redo_92 1 rfl rfl ?_
                      refine vg_get X in_X7_redo_X7 29 hP2 rfl 24 (by decide) ml_X7_redo_71 rfl rfl dX7_redo_93 ?_
                      refine vg_iload_n X dX7_redo_96 3 rfl rfl ?_
                      refine vg_sipush X (nI 200) dX7_redo_97 (by decide) ?_
                      refine vg_imul X (nI (k * 200)) dX7_redo_100 (pk_mul _ _) ?_
                      refine vg_iload X dX7_redo_101 4 rfl ?_
                      refine vg_iadd X (nI (k * 200 + x)) dX7_redo_103 (nI_add _ _) ?_
                      refine vg_aload_n X dX7_redo_104 1 rfl rfl ?_
                      refine vg_get X in_X7_redo_X7 29 hP2 rfl 25 (by decide) ml_X7_redo_75 rfl rfl dX7_redo_105 ?_
                      refine vg_iload X dX7_redo_108 4 rfl ?_
                      refine vg_lald X (lN (ct_new P d fr to pe uv ku ks kt k x)) 51 y51 rfl (by omega) (by decide) (y2 x (by omega)) dX7_redo_110 ?_
                      refine vg_last X 50 g50 rfl (by omega) (by decide) dX7_redo_111 (fun wz10 ez11 => ?_)
                      have fh12 : wz10[50]? = some ((aa 20), .inl (ay 1, 1200, .inr (.inl (vp_updL ft (k * 200 + x) (lN (ct_new P d fr to pe uv ku ks kt k x)))))) := vg_se ez11 g50
                      refine vg_iinc X (v := nI (x + 1)) [(4, .int (nI (x + 1))), (3, .int (nI 1)), (0, .ref am), (1, .int (nI cnt)), (2, .int (nI k))] dX7_redo_112 4 rfl (by rw [show Int32.ofInt 1 = nI 1 by decide, nI_add]) (by decide) rfl ?_
                      refine vg_goto X 49 dX7_redo_115 (by decide) ?_
                      refine vg_locals [2, 3, 4, 1, 0] rfl ?_
                      refine ih2 (k2 - 1) (by omega) (x + 1) _ _ _ (by omega) fh12 (vg_fr_set fr2 ez11 (by decide)) (fun q hq => ?_) (fun q hq => ?_) ?_
                      · by_cases q9 : q = x
                        · subst q9; exact pk_uLs
                        · rw [pk_uLn (by omega)]; exact w1 q (by omega)
                      · rw [pk_uLn (by omega)]; exact w2 q (by omega)
                      · exact Or.inl ⟨by decide, x, by omega, c82⟩
            exact inn n 0 (nI 0) f20 wz1 (by omega) ((y3.2 50 (by decide)).trans h20) (vg_fr_rf _ _) (fun q hq => absurd hq (by omega)) (fun q _ => rfl) (Or.inr ⟨by decide, fun q hq => absurd hq (by omega)⟩)
          · have c16 : 1 = 0 := (vg_eq0 (by omega)).mp c16
            exact absurd c16 (by decide)
  refine vg_iconst X (nI 0) dX7_redo_0 (by decide) ?_
  refine vg_istore_n X [(1, .int (nI 0)), (0, .ref am)] dX7_redo_1 rfl (by decide) rfl ?_
  refine vg_iconst X (nI 0) dX7_redo_2 (by decide) ?_
  refine vg_istore_n X [(2, .int (nI 0)), (1, .int (nI 0)), (0, .ref am)] dX7_redo_3 rfl (by decide) rfl ?_
  refine vg_locals [2, 1, 0] rfl ?_
  refine loop 6 0 0 fl ws (by omega) rfl ?_ hL (vg_fr_rf ws _)
  obtain ⟨f16, f17, f18, f19, f20, h16, h17, h18, h19, h20, ht⟩ := hT
  refine ⟨f16, f17, f18, f19, f20, h16, h17, h18, h19, h20, fun j hj => ⟨(ht j hj).1, fun q8 => ?_⟩⟩
  obtain ⟨w0, w1, w2, w3, w4⟩ := (ht j hj).2 q8
  exact ⟨w0, w1, w2, w3, fun x hx => by rw [ct_mix_ge (Nat.not_lt_zero j)]; exact w4 x hx⟩
