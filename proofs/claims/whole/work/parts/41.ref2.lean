theorem ps_w_pos {d fr to pe v : Nat → Nat} {t : Nat} (hr : cp_R d fr to pe) (hv : cu_R v) : ps_w d fr to pe v t ≠ 0 ↔ ps_ok d v := ⟨fun h => Classical.byContradiction (fun q => h (ps_w_no q)), fun h => by have := (ps_w_in (t := t) hr hv).2 h; omega⟩
theorem in_X7_spread_X7 : ∀ w ∈ u_ws RX7 TX7 30, w ∈ wsX7_spread := by decide +kernel
theorem ml_X7_spread_94 : Cond.fieldLink RX7 94 "WayTimesModel" "pieces" "I" ∈ wsX7_spread := by decide +kernel
theorem ml_X7_spread_16 : Cond.fieldLink RX7 16 "WayTimesModel" "metres" "[I" ∈ wsX7_spread := by decide +kernel
theorem ml_X7_spread_7 : Cond.fieldLink RX7 7 "WayTimesModel" "first" "[I" ∈ wsX7_spread := by decide +kernel
theorem ml_X7_spread_13 : Cond.fieldLink RX7 13 "WayTimesModel" "second" "[I" ∈ wsX7_spread := by decide +kernel
theorem ml_X7_spread_75 : Cond.fieldLink RX7 75 "WayTimesModel" "least" "[J" ∈ wsX7_spread := by decide +kernel
theorem ml_X7_spread_91 : Cond.fieldLink RX7 91 "WayTimesModel" "nodes" "I" ∈ wsX7_spread := by decide +kernel
theorem mk_X7_spread_113 : Jvm.Cond.constantLong RX7 113 (lN ma_B) ∈ wsX7_spread := by decide +kernel
set_option maxHeartbeats 4000000 in
set_option maxRecDepth 100000 in
/-- spread(unit, a, t): the least seconds from a -/
theorem c_X7_spread (l : Launch) {D : va_G} {ay : Nat → ClassId} {base : Nat} {Gx : State → Prop} {ws : va_W} {am : Nat} {aa : Nat → Nat} {th sp : Int32} {n P U : Nat} {d fr to pe uv : Nat → Nat → Nat} {j a t : Nat} {fl : Nat → Int64} (hO : cm_O ws am aa th n P U sp) (hD : cm_D ay ws aa n P U d fr to pe uv) (hR : cm_R n P U d fr to pe uv) (hL : ws[51]? = some ((aa 21), .inl (ay 1, 200, .inr (.inl fl)))) (hj : j < U) (ha : a < n) (ht : t < 2 ^ 31) : Met l yX7_spread wsX7_spread ({ frames := 3, cells := 0, slots := 0, locals := 74 } : Room) (va_Pc [.ref am, .int (nI j), .int (nI a), .int (nI t)] (vg_B D ay base Gx ws)) (va_Qv (fun u => ∃ fl2 : Nat → Int64, u[51]? = some ((aa 21), .inl (ay 1, 200, .inr (.inl fl2))) ∧ (∀ x, x < n → fl2 x = lN (ma_d (ma_T P (fun i => d i 0) (fun i => d i 1) (fun i => ps_w (d i) (fr i) (to i) (pe i) (uv j) t) a x) 1)) ∧ vg_fr ws u [51]) (vg_B D ay base Gx) (vg_A base)) 0 0 (vg_A base) := by
  refine vg_met (cc := cX7_spread) (maxL := 10) (ret := none) (own := RX7) (lv := [(0, .ref am), (1, .int (nI j)), (2, .int (nI a)), (3, .int (nI t))]) (by decide) rfl rfl (Nat.le_of_ble_eq_true rfl) rfl ?_
  intro p e s m args below meth c X hinit
  have nn := hR.1
  have nP := hR.2.1
  have eB : ma_B = 2 ^ 60 := rfl
  obtain ⟨w, ew⟩ : ∃ z : Nat → Nat, z = (fun i => ps_w (d i) (fr i) (to i) (pe i) (uv j) t) := ⟨_, rfl⟩
  rw [← ew]
  have hea : ∀ i, i < P → (fun i => d i 0) i < n := fun i hi => (hR.2.2.2.1 i hi).2.1
  have heb : ∀ i, i < P → (fun i => d i 1) i < n := fun i hi => (hR.2.2.2.1 i hi).2.2.1
  have hw9 : ∀ i, i < P → w i ≤ 432000000 ∧ (w i ≠ 0 ↔ ps_ok (d i) (uv j)) := fun i hi => by
    rw [ew]; exact ⟨(ps_w_in (hR.2.2.2.1 i hi).1 (hR.2.2.2.2 j hj).1).1, ps_w_pos (hR.2.2.2.1 i hi).1 (hR.2.2.2.2 j hj).1⟩
  have outer : ∀ (S : Nat) (dl : Nat → Nat) (fl1 : Nat → Int64) (ws1 : va_W), ma_sum dl n = S → ws1[51]? = some ((aa 21), .inl (ay 1, 200, .inr (.inl fl1))) → vg_fr ws ws1 [51] → bf_inv n P (fun i => d i 0) (fun i => d i 1) w a dl → (∀ x, x < n → fl1 x = lN (dl x)) → vg_V D base p l e ({ frames := 3, cells := 0, slots := 0, locals := 74 } : Room) s m args below meth c 10 0 0 (MQ below (va_Qv (fun u => ∃ fl2 : Nat → Int64, u[51]? = some ((aa 21), .inl (ay 1, 200, .inr (.inl fl2))) ∧ (∀ x, x < n → fl2 x = lN (ma_d (ma_T P (fun i => d i 0) (fun i => d i 1) w a x) 1)) ∧ vg_fr ws u [51]) (vg_B D ay base Gx) (vg_A base)) args s 0 0 (vg_A base)) [(0, .ref am), (1, .int (nI j)), (2, .int (nI a)), (3, .int (nI t))] [] ws1 46 := by
    intro S
    induction S using Nat.strongRecOn with
    | ind S ihS =>
      intro dl fl1 ws1 hS h51 hfr hb hfl
      have inner : ∀ (k i : Nat) (o : Int32) (dl2 : Nat → Nat) (fl2 : Nat → Int64) (ws2 : va_W), i + k = P → ws2[51]? = some ((aa 21), .inl (ay 1, 200, .inr (.inl fl2))) → vg_fr ws ws2 [51] → bf_inv n P (fun i => d i 0) (fun i => d i 1) w a dl2 → (∀ x, x < n → fl2 x = lN (dl2 x)) → ((o = 0 ∧ (∀ x, x < n → dl2 x = dl x) ∧ (∀ q, q < i → w q ≠ 0 → dl (d q 1) ≤ dl (d q 0) + w q ∧ dl (d q 0) ≤ dl (d q 1) + w q)) ∨ (o = 1 ∧ ma_sum dl2 n < S)) → vg_V D base p l e ({ frames := 3, cells := 0, slots := 0, locals := 74 } : Room) s m args below meth c 10 0 0 (MQ below (va_Qv (fun u => ∃ fl2 : Nat → Int64, u[51]? = some ((aa 21), .inl (ay 1, 200, .inr (.inl fl2))) ∧ (∀ x, x < n → fl2 x = lN (ma_d (ma_T P (fun i => d i 0) (fun i => d i 1) w a x) 1)) ∧ vg_fr ws u [51]) (vg_B D ay base Gx) (vg_A base)) args s 0 0 (vg_A base)) [(0, .ref am), (1, .int (nI j)), (2, .int (nI a)), (3, .int (nI t)), (4, .int o), (5, .int (nI i))] [] ws2 52 := by
        intro k
        induction k using Nat.strongRecOn with
        | ind k ih =>
          intro i o dl2 fl2 ws2 hk h51 hfr hb2 hfl2 hst
          have e29 : ∀ q, q ≠ 51 → ws2[q]? = ws[q]? := fun q hq => hfr.2 q (by simpa using hq)
          have hO2 : cm_O ws2 am aa th n P U sp := (e29 29 (by decide)).trans hO
          have hD2 : cm_D ay ws2 aa n P U d fr to pe uv := cm_D_fr hD (fun q h1 h2 => e29 q (by omega))
          obtain ⟨f0, f1, f2, f3, f4, f5, f6, f7, f8, f9, f10, f11, f12, f13, f14, f15, h0, h1, h2, h3, h4, h5, h6, h7, h8, h9, h10, h11, h12, h13, h14, h15, hp, hu⟩ := id hD2
          have hO3 := hO2
          unfold cm_O at hO3
          refine vg_iload X dX7_spread_52 5 rfl ?_
          refine vg_aload_n X dX7_spread_54 0 rfl rfl ?_
          refine vg_get X in_X7_spread_X7 29 hO3 rfl 2 (by decide) ml_X7_spread_94 rfl rfl dX7_spread_55 ?_
          refine vg_icmp_ge X 197 dX7_spread_58 (by decide) (fun c58 => ?_) (fun c58 => ?_)
          · have c58 : P ≤ i := (nI_leI (by omega) (by omega)).mp c58
            refine vg_goto X 41 dX7_spread_197 (by decide) ?_
            refine vg_locals [0, 1, 2, 3, 4] rfl ?_
            refine vg_iload X dX7_spread_41 4 rfl ?_
            refine vg_if_eq X 200 dX7_spread_43 (by decide) (fun c43 => ?_) (fun c43 => ?_)
            · obtain ⟨q1, q2, q3⟩ : o = 0 ∧ (∀ x, x < n → dl2 x = dl x) ∧ _ := hst.resolve_right (fun q9 => by rw [q9.1] at c43; exact absurd c43 (by decide))
              have hcl : bf_closed P (fun i => d i 0) (fun i => d i 1) w dl2 := fun q hq hw => by
                have g9 := q3 q (by omega) hw
                show dl2 (d q 1) ≤ dl2 (d q 0) + w q ∧ dl2 (d q 0) ≤ dl2 (d q 1) + w q
                rw [q2 _ (hea q hq), q2 _ (heb q hq)]; exact g9
              exact vg_vret X rfl ⟨fl2, h51, fun x hx => by rw [hfl2 x hx, bf_end hb2 hcl hea heb x hx], hfr⟩ (Nat.le_refl _) (Nat.le_refl _) dX7_spread_200
            · have q1 := hst.resolve_left (fun q9 => c43 q9.1)
              refine vg_locals [0, 1, 2, 3] rfl ?_
              exact ihS (ma_sum dl2 n) q1.2 dl2 fl2 ws2 rfl h51 hfr hb2 hfl2
          · have c58 : ¬ P ≤ i := fun z => c58 ((nI_leI (by omega) (by omega)).mpr z)
            refine vg_aload_n X dX7_spread_61 0 rfl rfl ?_
            refine vg_iload_n X dX7_spread_62 1 rfl rfl ?_
            refine vg_iload X dX7_spread_63 5 rfl ?_
            refine vg_calli (vg_runV X (c_X7_mayGo l hO2 hD2 hR (j := j) (i := i) hj (by omega)) (cwV 2 X.2.2.2.2.1 gX7_spread_X7_mayGo rfl rfl rfl (by decide +kernel) ⟨Nat.le_of_ble_eq_true rfl, Nat.le_of_ble_eq_true rfl⟩) 29 hO3 rfl rfl rfl (Nat.le_of_ble_eq_true rfl) dX7_spread_65 ⟨Nat.zero_le _, Nat.zero_le _⟩) (fun rr3 wz1 PP2 => ?_)
            obtain ⟨hw8, hy9, hn9⟩ := PP2
            rw [hw8]
            refine vg_if_ne X 74 dX7_spread_68 (by decide) (fun c68 => ?_) (fun c68 => ?_)
            · have hok : ps_ok (d i) (uv j) := Classical.byContradiction (fun q9 => c68 (hn9 q9))
              refine vg_aload_n X dX7_spread_74 0 rfl rfl ?_
              refine vg_iload_n X dX7_spread_75 1 rfl rfl ?_
              refine vg_iload X dX7_spread_76 5 rfl ?_
              refine vg_aload_n X dX7_spread_78 0 rfl rfl ?_
              refine vg_get X in_X7_spread_X7 29 hO3 rfl 5 (by decide) ml_X7_spread_16 rfl rfl dX7_spread_79 ?_
              refine vg_iload X dX7_spread_82 5 rfl ?_
              refine vg_iald X (nI (d i 2)) 32 h2 rfl (by omega) (by decide) (hp i (by omega)).2.2.1 dX7_spread_84 ?_
              refine vg_iload_n X dX7_spread_85 3 rfl rfl ?_
              have hrr := (hR.2.2.2.1 i (by omega)).1
              refine vg_calll (vg_runV X (c_X7_takes l hO2 hD2 hR (j := j) (i := i) (mm := d i 2) (t := t) hj (by omega) hrr.2.2.2.1 ht hok.2.1) (cwV 4 X.2.2.2.2.1 gX7_spread_X7_takes rfl rfl rfl (by decide +kernel) ⟨Nat.le_of_ble_eq_true rfl, Nat.le_of_ble_eq_true rfl⟩) 29 hO3 rfl rfl rfl (Nat.le_of_ble_eq_true rfl) dX7_spread_86 ⟨Nat.zero_le _, Nat.zero_le _⟩) (fun rr6 wz4 PP5 => ?_)
              obtain ⟨hw8, hr8⟩ := PP5
              rw [hw8]
              have e8 : rr6 = lN (w i) := by rw [hr8, ew]; exact congrArg lN (ps_w_ok hok).symm
              subst e8
              refine vg_lstore X [(6, .long (lN (w i))), (0, .ref am), (1, .int (nI j)), (2, .int (nI a)), (3, .int (nI t)), (4, .int o), (5, .int (nI i))] dX7_spread_89 (by decide) rfl ?_
              refine vg_aload_n X dX7_spread_91 1 rfl rfl ?_
              refine vg_get X in_X7_spread_X7 29 hO3 rfl 3 (by decide) ml_X7_spread_7 rfl rfl dX7_spread_92 ?_
              refine vg_iload X dX7_spread_95 6 rfl ?_
              refine vg_iald X (nI (d i 0)) 30 h0 rfl (by omega) (by decide) (hp i (by omega)).1 dX7_spread_97 ?_
              refine vg_istore X [(8, .int (nI (d i 0))), (6, .long (lN (w i))), (0, .ref am), (1, .int (nI j)), (2, .int (nI a)), (3, .int (nI t)), (4, .int o), (5, .int (nI i))] dX7_spread_98 (by decide) rfl ?_
              refine vg_aload_n X dX7_spread_100 2 rfl rfl ?_
              refine vg_get X in_X7_spread_X7 29 hO3 rfl 4 (by decide) ml_X7_spread_13 rfl rfl dX7_spread_101 ?_
              refine vg_iload X dX7_spread_104 7 rfl ?_
              refine vg_iald X (nI (d i 1)) 31 h1 rfl (by omega) (by decide) (hp i (by omega)).2.1 dX7_spread_106 ?_
              refine vg_istore X [(9, .int (nI (d i 1))), (8, .int (nI (d i 0))), (6, .long (lN (w i))), (0, .ref am), (1, .int (nI j)), (2, .int (nI a)), (3, .int (nI t)), (4, .int o), (5, .int (nI i))] dX7_spread_107 (by decide) rfl ?_
              refine vg_locals [3, 4, 5, 6, 7, 8, 2, 1, 0] rfl ?_
              obtain ⟨hwi, hwp⟩ := hw9 i (by omega)
              have hwne : w i ≠ 0 := hwp.mpr hok
              have y0 : d i 0 < n := hea i (by omega)
              have y1 : d i 1 < n := heb i (by omega)
              have nxt : ∀ (o3 : Int32) (dl3 : Nat → Nat) (fl3 : Nat → Int64) (ws3 : va_W), ws3[51]? = some ((aa 21), .inl (ay 1, 200, .inr (.inl fl3))) → vg_fr ws ws3 [51] → bf_inv n P (fun i => d i 0) (fun i => d i 1) w a dl3 → (∀ x, x < n → fl3 x = lN (dl3 x)) → ((o3 = 0 ∧ (∀ x, x < n → dl3 x = dl x) ∧ (∀ q, q < (i + 1) → w q ≠ 0 → dl (d q 1) ≤ dl (d q 0) + w q ∧ dl (d q 0) ≤ dl (d q 1) + w q)) ∨ (o3 = 1 ∧ ma_sum dl3 n < S)) → vg_V D base p l e ({ frames := 3, cells := 0, slots := 0, locals := 74 } : Room) s m args below meth c 10 0 0 (MQ below (va_Qv (fun u => ∃ fl2 : Nat → Int64, u[51]? = some ((aa 21), .inl (ay 1, 200, .inr (.inl fl2))) ∧ (∀ x, x < n → fl2 x = lN (ma_d (ma_T P (fun i => d i 0) (fun i => d i 1) w a x) 1)) ∧ vg_fr ws u [51]) (vg_B D ay base Gx) (vg_A base)) args s 0 0 (vg_A base)) [(0, .ref am), (1, .int (nI j)), (2, .int (nI a)), (3, .int (nI t)), (4, .int o3), (5, .int (nI i)), (6, .long (lN (w i))), (8, .int (nI (d i 0))), (9, .int (nI (d i 1)))] [] ws3 191 := by
                intro o3 dl3 fl3 ws3 g51 gfr gb gfl gst
                refine vg_iinc X (v := nI (i + 1)) [(5, .int (nI (i + 1))), (0, .ref am), (1, .int (nI j)), (2, .int (nI a)), (3, .int (nI t)), (4, .int o3), (6, .long (lN (w i))), (8, .int (nI (d i 0))), (9, .int (nI (d i 1)))] dX7_spread_191 5 rfl (by rw [show Int32.ofInt 1 = nI 1 by decide, nI_add]) (by decide) rfl ?_
                refine vg_goto X 52 dX7_spread_194 (by decide) ?_
                refine vg_locals [1, 2, 3, 4, 5, 0] rfl ?_
                exact ih (k - 1) (by omega) (i + 1) o3 dl3 fl3 ws3 (by omega) g51 gfr gb gfl gst
              have sec : ∀ (o3 : Int32) (dl3 : Nat → Nat) (fl3 : Nat → Int64) (ws3 : va_W), ws3[51]? = some ((aa 21), .inl (ay 1, 200, .inr (.inl fl3))) → vg_fr ws ws3 [51] → bf_inv n P (fun i => d i 0) (fun i => d i 1) w a dl3 → (∀ x, x < n → fl3 x = lN (dl3 x)) → ((o3 = 0 ∧ (∀ x, x < n → dl3 x = dl x) ∧ (∀ q, q < i → w q ≠ 0 → dl (d q 1) ≤ dl (d q 0) + w q ∧ dl (d q 0) ≤ dl (d q 1) + w q) ∧ dl (d i 1) ≤ dl (d i 0) + w i) ∨ (o3 = 1 ∧ ma_sum dl3 n < S)) → vg_V D base p l e ({ frames := 3, cells := 0, slots := 0, locals := 74 } : Room) s m args below meth c 10 0 0 (MQ below (va_Qv (fun u => ∃ fl2 : Nat → Int64, u[51]? = some ((aa 21), .inl (ay 1, 200, .inr (.inl fl2))) ∧ (∀ x, x < n → fl2 x = lN (ma_d (ma_T P (fun i => d i 0) (fun i => d i 1) w a x) 1)) ∧ vg_fr ws u [51]) (vg_B D ay base Gx) (vg_A base)) args s 0 0 (vg_A base)) [(0, .ref am), (1, .int (nI j)), (2, .int (nI a)), (3, .int (nI t)), (4, .int o3), (5, .int (nI i)), (6, .long (lN (w i))), (8, .int (nI (d i 0))), (9, .int (nI (d i 1)))] [] ws3 150 := by
                intro o3 dl3 fl3 ws3 g51 gfr gb gfl gst
                have e3 : ws3[29]? = _ := (gfr.2 29 (by decide)).trans hO
                unfold cm_O at hO
                have gx := gb.2.1 _ y0
                have gy := gb.2.1 _ y1
                refine vg_aload_n X dX7_spread_150 0 rfl rfl ?_
                refine vg_get X in_X7_spread_X7 29 ((gfr.2 29 (by decide)).trans hO) rfl 25 (by decide) ml_X7_spread_75 rfl rfl dX7_spread_151 ?_
                refine vg_iload X dX7_spread_154 8 rfl ?_
                refine vg_lald X (lN (dl3 (d i 1))) 51 g51 rfl (by omega) (by decide) (gfl _ y1) dX7_spread_156 ?_
                refine vg_lload X dX7_spread_157 6 rfl ?_
                refine vg_ladd X (lN (dl3 (d i 1) + w i)) dX7_spread_159 (lN_add _ _) ?_
                refine vg_aload_n X dX7_spread_160 0 rfl rfl ?_
                refine vg_get X in_X7_spread_X7 29 ((gfr.2 29 (by decide)).trans hO) rfl 25 (by decide) ml_X7_spread_75 rfl rfl dX7_spread_161 ?_
                refine vg_iload X dX7_spread_164 7 rfl ?_
                refine vg_lald X (lN (dl3 (d i 0))) 51 g51 rfl (by omega) (by decide) (gfl _ y0) dX7_spread_166 ?_
                refine vg_lcmp_ge X 191 dX7_spread_167 dX7_spread_168 (by decide) (fun c167 => ?_) (fun c167 => ?_)
                · have c167 : dl3 (d i 0) ≤ dl3 (d i 1) + w i := (pk_lLE (by omega) (by omega)).mp c167
                  exact nxt o3 dl3 fl3 ws3 g51 gfr gb gfl (gst.imp (fun q9 => ⟨q9.1, q9.2.1, fun q hq hw => by
                    by_cases q8 : q = i
                    · subst q8; have g1 := q9.2.1 _ y0; have g2 := q9.2.1 _ y1; exact ⟨q9.2.2.2, by omega⟩
                    · exact q9.2.2.1 q (by omega) hw⟩) id)
                · have c167 : ¬ dl3 (d i 0) ≤ dl3 (d i 1) + w i := fun z => c167 ((pk_lLE (by omega) (by omega)).mpr z)
                  refine vg_aload_n X dX7_spread_171 0 rfl rfl ?_
                  refine vg_get X in_X7_spread_X7 29 ((gfr.2 29 (by decide)).trans hO) rfl 25 (by decide) ml_X7_spread_75 rfl rfl dX7_spread_172 ?_
                  refine vg_iload X dX7_spread_175 7 rfl ?_
                  refine vg_aload_n X dX7_spread_177 0 rfl rfl ?_
                  refine vg_get X in_X7_spread_X7 29 ((gfr.2 29 (by decide)).trans hO) rfl 25 (by decide) ml_X7_spread_75 rfl rfl dX7_spread_178 ?_
                  refine vg_iload X dX7_spread_181 8 rfl ?_
                  refine vg_lald X (lN (dl3 (d i 1))) 51 g51 rfl (by omega) (by decide) (gfl _ y1) dX7_spread_183 ?_
                  refine vg_lload X dX7_spread_184 6 rfl ?_
                  refine vg_ladd X (lN (dl3 (d i 1) + w i)) dX7_spread_186 (lN_add _ _) ?_
                  refine vg_last X 51 g51 rfl (by omega) (by decide) dX7_spread_187 (fun wz7 ez8 => ?_)
                  have fh9 : wz7[51]? = some ((aa 21), .inl (ay 1, 200, .inr (.inl (vp_updL fl3 (d i 0) (lN (dl3 (d i 1) + w i)))))) := vg_se ez8 g51
                  refine vg_iconst X (nI 1) dX7_spread_188 (by decide) ?_
                  refine vg_istore X [(4, .int (nI 1)), (0, .ref am), (1, .int (nI j)), (2, .int (nI a)), (3, .int (nI t)), (5, .int (nI i)), (6, .long (lN (w i))), (8, .int (nI (d i 0))), (9, .int (nI (d i 1)))] dX7_spread_189 (by decide) rfl ?_
                  refine vg_locals [1, 2, 3, 4, 0, 5, 6, 7, 8] rfl ?_
                  have hdd : ∀ x, x < n → va_up dl3 (d i 0) (dl3 (d i 1) + w i) x = if x = d i 0 then dl3 (d i 1) + w i else dl3 x := fun x _ => rfl
                  have hsm := ma_sum_upd (f := va_up dl3 (d i 0) (dl3 (d i 1) + w i)) (g := dl3) (n := n) y0 (fun q _ hne => va_up_ne _ _ hne)
                  rw [va_up_self] at hsm
                  have hS3 : ma_sum dl3 n ≤ S := by
                    rcases gst with q9 | q9
                    · rw [ma_sum_congr q9.2.1, hS]; exact Nat.le_refl _
                    · omega
                  refine nxt _ (va_up dl3 (d i 0) (dl3 (d i 1) + w i)) _ _ fh9 (vg_fr_set gfr ez8 (by decide)) (bf_step gb (i := i) (x := d i 1) (y := d i 0) (by omega) hwne (Or.inr ⟨rfl, rfl⟩) y1 y0 (by omega) hdd ha) (fun x hx => ?_) (Or.inr ⟨by decide, by omega⟩)
                  by_cases q9 : x = d i 0
                  · subst q9; rw [pk_uLs, va_up_self]
                  · rw [pk_uLn q9, va_up_ne _ _ q9]; exact gfl x hx
              have gx := hb2.2.1 _ y0
              have gy := hb2.2.1 _ y1
              refine vg_aload_n X dX7_spread_109 0 rfl rfl ?_
              refine vg_get X in_X7_spread_X7 29 hO3 rfl 25 (by decide) ml_X7_spread_75 rfl rfl dX7_spread_110 ?_
              refine vg_iload X dX7_spread_113 7 rfl ?_
              refine vg_lald X (lN (dl2 (d i 0))) 51 h51 rfl (by omega) (by decide) (hfl2 _ y0) dX7_spread_115 ?_
              refine vg_lload X dX7_spread_116 6 rfl ?_
              refine vg_ladd X (lN (dl2 (d i 0) + w i)) dX7_spread_118 (lN_add _ _) ?_
              refine vg_aload_n X dX7_spread_119 0 rfl rfl ?_
              refine vg_get X in_X7_spread_X7 29 hO3 rfl 25 (by decide) ml_X7_spread_75 rfl rfl dX7_spread_120 ?_
              refine vg_iload X dX7_spread_123 8 rfl ?_
              refine vg_lald X (lN (dl2 (d i 1))) 51 h51 rfl (by omega) (by decide) (hfl2 _ y1) dX7_spread_125 ?_
              refine vg_lcmp_ge X 150 dX7_spread_126 dX7_spread_127 (by decide) (fun c126 => ?_) (fun c126 => ?_)
              · have c126 : dl2 (d i 1) ≤ dl2 (d i 0) + w i := (pk_lLE (by omega) (by omega)).mp c126
                skip
                exact sec o dl2 fl2 ws2 h51 hfr hb2 hfl2 (hst.imp (fun q9 => ⟨q9.1, q9.2.1, q9.2.2, by have g1 := q9.2.1 _ y0; have g2 := q9.2.1 _ y1; omega⟩) id)
              · have c126 : ¬ dl2 (d i 1) ≤ dl2 (d i 0) + w i := fun z => c126 ((pk_lLE (by omega) (by omega)).mpr z)
                skip
                refine vg_aload_n X dX7_spread_130 0 rfl rfl ?_
                refine vg_get X in_X7_spread_X7 29 hO3 rfl 25 (by decide) ml_X7_spread_75 rfl rfl dX7_spread_131 ?_
                refine vg_iload X dX7_spread_134 8 rfl ?_
                refine vg_aload_n X dX7_spread_136 0 rfl rfl ?_
                refine vg_get X in_X7_spread_X7 29 hO3 rfl 25 (by decide) ml_X7_spread_75 rfl rfl dX7_spread_137 ?_
                refine vg_iload X dX7_spread_140 7 rfl ?_
                refine vg_lald X (lN (dl2 (d i 0))) 51 h51 rfl (by omega) (by decide) (hfl2 _ y0) dX7_spread_142 ?_
                refine vg_lload X dX7_spread_143 6 rfl ?_
                refine vg_ladd X (lN (dl2 (d i 0) + w i)) dX7_spread_145 (lN_add _ _) ?_
                refine vg_last X 51 h51 rfl (by omega) (by decide) dX7_spread_146 (fun wz10 ez11 => ?_)
                have fh12 : wz10[51]? = some ((aa 21), .inl (ay 1, 200, .inr (.inl (vp_updL fl2 (d i 1) (lN (dl2 (d i 0) + w i)))))) := vg_se ez11 h51
                refine vg_iconst X (nI 1) dX7_spread_147 (by decide) ?_
                refine vg_istore X [(4, .int (nI 1)), (0, .ref am), (1, .int (nI j)), (2, .int (nI a)), (3, .int (nI t)), (5, .int (nI i)), (6, .long (lN (w i))), (8, .int (nI (d i 0))), (9, .int (nI (d i 1)))] dX7_spread_148 (by decide) rfl ?_
                refine vg_locals [1, 2, 3, 4, 0, 5, 6, 7, 8] rfl ?_
                have hdd : ∀ x, x < n → va_up dl2 (d i 1) (dl2 (d i 0) + w i) x = if x = d i 1 then dl2 (d i 0) + w i else dl2 x := fun x _ => rfl
                have hsm := ma_sum_upd (f := va_up dl2 (d i 1) (dl2 (d i 0) + w i)) (g := dl2) (n := n) y1 (fun q _ hne => va_up_ne _ _ hne)
                rw [va_up_self] at hsm
                have hS3 : ma_sum dl2 n ≤ S := by
                  rcases hst with q9 | q9
                  · rw [ma_sum_congr q9.2.1, hS]; exact Nat.le_refl _
                  · omega
                refine sec _ (va_up dl2 (d i 1) (dl2 (d i 0) + w i)) _ _ fh12 (vg_fr_set hfr ez11 (by decide)) (bf_step hb2 (i := i) (x := d i 0) (y := d i 1) (by omega) hwne (Or.inl ⟨rfl, rfl⟩) y0 y1 (by omega) hdd ha) (fun x hx => ?_) (Or.inr ⟨by decide, by omega⟩)
                by_cases q9 : x = d i 1
                · subst q9; rw [pk_uLs, va_up_self]
                · rw [pk_uLn q9, va_up_ne _ _ q9]; exact hfl2 x hx
            · have hok : ¬ ps_ok (d i) (uv j) := fun q9 => by have := hy9 q9; rw [c68] at this; exact absurd this (by decide)
              refine vg_goto X 191 dX7_spread_71 (by decide) ?_
              refine vg_iinc X (v := nI (i + 1)) [(5, .int (nI (i + 1))), (0, .ref am), (1, .int (nI j)), (2, .int (nI a)), (3, .int (nI t)), (4, .int o)] dX7_spread_191 5 rfl (by rw [show Int32.ofInt 1 = nI 1 by decide, nI_add]) (by decide) rfl ?_
              refine vg_goto X 52 dX7_spread_194 (by decide) ?_
              refine vg_locals [1, 2, 3, 4, 5, 0] rfl ?_
              refine ih (k - 1) (by omega) (i + 1) o dl2 fl2 ws2 (by omega) h51 hfr hb2 hfl2 (hst.imp (fun q9 => ⟨q9.1, q9.2.1, fun q hq hw => ?_⟩) id)
              by_cases q8 : q = i
              · subst q8; exact absurd ((hw9 q (by omega)).2.mp hw) hok
              · exact q9.2.2 q (by omega) hw
      refine vg_iconst X (nI 0) dX7_spread_46 (by decide) ?_
      refine vg_istore X [(4, .int (nI 0)), (0, .ref am), (1, .int (nI j)), (2, .int (nI a)), (3, .int (nI t))] dX7_spread_47 (by decide) rfl ?_
      refine vg_iconst X (nI 0) dX7_spread_49 (by decide) ?_
      refine vg_istore X [(5, .int (nI 0)), (4, .int (nI 0)), (0, .ref am), (1, .int (nI j)), (2, .int (nI a)), (3, .int (nI t))] dX7_spread_50 (by decide) rfl ?_
      refine vg_locals [2, 3, 4, 5, 1, 0] rfl ?_
      exact inner P 0 _ dl fl1 ws1 (by omega) h51 hfr hb hfl (Or.inl ⟨by decide, fun _ _ => rfl, fun q hq => absurd hq (by omega)⟩)
  have fill : ∀ (k x : Nat) (fl1 : Nat → Int64) (ws1 : va_W), x + k = n → ws1[51]? = some ((aa 21), .inl (ay 1, 200, .inr (.inl fl1))) → vg_fr ws ws1 [51] → (∀ q, q < x → fl1 q = lN (if q = a then 0 else ma_B)) → vg_V D base p l e ({ frames := 3, cells := 0, slots := 0, locals := 74 } : Room) s m args below meth c 10 0 0 (MQ below (va_Qv (fun u => ∃ fl2 : Nat → Int64, u[51]? = some ((aa 21), .inl (ay 1, 200, .inr (.inl fl2))) ∧ (∀ x, x < n → fl2 x = lN (ma_d (ma_T P (fun i => d i 0) (fun i => d i 1) w a x) 1)) ∧ vg_fr ws u [51]) (vg_B D ay base Gx) (vg_A base)) args s 0 0 (vg_A base)) [(0, .ref am), (1, .int (nI j)), (2, .int (nI a)), (3, .int (nI t)), (4, .int (nI x))] [] ws1 3 := by
    intro k
    induction k using Nat.strongRecOn with
    | ind k ih =>
      intro x fl1 ws1 hk h51 hfr hfl
      have hO1 : ws1[29]? = _ := (hfr.2 29 (by decide)).trans hO
      refine vg_iload X dX7_spread_3 4 rfl ?_
      refine vg_aload_n X dX7_spread_5 0 rfl rfl ?_
      refine vg_get X in_X7_spread_X7 29 hO1 rfl 1 (by decide) ml_X7_spread_91 rfl rfl dX7_spread_6 ?_
      refine vg_icmp_ge X 38 dX7_spread_9 (by decide) (fun c9 => ?_) (fun c9 => ?_)
      · have c9 : n ≤ x := (nI_leI (by omega) (by omega)).mp c9
        refine vg_locals [0, 1, 2, 3] rfl ?_
        refine vg_iconst X (nI 1) dX7_spread_38 (by decide) ?_
        refine vg_istore X [(4, .int (nI 1)), (0, .ref am), (1, .int (nI j)), (2, .int (nI a)), (3, .int (nI t))] dX7_spread_39 (by decide) rfl ?_
        refine vg_iload X dX7_spread_41 0 rfl ?_
        refine vg_if_eq X 200 dX7_spread_43 (by decide) (fun c43 => absurd c43 (by decide)) (fun c43 => ?_)
        refine vg_locals [1, 2, 3, 4] rfl ?_
        exact outer _ (fun q => if q = a then 0 else ma_B) fl1 ws1 rfl h51 hfr (bf_start (fun _ _ => rfl) ha) (fun q hq => hfl q (by omega))
      · have c9 : ¬ n ≤ x := fun z => c9 ((nI_leI (by omega) (by omega)).mpr z)
        refine vg_aload_n X dX7_spread_12 0 rfl rfl ?_
        refine vg_get X in_X7_spread_X7 29 hO1 rfl 25 (by decide) ml_X7_spread_75 rfl rfl dX7_spread_13 ?_
        refine vg_iload X dX7_spread_16 4 rfl ?_
        refine vg_iload X dX7_spread_18 4 rfl ?_
        refine vg_iload_n X dX7_spread_20 2 rfl rfl ?_
        refine vg_icmp_ne X 28 dX7_spread_21 (by decide) (fun c21 => ?_) (fun c21 => ?_)
        · have c21 : ¬ x = a := fun z => c21 ((nI_eq (by omega) (by omega)).mpr z)
          skip
          refine vg_ldc2 X (lN ma_B) dX7_spread_28 mk_X7_spread_113 ?_
          refine vg_last X 51 h51 rfl (by omega) (by decide) dX7_spread_31 (fun wz13 ez14 => ?_)
          have fh15 : wz13[51]? = some ((aa 21), .inl (ay 1, 200, .inr (.inl (vp_updL fl1 x (lN ma_B))))) := vg_se ez14 h51
          refine vg_iinc X (v := nI (x + 1)) [(4, .int (nI (x + 1))), (0, .ref am), (1, .int (nI j)), (2, .int (nI a)), (3, .int (nI t))] dX7_spread_32 4 rfl (by rw [show Int32.ofInt 1 = nI 1 by decide, nI_add]) (by decide) rfl ?_
          refine vg_goto X 3 dX7_spread_35 (by decide) ?_
          refine vg_locals [1, 2, 3, 4, 0] rfl ?_
          refine ih (k - 1) (by omega) (x + 1) _ _ (by omega) fh15 (vg_fr_set hfr ez14 (by decide)) (fun q hq => ?_)
          by_cases q9 : q = x
          · subst q9; rw [pk_uLs, if_neg c21]
          · rw [pk_uLn q9]; exact hfl q (by omega)
        · have c21 : x = a := (nI_eq (by omega) (by omega)).mp c21
          skip
          refine vg_lconst X (lN 0) dX7_spread_24 (by decide) ?_
          refine vg_goto X 31 dX7_spread_25 (by decide) ?_
          refine vg_last X 51 h51 rfl (by omega) (by decide) dX7_spread_31 (fun wz16 ez17 => ?_)
          have fh18 : wz16[51]? = some ((aa 21), .inl (ay 1, 200, .inr (.inl (vp_updL fl1 x (lN 0))))) := vg_se ez17 h51
          refine vg_iinc X (v := nI (x + 1)) [(4, .int (nI (x + 1))), (0, .ref am), (1, .int (nI j)), (2, .int (nI a)), (3, .int (nI t))] dX7_spread_32 4 rfl (by rw [show Int32.ofInt 1 = nI 1 by decide, nI_add]) (by decide) rfl ?_
          refine vg_goto X 3 dX7_spread_35 (by decide) ?_
          refine vg_locals [1, 2, 3, 4, 0] rfl ?_
          refine ih (k - 1) (by omega) (x + 1) _ _ (by omega) fh18 (vg_fr_set hfr ez17 (by decide)) (fun q hq => ?_)
          by_cases q9 : q = x
          · subst q9; rw [pk_uLs, if_pos c21]
          · rw [pk_uLn q9]; exact hfl q (by omega)
  refine vg_iconst X (nI 0) dX7_spread_0 (by decide) ?_
  refine vg_istore X [(4, .int (nI 0)), (0, .ref am), (1, .int (nI j)), (2, .int (nI a)), (3, .int (nI t))] dX7_spread_1 (by decide) rfl ?_
  refine vg_locals [1, 2, 3, 4, 0] rfl ?_
  exact fill n 0 fl ws (by omega) hL (vg_fr_rf ws _) (fun q hq => absurd hq (by omega))
