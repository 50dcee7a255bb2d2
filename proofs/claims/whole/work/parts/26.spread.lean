/-- the search at rest: its cells, nobody waiting -/
def cs_I (ay : Nat → ClassId) (ws : va_W) (asr aN : Nat) : Prop :=
  ∃ (aq aC aW aK aT : Nat) (k0 : Int32) (fc fw : Nat → Int64) (fk ft : Nat → Int32) (hn : Nat → Nat) (pl : Nat → Int32) (key : Nat → Nat), ws[6]? = some (asr, .inr (6, [.ref aN, .ref aq, .ref aC, .ref aW, .ref aK, .ref aT, .int k0])) ∧ ws[11]? = some (aC, .inl (ay 1, 150, .inr (.inl fc))) ∧ ws[12]? = some (aW, .inl (ay 1, 1200, .inr (.inl fw))) ∧ ws[13]? = some (aK, .inl (ay 0, 200, .inl fk)) ∧ ws[14]? = some (aT, .inl (ay 0, 200, .inl ft)) ∧ cq_St ay ws aq hn pl key 0
theorem cs_R_I {ay : Nat → ClassId} {ws : va_W} {asr aN k n : Nat} {kn st : Nat → Nat} {wk : Nat → Nat → Nat} {hn : Nat → Nat} {pl : Nat → Int32} {key : Nat → Nat} {P WM : Nat} {w : Nat → Nat} (h : cs_R ay ws asr aN k n kn st wk hn pl key 0) (hc : cs_C ay ws asr P WM w) : cs_I ay ws asr aN := by
  obtain ⟨aq, aC, aW, aK, aT, fw, fk, ft, h6, h12, h13, h14, hQ, _⟩ := h
  obtain ⟨x0, x1, x2, x3, x4, x5, kk, fc, g6, h11, _⟩ := hc
  cases h6.symm.trans g6
  exact ⟨aq, aC, aW, aK, aT, nI k, fc, fw, fk, ft, hn, pl, key, h6, h11, h12, h13, h14, hQ⟩
theorem cq_none {ay : Nat → ClassId} {ws : va_W} {aq : Nat} {hn : Nat → Nat} {pl : Nat → Int32} {key : Nat → Nat} {sz : Nat} (h : cq_St ay ws aq hn pl key sz) (h0 : sz = 0) : ∀ v, v < 200 → pl v = -1 := by
  obtain ⟨_, _, _, _, _, _, _, _, _, hok, _⟩ := h
  intro v hv
  rcases hok.2.2.1 v hv with z | ⟨i, hi, _⟩
  · exact z
  · omega
theorem cq_empty {ay : Nat → ClassId} {ws : va_W} {aq : Nat} {hn : Nat → Nat} {pl : Nat → Int32} {key : Nat → Nat} {sz : Nat} (h : cq_St ay ws aq hn pl key sz) (h0 : ∀ v, v < 200 → pl v = -1) : sz = 0 := by
  obtain ⟨_, _, _, _, _, _, _, _, _, hok, _⟩ := h
  rcases Nat.eq_zero_or_pos sz with z | z
  · exact z
  · have g := hok.2.1 0 z
    rw [h0 _ g.1] at g
    exact absurd g.2.symm (hq_nm1 (by omega))
/-- the first k walks to each node, told by their seconds -/
def cs_res (n k : Nat) (kn : Nat → Nat) (wk : Nat → Nat → Nat) (T : Nat → Nat → Nat) : Prop := ∀ v, v < n → kn v ≤ k ∧ ∀ i, 1 ≤ i → i ≤ k → (i ≤ kn v → ma_d (T v) i = wk v (i - 1) ∧ wk v (i - 1) < 2 ^ 59) ∧ (¬ i ≤ kn v → ma_d (T v) i = ma_B)
theorem cs_res_of {n P k : Nat} {ea eb w : Nat → Nat} {a : Nat} {kn st : Nat → Nat} {wk Of : Nat → Nat → Nat} {L U : Nat} (h : dj_inv n k kn st wk Of L U) (hea : ∀ i, i < P → ea i < n) (heb : ∀ i, i < P → eb i < n) (hall : ∀ v, v < n → ¬ st v < kn v) (hO : ∀ v c, v < n → Of v c = ma_in P ea eb w a (fun u d => ma_cnt (wk u) (st u) d) v c) (hU : U < 2 ^ 59) : cs_res n k kn wk (ma_T P ea eb w a) := by
  have he := dj_end h hea heb (fun v hv => by have := h.1 v hv; have := hall v hv; omega) hO
  intro v hv
  refine ⟨(h.1 v hv).2, fun i h1 h2 => ?_⟩
  have hx : ∀ j, j < kn v → wk v j ≤ ma_B := fun j hj => by have := h.2.2.2.2 v hv j hj; unfold ma_B; omega
  have hd := ma_nth (F := ma_T P ea eb w a v) (x := wk v) (m := kn v) (k := k) h1 h2 (h.2.1 v hv) (fun c _ => he v c hv) hx
  refine ⟨fun q => ?_, fun q => ?_⟩
  · rw [if_pos q] at hd
    exact ⟨hd, by have := h.2.2.2.2 v hv (i - 1) (by omega); omega⟩
  · rw [if_neg q] at hd; exact hd
theorem in_X3_spread_X3 : ∀ w ∈ u_ws RX3 TX3 7, w ∈ wsX3_spread := by decide +kernel
theorem ml_X3_spread_12 : Cond.fieldLink RX3 12 "WayTimes$Search" "queue" "LWayTimes$NodeQueue;" ∈ wsX3_spread := by decide +kernel
theorem ml_X3_spread_36 : Cond.fieldLink RX3 36 "WayTimes$Search" "wanted" "I" ∈ wsX3_spread := by decide +kernel
theorem ml_X3_spread_25 : Cond.fieldLink RX3 25 "WayTimes$Search" "known" "[I" ∈ wsX3_spread := by decide +kernel
theorem ml_X3_spread_29 : Cond.fieldLink RX3 29 "WayTimes$Search" "settled" "[I" ∈ wsX3_spread := by decide +kernel
theorem ml_X3_spread_32 : Cond.fieldLink RX3 32 "WayTimes$Search" "net" "LWayTimes$Net;" ∈ wsX3_spread := by decide +kernel
theorem in_X3_spread_X0 : ∀ w ∈ u_ws RX0 TX0 5, w ∈ wsX3_spread := by decide +kernel
theorem ml_X3_spread_54 : Cond.fieldLink RX3 54 "WayTimes$Net" "nodes" "I" ∈ wsX3_spread := by decide +kernel
set_option maxHeartbeats 4000000 in
set_option maxRecDepth 100000 in
/-- spread(start, unit, t, k): the first k walks from start to all nodes -/
theorem c_X3_spread (l : Launch) {D : va_G} {ay : Nat → ClassId} {base : Nat} {Gx : State → Prop} {ws : va_W} {asr aN n tE P : Nat} {el qp : Nat → Nat} {d fr to pe : Nat → Nat → Nat} {qu au t start k : Nat} {v : Nat → Nat} (hI : cs_I ay ws asr aN) (hN : cn_N ay ws aN tE n P el qp d fr to pe) (hu : cu_P ws qu au v) (hqu : 56 ≤ qu) (hv : cu_R v) (ht : t < 2 ^ 31) (hst : start < n) (hk : 1 ≤ k ∧ k ≤ 6) : Met l yX3_spread wsX3_spread ({ frames := 4, cells := 0, slots := 0, locals := 109 } : Room) (va_Pc [.ref asr, .int (nI start), .ref au, .int (nI t), .int (nI k)] (vg_B D ay base Gx ws)) (va_Qv (fun u => ∃ (kn st : Nat → Nat) (wk : Nat → Nat → Nat) (hn : Nat → Nat) (pl : Nat → Int32) (key : Nat → Nat), cs_R ay u asr aN k n kn st wk hn pl key 0 ∧ cs_C ay u asr P 432000000 (fun i => ps_w (d i) (fr i) (to i) (pe i) v t) ∧ cs_res n k kn wk (ma_T P (fun i => d i 0) (fun i => d i 1) (fun i => ps_w (d i) (fr i) (to i) (pe i) v t) start) ∧ vg_fr ws u [6, 7, 8, 9, 10, 11, 12, 13, 14]) (vg_B D ay base Gx) (vg_A base)) 0 0 (vg_A base) := by
  refine vg_met (cc := cX3_spread) (maxL := 7) (ret := none) (own := RX3) (lv := [(0, .ref asr), (1, .int (nI start)), (2, .ref au), (3, .int (nI t)), (4, .int (nI k))]) (by decide) rfl rfl (Nat.le_of_ble_eq_true rfl) rfl ?_
  intro p e s m args below meth c X hinit
  obtain ⟨aq, aC, aW, aK, aT, k0, fc, fw, fk, ft, hn0, pl0, key0, h6, h11, h12, h13, h14, hQ⟩ := hI
  obtain ⟨aP, aU, aH, aO, fh, fo, n1, nL2, n4, n5, np, nn, nP, nh, no⟩ := id hN
  obtain ⟨w, ew⟩ : ∃ z : Nat → Nat, z = (fun i => ps_w (d i) (fr i) (to i) (pe i) v t) := ⟨_, rfl⟩
  rw [← ew]
  have hea : ∀ i, i < P → (fun i => d i 0) i < n := fun i hi => (np i hi).2.2.2.1
  have heb : ∀ i, i < P → (fun i => d i 1) i < n := fun i hi => (np i hi).2.2.2.2.1
  have loop : ∀ (left : Nat) (ws1 : va_W) (kn st : Nat → Nat) (wk : Nat → Nat → Nat) (hn : Nat → Nat) (pl : Nat → Int32) (key : Nat → Nat) (sz : Nat) (Of : Nat → Nat → Nat) (L : Nat), left + ma_sum st n = n * k → cs_R ay ws1 asr aN k n kn st wk hn pl key sz → cs_C ay ws1 asr P 432000000 w → dj_inv n k kn st wk Of L (ma_sum st n * 432000000) → cs_sync n kn st wk pl key → (∀ v y, v < n → Of v y = ma_in P (fun i => d i 0) (fun i => d i 1) w start (fun u z => ma_cnt (wk u) (st u) z) v y) → vg_fr ws ws1 [6, 7, 8, 9, 10, 11, 12, 13, 14] → vg_V D base p l e ({ frames := 4, cells := 0, slots := 0, locals := 109 } : Room) s m args below meth c 7 0 0 (MQ below (va_Qv (fun u => ∃ (kn st : Nat → Nat) (wk : Nat → Nat → Nat) (hn : Nat → Nat) (pl : Nat → Int32) (key : Nat → Nat), cs_R ay u asr aN k n kn st wk hn pl key 0 ∧ cs_C ay u asr P 432000000 w ∧ cs_res n k kn wk (ma_T P (fun i => d i 0) (fun i => d i 1) w start) ∧ vg_fr ws u [6, 7, 8, 9, 10, 11, 12, 13, 14]) (vg_B D ay base Gx) (vg_A base)) args s 0 0 (vg_A base)) [(0, .ref asr), (5, .int (nI left))] [] ws1 48 := by
    intro left
    induction left using Nat.strongRecOn with
    | ind left ih =>
      intro ws1 kn st wk hn pl key sz Of L hleft hR hC hJ hY hO hfr
      have nk : n * k ≤ 200 * 6 := Nat.mul_le_mul nn hk.2
      have f60 : ∀ j, 56 ≤ j → ws1[j]? = ws[j]? := fun j hj => hfr.2 j (by simp only [List.mem_cons, List.not_mem_nil, or_false]; omega)
      have hN1 : cn_N ay ws1 aN tE n P el qp d fr to pe := cn_N_fr hN (hfr.2 1 (by decide)) (hfr.2 2 (by decide)) (hfr.2 4 (by decide)) (hfr.2 5 (by decide)) f60
      obtain ⟨aq1, aC1, aW1, aK1, aT1, fw1, fk1, ft1, m6, m12, m13, m14, hQ1, hkt1, hwk1⟩ := id hR
      obtain ⟨ah, ap, asx, hp, qs, g7, g8⟩ := id hQ1
      refine vg_iload X dX3_spread_48 1 rfl ?_
      refine vg_if_le X 81 dX3_spread_50 (by decide) (fun c50 => ?_) (fun c50 => ?_)
      · have c50 : left ≤ 0 := (vg_le0 (by omega)).mp c50
        have q6 := ma_sum_full (f := st) (k := k) (n := n) (fun i hi => by have := hJ.1 i hi; omega) (by omega)
        have q7 : ∀ v, v < n → ¬ st v < kn v := fun v hv => by have := hJ.1 v hv; have := q6 v hv; omega
        have q8 : sz = 0 := cq_empty hQ1 (fun v hv => by
          rcases Nat.lt_or_ge v n with q9 | q9
          · exact (hY.2 v q9).1.mpr (q7 v q9)
          · exact hY.1 v hv q9)
        exact vg_vret X rfl ⟨kn, st, wk, hn, pl, key, by rw [← q8]; exact hR, hC, cs_res_of hJ hea heb q7 hO (by omega), hfr⟩ (Nat.le_refl _) (Nat.le_refl _) dX3_spread_81
      · have c50 : ¬ left ≤ 0 := fun z => c50 ((vg_le0 (by omega)).mpr z)
        skip
        refine vg_aload_n X dX3_spread_53 0 rfl rfl ?_
        refine vg_get X in_X3_spread_X3 6 m6 rfl 1 (by decide) ml_X3_spread_12 rfl rfl dX3_spread_54 ?_
        refine vg_calli (vg_runV X (c_X1_takeLeast l hQ1) (cwV 0 X.2.2.2.2.1 gX3_spread_X1_takeLeast rfl rfl rfl (by decide +kernel) ⟨Nat.le_of_ble_eq_true rfl, Nat.le_of_ble_eq_true rfl⟩) 7 g7 rfl rfl rfl (Nat.le_of_ble_eq_true rfl) dX3_spread_57 ⟨Nat.zero_le _, Nat.zero_le _⟩) (fun rr3 wz1 PP2 => ?_)
        rcases PP2 with ⟨q8, rfl, hw9⟩ | ⟨q8, nd, hn2, pl2, rfl, q1, q2, q3, q4, q5, q6⟩
        · rw [hw9]
          refine vg_istore X [(6, .int (-1)), (0, .ref asr), (5, .int (nI left))] dX3_spread_60 (by decide) rfl ?_
          refine vg_iload X dX3_spread_62 0 rfl ?_
          refine vg_iconst X (-1) dX3_spread_64 (by decide) ?_
          refine vg_icmp_ne X 69 dX3_spread_65 (by decide) (fun c65 => ?_) (fun c65 => ?_)
          · exact absurd rfl c65
          · skip
            have q7 : ∀ v, v < n → ¬ st v < kn v := fun v hv => (hY.2 v hv).1.mp (cq_none hQ1 q8 v (by omega))
            exact vg_vret X rfl ⟨kn, st, wk, hn, pl, key, by rw [← q8]; exact hR, hC, cs_res_of hJ hea heb q7 hO (by omega), hfr⟩ (Nat.le_refl _) (Nat.le_refl _) dX3_spread_68
        · skip
          refine vg_istore X [(6, .int (nI nd)), (0, .ref asr), (5, .int (nI left))] dX3_spread_60 (by decide) rfl ?_
          refine vg_iload X dX3_spread_62 0 rfl ?_
          refine vg_iconst X (-1) dX3_spread_64 (by decide) ?_
          refine vg_icmp_ne X 69 dX3_spread_65 (by decide) (fun c65 => ?_) (fun c65 => ?_)
          · skip
            refine vg_aload_n X dX3_spread_69 1 rfl rfl ?_
            refine vg_iload X dX3_spread_70 0 rfl ?_
            have nd1 : nd < n := by
              rcases Nat.lt_or_ge nd n with q9 | q9
              · exact q9
              · exact absurd (hY.1 nd q1 q9) q2
            have nd2 : st nd < kn nd := Classical.byContradiction (fun q9 => q2 ((hY.2 nd nd1).1.mpr q9))
            have nd3 : ∀ v, v < n → st v < kn v → wk nd (st nd) ≤ wk v (st v) := fun v hv hs9 => by
              have g1 := q3 v (by omega) (fun z => (hY.2 v hv).1.mp z hs9)
              rw [(hY.2 nd nd1).2 nd2, (hY.2 v hv).2 hs9] at g1; exact g1
            have hR2 : cs_R ay wz1 asr aN k n kn st wk hn2 pl2 key (sz - 1) := ⟨aq1, aC1, aW1, aK1, aT1, fw1, fk1, ft1, (q6.2 6 (by decide)).trans m6, (q6.2 12 (by decide)).trans m12, (q6.2 13 (by decide)).trans m13, (q6.2 14 (by decide)).trans m14, q4, hkt1, hwk1⟩
            have hC2 : cs_C ay wz1 asr P 432000000 w := cs_C_fr hC (q6.2 6 (by decide)) (q6.2 11 (by decide))
            have hN2 : cn_N ay wz1 aN tE n P el qp d fr to pe := cn_N_fr hN1 (q6.2 1 (by decide)) (q6.2 2 (by decide)) (q6.2 4 (by decide)) (q6.2 5 (by decide)) (fun j hj => q6.2 j (by simp only [List.mem_cons, List.not_mem_nil, or_false]; omega))
            have hsum : ma_sum (va_up st nd (st nd + 1)) n = ma_sum st n + 1 := by
              have := ma_sum_upd (f := va_up st nd (st nd + 1)) (g := st) (n := n) nd1 (fun i _ hne => va_up_ne _ _ hne)
              rw [va_up_self] at this; omega
            refine vg_callv (vg_runV X (c_X3_settle l hR2 nn hk hC2 hN2 hJ (fun v hv hvn => ⟨fun q9 => (q5 v hv).mpr (Or.inl (hY.1 v hv q9)), fun q9 => ⟨by rw [q5 v hv, (hY.2 v q9).1]; exact ⟨fun z => z.resolve_right hvn, Or.inl⟩, (hY.2 v q9).2⟩⟩) ((q5 nd q1).mpr (Or.inr rfl)) nd1 nd2 nd3 (by omega)) (cwV 1 X.2.2.2.2.1 gX3_spread_X3_settle rfl rfl rfl (by decide +kernel) ⟨Nat.le_of_ble_eq_true rfl, Nat.le_of_ble_eq_true rfl⟩) 6 ((q6.2 6 (by decide)).trans m6) rfl rfl rfl (Nat.le_of_ble_eq_true rfl) dX3_spread_72 ⟨Nat.zero_le _, Nat.zero_le _⟩) (fun wz4 PP5 => ?_)
            obtain ⟨kn2, wk2, hn3, pl3, key3, sz3, v1, v2, v3, v4, v5⟩ := PP5
            refine vg_iinc X (v := nI (left - 1)) [(5, .int (nI (left - 1))), (6, .int (nI nd)), (0, .ref asr)] dX3_spread_75 2 rfl (by rw [show Int32.ofInt (-1) = -nI 1 by decide, ← Int32.sub_eq_add_neg, pk_sub (by omega)]) (by decide) rfl ?_
            refine vg_goto X 48 dX3_spread_78 (by decide) ?_
            refine vg_locals [2, 0] rfl ?_
            refine ih (left - 1) (by omega) wz4 kn2 _ wk2 hn3 pl3 key3 sz3 _ _ (by rw [hsum]; omega) v1 (cs_C_fr hC2 (v5.2 6 (by decide)) (v5.2 11 (by decide))) (by rw [hsum, Nat.succ_mul]; exact v2) v3 (fun x y hx => ?_) (vg_fr_trd (vg_fr_trd (L := [6, 7, 8, 9, 10, 11, 12, 13, 14]) hfr q6 (by decide)) v5 (by decide))
            rw [hO x y hx, ← dj_all (fun _ _ => rfl)]
            refine ma_in_congr fun i hi _ _ => ?_
            have key9 : ∀ u, u < n → ∀ z, ma_cnt (wk u) (st u) z + (if u = nd ∧ wk nd (st nd) ≤ z then 1 else 0) = ma_cnt (wk2 u) (va_up st nd (st nd + 1) u) z := fun u hu z => by
              rw [ma_cnt_congr (v4 u hu)]
              by_cases q9 : u = nd
              · subst q9; rw [va_up_self, ma_cnt_succ]; simp only [true_and]
              · rw [va_up_ne _ _ q9, if_neg (fun z => q9 z.1)]; rfl
            exact ⟨key9 _ (hea i hi) _, key9 _ (heb i hi) _⟩
          · exact absurd c65 (hq_nm1 (by omega))
  refine vg_aload_n X dX3_spread_0 0 rfl rfl ?_
  refine vg_iload X dX3_spread_1 4 rfl ?_
  refine vg_put X in_X3_spread_X3 tyX3 tyX3_ok nmX3 6 h6 rfl 6 (by decide) ml_X3_spread_36 rfl rfl rfl rfl (Nat.le_of_ble_eq_true rfl) dX3_spread_3 (fun wz7 ez8 => ?_)
  have fh9 : wz7[6]? = some (asr, .inr (6, [.ref aN, .ref aq, .ref aC, .ref aW, .ref aK, .ref aT, .int (nI k)])) := vg_se ez8 h6
  refine vg_aload_n X dX3_spread_6 0 rfl rfl ?_
  refine vg_get X in_X3_spread_X3 6 fh9 rfl 4 (by decide) ml_X3_spread_25 rfl rfl dX3_spread_7 ?_
  refine vg_iconst X (nI 0) dX3_spread_10 (by decide) ?_
  have fh10 : wz7[13]? = some (aK, .inl (ay 0, 200, .inl fk)) := (vg_sn ez8 (by decide)).trans (h13)
  refine vg_callv (vg_runS X (c_J7_fill_53178 l fh10 (x := 0) (by decide)) (va_cwS 2 X.2.2.2.2.1 gX3_spread_J7_fill_53178 rfl rfl rfl (by decide +kernel) ⟨Nat.le_of_ble_eq_true rfl, Nat.le_of_ble_eq_true rfl⟩) rfl rfl (Nat.le_of_ble_eq_true rfl) dX3_spread_11 ⟨Nat.zero_le _, Nat.zero_le _⟩) (fun wz11 PP12 => ?_)
  obtain ⟨ga, ga1, ga2, ga3⟩ := PP12
  refine vg_aload_n X dX3_spread_14 0 rfl rfl ?_
  have fh14 : wz11[6]? = some (asr, .inr (6, [.ref aN, .ref aq, .ref aC, .ref aW, .ref aK, .ref aT, .int (nI k)])) := (ga3.2 6 (by decide)).trans (fh9)
  refine vg_get X in_X3_spread_X3 6 fh14 rfl 5 (by decide) ml_X3_spread_29 rfl rfl dX3_spread_15 ?_
  refine vg_iconst X (nI 0) dX3_spread_18 (by decide) ?_
  have fh15 : wz11[14]? = some (aT, .inl (ay 0, 200, .inl ft)) := (ga3.2 14 (by decide)).trans ((vg_sn ez8 (by decide)).trans (h14))
  refine vg_callv (vg_runS X (c_J7_fill_53178 l fh15 (x := 0) (by decide)) (va_cwS 2 X.2.2.2.2.1 gX3_spread_J7_fill_53178 rfl rfl rfl (by decide +kernel) ⟨Nat.le_of_ble_eq_true rfl, Nat.le_of_ble_eq_true rfl⟩) rfl rfl (Nat.le_of_ble_eq_true rfl) dX3_spread_19 ⟨Nat.zero_le _, Nat.zero_le _⟩) (fun wz16 PP17 => ?_)
  obtain ⟨gb, gb1, gb2, gb3⟩ := PP17
  refine vg_aload_n X dX3_spread_22 0 rfl rfl ?_
  refine vg_aload_n X dX3_spread_23 2 rfl rfl ?_
  refine vg_iload_n X dX3_spread_24 3 rfl rfl ?_
  have fh19 : wz16[6]? = some (asr, .inr (6, [.ref aN, .ref aq, .ref aC, .ref aW, .ref aK, .ref aT, .int (nI k)])) := (gb3.2 6 (by decide)).trans (fh14)
  have fh20 : wz16[11]? = some (aC, .inl (ay 1, 150, .inr (.inl fc))) := (gb3.2 11 (by decide)).trans ((ga3.2 11 (by decide)).trans ((vg_sn ez8 (by decide)).trans (h11)))
  have fh21 : wz16[12]? = some (aW, .inl (ay 1, 1200, .inr (.inl fw))) := (gb3.2 12 (by decide)).trans ((ga3.2 12 (by decide)).trans ((vg_sn ez8 (by decide)).trans (h12)))
  have fh22 : wz16[13]? = some (aK, .inl (ay 0, 200, .inl ga)) := (gb3.2 13 (by decide)).trans (ga1)
  have fr1 : vg_fr ws wz16 [6, 7, 8, 9, 10, 11, 12, 13, 14] := vg_fr_trd (vg_fr_trd (L := [6, 7, 8, 9, 10, 11, 12, 13, 14]) (vg_fr_set (vg_fr_rf ws [6]) ez8 (by decide)) ga3 (by decide)) gb3 (by decide)
  have f60 : ∀ j, 56 ≤ j → wz16[j]? = ws[j]? := fun j hj => fr1.2 j (by simp only [List.mem_cons, List.not_mem_nil, or_false]; omega)
  have hN1 : cn_N ay wz16 aN tE n P el qp d fr to pe := cn_N_fr hN (fr1.2 1 (by decide)) (fr1.2 2 (by decide)) (fr1.2 4 (by decide)) (fr1.2 5 (by decide)) f60
  have hu1 : cu_P wz16 qu au v := (f60 qu hqu).trans hu
  have hQ1 := cq_St_fr hQ ((gb3.2 7 (by decide)).trans ((ga3.2 7 (by decide)).trans (vg_sn (j := 7) ez8 (by decide)))) ((gb3.2 8 (by decide)).trans ((ga3.2 8 (by decide)).trans (vg_sn (j := 8) ez8 (by decide)))) ((gb3.2 9 (by decide)).trans ((ga3.2 9 (by decide)).trans (vg_sn (j := 9) ez8 (by decide)))) ((gb3.2 10 (by decide)).trans ((ga3.2 10 (by decide)).trans (vg_sn (j := 10) ez8 (by decide))))
  refine vg_callv (vg_runV X (c_X3_pricePieces l (w0 := fun _ => 0) ⟨_, _, _, _, _, _, _, _, fh19, fh20, fun i hi => absurd hi (by omega)⟩ ⟨_, _, _, _, _, _, fh19⟩ hN1 hu1 hqu hv ht) (cwV 2 X.2.2.2.2.1 gX3_spread_X3_pricePieces rfl rfl rfl (by decide +kernel) ⟨Nat.le_of_ble_eq_true rfl, Nat.le_of_ble_eq_true rfl⟩) 6 fh19 rfl rfl rfl (Nat.le_of_ble_eq_true rfl) dX3_spread_25 ⟨Nat.zero_le _, Nat.zero_le _⟩) (fun wz23 PP24 => ?_)
  rw [← ew] at PP24
  obtain ⟨hC2, fr2⟩ := PP24
  have hR2 : cs_R ay wz23 asr aN k n (fun _ => 0) (fun _ => 0) (fun _ _ => 0) hn0 pl0 key0 0 := ⟨aq, aC, aW, aK, aT, _, _, _, (fr2.2 6 (by decide)).trans fh19, (fr2.2 12 (by decide)).trans fh21, (fr2.2 13 (by decide)).trans fh22, (fr2.2 14 (by decide)).trans gb1, cq_St_fr hQ1 (fr2.2 7 (by decide)) (fr2.2 8 (by decide)) (fr2.2 9 (by decide)) (fr2.2 10 (by decide)), fun v hv => ⟨(ga2 v hv).trans nI_0.symm, (gb2 v hv).trans nI_0.symm⟩, fun v _ j hj => absurd hj (Nat.not_lt_zero _)⟩
  refine vg_aload_n X dX3_spread_28 0 rfl rfl ?_
  refine vg_iload_n X dX3_spread_29 1 rfl rfl ?_
  refine vg_lconst X (lN 0) dX3_spread_30 (by decide) ?_
  have hJ0 : dj_inv n k (fun _ => 0) (fun _ => 0) (fun _ _ => 0) (fun _ _ => 0) 0 0 := ⟨fun v _ => ⟨Nat.le_refl _, Nat.zero_le _⟩, fun v _ i j _ hj => absurd hj (Nat.not_lt_zero _), fun v _ => ⟨fun j hj => absurd hj (Nat.not_lt_zero _), fun j _ hj => absurd hj (Nat.not_lt_zero _)⟩, fun v _ y => by rw [Nat.min_eq_right (Nat.zero_le _)]; rfl, fun v _ j hj => absurd hj (Nat.not_lt_zero _)⟩
  have hall := cq_none hQ rfl
  have hY0 : cs_sync n (fun _ => 0) (fun _ => 0) (fun _ _ => 0) pl0 key0 := ⟨fun v hv _ => hall v hv, fun v hv => ⟨⟨fun _ => Nat.lt_irrefl 0, fun _ => hall v (by omega)⟩, fun z => absurd z (Nat.lt_irrefl 0)⟩⟩
  refine vg_callv (vg_runV X (c_X3_offer l hR2 nn hk hJ0 hY0 hst (sv := 0) (Nat.le_refl _) (Nat.le_refl _) (by decide)) (cwV 2 X.2.2.2.2.1 gX3_spread_X3_offer rfl rfl rfl (by decide +kernel) ⟨Nat.le_of_ble_eq_true rfl, Nat.le_of_ble_eq_true rfl⟩) 6 ((fr2.2 6 (by decide)).trans fh19) rfl rfl rfl (Nat.le_of_ble_eq_true rfl) dX3_spread_31 ⟨Nat.zero_le _, Nat.zero_le _⟩) (fun wz26 PP27 => ?_)
  obtain ⟨kn2, wk2, hn2, pl2, key2, sz2, v1, v2, v3, v4, v5⟩ := PP27
  have fr3 : vg_fr ws wz26 [6, 7, 8, 9, 10, 11, 12, 13, 14] := vg_fr_trd (vg_fr_trd (L := [6, 7, 8, 9, 10, 11, 12, 13, 14]) fr1 fr2 (by decide)) v5 (by decide)
  have m1 : wz26[1]? = _ := (fr3.2 1 (by decide)).trans n1
  obtain ⟨aq1, aC1, aW1, aK1, aT1, fw1, fk1, ft1, m6, m12, m13, m14, hQ9, hkt1, hwk1⟩ := id v1
  refine vg_aload_n X dX3_spread_34 0 rfl rfl ?_
  refine vg_get X in_X3_spread_X3 6 m6 rfl 0 (by decide) ml_X3_spread_32 rfl rfl dX3_spread_35 ?_
  refine vg_get X in_X3_spread_X0 1 m1 rfl 4 (by decide) ml_X3_spread_54 rfl rfl dX3_spread_38 ?_
  refine vg_aload_n X dX3_spread_41 0 rfl rfl ?_
  refine vg_get X in_X3_spread_X3 6 m6 rfl 6 (by decide) ml_X3_spread_36 rfl rfl dX3_spread_42 ?_
  refine vg_imul X (nI (n * k)) dX3_spread_45 (pk_mul _ _) ?_
  refine vg_istore X [(5, .int (nI (n * k))), (0, .ref asr), (1, .int (nI start)), (2, .ref au), (3, .int (nI t)), (4, .int (nI k))] dX3_spread_46 (by decide) rfl ?_
  refine vg_locals [1, 0] rfl ?_
  have s0 : ma_sum (fun _ => 0) n = 0 := ma_sum_zero (fun _ _ => rfl)
  refine loop (n * k) wz26 kn2 _ wk2 hn2 pl2 key2 sz2 _ 0 (by rw [s0]; rfl) v1 (cs_C_fr hC2 (v5.2 6 (by decide)) (v5.2 11 (by decide))) (by rw [s0, Nat.zero_mul]; exact v2) v3 (fun x y hx => ?_) fr3
  unfold dj_of ma_in
  rw [ma_sum_zero (fun i hi => ?_)]
  · simp
  · split
    · rfl
    · simp [ma_cnt, ma_sum]
