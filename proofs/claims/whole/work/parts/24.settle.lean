/-- the last half of v below b: x is its number, -1 without one -/
def ch_prev (ea eb : Nat → Nat) (v b : Nat) (x : Int32) : Prop := (x = -1 ∧ ∀ h, h < b → dj_hn ea eb h ≠ v) ∨ ∃ h, x = nI h ∧ h < b ∧ dj_hn ea eb h = v ∧ ∀ j, h < j → j < b → dj_hn ea eb j ≠ v
/-- the net: n nodes, P pieces (d, fr, to, pe) at the places qp, their chains of halves -/
def cn_N (ay : Nat → ClassId) (ws : va_W) (aN tE n P : Nat) (el qp : Nat → Nat) (d fr to pe : Nat → Nat → Nat) : Prop :=
  ∃ (aP aU aH aO : Nat) (fh fo : Nat → Int32), ws[1]? = some (aN, .inr (3, [.ref aP, .ref aU, .ref aH, .ref aO, .int (nI n)])) ∧ cl_L ay ws 2 aP tE P el ∧ ws[4]? = some (aH, .inl (ay 0, 200, .inl fh)) ∧ ws[5]? = some (aO, .inl (ay 0, 300, .inl fo)) ∧
  (∀ i, i < P → 56 ≤ qp i ∧ cp_P ay ws (qp i) (el i) (d i) (fr i) (to i) (pe i) ∧ cp_R (d i) (fr i) (to i) (pe i) ∧ d i 0 < n ∧ d i 1 < n ∧ d i 0 ≠ d i 1) ∧ n ≤ 200 ∧ P ≤ 150 ∧
  (∀ v, v < n → ch_prev (fun i => d i 0) (fun i => d i 1) v (2 * P) (fh v)) ∧ ∀ h, h < 2 * P → ch_prev (fun i => d i 0) (fun i => d i 1) (dj_hn (fun i => d i 0) (fun i => d i 1) h) h (fo h)
theorem cl_L_fr {ay : Nat → ClassId} {ws u : va_W} {q aL tE cnt : Nat} {el : Nat → Nat} (h : cl_L ay ws q aL tE cnt el) (h1 : u[q]? = ws[q]?) (h2 : ∀ j, 56 ≤ j → u[j]? = ws[j]?) : cl_L ay u q aL tE cnt el := by
  obtain ⟨mo, aE, hq, hE⟩ := h
  refine ⟨mo, aE, h1.trans hq, hE.imp id ?_⟩
  rintro ⟨qE, cap, f, g1, g2, g3⟩
  exact ⟨qE, cap, f, (h2 qE g2).trans g1, g2, g3⟩
theorem cp_P_fr {ay : Nat → ClassId} {ws u : va_W} {q a : Nat} {d fr to pe : Nat → Nat} (h : cp_P ay ws q a d fr to pe) (hq : 56 ≤ q) (h2 : ∀ j, 56 ≤ j → u[j]? = ws[j]?) : cp_P ay u q a d fr to pe := by
  obtain ⟨af, at2, ag, ff, ft, fg, k0, k1, k2, k3, hr⟩ := h
  exact ⟨af, at2, ag, ff, ft, fg, (h2 _ hq).trans k0, (h2 _ (by omega)).trans k1, (h2 _ (by omega)).trans k2, (h2 _ (by omega)).trans k3, hr⟩
theorem cn_N_fr {ay : Nat → ClassId} {ws u : va_W} {aN tE n P : Nat} {el qp : Nat → Nat} {d fr to pe : Nat → Nat → Nat} (h : cn_N ay ws aN tE n P el qp d fr to pe) (h1 : u[1]? = ws[1]?) (h2 : u[2]? = ws[2]?) (h4 : u[4]? = ws[4]?) (h5 : u[5]? = ws[5]?) (hd : ∀ j, 56 ≤ j → u[j]? = ws[j]?) : cn_N ay u aN tE n P el qp d fr to pe := by
  obtain ⟨aP, aU, aH, aO, fh, fo, g1, g2, g4, g5, gp, gr⟩ := h
  exact ⟨aP, aU, aH, aO, fh, fo, h1.trans g1, cl_L_fr g2 h2 hd, h4.trans g4, h5.trans g5, fun i hi => ⟨(gp i hi).1, cp_P_fr (gp i hi).2.1 (gp i hi).1 hd, (gp i hi).2.2⟩, gr⟩
/-- what each piece takes, 0 where nobody goes: the cells 6 and 11 -/
def cs_C (ay : Nat → ClassId) (ws : va_W) (asr P WM : Nat) (w : Nat → Nat) : Prop :=
  ∃ (x0 x1 aC x3 x4 x5 : Nat) (kk : Int32) (fc : Nat → Int64), ws[6]? = some (asr, .inr (6, [.ref x0, .ref x1, .ref aC, .ref x3, .ref x4, .ref x5, .int kk])) ∧ ws[11]? = some (aC, .inl (ay 1, 150, .inr (.inl fc))) ∧ ∀ i, i < P → (w i = 0 → fc i = -1) ∧ (w i ≠ 0 → fc i = lN (w i)) ∧ w i ≤ WM
theorem cs_C_fr {ay : Nat → ClassId} {ws u : va_W} {asr P WM : Nat} {w : Nat → Nat} (h : cs_C ay ws asr P WM w) (h6 : u[6]? = ws[6]?) (h11 : u[11]? = ws[11]?) : cs_C ay u asr P WM w := by
  obtain ⟨x0, x1, aC, x3, x4, x5, kk, fc, g6, g11, g⟩ := h
  exact ⟨x0, x1, aC, x3, x4, x5, kk, fc, h6.trans g6, h11.trans g11, g⟩
theorem lN_nm1 {n : Nat} (h : n < 2 ^ 63) : lN n ≠ -1 := fun e => by
  have h1 := pk_lT h
  rw [e] at h1
  have : ((-1 : Int64)).toInt = -1 := by decide
  omega
theorem dj_inv_of {n k : Nat} {kn st : Nat → Nat} {wk Of Of2 : Nat → Nat → Nat} {L U U2 : Nat} (h : dj_inv n k kn st wk Of L U) (he : ∀ v c, Of2 v c = Of v c) (hu : U ≤ U2) : dj_inv n k kn st wk Of2 L U2 :=
  ⟨h.1, h.2.1, h.2.2.1, fun v hv c => by rw [he v c]; exact h.2.2.2.1 v hv c, fun v hv j hj => Nat.le_trans (h.2.2.2.2 v hv j hj) hu⟩
/-- nothing more comes from halves that aren't u's -/
theorem dj_q0 {ea eb w : Nat → Nat} {u L v c b : Nat} (h : ∀ j, j < b → dj_hn ea eb j ≠ u) : ma_sum (dj_q ea eb w u L v c) b = 0 := ma_sum_zero fun j hj => if_neg (fun z => h j hj z.1)
theorem dj_qs {ea eb w : Nat → Nat} {u L v c h : Nat} : ∀ {b : Nat}, h < b → (∀ j, h < j → j < b → dj_hn ea eb j ≠ u) → ma_sum (dj_q ea eb w u L v c) b = ma_sum (dj_q ea eb w u L v c) h + dj_q ea eb w u L v c h
  | 0, hb, _ => absurd hb (by omega)
  | b + 1, hb, hj => by
    show ma_sum (dj_q ea eb w u L v c) b + dj_q ea eb w u L v c b = _
    by_cases e : h = b
    · subst e; rfl
    · rw [dj_qs (h := h) (b := b) (by omega) (fun j h1 h2 => hj j h1 (by omega))]
      have : dj_q ea eb w u L v c b = 0 := if_neg (fun z => hj b (by omega) (by omega) z.1)
      omega
theorem in_X3_settle_X3 : ∀ w ∈ u_ws RX3 TX3 7, w ∈ wsX3_settle := by decide +kernel
theorem ml_X3_settle_18 : Cond.fieldLink RX3 18 "WayTimes$Search" "cost" "[J" ∈ wsX3_settle := by decide +kernel
theorem mk_X3_settle_71 : Jvm.Cond.constantLong RX3 71 (-1) ∈ wsX3_settle := by decide +kernel
theorem ml_X3_settle_32 : Cond.fieldLink RX3 32 "WayTimes$Search" "net" "LWayTimes$Net;" ∈ wsX3_settle := by decide +kernel
theorem in_X3_settle_X0 : ∀ w ∈ u_ws RX0 TX0 5, w ∈ wsX3_settle := by decide +kernel
theorem ml_X3_settle_89 : Cond.fieldLink RX3 89 "WayTimes$Net" "olderHalf" "[I" ∈ wsX3_settle := by decide +kernel
theorem ml_X3_settle_76 : Cond.fieldLink RX3 76 "WayTimes$Net" "pieces" "Ljava/util/ArrayList;" ∈ wsX3_settle := by decide +kernel
theorem mc_X3_settle_96 : Cond.classLink RX3 96 "WayTimes$Piece" ∈ wsX3_settle := by decide +kernel
theorem ml_X3_settle_73 : Cond.fieldLink RX3 73 "WayTimes$Net" "newestHalf" "[I" ∈ wsX3_settle := by decide +kernel
theorem ml_X3_settle_22 : Cond.fieldLink RX3 22 "WayTimes$Search" "walks" "[J" ∈ wsX3_settle := by decide +kernel
theorem ml_X3_settle_29 : Cond.fieldLink RX3 29 "WayTimes$Search" "settled" "[I" ∈ wsX3_settle := by decide +kernel
theorem ml_X3_settle_25 : Cond.fieldLink RX3 25 "WayTimes$Search" "known" "[I" ∈ wsX3_settle := by decide +kernel
theorem ml_X3_settle_12 : Cond.fieldLink RX3 12 "WayTimes$Search" "queue" "LWayTimes$NodeQueue;" ∈ wsX3_settle := by decide +kernel
set_option maxHeartbeats 4000000 in
set_option maxRecDepth 100000 in
/-- settle(node): its next walk is settled, and what it brings is offered -/
theorem c_X3_settle (l : Launch) {D : va_G} {ay : Nat → ClassId} {base : Nat} {Gx : State → Prop} {ws : va_W} {asr aN k n : Nat} {kn st : Nat → Nat} {wk : Nat → Nat → Nat} {hn : Nat → Nat} {pl : Nat → Int32} {key : Nat → Nat} {sz : Nat} {tE P WM : Nat} {el qp : Nat → Nat} {d fr to pe : Nat → Nat → Nat} {w : Nat → Nat} {Of : Nat → Nat → Nat} {L U node : Nat} (hR : cs_R ay ws asr aN k n kn st wk hn pl key sz) (hn200 : n ≤ 200) (hk : 1 ≤ k ∧ k ≤ 6) (hC : cs_C ay ws asr P WM w) (hN : cn_N ay ws aN tE n P el qp d fr to pe) (hJ : dj_inv n k kn st wk Of L U) (hY : ∀ v, v < 200 → v ≠ node → (n ≤ v → pl v = -1) ∧ (v < n → (pl v = -1 ↔ ¬ st v < kn v) ∧ (st v < kn v → key v = wk v (st v)))) (hpn : pl node = -1) (hnode : node < n) (hw8 : st node < kn node) (hmin : ∀ v, v < n → st v < kn v → wk node (st node) ≤ wk v (st v)) (hU2 : U + WM < 2 ^ 62) : Met l yX3_settle wsX3_settle ({ frames := 3, cells := 0, slots := 0, locals := 82 } : Room) (va_Pc [.ref asr, .int (nI node)] (vg_B D ay base Gx ws)) (va_Qv (fun u => ∃ (kn2 : Nat → Nat) (wk2 : Nat → Nat → Nat) (hn2 : Nat → Nat) (pl2 : Nat → Int32) (key2 : Nat → Nat) (sz2 : Nat), cs_R ay u asr aN k n kn2 (va_up st node (st node + 1)) wk2 hn2 pl2 key2 sz2 ∧ dj_inv n k kn2 (va_up st node (st node + 1)) wk2 (fun v x => Of v x + ma_sum (dj_q (fun i => d i 0) (fun i => d i 1) w node (wk node (st node)) v x) (2 * P)) (wk node (st node)) (U + WM) ∧ cs_sync n kn2 (va_up st node (st node + 1)) wk2 pl2 key2 ∧ (∀ v, v < n → ∀ j, j < va_up st node (st node + 1) v → wk2 v j = wk v j) ∧ vg_fr ws u [7, 8, 9, 10, 12, 13, 14]) (vg_B D ay base Gx) (vg_A base)) 0 0 (vg_A base) := by
  refine vg_met (cc := cX3_settle) (maxL := 8) (ret := none) (own := RX3) (lv := [(0, .ref asr), (1, .int (nI node))]) (by decide) rfl rfl (Nat.le_of_ble_eq_true rfl) rfl ?_
  intro p e s m args below meth c X hinit
  obtain ⟨aq, aC, aW, aK, aT, fw, fk, ft, h6, h12, h13, h14, hQ, hkt, hwk⟩ := id hR
  obtain ⟨aP, aU, aH, aO, fh, fo, n1, nL2, n4, n5, np, nn, nP, nh, no⟩ := id hN
  obtain ⟨x0, x1, x2, x3, x4, x5, kk, fc, g6, h11, hcost⟩ := id hC
  cases h6.symm.trans g6
  obtain ⟨j1, j2, j3, j4, j5⟩ := id hJ
  have jn := j1 node hnode
  obtain ⟨LL, eLL⟩ : ∃ z, z = wk node (st node) := ⟨_, rfl⟩
  have hLU : LL ≤ U := by rw [eLL]; exact j5 node hnode _ hw8
  obtain ⟨st2, est⟩ : ∃ z : Nat → Nat, z = va_up st node (st node + 1) := ⟨_, rfl⟩
  have s2n : st2 node = st node + 1 := by rw [est]; exact va_up_self _ _ _
  have s2o : ∀ v, v ≠ node → st2 v = st v := fun v hv => by rw [est]; exact va_up_ne _ _ hv
  have hJ0 : dj_inv n k kn st2 wk Of LL U := by
    rw [eLL]; exact dj_take hJ hnode hw8 hmin (fun v hv => by rw [est]; by_cases c9 : v = node <;> simp [va_up, c9])
  rw [← eLL, ← est]
  have loop : ∀ (b left : Nat) (x : Int32) (ws1 : va_W) (kn1 : Nat → Nat) (wk1 : Nat → Nat → Nat) (hn1 : Nat → Nat) (pl1 : Nat → Int32) (key1 : Nat → Nat) (sz1 : Nat) (Of1 : Nat → Nat → Nat), ch_prev (fun i => d i 0) (fun i => d i 1) node b x → b ≤ left → left ≤ 2 * P → cs_R ay ws1 asr aN k n kn1 st2 wk1 hn1 pl1 key1 sz1 → dj_inv n k kn1 st2 wk1 Of1 LL (U + WM) → cs_sync n kn1 st2 wk1 pl1 key1 → (∀ v y, Of1 v y + ma_sum (dj_q (fun i => d i 0) (fun i => d i 1) w node LL v y) (b) = Of v y + ma_sum (dj_q (fun i => d i 0) (fun i => d i 1) w node LL v y) (2 * P)) → (∀ v, v < n → ∀ j, j < st2 v → wk1 v j = wk v j) → vg_fr ws ws1 [7, 8, 9, 10, 12, 13, 14] → vg_V D base p l e ({ frames := 3, cells := 0, slots := 0, locals := 82 } : Room) s m args below meth c 8 0 0 (MQ below (va_Qv (fun u => ∃ (kn2 : Nat → Nat) (wk2 : Nat → Nat → Nat) (hn2 : Nat → Nat) (pl2 : Nat → Int32) (key2 : Nat → Nat) (sz2 : Nat), cs_R ay u asr aN k n kn2 st2 wk2 hn2 pl2 key2 sz2 ∧ dj_inv n k kn2 st2 wk2 (fun v x => Of v x + ma_sum (dj_q (fun i => d i 0) (fun i => d i 1) w node LL v x) (2 * P)) LL (U + WM) ∧ cs_sync n kn2 st2 wk2 pl2 key2 ∧ (∀ v, v < n → ∀ j, j < st2 v → wk2 v j = wk v j) ∧ vg_fr ws u [7, 8, 9, 10, 12, 13, 14]) (vg_B D ay base Gx) (vg_A base)) args s 0 0 (vg_A base)) [(0, .ref asr), (1, .int (nI node)), (3, .long (lN LL)), (5, .int x), (6, .int (nI left))] [] ws1 90 := by
    intro b
    induction b using Nat.strongRecOn with
    | ind b ih =>
      intro left x ws1 kn1 wk1 hn1 pl1 key1 sz1 Of1 hx hb hlt hR1 hJ1 hY1 hOf hpre hfr
      have hN1 : cn_N ay ws1 aN tE n P el qp d fr to pe := cn_N_fr hN (hfr.2 1 (by decide)) (hfr.2 2 (by decide)) (hfr.2 4 (by decide)) (hfr.2 5 (by decide)) (fun j hj => hfr.2 j (by simp only [List.mem_cons, List.not_mem_nil, or_false]; omega))
      have hC1 : cs_C ay ws1 asr P WM w := cs_C_fr hC (hfr.2 6 (by decide)) (hfr.2 11 (by decide))
      have m6 : ws1[6]? = _ := (hfr.2 6 (by decide)).trans h6
      have m11 : ws1[11]? = _ := (hfr.2 11 (by decide)).trans h11
      have m1 : ws1[1]? = _ := (hfr.2 1 (by decide)).trans n1
      have m5 : ws1[5]? = _ := (hfr.2 5 (by decide)).trans n5
      refine vg_iload X dX3_settle_90 4 rfl ?_
      refine vg_if_le X 171 dX3_settle_92 (by decide) (fun c92 => ?_) (fun c92 => ?_)
      · have c92 : left ≤ 0 := (vg_le0 (by omega)).mp c92
        exact vg_vret X rfl ⟨kn1, wk1, hn1, pl1, key1, sz1, hR1, dj_inv_of hJ1 (fun v y => by have g9 := hOf v y; rw [show b = 0 by omega] at g9; simp only [ma_sum] at g9; omega) (Nat.le_refl _), hY1, hpre, hfr⟩ (Nat.le_refl _) (Nat.le_refl _) dX3_settle_171
      · have c92 : ¬ left ≤ 0 := fun z => c92 ((vg_le0 (by omega)).mpr z)
        refine vg_iload X dX3_settle_95 3 rfl ?_
        refine vg_iconst X (-1) dX3_settle_97 (by decide) ?_
        refine vg_icmp_eq X 171 dX3_settle_98 (by decide) (fun c98 => ?_) (fun c98 => ?_)
        · exact vg_vret X rfl ⟨kn1, wk1, hn1, pl1, key1, sz1, hR1, dj_inv_of hJ1 (fun v y => by have g9 := hOf v y; rw [dj_q0 (b := b) (by rcases hx with q9 | ⟨h9, q9, _⟩; exact q9.2; exact absurd (q9.symm.trans c98) (hq_nm1 (by omega)))] at g9; omega) (Nat.le_refl _), hY1, hpre, hfr⟩ (Nat.le_refl _) (Nat.le_refl _) dX3_settle_171
        · obtain ⟨h, rfl, hh1, hh2, hh3⟩ := hx.resolve_left (fun z => c98 z.1)
          obtain ⟨y1, y2, y3, y4, y5, y6⟩ := np (h / 2) (by omega)
          obtain ⟨o1, o2, o3⟩ := hcost (h / 2) (by omega)
          refine vg_iload X dX3_settle_101 3 rfl ?_
          refine vg_iconst X (nI 2) dX3_settle_103 (by decide) ?_
          refine vg_idiv X (nI (h / 2)) dX3_settle_104 (nI_ne0 (by omega) (by omega)) (pk_div (by omega) (by omega) (by omega)) ?_
          refine vg_istore X [(7, .int (nI (h / 2))), (0, .ref asr), (1, .int (nI node)), (3, .long (lN LL)), (5, .int (nI h)), (6, .int (nI left))] dX3_settle_105 (by decide) rfl ?_
          refine vg_aload_n X dX3_settle_107 1 rfl rfl ?_
          refine vg_get X in_X3_settle_X3 6 m6 rfl 2 (by decide) ml_X3_settle_18 rfl rfl dX3_settle_108 ?_
          refine vg_iload X dX3_settle_111 0 rfl ?_
          refine vg_lald X (fc (h / 2)) 11 m11 rfl (by omega) (by decide) rfl dX3_settle_113 ?_
          refine vg_ldc2 X (-1) dX3_settle_114 mk_X3_settle_71 ?_
          refine vg_lcmp_eq X 153 dX3_settle_117 dX3_settle_118 (by decide) (fun c117 => ?_) (fun c117 => ?_)
          · have o4 : w (h / 2) = 0 := by
              rcases Nat.eq_zero_or_pos (w (h / 2)) with q9 | q9
              · exact q9
              · exact absurd (c117.symm.trans (o2 (by omega))).symm (lN_nm1 (by omega))
            refine vg_aload_n X dX3_settle_153 1 rfl rfl ?_
            refine vg_get X in_X3_settle_X3 6 m6 rfl 0 (by decide) ml_X3_settle_32 rfl rfl dX3_settle_154 ?_
            refine vg_get X in_X3_settle_X0 1 m1 rfl 3 (by decide) ml_X3_settle_89 rfl rfl dX3_settle_157 ?_
            refine vg_iload X dX3_settle_160 4 rfl ?_
            refine vg_iald X (fo h) 5 m5 rfl (by omega) (by decide) rfl dX3_settle_162 ?_
            refine vg_istore X [(5, .int (fo h)), (7, .int (nI (h / 2))), (0, .ref asr), (1, .int (nI node)), (3, .long (lN LL)), (6, .int (nI left))] dX3_settle_163 (by decide) rfl ?_
            refine vg_iinc X (v := nI (left - 1)) [(6, .int (nI (left - 1))), (5, .int (fo h)), (7, .int (nI (h / 2))), (0, .ref asr), (1, .int (nI node)), (3, .long (lN LL))] dX3_settle_165 5 rfl (by rw [show Int32.ofInt (-1) = -nI 1 by decide, ← Int32.sub_eq_add_neg, pk_sub (by omega)]) (by decide) rfl ?_
            refine vg_goto X 90 dX3_settle_168 (by decide) ?_
            refine vg_locals [3, 4, 5, 1, 0] rfl ?_
            refine ih h hh1 (left - 1) _ ws1 kn1 wk1 hn1 pl1 key1 sz1 Of1 (by rw [← hh2]; exact no h (by omega)) (by omega) (by omega) hR1 hJ1 hY1 (fun v y => ?_) hpre hfr
            have g9 := hOf v y
            rw [dj_qs hh1 hh3] at g9
            have g8 : dj_q (fun i => d i 0) (fun i => d i 1) w node LL v y h = 0 := if_neg (fun z => z.2.1 o4)
            omega
          · have o4 : w (h / 2) ≠ 0 := fun q9 => c117 (o1 q9)
            refine vg_aload_n X dX3_settle_121 1 rfl rfl ?_
            refine vg_aload_n X dX3_settle_122 1 rfl rfl ?_
            refine vg_get X in_X3_settle_X3 6 m6 rfl 0 (by decide) ml_X3_settle_32 rfl rfl dX3_settle_123 ?_
            refine vg_get X in_X3_settle_X0 1 m1 rfl 0 (by decide) ml_X3_settle_76 rfl rfl dX3_settle_126 ?_
            refine vg_iload X dX3_settle_129 0 rfl ?_
            obtain ⟨aP2, aU2, aH2, aO2, fh2, fo2, b1, b2, b4, b5, bp, br⟩ := id hN1
            cases m1.symm.trans b1
            cases m5.symm.trans b5
            obtain ⟨z1, z2, z3, z4⟩ := bp (h / 2) (by omega)
            obtain ⟨mo, aE, bq, bE⟩ := id b2
            refine vg_callr (vg_runV X (c_Jx4a65c_get_915e3 l b2 (i := h / 2) (by omega)) (cwV 1 X.2.2.2.2.1 gX3_settle_Jx4a65c_get_915e3 rfl rfl rfl (by decide +kernel) ⟨Nat.le_of_ble_eq_true rfl, Nat.le_of_ble_eq_true rfl⟩) 2 bq rfl rfl rfl (Nat.le_of_ble_eq_true rfl) dX3_settle_131 ⟨Nat.zero_le _, Nat.zero_le _⟩) (fun rr3 wz1 PP2 PP2q => ?_)
            obtain rfl := PP2q
            rw [PP2]
            obtain ⟨af, at2, ag, ff, ft9, fg, k0, kr⟩ := id z2
            refine vg_cast X (qp (h / 2)) k0 rfl mc_X3_settle_96 dX3_settle_134 ?_
            refine vg_iload_n X dX3_settle_137 2 rfl rfl ?_
            refine vg_calli (vg_runV X (c_X2_otherEnd l z2 z3 (node := node) (by omega)) (cwV 1 X.2.2.2.2.1 gX3_settle_X2_otherEnd rfl rfl rfl (by decide +kernel) ⟨Nat.le_of_ble_eq_true rfl, Nat.le_of_ble_eq_true rfl⟩) (qp (h / 2)) k0 rfl rfl rfl (Nat.le_of_ble_eq_true rfl) dX3_settle_138 ⟨Nat.zero_le _, Nat.zero_le _⟩) (fun rr6 wz4 PP5 => ?_)
            obtain ⟨hw9, hr9⟩ := PP5
            rw [hw9]
            have e9 : rr6 = nI (dj_ho (fun i => d i 0) (fun i => d i 1) h) := by
              rw [hr9]; congr 1
              unfold dj_ho; unfold dj_hn at hh2
              by_cases q9 : h % 2 = 0
              · rw [if_pos q9] at hh2 ⊢; exact if_pos hh2.symm
              · rw [if_neg q9] at hh2 ⊢; exact if_neg (fun q8 => y6 (by rw [← q8]; exact hh2.symm))
            subst e9
            refine vg_lload_n X dX3_settle_141 3 rfl rfl ?_
            refine vg_aload_n X dX3_settle_142 1 rfl rfl ?_
            refine vg_get X in_X3_settle_X3 6 m6 rfl 2 (by decide) ml_X3_settle_18 rfl rfl dX3_settle_143 ?_
            refine vg_iload X dX3_settle_146 0 rfl ?_
            refine vg_lald X (lN (w (h / 2))) 11 m11 rfl (by omega) (by decide) (o2 o4) dX3_settle_148 ?_
            refine vg_ladd X (lN (LL + w (h / 2))) dX3_settle_149 (lN_add _ _) ?_
            have u1 : dj_ho (fun i => d i 0) (fun i => d i 1) h < n := by unfold dj_ho; split <;> assumption
            have u2 : LL + w (h / 2) ≤ U + WM := by omega
            refine vg_callv (vg_runV X (c_X3_offer l hR1 hn200 hk hJ1 hY1 u1 (by omega) u2 hU2) (cwV 2 X.2.2.2.2.1 gX3_settle_X3_offer rfl rfl rfl (by decide +kernel) ⟨Nat.le_of_ble_eq_true rfl, Nat.le_of_ble_eq_true rfl⟩) 6 m6 rfl rfl rfl (Nat.le_of_ble_eq_true rfl) dX3_settle_150 ⟨Nat.zero_le _, Nat.zero_le _⟩) (fun wz7 PP8 => ?_)
            obtain ⟨kn2, wk2, hn2, pl2, key2, sz2, v1, v2, v3, v4, v5⟩ := PP8
            refine vg_aload_n X dX3_settle_153 1 rfl rfl ?_
            refine vg_get X in_X3_settle_X3 6 ((v5.2 6 (by decide)).trans m6) rfl 0 (by decide) ml_X3_settle_32 rfl rfl dX3_settle_154 ?_
            refine vg_get X in_X3_settle_X0 1 ((v5.2 1 (by decide)).trans m1) rfl 3 (by decide) ml_X3_settle_89 rfl rfl dX3_settle_157 ?_
            refine vg_iload X dX3_settle_160 4 rfl ?_
            refine vg_iald X (fo h) 5 ((v5.2 5 (by decide)).trans m5) rfl (by omega) (by decide) rfl dX3_settle_162 ?_
            refine vg_istore X [(5, .int (fo h)), (7, .int (nI (h / 2))), (0, .ref asr), (1, .int (nI node)), (3, .long (lN LL)), (6, .int (nI left))] dX3_settle_163 (by decide) rfl ?_
            refine vg_iinc X (v := nI (left - 1)) [(6, .int (nI (left - 1))), (5, .int (fo h)), (7, .int (nI (h / 2))), (0, .ref asr), (1, .int (nI node)), (3, .long (lN LL))] dX3_settle_165 5 rfl (by rw [show Int32.ofInt (-1) = -nI 1 by decide, ← Int32.sub_eq_add_neg, pk_sub (by omega)]) (by decide) rfl ?_
            refine vg_goto X 90 dX3_settle_168 (by decide) ?_
            refine vg_locals [3, 4, 5, 1, 0] rfl ?_
            refine ih h hh1 (left - 1) _ wz7 kn2 wk2 hn2 pl2 key2 sz2 _ (by rw [← hh2]; exact no h (by omega)) (by omega) (by omega) v1 v2 v3 (fun v y => ?_) (fun v hv j hj => (v4 v hv j hj).trans (hpre v hv j hj)) (vg_fr_trd hfr v5 (by decide))
            have g9 := hOf v y
            rw [dj_qs hh1 hh3] at g9
            have g8 : dj_q (fun i => d i 0) (fun i => d i 1) w node LL v y h = if v = dj_ho (fun i => d i 0) (fun i => d i 1) h ∧ LL + w (h / 2) ≤ y then 1 else 0 := by
              unfold dj_q
              by_cases q9 : dj_ho (fun i => d i 0) (fun i => d i 1) h = v ∧ LL + w (h / 2) ≤ y
              · rw [if_pos ⟨hh2, o4, q9⟩, if_pos ⟨q9.1.symm, q9.2⟩]
              · rw [if_neg (fun z => q9 z.2.2), if_neg (fun z => q9 ⟨z.1.symm, z.2⟩)]
            unfold dj_of
            omega
  have mid : ∀ (ws1 : va_W) (hn1 : Nat → Nat) (pl1 : Nat → Int32) (key1 : Nat → Nat) (sz1 : Nat), cs_R ay ws1 asr aN k n kn st2 wk hn1 pl1 key1 sz1 → cs_sync n kn st2 wk pl1 key1 → vg_fr ws ws1 [7, 8, 9, 10, 12, 13, 14] → vg_V D base p l e ({ frames := 3, cells := 0, slots := 0, locals := 82 } : Room) s m args below meth c 8 0 0 (MQ below (va_Qv (fun u => ∃ (kn2 : Nat → Nat) (wk2 : Nat → Nat → Nat) (hn2 : Nat → Nat) (pl2 : Nat → Int32) (key2 : Nat → Nat) (sz2 : Nat), cs_R ay u asr aN k n kn2 st2 wk2 hn2 pl2 key2 sz2 ∧ dj_inv n k kn2 st2 wk2 (fun v x => Of v x + ma_sum (dj_q (fun i => d i 0) (fun i => d i 1) w node LL v x) (2 * P)) LL (U + WM) ∧ cs_sync n kn2 st2 wk2 pl2 key2 ∧ (∀ v, v < n → ∀ j, j < st2 v → wk2 v j = wk v j) ∧ vg_fr ws u [7, 8, 9, 10, 12, 13, 14]) (vg_B D ay base Gx) (vg_A base)) args s 0 0 (vg_A base)) [(0, .ref asr), (1, .int (nI node)), (3, .long (lN LL))] [] ws1 65 := by
    intro ws1 hn1 pl1 key1 sz1 hR1 hY1 hfr
    have m6 : ws1[6]? = _ := (hfr.2 6 (by decide)).trans h6
    have m1 : ws1[1]? = _ := (hfr.2 1 (by decide)).trans n1
    have m4 : ws1[4]? = _ := (hfr.2 4 (by decide)).trans n4
    have mL := cl_L_fr nL2 (hfr.2 2 (by decide)) (fun j hj => hfr.2 j (by simp only [List.mem_cons, List.not_mem_nil, or_false]; omega))
    obtain ⟨mo, aE, bq, bE⟩ := id mL
    refine vg_aload_n X dX3_settle_65 0 rfl rfl ?_
    refine vg_get X in_X3_settle_X3 6 m6 rfl 0 (by decide) ml_X3_settle_32 rfl rfl dX3_settle_66 ?_
    refine vg_get X in_X3_settle_X0 1 m1 rfl 2 (by decide) ml_X3_settle_73 rfl rfl dX3_settle_69 ?_
    refine vg_iload_n X dX3_settle_72 1 rfl rfl ?_
    refine vg_iald X (fh node) 4 m4 rfl (by omega) (by decide) rfl dX3_settle_73 ?_
    refine vg_istore X [(5, .int (fh node)), (0, .ref asr), (1, .int (nI node)), (3, .long (lN LL))] dX3_settle_74 (by decide) rfl ?_
    refine vg_iconst X (nI 2) dX3_settle_76 (by decide) ?_
    refine vg_aload_n X dX3_settle_77 1 rfl rfl ?_
    refine vg_get X in_X3_settle_X3 6 m6 rfl 0 (by decide) ml_X3_settle_32 rfl rfl dX3_settle_78 ?_
    refine vg_get X in_X3_settle_X0 1 m1 rfl 0 (by decide) ml_X3_settle_76 rfl rfl dX3_settle_81 ?_
    refine vg_calli (vg_runV X (c_Jx4a65c_size_8abf5 l mL) (cwV 0 X.2.2.2.2.1 gX3_settle_Jx4a65c_size_8abf5 rfl rfl rfl (by decide +kernel) ⟨Nat.le_of_ble_eq_true rfl, Nat.le_of_ble_eq_true rfl⟩) 2 bq rfl rfl rfl (Nat.le_of_ble_eq_true rfl) dX3_settle_84 ⟨Nat.zero_le _, Nat.zero_le _⟩) (fun rr12 wz10 PP11 => ?_)
    obtain ⟨hw9, rfl⟩ := PP11
    rw [hw9]
    refine vg_imul X (nI (2 * P)) dX3_settle_87 (pk_mul _ _) ?_
    refine vg_istore X [(6, .int (nI (2 * P))), (5, .int (fh node)), (0, .ref asr), (1, .int (nI node)), (3, .long (lN LL))] dX3_settle_88 (by decide) rfl ?_
    refine vg_locals [2, 3, 4, 1, 0] rfl ?_
    exact loop (2 * P) (2 * P) (fh node) ws1 kn wk hn1 pl1 key1 sz1 Of (nh node hnode) (Nat.le_refl _) (Nat.le_refl _) hR1 (dj_inv_of hJ0 (fun _ _ => rfl) (by omega)) hY1 (fun _ _ => rfl) (fun _ _ _ _ => rfl) hfr
  refine vg_iload_n X dX3_settle_0 1 rfl rfl ?_
  refine vg_bipush X (nI 6) dX3_settle_1 (by decide) ?_
  refine vg_imul X (nI (node * 6)) dX3_settle_3 (pk_mul _ _) ?_
  refine vg_istore_n X [(2, .int (nI (node * 6))), (0, .ref asr), (1, .int (nI node))] dX3_settle_4 rfl (by decide) rfl ?_
  refine vg_aload_n X dX3_settle_5 1 rfl rfl ?_
  refine vg_get X in_X3_settle_X3 6 h6 rfl 3 (by decide) ml_X3_settle_22 rfl rfl dX3_settle_6 ?_
  refine vg_iload_n X dX3_settle_9 0 rfl rfl ?_
  refine vg_aload_n X dX3_settle_10 1 rfl rfl ?_
  refine vg_get X in_X3_settle_X3 6 h6 rfl 5 (by decide) ml_X3_settle_29 rfl rfl dX3_settle_11 ?_
  refine vg_iload_n X dX3_settle_14 2 rfl rfl ?_
  refine vg_iald X (nI (st node)) 14 h14 rfl (by omega) (by decide) (hkt node (by omega)).2 dX3_settle_15 ?_
  refine vg_iadd X (nI (node * 6 + st node)) dX3_settle_16 (nI_add _ _) ?_
  refine vg_lald X (lN LL) 12 h12 rfl (by omega) (by decide) (by rw [hwk node hnode _ hw8, eLL]) dX3_settle_17 ?_
  refine vg_lstore_n X [(3, .long (lN LL)), (2, .int (nI (node * 6))), (0, .ref asr), (1, .int (nI node))] dX3_settle_18 rfl (by decide) rfl ?_
  refine vg_aload_n X dX3_settle_19 2 rfl rfl ?_
  refine vg_get X in_X3_settle_X3 6 h6 rfl 5 (by decide) ml_X3_settle_29 rfl rfl dX3_settle_20 ?_
  refine vg_iload_n X dX3_settle_23 3 rfl rfl ?_
  refine vg_dup2 X dX3_settle_24 rfl rfl ?_
  refine vg_iald X (nI (st node)) 14 h14 rfl (by omega) (by decide) (hkt node (by omega)).2 dX3_settle_25 ?_
  refine vg_iconst X (nI 1) dX3_settle_26 (by decide) ?_
  refine vg_iadd X (nI (st node + 1)) dX3_settle_27 (nI_add _ _) ?_
  refine vg_iast X 14 h14 rfl (by omega) (by decide) dX3_settle_28 (fun wz13 ez14 => ?_)
  have fh15 : wz13[14]? = some (aT, .inl (ay 0, 200, .inl (upd ft node (nI (st node + 1))))) := vg_se ez14 h14
  have hkt2 : ∀ v, v < 200 → fk v = nI (kn v) ∧ upd ft node (nI (st node + 1)) v = nI (st2 v) := fun v hv => by
    by_cases c9 : v = node
    · subst c9; rw [pk_us, s2n]; exact ⟨(hkt v hv).1, rfl⟩
    · rw [pk_un c9, s2o v c9]; exact hkt v hv
  refine vg_aload_n X dX3_settle_29 2 rfl rfl ?_
  have fh16 : wz13[6]? = some (asr, .inr (6, [.ref aN, .ref aq, .ref aC, .ref aW, .ref aK, .ref aT, .int (nI k)])) := (vg_sn ez14 (by decide)).trans (h6)
  refine vg_get X in_X3_settle_X3 6 fh16 rfl 5 (by decide) ml_X3_settle_29 rfl rfl dX3_settle_30 ?_
  refine vg_iload_n X dX3_settle_33 3 rfl rfl ?_
  refine vg_iald X (nI (st node + 1)) 14 fh15 rfl (by omega) (by decide) pk_us dX3_settle_34 ?_
  refine vg_aload_n X dX3_settle_35 2 rfl rfl ?_
  refine vg_get X in_X3_settle_X3 6 fh16 rfl 4 (by decide) ml_X3_settle_25 rfl rfl dX3_settle_36 ?_
  refine vg_iload_n X dX3_settle_39 3 rfl rfl ?_
  have fh17 : wz13[13]? = some (aK, .inl (ay 0, 200, .inl fk)) := (vg_sn ez14 (by decide)).trans (h13)
  refine vg_iald X (nI (kn node)) 13 fh17 rfl (by omega) (by decide) (hkt node (by omega)).1 dX3_settle_40 ?_
  refine vg_icmp_ge X 65 dX3_settle_41 (by decide) (fun c41 => ?_) (fun c41 => ?_)
  · have c41 : kn node ≤ st node + 1 := (nI_leI (by omega) (by omega)).mp c41
    have fh18 : wz13[12]? = some (aW, .inl (ay 1, 1200, .inr (.inl fw))) := (vg_sn ez14 (by decide)).trans (h12)
    refine vg_locals [2, 3, 0] rfl ?_
    have hQ2 := cq_St_fr hQ (vg_sn (j := 7) ez14 (by decide)) (vg_sn (j := 8) ez14 (by decide)) (vg_sn (j := 9) ez14 (by decide)) (vg_sn (j := 10) ez14 (by decide))
    refine mid _ hn pl key sz ⟨aq, aC, aW, aK, aT, _, _, _, fh16, fh18, fh17, fh15, hQ2, hkt2, hwk⟩ ⟨fun v hv hv2 => (hY v hv (by omega)).1 hv2, fun v hv => ?_⟩ (vg_fr_set (vg_fr_rf ws _) ez14 (by decide))
    by_cases c9 : v = node
    · subst c9; rw [s2n]; exact ⟨⟨fun _ => by omega, fun _ => hpn⟩, fun z => absurd z (by omega)⟩
    · have c8 := (hY v (by omega) c9).2 hv
      rw [s2o v c9]; exact c8
  · have c41 : ¬ kn node ≤ st node + 1 := fun z => c41 ((nI_leI (by omega) (by omega)).mpr z)
    refine vg_aload_n X dX3_settle_44 2 rfl rfl ?_
    refine vg_get X in_X3_settle_X3 6 fh16 rfl 1 (by decide) ml_X3_settle_12 rfl rfl dX3_settle_45 ?_
    refine vg_iload_n X dX3_settle_48 3 rfl rfl ?_
    refine vg_aload_n X dX3_settle_49 2 rfl rfl ?_
    refine vg_get X in_X3_settle_X3 6 fh16 rfl 3 (by decide) ml_X3_settle_22 rfl rfl dX3_settle_50 ?_
    refine vg_iload_n X dX3_settle_53 1 rfl rfl ?_
    refine vg_aload_n X dX3_settle_54 2 rfl rfl ?_
    refine vg_get X in_X3_settle_X3 6 fh16 rfl 5 (by decide) ml_X3_settle_29 rfl rfl dX3_settle_55 ?_
    refine vg_iload_n X dX3_settle_58 3 rfl rfl ?_
    refine vg_iald X (nI (st node + 1)) 14 fh15 rfl (by omega) (by decide) pk_us dX3_settle_59 ?_
    refine vg_iadd X (nI (node * 6 + (st node + 1))) dX3_settle_60 (nI_add _ _) ?_
    have fh19 : wz13[12]? = some (aW, .inl (ay 1, 1200, .inr (.inl fw))) := (vg_sn ez14 (by decide)).trans (h12)
    refine vg_lald X (lN (wk node (st node + 1))) 12 fh19 rfl (by omega) (by decide) (hwk node hnode _ (by omega)) dX3_settle_61 ?_
    have hQ2 := cq_St_fr hQ (vg_sn (j := 7) ez14 (by decide)) (vg_sn (j := 8) ez14 (by decide)) (vg_sn (j := 9) ez14 (by decide)) (vg_sn (j := 10) ez14 (by decide))
    obtain ⟨ah, ap, asx, hp, qs, g7, g8⟩ := id hQ2
    refine vg_callv (vg_runV X (c_X1_put l hQ2 (node := node) (sv := wk node (st node + 1)) (by omega) (by have := j5 node hnode (st node + 1) (by omega); omega) (Or.inl hpn)) (cwV 2 X.2.2.2.2.1 gX3_settle_X1_put rfl rfl rfl (by decide +kernel) ⟨Nat.le_of_ble_eq_true rfl, Nat.le_of_ble_eq_true rfl⟩) 7 g7 rfl rfl rfl (Nat.le_of_ble_eq_true rfl) dX3_settle_62 ⟨Nat.zero_le _, Nat.zero_le _⟩) (fun wz20 PP21 => ?_)
    obtain ⟨hn2, pl2, sz2, p1, p2, p3⟩ := PP21
    refine vg_locals [2, 3, 0] rfl ?_
    refine mid _ hn2 pl2 _ sz2 ⟨aq, aC, aW, aK, aT, _, _, _, ((p3.2 _ (by decide)).trans fh16), ((p3.2 _ (by decide)).trans fh19), ((p3.2 _ (by decide)).trans fh17), ((p3.2 _ (by decide)).trans fh15), p1, hkt2, hwk⟩ ⟨fun v hv hv2 => ?_, fun v hv => ?_⟩ (vg_fr_trd (vg_fr_set (vg_fr_rf ws [14]) ez14 (by decide)) p3 (by decide))
    · exact (p2 v hv).mpr ⟨(hY v hv (by omega)).1 hv2, by omega⟩
    · rw [p2 v (by omega)]
      by_cases c9 : v = node
      · subst c9; rw [s2n, va_up_self]; exact ⟨⟨fun z => absurd rfl z.2, fun z => absurd (by omega) z⟩, fun _ => rfl⟩
      · have c8 := (hY v (by omega) c9).2 hv
        rw [s2o v c9, va_up_ne _ _ c9, c8.1]; exact ⟨⟨fun z => z.1, fun z => ⟨z, c9⟩⟩, c8.2⟩
