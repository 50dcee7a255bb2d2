/-- what a piece takes a unit: 0 where it may not go -/
noncomputable def ps_w (d fr to pe v : Nat → Nat) (t : Nat) : Nat := @ite _ (ps_ok d v) (Classical.propDecidable _) (ps_sec (d 3) (ps_per fr to pe (t / 3600 % 24) (d 7) 0) (v 2) (v 3) (d 2)) 0
theorem ps_w_ok {d fr to pe v : Nat → Nat} {t : Nat} (h : ps_ok d v) : ps_w d fr to pe v t = ps_sec (d 3) (ps_per fr to pe (t / 3600 % 24) (d 7) 0) (v 2) (v 3) (d 2) := if_pos h
theorem ps_w_no {d fr to pe v : Nat → Nat} {t : Nat} (h : ¬ ps_ok d v) : ps_w d fr to pe v t = 0 := if_neg h
theorem ps_sec_in {sp per p q mm : Nat} (h1 : 0 < sp) (h2 : 0 < per) (h3 : 0 < p) (h4 : 1 ≤ q) (h5 : q ≤ 20) (h6 : mm ≤ 60000) : ps_sec sp per p q mm ≤ 432000000 ∧ (1 ≤ mm → 1 ≤ ps_sec sp per p q mm) := by
  have hb : 0 < sp * per * p := Nat.mul_pos (Nat.mul_pos h1 h2) h3
  have ha : mm * 360 * q ≤ 60000 * 360 * 20 := Nat.mul_le_mul (Nat.mul_le_mul h6 (Nat.le_refl _)) h5
  unfold ps_sec
  generalize sp * per * p = b at hb ⊢
  have hq : mm ≤ mm * 360 * q := by
    have := Nat.mul_le_mul (Nat.mul_le_mul (Nat.le_refl mm) (show 1 ≤ 360 by decide)) h4
    omega
  obtain ⟨a, ea⟩ : ∃ a, a = mm * 360 * q := ⟨_, rfl⟩
  rw [← ea] at ha hq ⊢
  refine ⟨?_, fun hm => ?_⟩
  · rcases Nat.eq_zero_or_pos a with e | e
    · rw [e, Nat.div_eq_of_lt (by omega)]; omega
    · refine Nat.le_trans (Nat.div_le_of_le_mul (show a + b - 1 ≤ b * a from ?_)) (by omega)
      have : a ≤ b * a := Nat.le_mul_of_pos_left a hb
      have g2 : b ≤ b * a := Nat.le_mul_of_pos_right b e
      rcases Nat.lt_or_ge 1 b with g3 | g3
      · rcases Nat.lt_or_ge 1 a with g4 | g4
        · have : a + b ≤ a * b := by
            obtain ⟨x, rfl⟩ : ∃ x, a = x + 2 := ⟨a - 2, by omega⟩
            obtain ⟨y, rfl⟩ : ∃ y, b = y + 2 := ⟨b - 2, by omega⟩
            have : (x + 2) * (y + 2) = x * y + 2 * x + 2 * y + 4 := by rw [Nat.add_mul, Nat.mul_add, Nat.mul_add]; omega
            omega
          rw [Nat.mul_comm b a]; omega
        · have : a = 1 := by omega
          subst this; omega
      · have : b = 1 := by omega
        subst this; omega
  · exact (Nat.le_div_iff_mul_le hb).mpr (by omega)
theorem ps_w_in {d fr to pe v : Nat → Nat} {t : Nat} (hr : cp_R d fr to pe) (hv : cu_R v) : ps_w d fr to pe v t ≤ 432000000 ∧ (ps_ok d v → 1 ≤ ps_w d fr to pe v t) := by
  obtain ⟨r0, r1, r2, r3, r4, r5, r6, r7, r8, r9⟩ := hr
  obtain ⟨u0, u1, u2, u3, u4, u5, u6⟩ := hv
  have hper := ps_per_in (fr := fr) (to := to) (hour := t / 3600 % 24) (d 7) 0 (fun j _ hj => ⟨(r9 j (by omega)).2.2.1, (r9 j (by omega)).2.2.2⟩)
  by_cases h : ps_ok d v
  · rw [ps_w_ok h]
    have g := ps_sec_in (sp := d 3) h.2.1 hper.1 u2 u4 u5 r3
    exact ⟨g.1, fun _ => g.2 r2⟩
  · rw [ps_w_no h]; exact ⟨Nat.zero_le _, fun z => absurd z h⟩
theorem ma_sum_full {f : Nat → Nat} {k : Nat} : ∀ {n : Nat}, (∀ i, i < n → f i ≤ k) → n * k ≤ ma_sum f n → ∀ i, i < n → f i = k
  | 0, _, _, i, hi => absurd hi (by omega)
  | n + 1, h, hs, i, hi => by
    have hs : (n + 1) * k ≤ ma_sum f n + f n := hs
    have h1 := ma_sum_le (f := f) (g := fun _ => k) (n := n) (fun j hj => h j (by omega))
    rw [ma_sum_const] at h1
    have h2 := h n (by omega)
    rw [Nat.succ_mul] at hs
    by_cases e : i = n
    · subst e; omega
    · exact ma_sum_full (n := n) (fun j hj => h j (by omega)) (by omega) i (by omega)
theorem in_X3_pricePieces_X3 : ∀ w ∈ u_ws RX3 TX3 7, w ∈ wsX3_pricePieces := by decide +kernel
theorem ml_X3_pricePieces_32 : Cond.fieldLink RX3 32 "WayTimes$Search" "net" "LWayTimes$Net;" ∈ wsX3_pricePieces := by decide +kernel
theorem in_X3_pricePieces_X0 : ∀ w ∈ u_ws RX0 TX0 5, w ∈ wsX3_pricePieces := by decide +kernel
theorem ml_X3_pricePieces_76 : Cond.fieldLink RX3 76 "WayTimes$Net" "pieces" "Ljava/util/ArrayList;" ∈ wsX3_pricePieces := by decide +kernel
theorem mc_X3_pricePieces_96 : Cond.classLink RX3 96 "WayTimes$Piece" ∈ wsX3_pricePieces := by decide +kernel
theorem ml_X3_pricePieces_18 : Cond.fieldLink RX3 18 "WayTimes$Search" "cost" "[J" ∈ wsX3_pricePieces := by decide +kernel
theorem mk_X3_pricePieces_71 : Jvm.Cond.constantLong RX3 71 (-1) ∈ wsX3_pricePieces := by decide +kernel
theorem in_X3_pricePieces_X2 : ∀ w ∈ u_ws RX2 TX2 11, w ∈ wsX3_pricePieces := by decide +kernel
theorem ml_X3_pricePieces_110 : Cond.fieldLink RX3 110 "WayTimes$Piece" "metres" "I" ∈ wsX3_pricePieces := by decide +kernel
set_option maxHeartbeats 4000000 in
set_option maxRecDepth 100000 in
/-- Arrays.fill(int[], x) -/
theorem c_J7_fill_53178 (l : Launch) {D : va_G} {ay : Nat → ClassId} {base : Nat} {Gx : State → Prop} {ws : va_W} {q a n : Nat} {f : Nat → Int32} {x : Int32} (hq : ws[q]? = some (a, .inl (ay 0, n, .inl f))) (hn : n < 2 ^ 31) : Met l yJ7_fill_53178 wsJ7_fill_53178 ({ frames := 0, cells := 0, slots := 0, locals := 0 } : Room) (va_Pc [.ref a, .int x] (vg_B D ay base Gx ws)) (va_Qv (fun u => ∃ g : Nat → Int32, u[q]? = some (a, .inl (ay 0, n, .inl g)) ∧ (∀ j, j < n → g j = x) ∧ vg_fr ws u [q]) (vg_B D ay base Gx) (vg_A base)) 0 0 (vg_A base) := by
  refine vg_met (cc := cJ7_fill_53178) (maxL := 4) (ret := none) (own := RJ7) (lv := [(0, .ref a), (1, .int x)]) (by decide) rfl rfl (Nat.le_of_ble_eq_true rfl) rfl ?_
  intro p e s m args below meth c X hinit
  have loop : ∀ (k i : Nat) (g : Nat → Int32) (ws1 : va_W), i + k = n → ws1[q]? = some (a, .inl (ay 0, n, .inl g)) → (∀ j, j < i → g j = x) → vg_fr ws ws1 [q] → vg_V D base p l e ({ frames := 0, cells := 0, slots := 0, locals := 0 } : Room) s m args below meth c 4 0 0 (MQ below (va_Qv (fun u => ∃ g : Nat → Int32, u[q]? = some (a, .inl (ay 0, n, .inl g)) ∧ (∀ j, j < n → g j = x) ∧ vg_fr ws u [q]) (vg_B D ay base Gx) (vg_A base)) args s 0 0 (vg_A base)) [(0, .ref a), (1, .int x), (2, .int (nI i)), (3, .int (nI n))] [] ws1 5 := by
    intro k
    induction k using Nat.strongRecOn with
    | ind k ih =>
      intro i g ws1 hk hq hg hfr
      refine vg_iload_n X dJ7_fill_53178_5 2 rfl rfl ?_
      refine vg_iload_n X dJ7_fill_53178_6 3 rfl rfl ?_
      refine vg_icmp_ge X 20 dJ7_fill_53178_7 (by decide) (fun c7 => ?_) (fun c7 => ?_)
      · have c7 : n ≤ i := (nI_leI (by omega) (by omega)).mp c7
        exact vg_vret X rfl ⟨g, hq, fun j hj => hg j (by omega), hfr⟩ (Nat.le_refl _) (Nat.le_refl _) dJ7_fill_53178_20
      · have c7 : ¬ n ≤ i := fun z => c7 ((nI_leI (by omega) (by omega)).mpr z)
        refine vg_aload_n X dJ7_fill_53178_10 0 rfl rfl ?_
        refine vg_iload_n X dJ7_fill_53178_11 2 rfl rfl ?_
        refine vg_iload_n X dJ7_fill_53178_12 1 rfl rfl ?_
        refine vg_iast X q hq rfl (by omega) hn dJ7_fill_53178_13 (fun wz1 ez2 => ?_)
        have fh3 : wz1[q]? = some (a, .inl (ay 0, n, .inl (upd g i x))) := vg_se ez2 hq
        refine vg_iinc X (v := nI (i + 1)) [(2, .int (nI (i + 1))), (0, .ref a), (1, .int x), (3, .int (nI n))] dJ7_fill_53178_14 2 rfl (by rw [show Int32.ofInt 1 = nI 1 by decide, nI_add]) (by decide) rfl ?_
        refine vg_goto X 5 dJ7_fill_53178_17 (by decide) ?_
        refine vg_locals [1, 2, 0, 3] rfl ?_
        refine ih (k - 1) (by omega) (i + 1) _ _ (by omega) fh3 (fun j hj => ?_) (vg_fr_set hfr ez2 (by simp))
        by_cases c9 : j = i
        · subst c9; exact pk_us
        · rw [pk_un c9]; exact hg j (by omega)
  refine vg_iconst X (nI 0) dJ7_fill_53178_0 (by decide) ?_
  refine vg_istore_n X [(2, .int (nI 0)), (0, .ref a), (1, .int x)] dJ7_fill_53178_1 rfl (by decide) rfl ?_
  refine vg_aload_n X dJ7_fill_53178_2 1 rfl rfl ?_
  refine vg_alen X q 0 hq rfl dJ7_fill_53178_3 ?_
  refine vg_istore_n X [(3, .int (nI n)), (2, .int (nI 0)), (0, .ref a), (1, .int x)] dJ7_fill_53178_4 rfl (by decide) rfl ?_
  refine vg_locals [2, 3, 1, 0] rfl ?_
  exact loop n 0 f ws (by omega) hq (fun j hj => absurd hj (by omega)) (vg_fr_rf ws _)
set_option maxHeartbeats 4000000 in
set_option maxRecDepth 100000 in
/-- pricePieces(unit, t) -/
theorem c_X3_pricePieces (l : Launch) {D : va_G} {ay : Nat → ClassId} {base : Nat} {Gx : State → Prop} {ws : va_W} {asr aN n tE P : Nat} {el qp : Nat → Nat} {d fr to pe : Nat → Nat → Nat} {qu au t : Nat} {v : Nat → Nat} {w0 : Nat → Nat} (hC : cs_C ay ws asr 0 432000000 w0) (h6n : ∃ (y1 y2 y3 y4 y5 : Nat) (y6 : Int32), ws[6]? = some (asr, .inr (6, [.ref aN, .ref y1, .ref y2, .ref y3, .ref y4, .ref y5, .int y6]))) (hN : cn_N ay ws aN tE n P el qp d fr to pe) (hu : cu_P ws qu au v) (hqu : 56 ≤ qu) (hv : cu_R v) (ht : t < 2 ^ 31) : Met l yX3_pricePieces wsX3_pricePieces ({ frames := 3, cells := 0, slots := 0, locals := 74 } : Room) (va_Pc [.ref asr, .ref au, .int (nI t)] (vg_B D ay base Gx ws)) (va_Qv (fun u => cs_C ay u asr P 432000000 (fun i => ps_w (d i) (fr i) (to i) (pe i) v t) ∧ vg_fr ws u [11]) (vg_B D ay base Gx) (vg_A base)) 0 0 (vg_A base) := by
  refine vg_met (cc := cX3_pricePieces) (maxL := 5) (ret := none) (own := RX3) (lv := [(0, .ref asr), (1, .ref au), (2, .int (nI t))]) (by decide) rfl rfl (Nat.le_of_ble_eq_true rfl) rfl ?_
  intro p e s m args below meth c X hinit
  obtain ⟨y1, y2, y3, y4, y5, y6, h6n⟩ := h6n
  have loop : ∀ (k i : Nat) (ws1 : va_W), i + k = P → cs_C ay ws1 asr i 432000000 (fun i => ps_w (d i) (fr i) (to i) (pe i) v t) → vg_fr ws ws1 [11] → vg_V D base p l e ({ frames := 3, cells := 0, slots := 0, locals := 74 } : Room) s m args below meth c 5 0 0 (MQ below (va_Qv (fun u => cs_C ay u asr P 432000000 (fun i => ps_w (d i) (fr i) (to i) (pe i) v t) ∧ vg_fr ws u [11]) (vg_B D ay base Gx) (vg_A base)) args s 0 0 (vg_A base)) [(0, .ref asr), (1, .ref au), (2, .int (nI t)), (3, .int (nI i))] [] ws1 2 := by
    intro k
    induction k using Nat.strongRecOn with
    | ind k ih =>
      intro i ws1 hk hC1 hfr
      have f60 : ∀ j, 56 ≤ j → ws1[j]? = ws[j]? := fun j hj => hfr.2 j (by simp only [List.mem_cons, List.not_mem_nil, or_false]; omega)
      have hN1 : cn_N ay ws1 aN tE n P el qp d fr to pe := cn_N_fr hN (hfr.2 1 (by decide)) (hfr.2 2 (by decide)) (hfr.2 4 (by decide)) (hfr.2 5 (by decide)) f60
      have hu1 : cu_P ws1 qu au v := (f60 qu hqu).trans hu
      obtain ⟨aP, aU, aH, aO, fh, fo, m1, nL2, n4, n5, np, nn, nP, nh, no⟩ := id hN1
      obtain ⟨mo, aE, bq, bE⟩ := id nL2
      obtain ⟨x0, x1, x2, x3, x4, x5, kk, fc, m6, m11, hcost⟩ := id hC1
      cases ((hfr.2 6 (by decide)).trans h6n).symm.trans m6
      refine vg_iload_n X dX3_pricePieces_2 3 rfl rfl ?_
      refine vg_aload_n X dX3_pricePieces_3 0 rfl rfl ?_
      refine vg_get X in_X3_pricePieces_X3 6 m6 rfl 0 (by decide) ml_X3_pricePieces_32 rfl rfl dX3_pricePieces_4 ?_
      refine vg_get X in_X3_pricePieces_X0 1 m1 rfl 0 (by decide) ml_X3_pricePieces_76 rfl rfl dX3_pricePieces_7 ?_
      refine vg_calli (vg_runV X (c_Jx4a65c_size_8abf5 l nL2) (cwV 0 X.2.2.2.2.1 gX3_pricePieces_Jx4a65c_size_8abf5 rfl rfl rfl (by decide +kernel) ⟨Nat.le_of_ble_eq_true rfl, Nat.le_of_ble_eq_true rfl⟩) 2 bq rfl rfl rfl (Nat.le_of_ble_eq_true rfl) dX3_pricePieces_10 ⟨Nat.zero_le _, Nat.zero_le _⟩) (fun rr3 wz1 PP2 => ?_)
      obtain ⟨hw9, rfl⟩ := PP2
      rw [hw9]
      refine vg_icmp_ge X 71 dX3_pricePieces_13 (by decide) (fun c13 => ?_) (fun c13 => ?_)
      · have c13 : P ≤ i := (nI_leI (by omega) (by omega)).mp c13
        exact vg_vret X rfl ⟨by rw [show P = i by omega]; exact hC1, hfr⟩ (Nat.le_refl _) (Nat.le_refl _) dX3_pricePieces_71
      · have c13 : ¬ P ≤ i := fun z => c13 ((nI_leI (by omega) (by omega)).mpr z)
        refine vg_aload_n X dX3_pricePieces_16 0 rfl rfl ?_
        refine vg_get X in_X3_pricePieces_X3 6 m6 rfl 0 (by decide) ml_X3_pricePieces_32 rfl rfl dX3_pricePieces_17 ?_
        refine vg_get X in_X3_pricePieces_X0 1 m1 rfl 0 (by decide) ml_X3_pricePieces_76 rfl rfl dX3_pricePieces_20 ?_
        refine vg_iload_n X dX3_pricePieces_23 3 rfl rfl ?_
        obtain ⟨z1, z2, z3, z4⟩ := np i (by omega)
        refine vg_callr (vg_runV X (c_Jx4a65c_get_915e3 l nL2 (i := i) (by omega)) (cwV 1 X.2.2.2.2.1 gX3_pricePieces_Jx4a65c_get_915e3 rfl rfl rfl (by decide +kernel) ⟨Nat.le_of_ble_eq_true rfl, Nat.le_of_ble_eq_true rfl⟩) 2 bq rfl rfl rfl (Nat.le_of_ble_eq_true rfl) dX3_pricePieces_24 ⟨Nat.zero_le _, Nat.zero_le _⟩) (fun rr6 wz4 PP5 PP5q => ?_)
        obtain rfl := PP5q
        rw [PP5]
        obtain ⟨af, at2, ag, ff, ft9, fg, k0, kr⟩ := id z2
        refine vg_cast X (qp i) k0 rfl mc_X3_pricePieces_96 dX3_pricePieces_27 ?_
        refine vg_astore X [(4, .ref (el i)), (0, .ref asr), (1, .ref au), (2, .int (nI t)), (3, .int (nI i))] dX3_pricePieces_30 (by decide) rfl ?_
        refine vg_aload_n X dX3_pricePieces_32 1 rfl rfl ?_
        refine vg_get X in_X3_pricePieces_X3 6 m6 rfl 2 (by decide) ml_X3_pricePieces_18 rfl rfl dX3_pricePieces_33 ?_
        refine vg_iload_n X dX3_pricePieces_36 4 rfl rfl ?_
        refine vg_aload X dX3_pricePieces_37 0 rfl ?_
        refine vg_aload_n X dX3_pricePieces_39 2 rfl rfl ?_
        refine vg_calli (vg_runV X (c_X2_letsPass l z2 z3 hu1 hv) (cwV 1 X.2.2.2.2.1 gX3_pricePieces_X2_letsPass rfl rfl rfl (by decide +kernel) ⟨Nat.le_of_ble_eq_true rfl, Nat.le_of_ble_eq_true rfl⟩) (qp i) k0 rfl rfl rfl (Nat.le_of_ble_eq_true rfl) dX3_pricePieces_40 ⟨Nat.zero_le _, Nat.zero_le _⟩) (fun rr9 wz7 PP8 => ?_)
        obtain ⟨hw9, hy9, hn9⟩ := PP8
        rw [hw9]
        refine vg_if_eq X 61 dX3_pricePieces_43 (by decide) (fun c43 => ?_) (fun c43 => ?_)
        · have hok : ¬ ps_ok (d i) v := fun q9 => by have := hy9 q9; rw [c43] at this; exact absurd this (by decide)
          refine vg_ldc2 X (-1) dX3_pricePieces_61 mk_X3_pricePieces_71 ?_
          refine vg_last X 11 m11 rfl (by omega) (by decide) dX3_pricePieces_64 (fun wz10 ez11 => ?_)
          have fh12 : wz10[11]? = some (y2, .inl (ay 1, 150, .inr (.inl (vp_updL fc i (-1))))) := vg_se ez11 m11
          refine vg_iinc X (v := nI (i + 1)) [(3, .int (nI (i + 1))), (4, .ref (el i)), (0, .ref asr), (1, .ref au), (2, .int (nI t))] dX3_pricePieces_65 4 rfl (by rw [show Int32.ofInt 1 = nI 1 by decide, nI_add]) (by decide) rfl ?_
          refine vg_goto X 2 dX3_pricePieces_68 (by decide) ?_
          refine vg_locals [2, 3, 4, 0] rfl ?_
          have fh13 : wz10[6]? = some (asr, .inr (6, [.ref aN, .ref y1, .ref y2, .ref y3, .ref y4, .ref y5, .int y6])) := (vg_sn ez11 (by decide)).trans (m6)
          refine ih (k - 1) (by omega) (i + 1) _ (by omega) ⟨_, _, _, _, _, _, _, _, fh13, fh12, fun j hj => ?_⟩ (vg_fr_set hfr ez11 (by decide))
          have hin := ps_w_in (t := t) z3 hv
          by_cases c9 : j = i
          · subst c9; rw [pk_uLs]
            exact ⟨fun _ => rfl, fun q9 => absurd (ps_w_no hok) q9, hin.1⟩
          · rw [pk_uLn c9]; exact hcost j (by omega)
        · have hok : ps_ok (d i) v := Classical.byContradiction (fun q9 => c43 (hn9 q9))
          refine vg_aload X dX3_pricePieces_46 0 rfl ?_
          refine vg_aload_n X dX3_pricePieces_48 2 rfl rfl ?_
          refine vg_aload X dX3_pricePieces_49 0 rfl ?_
          refine vg_get X in_X3_pricePieces_X2 (qp i) k0 rfl 2 (by decide) ml_X3_pricePieces_110 rfl rfl dX3_pricePieces_51 ?_
          refine vg_iload_n X dX3_pricePieces_54 3 rfl rfl ?_
          refine vg_calll (vg_runV X (c_X2_secondsFor l z2 z3 hu1 hv (part := d i 2) (t := t) (by have := z3.2.2.2.1; omega) ht) (cwV 3 X.2.2.2.2.1 gX3_pricePieces_X2_secondsFor rfl rfl rfl (by decide +kernel) ⟨Nat.le_of_ble_eq_true rfl, Nat.le_of_ble_eq_true rfl⟩) (qp i) k0 rfl rfl rfl (Nat.le_of_ble_eq_true rfl) dX3_pricePieces_55 ⟨Nat.zero_le _, Nat.zero_le _⟩) (fun rr16 wz14 PP15 => ?_)
          obtain ⟨hw8, hs0, hs1⟩ := PP15
          rw [hw8]
          have e8 := hs1 hok.2.1
          rw [← ps_w_ok (t := t) hok] at e8
          subst e8
          refine vg_goto X 64 dX3_pricePieces_58 (by decide) ?_
          refine vg_last X 11 m11 rfl (by omega) (by decide) dX3_pricePieces_64 (fun wz17 ez18 => ?_)
          have fh19 : wz17[11]? = some (y2, .inl (ay 1, 150, .inr (.inl (vp_updL fc i (lN (ps_w (d i) (fr i) (to i) (pe i) v t)))))) := vg_se ez18 m11
          refine vg_iinc X (v := nI (i + 1)) [(3, .int (nI (i + 1))), (4, .ref (el i)), (0, .ref asr), (1, .ref au), (2, .int (nI t))] dX3_pricePieces_65 4 rfl (by rw [show Int32.ofInt 1 = nI 1 by decide, nI_add]) (by decide) rfl ?_
          refine vg_goto X 2 dX3_pricePieces_68 (by decide) ?_
          refine vg_locals [2, 3, 4, 0] rfl ?_
          have fh20 : wz17[6]? = some (asr, .inr (6, [.ref aN, .ref y1, .ref y2, .ref y3, .ref y4, .ref y5, .int y6])) := (vg_sn ez18 (by decide)).trans (m6)
          refine ih (k - 1) (by omega) (i + 1) _ (by omega) ⟨_, _, _, _, _, _, _, _, fh20, fh19, fun j hj => ?_⟩ (vg_fr_set hfr ez18 (by decide))
          have hin := ps_w_in (t := t) z3 hv
          by_cases c9 : j = i
          · subst c9; rw [pk_uLs]
            exact ⟨fun q9 => absurd (show ps_w (d j) (fr j) (to j) (pe j) v t = 0 from q9) (by have := hin.2 hok; omega), fun _ => rfl, hin.1⟩
          · rw [pk_uLn c9]; exact hcost j (by omega)
  refine vg_iconst X (nI 0) dX3_pricePieces_0 (by decide) ?_
  refine vg_istore_n X [(3, .int (nI 0)), (0, .ref asr), (1, .ref au), (2, .int (nI t))] dX3_pricePieces_1 rfl (by decide) rfl ?_
  refine vg_locals [1, 2, 3, 0] rfl ?_
  obtain ⟨x0, x1, x2, x3, x4, x5, kk, fc, g6, g11, _⟩ := hC
  exact loop P 0 ws (by omega) ⟨x0, x1, x2, x3, x4, x5, kk, fc, g6, g11, fun j hj => absurd hj (by omega)⟩ (vg_fr_rf ws _)
