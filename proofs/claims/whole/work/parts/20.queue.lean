/-- the queue's cells (places 7 to 10) and what they mean -/
def cq_St (ay : Nat → ClassId) (ws : va_W) (aq : Nat) (hn : Nat → Nat) (pl : Nat → Int32) (key : Nat → Nat) (sz : Nat) : Prop :=
  ∃ (ah ap asx : Nat) (hp : Nat → Int32) (qs : Nat → Int64), ws[7]? = some (aq, .inr (4, [.ref ah, .ref ap, .ref asx, .int (nI sz)])) ∧ ws[8]? = some (ah, .inl (ay 0, 200, .inl hp)) ∧ ws[9]? = some (ap, .inl (ay 0, 200, .inl pl)) ∧ ws[10]? = some (asx, .inl (ay 1, 200, .inr (.inl qs))) ∧
  hq_ok hn pl key sz ∧ (∀ i, i < sz → hp i = nI (hn i)) ∧ ∀ i, i < sz → qs (hn i) = lN (key (hn i)) ∧ key (hn i) < 2 ^ 62
theorem in_X1_put_X1 : ∀ w ∈ u_ws RX1 TX1 4, w ∈ wsX1_put := by decide +kernel
theorem ml_X1_put_9 : Cond.fieldLink RX1 9 "WayTimes$NodeQueue" "heap" "[I" ∈ wsX1_put := by decide +kernel
theorem ml_X1_put_15 : Cond.fieldLink RX1 15 "WayTimes$NodeQueue" "place" "[I" ∈ wsX1_put := by decide +kernel
theorem ml_X1_put_18 : Cond.fieldLink RX1 18 "WayTimes$NodeQueue" "seconds" "[J" ∈ wsX1_put := by decide +kernel
theorem ml_X1_put_28 : Cond.fieldLink RX1 28 "WayTimes$NodeQueue" "size" "I" ∈ wsX1_put := by decide +kernel
theorem in_X1_sinkFromTop_X1 : ∀ w ∈ u_ws RX1 TX1 4, w ∈ wsX1_sinkFromTop := by decide +kernel
theorem ml_X1_sinkFromTop_9 : Cond.fieldLink RX1 9 "WayTimes$NodeQueue" "heap" "[I" ∈ wsX1_sinkFromTop := by decide +kernel
theorem ml_X1_sinkFromTop_15 : Cond.fieldLink RX1 15 "WayTimes$NodeQueue" "place" "[I" ∈ wsX1_sinkFromTop := by decide +kernel
theorem ml_X1_sinkFromTop_18 : Cond.fieldLink RX1 18 "WayTimes$NodeQueue" "seconds" "[J" ∈ wsX1_sinkFromTop := by decide +kernel
theorem ml_X1_sinkFromTop_28 : Cond.fieldLink RX1 28 "WayTimes$NodeQueue" "size" "I" ∈ wsX1_sinkFromTop := by decide +kernel
theorem in_X1_takeLeast_X1 : ∀ w ∈ u_ws RX1 TX1 4, w ∈ wsX1_takeLeast := by decide +kernel
theorem ml_X1_takeLeast_28 : Cond.fieldLink RX1 28 "WayTimes$NodeQueue" "size" "I" ∈ wsX1_takeLeast := by decide +kernel
theorem ml_X1_takeLeast_9 : Cond.fieldLink RX1 9 "WayTimes$NodeQueue" "heap" "[I" ∈ wsX1_takeLeast := by decide +kernel
theorem ml_X1_takeLeast_15 : Cond.fieldLink RX1 15 "WayTimes$NodeQueue" "place" "[I" ∈ wsX1_takeLeast := by decide +kernel
set_option maxHeartbeats 4000000 in
set_option maxRecDepth 100000 in
/-- put(node, s): the node waits, with s seconds -/
theorem c_X1_put (l : Launch) {D : va_G} {ay : Nat → ClassId} {base : Nat} {Gx : State → Prop} {ws : va_W} {aq : Nat} {hn : Nat → Nat} {pl : Nat → Int32} {key : Nat → Nat} {sz : Nat} {node sv : Nat} (hq : cq_St ay ws aq hn pl key sz) (hnode : node < 200) (hs : sv < 2 ^ 62) (hlow : pl node = -1 ∨ sv ≤ key node) : Met l yX1_put wsX1_put ({ frames := 0, cells := 0, slots := 0, locals := 0 } : Room) (va_Pc [.ref aq, .int (nI node), .long (lN sv)] (vg_B D ay base Gx ws)) (va_Qv (fun u => ∃ (hn2 : Nat → Nat) (pl2 : Nat → Int32) (sz2 : Nat), cq_St ay u aq hn2 pl2 (va_up key node sv) sz2 ∧ (∀ v, v < 200 → (pl2 v = -1 ↔ pl v = -1 ∧ v ≠ node)) ∧ vg_fr ws u [7, 8, 9, 10]) (vg_B D ay base Gx) (vg_A base)) 0 0 (vg_A base) := by
  refine vg_met (cc := cX1_put) (maxL := 6) (ret := none) (own := RX1) (lv := [(0, .ref aq), (1, .int (nI node)), (2, .long (lN sv))]) (by decide) rfl rfl (Nat.le_of_ble_eq_true rfl) rfl ?_
  intro p e s m args below meth c X hinit
  obtain ⟨ah, ap, asx, hp, qs, h7, h8, h9, h10, hok, hhp, hqs⟩ := hq
  have fin : ∀ (h : Nat) (hn1 : Nat → Nat) (hp1 pl1 : Nat → Int32) (qs1 : Nat → Int64) (sz1 : Nat) (ws1 : va_W), ws1[7]? = some (aq, .inr (4, [.ref ah, .ref ap, .ref asx, .int (nI sz1)])) → ws1[8]? = some (ah, .inl (ay 0, 200, .inl hp1)) → ws1[9]? = some (ap, .inl (ay 0, 200, .inl pl1)) → ws1[10]? = some (asx, .inl (ay 1, 200, .inr (.inl qs1))) → vg_fr ws ws1 [7, 8, 9, 10] → hq_hole hn1 pl1 (va_up key node sv) sz1 h node → (∀ j, 0 < j → j < sz1 → (j - 1) / 2 = h → va_up key node sv node ≤ va_up key node sv (hn1 j)) → (∀ i, i < sz1 → i ≠ h → hp1 i = nI (hn1 i)) → (∀ i, i < sz1 → i ≠ h → qs1 (hn1 i) = lN (va_up key node sv (hn1 i)) ∧ va_up key node sv (hn1 i) < 2 ^ 62) → qs1 node = lN sv → (∀ v, v < 200 → v ≠ node → (pl1 v = -1 ↔ pl v = -1)) → (h = 0 ∨ va_up key node sv (hn1 ((h - 1) / 2)) ≤ va_up key node sv node) → vg_V D base p l e ({ frames := 0, cells := 0, slots := 0, locals := 0 } : Room) s m args below meth c 6 0 0 (MQ below (va_Qv (fun u => ∃ (hn2 : Nat → Nat) (pl2 : Nat → Int32) (sz2 : Nat), cq_St ay u aq hn2 pl2 (va_up key node sv) sz2 ∧ (∀ v, v < 200 → (pl2 v = -1 ↔ pl v = -1 ∧ v ≠ node)) ∧ vg_fr ws u [7, 8, 9, 10]) (vg_B D ay base Gx) (vg_A base)) args s 0 0 (vg_A base)) [(0, .ref aq), (1, .int (nI node)), (2, .long (lN sv)), (4, .int (nI h))] [] ws1 105 := by
    intro h hn1 hp1 pl1 qs1 sz1 ws1 h7 h8 h9 h10 hfr hole hch hhp1 hqs1 hqn hpl1 hpar
    obtain ⟨q1, q2, q3, q4, q5, q6, q7⟩ := id hole
    refine vg_aload_n X dX1_put_105 0 rfl rfl ?_
    refine vg_get X in_X1_put_X1 7 h7 rfl 0 (by decide) ml_X1_put_9 rfl rfl dX1_put_106 ?_
    refine vg_iload X dX1_put_109 3 rfl ?_
    refine vg_iload_n X dX1_put_111 1 rfl rfl ?_
    refine vg_iast X 8 h8 rfl (by omega) (by decide) dX1_put_112 (fun wz1 ez2 => ?_)
    have fh3 : wz1[8]? = some (ah, .inl (ay 0, 200, .inl (upd hp1 h (nI node)))) := vg_se ez2 h8
    refine vg_aload_n X dX1_put_113 0 rfl rfl ?_
    have fh4 : wz1[7]? = some (aq, .inr (4, [.ref ah, .ref ap, .ref asx, .int (nI sz1)])) := (vg_sn ez2 (by decide)).trans (h7)
    refine vg_get X in_X1_put_X1 7 fh4 rfl 1 (by decide) ml_X1_put_15 rfl rfl dX1_put_114 ?_
    refine vg_iload_n X dX1_put_117 1 rfl rfl ?_
    refine vg_iload X dX1_put_118 3 rfl ?_
    have fh5 : wz1[9]? = some (ap, .inl (ay 0, 200, .inl pl1)) := (vg_sn ez2 (by decide)).trans (h9)
    refine vg_iast X 9 fh5 rfl (by omega) (by decide) dX1_put_120 (fun wz6 ez7 => ?_)
    have fh8 : wz6[9]? = some (ap, .inl (ay 0, 200, .inl (upd pl1 node (nI h)))) := vg_se ez7 fh5
    have fh9 : wz6[7]? = some (aq, .inr (4, [.ref ah, .ref ap, .ref asx, .int (nI sz1)])) := (vg_sn ez7 (by decide)).trans (fh4)
    have fh10 : wz6[8]? = some (ah, .inl (ay 0, 200, .inl (upd hp1 h (nI node)))) := (vg_sn ez7 (by decide)).trans (fh3)
    have fh11 : wz6[10]? = some (asx, .inl (ay 1, 200, .inr (.inl qs1))) := (vg_sn ez7 (by decide)).trans ((vg_sn ez2 (by decide)).trans (h10))
    have hf := hq_fill hole hch hpar
    refine vg_vret X rfl ⟨va_up hn1 h node, upd pl1 node (nI h), sz1, ⟨ah, ap, asx, _, _, fh9, fh10, fh8, fh11, hf, fun i hi => ?_, fun i hi => ?_⟩, fun v hv => ?_, (vg_fr_set (vg_fr_set hfr ez2 (by decide)) ez7 (by decide))⟩ (Nat.le_refl _) (Nat.le_refl _) dX1_put_121
    · by_cases c1 : i = h
      · subst c1; rw [va_up_self, pk_us]
      · rw [va_up_ne _ _ c1, pk_un c1]; exact hhp1 i hi c1
    · by_cases c1 : i = h
      · subst c1; rw [va_up_self, va_up_self]; exact ⟨hqn, hs⟩
      · rw [va_up_ne hn1 _ c1]; exact hqs1 i hi c1
    · by_cases c1 : v = node
      · subst c1; rw [pk_us]; exact ⟨fun z => absurd z (hq_nm1 (by omega)), fun z => absurd rfl z.2⟩
      · rw [pk_un c1, hpl1 v hv c1]; exact ⟨fun z => ⟨z, c1⟩, fun z => z.1⟩
  have loop : ∀ (h : Nat) (hn1 : Nat → Nat) (hp1 pl1 : Nat → Int32) (qs1 : Nat → Int64) (sz1 : Nat) (ws1 : va_W), ws1[7]? = some (aq, .inr (4, [.ref ah, .ref ap, .ref asx, .int (nI sz1)])) → ws1[8]? = some (ah, .inl (ay 0, 200, .inl hp1)) → ws1[9]? = some (ap, .inl (ay 0, 200, .inl pl1)) → ws1[10]? = some (asx, .inl (ay 1, 200, .inr (.inl qs1))) → vg_fr ws ws1 [7, 8, 9, 10] → hq_hole hn1 pl1 (va_up key node sv) sz1 h node → (∀ j, 0 < j → j < sz1 → (j - 1) / 2 = h → va_up key node sv node ≤ va_up key node sv (hn1 j)) → (∀ i, i < sz1 → i ≠ h → hp1 i = nI (hn1 i)) → (∀ i, i < sz1 → i ≠ h → qs1 (hn1 i) = lN (va_up key node sv (hn1 i)) ∧ va_up key node sv (hn1 i) < 2 ^ 62) → qs1 node = lN sv → (∀ v, v < 200 → v ≠ node → (pl1 v = -1 ↔ pl v = -1)) → vg_V D base p l e ({ frames := 0, cells := 0, slots := 0, locals := 0 } : Room) s m args below meth c 6 0 0 (MQ below (va_Qv (fun u => ∃ (hn2 : Nat → Nat) (pl2 : Nat → Int32) (sz2 : Nat), cq_St ay u aq hn2 pl2 (va_up key node sv) sz2 ∧ (∀ v, v < 200 → (pl2 v = -1 ↔ pl v = -1 ∧ v ≠ node)) ∧ vg_fr ws u [7, 8, 9, 10]) (vg_B D ay base Gx) (vg_A base)) args s 0 0 (vg_A base)) [(0, .ref aq), (1, .int (nI node)), (2, .long (lN sv)), (4, .int (nI h))] [] ws1 37 := by
    intro h
    induction h using Nat.strongRecOn with
    | ind h ih =>
      intro hn1 hp1 pl1 qs1 sz1 ws1 h7 h8 h9 h10 hfr hole hch hhp1 hqs1 hqn hpl1
      obtain ⟨q1, q2, q3, q4, q5, q6, q7⟩ := id hole
      refine vg_iload X dX1_put_37 3 rfl ?_
      refine vg_if_le X 105 dX1_put_39 (by decide) (fun c39 => ?_) (fun c39 => ?_)
      · have c39 : h ≤ 0 := (vg_le0 (by omega)).mp c39
        exact fin h hn1 hp1 pl1 qs1 sz1 ws1 h7 h8 h9 h10 hfr hole hch hhp1 hqs1 hqn hpl1 (Or.inl (by omega))
      · have c39 : ¬ h ≤ 0 := fun z => c39 ((vg_le0 (by omega)).mpr z)
        refine vg_aload_n X dX1_put_42 0 rfl rfl ?_
        refine vg_get X in_X1_put_X1 7 h7 rfl 2 (by decide) ml_X1_put_18 rfl rfl dX1_put_43 ?_
        refine vg_aload_n X dX1_put_46 0 rfl rfl ?_
        refine vg_get X in_X1_put_X1 7 h7 rfl 0 (by decide) ml_X1_put_9 rfl rfl dX1_put_47 ?_
        refine vg_iload X dX1_put_50 3 rfl ?_
        refine vg_iconst X (nI 1) dX1_put_52 (by decide) ?_
        refine vg_isub X (nI (h - 1)) dX1_put_53 (pk_sub (by omega)) ?_
        refine vg_iconst X (nI 2) dX1_put_54 (by decide) ?_
        refine vg_idiv X (nI ((h - 1) / 2)) dX1_put_55 (nI_ne0 (by omega) (by omega)) (pk_div (by omega) (by omega) (by omega)) ?_
        refine vg_iald X (nI (hn1 ((h - 1) / 2))) 8 h8 rfl (by omega) (by decide) (hhp1 _ (by omega) (by omega)) dX1_put_56 ?_
        refine vg_lald X (lN (va_up key node sv (hn1 ((h - 1) / 2)))) 10 h10 rfl (q4 _ (by omega) (by omega)).1 (by decide) (hqs1 _ (by omega) (by omega)).1 dX1_put_57 ?_
        refine vg_lload_n X dX1_put_58 2 rfl rfl ?_
        refine vg_lcmp_le X 105 dX1_put_59 dX1_put_60 (by decide) (fun c59 => ?_) (fun c59 => ?_)
        · have c59 : va_up key node sv (hn1 ((h - 1) / 2)) ≤ sv := (pk_lLE (by have := (hqs1 ((h - 1) / 2) (by omega) (by omega)).2; omega) (by omega)).mp c59
          exact fin h hn1 hp1 pl1 qs1 sz1 ws1 h7 h8 h9 h10 hfr hole hch hhp1 hqs1 hqn hpl1 (Or.inr (by rw [va_up_self]; exact c59))
        · have c59 : ¬ va_up key node sv (hn1 ((h - 1) / 2)) ≤ sv := fun z => c59 ((pk_lLE (by have := (hqs1 ((h - 1) / 2) (by omega) (by omega)).2; omega) (by omega)).mpr z)
          refine vg_aload_n X dX1_put_63 0 rfl rfl ?_
          refine vg_get X in_X1_put_X1 7 h7 rfl 0 (by decide) ml_X1_put_9 rfl rfl dX1_put_64 ?_
          refine vg_iload X dX1_put_67 3 rfl ?_
          refine vg_iconst X (nI 1) dX1_put_69 (by decide) ?_
          refine vg_isub X (nI (h - 1)) dX1_put_70 (pk_sub (by omega)) ?_
          refine vg_iconst X (nI 2) dX1_put_71 (by decide) ?_
          refine vg_idiv X (nI ((h - 1) / 2)) dX1_put_72 (nI_ne0 (by omega) (by omega)) (pk_div (by omega) (by omega) (by omega)) ?_
          refine vg_iald X (nI (hn1 ((h - 1) / 2))) 8 h8 rfl (by omega) (by decide) (hhp1 _ (by omega) (by omega)) dX1_put_73 ?_
          refine vg_istore X [(5, .int (nI (hn1 ((h - 1) / 2)))), (0, .ref aq), (1, .int (nI node)), (2, .long (lN sv)), (4, .int (nI h))] dX1_put_74 (by decide) rfl ?_
          refine vg_aload_n X dX1_put_76 1 rfl rfl ?_
          refine vg_get X in_X1_put_X1 7 h7 rfl 0 (by decide) ml_X1_put_9 rfl rfl dX1_put_77 ?_
          refine vg_iload X dX1_put_80 4 rfl ?_
          refine vg_iload X dX1_put_82 0 rfl ?_
          refine vg_iast X 8 h8 rfl (by omega) (by decide) dX1_put_84 (fun wz12 ez13 => ?_)
          have fh14 : wz12[8]? = some (ah, .inl (ay 0, 200, .inl (upd hp1 h (nI (hn1 ((h - 1) / 2)))))) := vg_se ez13 h8
          refine vg_aload_n X dX1_put_85 1 rfl rfl ?_
          have fh15 : wz12[7]? = some (aq, .inr (4, [.ref ah, .ref ap, .ref asx, .int (nI sz1)])) := (vg_sn ez13 (by decide)).trans (h7)
          refine vg_get X in_X1_put_X1 7 fh15 rfl 1 (by decide) ml_X1_put_15 rfl rfl dX1_put_86 ?_
          refine vg_iload X dX1_put_89 0 rfl ?_
          refine vg_iload X dX1_put_91 4 rfl ?_
          have fh16 : wz12[9]? = some (ap, .inl (ay 0, 200, .inl pl1)) := (vg_sn ez13 (by decide)).trans (h9)
          refine vg_iast X 9 fh16 rfl (q4 _ (by omega) (by omega)).1 (by decide) dX1_put_93 (fun wz17 ez18 => ?_)
          have fh19 : wz17[9]? = some (ap, .inl (ay 0, 200, .inl (upd pl1 (hn1 ((h - 1) / 2)) (nI h)))) := vg_se ez18 fh16
          refine vg_iload X dX1_put_94 4 rfl ?_
          refine vg_iconst X (nI 1) dX1_put_96 (by decide) ?_
          refine vg_isub X (nI (h - 1)) dX1_put_97 (pk_sub (by omega)) ?_
          refine vg_iconst X (nI 2) dX1_put_98 (by decide) ?_
          refine vg_idiv X (nI ((h - 1) / 2)) dX1_put_99 (nI_ne0 (by omega) (by omega)) (pk_div (by omega) (by omega) (by omega)) ?_
          refine vg_istore X [(4, .int (nI ((h - 1) / 2))), (5, .int (nI (hn1 ((h - 1) / 2)))), (0, .ref aq), (1, .int (nI node)), (2, .long (lN sv))] dX1_put_100 (by decide) rfl ?_
          refine vg_goto X 37 dX1_put_102 (by decide) ?_
          refine vg_locals [2, 3, 4, 0] rfl ?_
          have fh20 : wz17[7]? = some (aq, .inr (4, [.ref ah, .ref ap, .ref asx, .int (nI sz1)])) := (vg_sn ez18 (by decide)).trans (fh15)
          have fh21 : wz17[8]? = some (ah, .inl (ay 0, 200, .inl (upd hp1 h (nI (hn1 ((h - 1) / 2)))))) := (vg_sn ez18 (by decide)).trans (fh14)
          have fh22 : wz17[10]? = some (asx, .inl (ay 1, 200, .inr (.inl qs1))) := (vg_sn ez18 (by decide)).trans ((vg_sn ez13 (by decide)).trans (h10))
          obtain ⟨g1, g2⟩ := hq_rise hole (by omega) hch (by rw [va_up_self]; omega)
          refine ih ((h - 1) / 2) (by omega) (va_up hn1 h (hn1 ((h - 1) / 2))) _ _ qs1 sz1 _ fh20 fh21 fh19 fh22 (vg_fr_set (vg_fr_set hfr ez13 (by decide)) ez18 (by decide)) g1 g2 (fun i hi hne => ?_) (fun i hi hne => ?_) hqn (fun v hv hvn => ?_)
          · by_cases c1 : i = h
            · subst c1; rw [va_up_self, pk_us]
            · rw [va_up_ne _ _ c1, pk_un c1]; exact hhp1 i hi c1
          · by_cases c1 : i = h
            · subst c1; rw [va_up_self hn1]; exact hqs1 _ (by omega) (by omega)
            · rw [va_up_ne hn1 _ c1]; exact hqs1 i hi c1
          · by_cases c1 : v = hn1 ((h - 1) / 2)
            · subst c1; rw [pk_us]
              have w1 : pl1 (hn1 ((h - 1) / 2)) ≠ -1 := by rw [(q4 _ (by omega) (by omega)).2.1]; exact hq_nm1 (by omega)
              exact ⟨fun z => absurd z (hq_nm1 (by omega)), fun z => absurd ((hpl1 _ hv hvn).mpr z) w1⟩
            · rw [pk_un c1]; exact hpl1 v hv hvn
  refine vg_aload_n X dX1_put_0 0 rfl rfl ?_
  refine vg_get X in_X1_put_X1 7 h7 rfl 2 (by decide) ml_X1_put_18 rfl rfl dX1_put_1 ?_
  refine vg_iload_n X dX1_put_4 1 rfl rfl ?_
  refine vg_lload_n X dX1_put_5 2 rfl rfl ?_
  refine vg_last X 10 h10 rfl (by omega) (by decide) dX1_put_6 (fun wz23 ez24 => ?_)
  have fh25 : wz23[10]? = some (asx, .inl (ay 1, 200, .inr (.inl (vp_updL qs node (lN sv))))) := vg_se ez24 h10
  refine vg_aload_n X dX1_put_7 0 rfl rfl ?_
  have fh26 : wz23[7]? = some (aq, .inr (4, [.ref ah, .ref ap, .ref asx, .int (nI sz)])) := (vg_sn ez24 (by decide)).trans (h7)
  refine vg_get X in_X1_put_X1 7 fh26 rfl 1 (by decide) ml_X1_put_15 rfl rfl dX1_put_8 ?_
  refine vg_iload_n X dX1_put_11 1 rfl rfl ?_
  have fh27 : wz23[9]? = some (ap, .inl (ay 0, 200, .inl pl)) := (vg_sn ez24 (by decide)).trans (h9)
  refine vg_iald X (pl node) 9 fh27 rfl (by omega) (by decide) rfl dX1_put_12 ?_
  refine vg_istore X [(4, .int (pl node)), (0, .ref aq), (1, .int (nI node)), (2, .long (lN sv))] dX1_put_13 (by decide) rfl ?_
  refine vg_iload X dX1_put_15 0 rfl ?_
  refine vg_iconst X (-1) dX1_put_17 (by decide) ?_
  refine vg_icmp_ne X 37 dX1_put_18 (by decide) (fun c18 => ?_) (fun c18 => ?_)
  · skip
    obtain ⟨h, hh, hnd⟩ : ∃ i, i < sz ∧ hn i = node := (hok.2.2.1 node hnode).resolve_left c18
    have epl : pl node = nI h := by rw [← hnd]; exact (hok.2.1 h hh).2
    rw [epl]
    refine vg_locals [1, 2, 3, 0] rfl ?_
    have fh28 : wz23[8]? = some (ah, .inl (ay 0, 200, .inl hp)) := (vg_sn ez24 (by decide)).trans (h8)
    obtain ⟨g1, g2⟩ := hq_lower hok hh hnd (hlow.resolve_left c18)
    refine loop h hn hp pl _ sz _ fh26 fh28 fh27 fh25 (vg_fr_set (vg_fr_rf ws _) ez24 (by decide)) g1 g2 (fun i hi hne => hhp i hi) (fun i hi hne => ?_) pk_uLs (fun v hv hvn => Iff.rfl)
    have w1 := (g1.2.2.2.1 i hi hne).2.2
    rw [pk_uLn w1, va_up_ne key _ w1]; exact hqs i hi
  · skip
    refine vg_aload_n X dX1_put_21 1 rfl rfl ?_
    refine vg_get X in_X1_put_X1 7 fh26 rfl 3 (by decide) ml_X1_put_28 rfl rfl dX1_put_22 ?_
    refine vg_istore X [(4, .int (nI sz)), (0, .ref aq), (1, .int (nI node)), (2, .long (lN sv))] dX1_put_25 (by decide) rfl ?_
    refine vg_aload_n X dX1_put_27 1 rfl rfl ?_
    refine vg_dup X dX1_put_28 rfl ?_
    refine vg_get X in_X1_put_X1 7 fh26 rfl 3 (by decide) ml_X1_put_28 rfl rfl dX1_put_29 ?_
    refine vg_iconst X (nI 1) dX1_put_32 (by decide) ?_
    refine vg_iadd X (nI (sz + 1)) dX1_put_33 (nI_add _ _) ?_
    refine vg_put X in_X1_put_X1 tyX1 tyX1_ok nmX1 7 fh26 rfl 3 (by decide) ml_X1_put_28 rfl rfl rfl rfl (Nat.le_of_ble_eq_true rfl) dX1_put_34 (fun wz29 ez30 => ?_)
    have fh31 : wz29[7]? = some (aq, .inr (4, [.ref ah, .ref ap, .ref asx, .int (nI (sz + 1))])) := vg_se ez30 fh26
    refine vg_locals [1, 2, 3, 0] rfl ?_
    have fh32 : wz29[8]? = some (ah, .inl (ay 0, 200, .inl hp)) := (vg_sn ez30 (by decide)).trans ((vg_sn ez24 (by decide)).trans (h8))
    have fh33 : wz29[9]? = some (ap, .inl (ay 0, 200, .inl pl)) := (vg_sn ez30 (by decide)).trans (fh27)
    have fh34 : wz29[10]? = some (asx, .inl (ay 1, 200, .inr (.inl (vp_updL qs node (lN sv))))) := (vg_sn ez30 (by decide)).trans (fh25)
    obtain ⟨g1, g2⟩ := hq_enter (s := sv) hok hnode c18
    refine loop sz hn hp pl _ (sz + 1) _ fh31 fh32 fh33 fh34 (vg_fr_set (vg_fr_set (vg_fr_rf ws _) ez24 (by decide)) ez30 (by decide)) g1 g2 (fun i hi hne => hhp i (by omega)) (fun i hi hne => ?_) pk_uLs (fun v hv hvn => Iff.rfl)
    have w1 := (g1.2.2.2.1 i hi hne).2.2
    rw [pk_uLn w1, va_up_ne key _ w1]; exact hqs i (by omega)
set_option maxHeartbeats 4000000 in
set_option maxRecDepth 100000 in
/-- sinkFromTop(node): laid again, from the top -/
theorem c_X1_sinkFromTop (l : Launch) {D : va_G} {ay : Nat → ClassId} {base : Nat} {Gx : State → Prop} {ws : va_W} {aq : Nat} {hn : Nat → Nat} {pl : Nat → Int32} {key : Nat → Nat} {sz : Nat} {node ah ap asx : Nat} {hp : Nat → Int32} {qs : Nat → Int64} (h7 : ws[7]? = some (aq, .inr (4, [.ref ah, .ref ap, .ref asx, .int (nI sz)]))) (h8 : ws[8]? = some (ah, .inl (ay 0, 200, .inl hp))) (h9 : ws[9]? = some (ap, .inl (ay 0, 200, .inl pl))) (h10 : ws[10]? = some (asx, .inl (ay 1, 200, .inr (.inl qs)))) (hole : hq_hole hn pl key sz 0 node) (hhp : ∀ i, i < sz → i ≠ 0 → hp i = nI (hn i)) (hqs : ∀ i, i < sz → i ≠ 0 → qs (hn i) = lN (key (hn i)) ∧ key (hn i) < 2 ^ 62) (hqn : qs node = lN (key node) ∧ key node < 2 ^ 62) : Met l yX1_sinkFromTop wsX1_sinkFromTop ({ frames := 0, cells := 0, slots := 0, locals := 0 } : Room) (va_Pc [.ref aq, .int (nI node)] (vg_B D ay base Gx ws)) (va_Qv (fun u => ∃ (hn2 : Nat → Nat) (pl2 : Nat → Int32), cq_St ay u aq hn2 pl2 key sz ∧ (∀ v, v < 200 → (pl2 v = -1 ↔ pl v = -1 ∧ v ≠ node)) ∧ vg_fr ws u [7, 8, 9, 10]) (vg_B D ay base Gx) (vg_A base)) 0 0 (vg_A base) := by
  refine vg_met (cc := cX1_sinkFromTop) (maxL := 4) (ret := none) (own := RX1) (lv := [(0, .ref aq), (1, .int (nI node))]) (by decide) rfl rfl (Nat.le_of_ble_eq_true rfl) rfl ?_
  intro p e s m args below meth c X hinit
  have hnode : node < 200 := hole.2.2.1
  have fin : ∀ (h : Nat) (hn1 : Nat → Nat) (hp1 pl1 : Nat → Int32) (ws1 : va_W), ws1[7]? = some (aq, .inr (4, [.ref ah, .ref ap, .ref asx, .int (nI sz)])) → ws1[8]? = some (ah, .inl (ay 0, 200, .inl hp1)) → ws1[9]? = some (ap, .inl (ay 0, 200, .inl pl1)) → ws1[10]? = some (asx, .inl (ay 1, 200, .inr (.inl qs))) → vg_fr ws ws1 [7, 8, 9, 10] → hq_hole hn1 pl1 key sz h node → (h = 0 ∨ key (hn1 ((h - 1) / 2)) ≤ key node) → (∀ i, i < sz → i ≠ h → hp1 i = nI (hn1 i)) → (∀ i, i < sz → i ≠ h → qs (hn1 i) = lN (key (hn1 i)) ∧ key (hn1 i) < 2 ^ 62) → (∀ v, v < 200 → v ≠ node → (pl1 v = -1 ↔ pl v = -1)) → (∀ j, 0 < j → j < sz → (j - 1) / 2 = h → key node ≤ key (hn1 j)) → vg_V D base p l e ({ frames := 0, cells := 0, slots := 0, locals := 0 } : Room) s m args below meth c 4 0 0 (MQ below (va_Qv (fun u => ∃ (hn2 : Nat → Nat) (pl2 : Nat → Int32), cq_St ay u aq hn2 pl2 key sz ∧ (∀ v, v < 200 → (pl2 v = -1 ↔ pl v = -1 ∧ v ≠ node)) ∧ vg_fr ws u [7, 8, 9, 10]) (vg_B D ay base Gx) (vg_A base)) args s 0 0 (vg_A base)) [(0, .ref aq), (1, .int (nI node)), (2, .int (nI h))] [] ws1 114 := by
    intro h hn1 hp1 pl1 ws1 h7 h8 h9 h10 hfr hole hpar hhp1 hqs1 hpl1 hch
    obtain ⟨q1, q2, q3, q4, q5, q6, q7⟩ := id hole
    refine vg_aload_n X dX1_sinkFromTop_114 0 rfl rfl ?_
    refine vg_get X in_X1_sinkFromTop_X1 7 h7 rfl 0 (by decide) ml_X1_sinkFromTop_9 rfl rfl dX1_sinkFromTop_115 ?_
    refine vg_iload_n X dX1_sinkFromTop_118 2 rfl rfl ?_
    refine vg_iload_n X dX1_sinkFromTop_119 1 rfl rfl ?_
    refine vg_iast X 8 h8 rfl (by omega) (by decide) dX1_sinkFromTop_120 (fun wz1 ez2 => ?_)
    have fh3 : wz1[8]? = some (ah, .inl (ay 0, 200, .inl (upd hp1 h (nI node)))) := vg_se ez2 h8
    refine vg_aload_n X dX1_sinkFromTop_121 0 rfl rfl ?_
    have fh4 : wz1[7]? = some (aq, .inr (4, [.ref ah, .ref ap, .ref asx, .int (nI sz)])) := (vg_sn ez2 (by decide)).trans (h7)
    refine vg_get X in_X1_sinkFromTop_X1 7 fh4 rfl 1 (by decide) ml_X1_sinkFromTop_15 rfl rfl dX1_sinkFromTop_122 ?_
    refine vg_iload_n X dX1_sinkFromTop_125 1 rfl rfl ?_
    refine vg_iload_n X dX1_sinkFromTop_126 2 rfl rfl ?_
    have fh5 : wz1[9]? = some (ap, .inl (ay 0, 200, .inl pl1)) := (vg_sn ez2 (by decide)).trans (h9)
    refine vg_iast X 9 fh5 rfl (by omega) (by decide) dX1_sinkFromTop_127 (fun wz6 ez7 => ?_)
    have fh8 : wz6[9]? = some (ap, .inl (ay 0, 200, .inl (upd pl1 node (nI h)))) := vg_se ez7 fh5
    have fh9 : wz6[7]? = some (aq, .inr (4, [.ref ah, .ref ap, .ref asx, .int (nI sz)])) := (vg_sn ez7 (by decide)).trans (fh4)
    have fh10 : wz6[8]? = some (ah, .inl (ay 0, 200, .inl (upd hp1 h (nI node)))) := (vg_sn ez7 (by decide)).trans (fh3)
    have fh11 : wz6[10]? = some (asx, .inl (ay 1, 200, .inr (.inl qs))) := (vg_sn ez7 (by decide)).trans ((vg_sn ez2 (by decide)).trans (h10))
    have hf := hq_fill hole hch hpar
    refine vg_vret X rfl ⟨va_up hn1 h node, upd pl1 node (nI h), ⟨ah, ap, asx, _, _, fh9, fh10, fh8, fh11, hf, fun i hi => ?_, fun i hi => ?_⟩, fun v hv => ?_, (vg_fr_set (vg_fr_set hfr ez2 (by decide)) ez7 (by decide))⟩ (Nat.le_refl _) (Nat.le_refl _) dX1_sinkFromTop_128
    · by_cases c1 : i = h
      · subst c1; rw [va_up_self, pk_us]
      · rw [va_up_ne _ _ c1, pk_un c1]; exact hhp1 i hi c1
    · by_cases c1 : i = h
      · subst c1; rw [va_up_self]; exact hqn
      · rw [va_up_ne hn1 _ c1]; exact hqs1 i hi c1
    · by_cases c1 : v = node
      · subst c1; rw [pk_us]; exact ⟨fun z => absurd z (hq_nm1 (by omega)), fun z => absurd rfl z.2⟩
      · rw [pk_un c1, hpl1 v hv c1]; exact ⟨fun z => ⟨z, c1⟩, fun z => z.1⟩
  have loop : ∀ (k : Nat) (h : Nat) (hn1 : Nat → Nat) (hp1 pl1 : Nat → Int32) (ws1 : va_W), sz ≤ h + k → ws1[7]? = some (aq, .inr (4, [.ref ah, .ref ap, .ref asx, .int (nI sz)])) → ws1[8]? = some (ah, .inl (ay 0, 200, .inl hp1)) → ws1[9]? = some (ap, .inl (ay 0, 200, .inl pl1)) → ws1[10]? = some (asx, .inl (ay 1, 200, .inr (.inl qs))) → vg_fr ws ws1 [7, 8, 9, 10] → hq_hole hn1 pl1 key sz h node → (h = 0 ∨ key (hn1 ((h - 1) / 2)) ≤ key node) → (∀ i, i < sz → i ≠ h → hp1 i = nI (hn1 i)) → (∀ i, i < sz → i ≠ h → qs (hn1 i) = lN (key (hn1 i)) ∧ key (hn1 i) < 2 ^ 62) → (∀ v, v < 200 → v ≠ node → (pl1 v = -1 ↔ pl v = -1)) → vg_V D base p l e ({ frames := 0, cells := 0, slots := 0, locals := 0 } : Room) s m args below meth c 4 0 0 (MQ below (va_Qv (fun u => ∃ (hn2 : Nat → Nat) (pl2 : Nat → Int32), cq_St ay u aq hn2 pl2 key sz ∧ (∀ v, v < 200 → (pl2 v = -1 ↔ pl v = -1 ∧ v ≠ node)) ∧ vg_fr ws u [7, 8, 9, 10]) (vg_B D ay base Gx) (vg_A base)) args s 0 0 (vg_A base)) [(0, .ref aq), (1, .int (nI node)), (2, .int (nI h))] [] ws1 2 := by
    intro k
    induction k with
    | zero => intro h hn1 hp1 pl1 ws1 hk h7 h8 h9 h10 hfr hole; exact absurd hole.1 (by omega)
    | succ k ih =>
      intro h hn1 hp1 pl1 ws1 hk h7 h8 h9 h10 hfr hole hpar hhp1 hqs1 hpl1
      obtain ⟨q1, q2, q3, q4, q5, q6, q7⟩ := id hole
      have mid : ∀ b : Nat, (b = 2 * h + 1 ∨ b = 2 * h + 1 + 1) → b < sz → (∀ j, 0 < j → j < sz → (j - 1) / 2 = h → key (hn1 b) ≤ key (hn1 j)) → vg_V D base p l e ({ frames := 0, cells := 0, slots := 0, locals := 0 } : Room) s m args below meth c 4 0 0 (MQ below (va_Qv (fun u => ∃ (hn2 : Nat → Nat) (pl2 : Nat → Int32), cq_St ay u aq hn2 pl2 key sz ∧ (∀ v, v < 200 → (pl2 v = -1 ↔ pl v = -1 ∧ v ≠ node)) ∧ vg_fr ws u [7, 8, 9, 10]) (vg_B D ay base Gx) (vg_A base)) args s 0 0 (vg_A base)) [(3, .int (nI b)), (0, .ref aq), (1, .int (nI node)), (2, .int (nI h))] [] ws1 61 := by
        intro b hb hbs hmin
        refine vg_aload_n X dX1_sinkFromTop_61 1 rfl rfl ?_
        refine vg_get X in_X1_sinkFromTop_X1 7 h7 rfl 2 (by decide) ml_X1_sinkFromTop_18 rfl rfl dX1_sinkFromTop_62 ?_
        refine vg_aload_n X dX1_sinkFromTop_65 1 rfl rfl ?_
        refine vg_get X in_X1_sinkFromTop_X1 7 h7 rfl 0 (by decide) ml_X1_sinkFromTop_9 rfl rfl dX1_sinkFromTop_66 ?_
        refine vg_iload_n X dX1_sinkFromTop_69 0 rfl rfl ?_
        refine vg_iald X (nI (hn1 b)) 8 h8 rfl (by omega) (by decide) (hhp1 b hbs (by omega)) dX1_sinkFromTop_70 ?_
        refine vg_lald X (lN (key (hn1 b))) 10 h10 rfl (q4 b hbs (by omega)).1 (by decide) (hqs1 b hbs (by omega)).1 dX1_sinkFromTop_71 ?_
        refine vg_aload_n X dX1_sinkFromTop_72 1 rfl rfl ?_
        refine vg_get X in_X1_sinkFromTop_X1 7 h7 rfl 2 (by decide) ml_X1_sinkFromTop_18 rfl rfl dX1_sinkFromTop_73 ?_
        refine vg_iload_n X dX1_sinkFromTop_76 2 rfl rfl ?_
        refine vg_lald X (lN (key node)) 10 h10 rfl (by omega) (by decide) hqn.1 dX1_sinkFromTop_77 ?_
        refine vg_lcmp_lt X 85 dX1_sinkFromTop_78 dX1_sinkFromTop_79 (by decide) (fun c78 => ?_) (fun c78 => ?_)
        · have c78 : key (hn1 b) < key node := (pk_lLT (by have := (hqs1 b hbs (by omega)).2; omega) (by have := hqn.2; omega)).mp c78
          refine vg_aload_n X dX1_sinkFromTop_85 1 rfl rfl ?_
          refine vg_get X in_X1_sinkFromTop_X1 7 h7 rfl 0 (by decide) ml_X1_sinkFromTop_9 rfl rfl dX1_sinkFromTop_86 ?_
          refine vg_iload_n X dX1_sinkFromTop_89 3 rfl rfl ?_
          refine vg_aload_n X dX1_sinkFromTop_90 1 rfl rfl ?_
          refine vg_get X in_X1_sinkFromTop_X1 7 h7 rfl 0 (by decide) ml_X1_sinkFromTop_9 rfl rfl dX1_sinkFromTop_91 ?_
          refine vg_iload_n X dX1_sinkFromTop_94 0 rfl rfl ?_
          refine vg_iald X (nI (hn1 b)) 8 h8 rfl (by omega) (by decide) (hhp1 b hbs (by omega)) dX1_sinkFromTop_95 ?_
          refine vg_iast X 8 h8 rfl (by omega) (by decide) dX1_sinkFromTop_96 (fun wz12 ez13 => ?_)
          have fh14 : wz12[8]? = some (ah, .inl (ay 0, 200, .inl (upd hp1 h (nI (hn1 b))))) := vg_se ez13 h8
          refine vg_aload_n X dX1_sinkFromTop_97 1 rfl rfl ?_
          have fh15 : wz12[7]? = some (aq, .inr (4, [.ref ah, .ref ap, .ref asx, .int (nI sz)])) := (vg_sn ez13 (by decide)).trans (h7)
          refine vg_get X in_X1_sinkFromTop_X1 7 fh15 rfl 1 (by decide) ml_X1_sinkFromTop_15 rfl rfl dX1_sinkFromTop_98 ?_
          refine vg_aload_n X dX1_sinkFromTop_101 1 rfl rfl ?_
          refine vg_get X in_X1_sinkFromTop_X1 7 fh15 rfl 0 (by decide) ml_X1_sinkFromTop_9 rfl rfl dX1_sinkFromTop_102 ?_
          refine vg_iload_n X dX1_sinkFromTop_105 3 rfl rfl ?_
          refine vg_iald X (nI (hn1 b)) 8 fh14 rfl (by omega) (by decide) pk_us dX1_sinkFromTop_106 ?_
          refine vg_iload_n X dX1_sinkFromTop_107 3 rfl rfl ?_
          have fh16 : wz12[9]? = some (ap, .inl (ay 0, 200, .inl pl1)) := (vg_sn ez13 (by decide)).trans (h9)
          refine vg_iast X 9 fh16 rfl (q4 b hbs (by omega)).1 (by decide) dX1_sinkFromTop_108 (fun wz17 ez18 => ?_)
          have fh19 : wz17[9]? = some (ap, .inl (ay 0, 200, .inl (upd pl1 (hn1 b) (nI h)))) := vg_se ez18 fh16
          refine vg_iload_n X dX1_sinkFromTop_109 0 rfl rfl ?_
          refine vg_istore_n X [(2, .int (nI b)), (3, .int (nI b)), (0, .ref aq), (1, .int (nI node))] dX1_sinkFromTop_110 rfl (by decide) rfl ?_
          refine vg_goto X 2 dX1_sinkFromTop_111 (by decide) ?_
          refine vg_locals [2, 3, 0] rfl ?_
          have fh20 : wz17[7]? = some (aq, .inr (4, [.ref ah, .ref ap, .ref asx, .int (nI sz)])) := (vg_sn ez18 (by decide)).trans (fh15)
          have fh21 : wz17[8]? = some (ah, .inl (ay 0, 200, .inl (upd hp1 h (nI (hn1 b))))) := (vg_sn ez18 (by decide)).trans (fh14)
          have fh22 : wz17[10]? = some (asx, .inl (ay 1, 200, .inr (.inl qs))) := (vg_sn ez18 (by decide)).trans ((vg_sn ez13 (by decide)).trans (h10))
          obtain ⟨g1, g2⟩ := hq_sink hole hbs (by omega) (by omega) hmin c78
          refine ih b (va_up hn1 h (hn1 b)) _ _ _ (by omega) fh20 fh21 fh19 fh22 (vg_fr_set (vg_fr_set hfr ez13 (by decide)) ez18 (by decide)) g1 g2 (fun i hi hne => ?_) (fun i hi hne => ?_) (fun v hv hvn => ?_)
          · by_cases c1 : i = h
            · subst c1; rw [va_up_self, pk_us]
            · rw [va_up_ne _ _ c1, pk_un c1]; exact hhp1 i hi c1
          · by_cases c1 : i = h
            · subst c1; rw [va_up_self hn1]; exact hqs1 b hbs (by omega)
            · rw [va_up_ne hn1 _ c1]; exact hqs1 i hi c1
          · by_cases c1 : v = hn1 b
            · subst c1; rw [pk_us]
              have w1 : pl1 (hn1 b) ≠ -1 := by rw [(q4 b hbs (by omega)).2.1]; exact hq_nm1 (by omega)
              exact ⟨fun z => absurd z (hq_nm1 (by omega)), fun z => absurd ((hpl1 _ hv hvn).mpr z) w1⟩
            · rw [pk_un c1]; exact hpl1 v hv hvn
        · have c78 : ¬ key (hn1 b) < key node := fun z => c78 ((pk_lLT (by have := (hqs1 b hbs (by omega)).2; omega) (by have := hqn.2; omega)).mpr z)
          refine vg_goto X 114 dX1_sinkFromTop_82 (by decide) ?_
          refine vg_locals [1, 2, 3] rfl ?_
          exact fin h hn1 hp1 pl1 ws1 h7 h8 h9 h10 hfr hole hpar hhp1 hqs1 hpl1 (fun j j0 hj hp => Nat.le_trans (by omega) (hmin j j0 hj hp))
      refine vg_iconst X (nI 2) dX1_sinkFromTop_2 (by decide) ?_
      refine vg_iload_n X dX1_sinkFromTop_3 2 rfl rfl ?_
      refine vg_imul X (nI (2 * h)) dX1_sinkFromTop_4 (pk_mul _ _) ?_
      refine vg_iconst X (nI 1) dX1_sinkFromTop_5 (by decide) ?_
      refine vg_iadd X (nI (2 * h + 1)) dX1_sinkFromTop_6 (nI_add _ _) ?_
      refine vg_aload_n X dX1_sinkFromTop_7 0 rfl rfl ?_
      refine vg_get X in_X1_sinkFromTop_X1 7 h7 rfl 3 (by decide) ml_X1_sinkFromTop_28 rfl rfl dX1_sinkFromTop_8 ?_
      refine vg_icmp_ge X 114 dX1_sinkFromTop_11 (by decide) (fun c11 => ?_) (fun c11 => ?_)
      · have c11 : sz ≤ 2 * h + 1 := (nI_leI (by omega) (by omega)).mp c11
        exact fin h hn1 hp1 pl1 ws1 h7 h8 h9 h10 hfr hole hpar hhp1 hqs1 hpl1 (fun j j0 hj hp => absurd hj (by omega))
      · have c11 : ¬ sz ≤ 2 * h + 1 := fun z => c11 ((nI_leI (by omega) (by omega)).mpr z)
        refine vg_iconst X (nI 2) dX1_sinkFromTop_14 (by decide) ?_
        refine vg_iload_n X dX1_sinkFromTop_15 2 rfl rfl ?_
        refine vg_imul X (nI (2 * h)) dX1_sinkFromTop_16 (pk_mul _ _) ?_
        refine vg_iconst X (nI 1) dX1_sinkFromTop_17 (by decide) ?_
        refine vg_iadd X (nI (2 * h + 1)) dX1_sinkFromTop_18 (nI_add _ _) ?_
        refine vg_istore_n X [(3, .int (nI (2 * h + 1))), (0, .ref aq), (1, .int (nI node)), (2, .int (nI h))] dX1_sinkFromTop_19 rfl (by decide) rfl ?_
        refine vg_iload_n X dX1_sinkFromTop_20 0 rfl rfl ?_
        refine vg_iconst X (nI 1) dX1_sinkFromTop_21 (by decide) ?_
        refine vg_iadd X (nI (2 * h + 1 + 1)) dX1_sinkFromTop_22 (nI_add _ _) ?_
        refine vg_aload_n X dX1_sinkFromTop_23 1 rfl rfl ?_
        refine vg_get X in_X1_sinkFromTop_X1 7 h7 rfl 3 (by decide) ml_X1_sinkFromTop_28 rfl rfl dX1_sinkFromTop_24 ?_
        refine vg_icmp_ge X 61 dX1_sinkFromTop_27 (by decide) (fun c27 => ?_) (fun c27 => ?_)
        · have c27 : sz ≤ 2 * h + 1 + 1 := (nI_leI (by omega) (by omega)).mp c27
          skip
          exact mid (2 * h + 1) (by omega) (by omega) (fun j j0 hj hp => by rw [show j = 2 * h + 1 by omega]; exact Nat.le_refl _)
        · have c27 : ¬ sz ≤ 2 * h + 1 + 1 := fun z => c27 ((nI_leI (by omega) (by omega)).mpr z)
          refine vg_aload_n X dX1_sinkFromTop_30 1 rfl rfl ?_
          refine vg_get X in_X1_sinkFromTop_X1 7 h7 rfl 2 (by decide) ml_X1_sinkFromTop_18 rfl rfl dX1_sinkFromTop_31 ?_
          refine vg_aload_n X dX1_sinkFromTop_34 1 rfl rfl ?_
          refine vg_get X in_X1_sinkFromTop_X1 7 h7 rfl 0 (by decide) ml_X1_sinkFromTop_9 rfl rfl dX1_sinkFromTop_35 ?_
          refine vg_iload_n X dX1_sinkFromTop_38 0 rfl rfl ?_
          refine vg_iconst X (nI 1) dX1_sinkFromTop_39 (by decide) ?_
          refine vg_iadd X (nI (2 * h + 1 + 1)) dX1_sinkFromTop_40 (nI_add _ _) ?_
          refine vg_iald X (nI (hn1 (2 * h + 1 + 1))) 8 h8 rfl (by omega) (by decide) (hhp1 _ (by omega) (by omega)) dX1_sinkFromTop_41 ?_
          refine vg_lald X (lN (key (hn1 (2 * h + 1 + 1)))) 10 h10 rfl (q4 _ (by omega) (by omega)).1 (by decide) (hqs1 _ (by omega) (by omega)).1 dX1_sinkFromTop_42 ?_
          refine vg_aload_n X dX1_sinkFromTop_43 1 rfl rfl ?_
          refine vg_get X in_X1_sinkFromTop_X1 7 h7 rfl 2 (by decide) ml_X1_sinkFromTop_18 rfl rfl dX1_sinkFromTop_44 ?_
          refine vg_aload_n X dX1_sinkFromTop_47 1 rfl rfl ?_
          refine vg_get X in_X1_sinkFromTop_X1 7 h7 rfl 0 (by decide) ml_X1_sinkFromTop_9 rfl rfl dX1_sinkFromTop_48 ?_
          refine vg_iload_n X dX1_sinkFromTop_51 0 rfl rfl ?_
          refine vg_iald X (nI (hn1 (2 * h + 1))) 8 h8 rfl (by omega) (by decide) (hhp1 _ (by omega) (by omega)) dX1_sinkFromTop_52 ?_
          refine vg_lald X (lN (key (hn1 (2 * h + 1)))) 10 h10 rfl (q4 _ (by omega) (by omega)).1 (by decide) (hqs1 _ (by omega) (by omega)).1 dX1_sinkFromTop_53 ?_
          refine vg_lcmp_ge X 61 dX1_sinkFromTop_54 dX1_sinkFromTop_55 (by decide) (fun c54 => ?_) (fun c54 => ?_)
          · have c54 : key (hn1 (2 * h + 1)) ≤ key (hn1 (2 * h + 1 + 1)) := (pk_lLE (by have := (hqs1 (2 * h + 1) (by omega) (by omega)).2; omega) (by have := (hqs1 (2 * h + 1 + 1) (by omega) (by omega)).2; omega)).mp c54
            skip
            exact mid (2 * h + 1) (by omega) (by omega) (fun j j0 hj hp => by rcases (show j = 2 * h + 1 ∨ j = 2 * h + 1 + 1 by omega) with e1 | e1 <;> rw [e1] <;> omega)
          · have c54 : ¬ key (hn1 (2 * h + 1)) ≤ key (hn1 (2 * h + 1 + 1)) := fun z => c54 ((pk_lLE (by have := (hqs1 (2 * h + 1) (by omega) (by omega)).2; omega) (by have := (hqs1 (2 * h + 1 + 1) (by omega) (by omega)).2; omega)).mpr z)
            skip
            refine vg_iinc X (v := nI (2 * h + 1 + 1)) [(3, .int (nI (2 * h + 1 + 1))), (0, .ref aq), (1, .int (nI node)), (2, .int (nI h))] dX1_sinkFromTop_58 0 rfl (by rw [show Int32.ofInt 1 = nI 1 by decide, nI_add]) (by decide) rfl ?_
            exact mid (2 * h + 1 + 1) (by omega) (by omega) (fun j j0 hj hp => by rcases (show j = 2 * h + 1 ∨ j = 2 * h + 1 + 1 by omega) with e1 | e1 <;> rw [e1] <;> omega)
  refine vg_iconst X (nI 0) dX1_sinkFromTop_0 (by decide) ?_
  refine vg_istore_n X [(2, .int (nI 0)), (0, .ref aq), (1, .int (nI node))] dX1_sinkFromTop_1 rfl (by decide) rfl ?_
  refine vg_locals [1, 2, 0] rfl ?_
  exact loop sz 0 hn hp pl ws (by omega) h7 h8 h9 h10 (vg_fr_rf ws _) hole (Or.inl rfl) hhp hqs (fun v hv hvn => Iff.rfl)
set_option maxHeartbeats 4000000 in
set_option maxRecDepth 100000 in
/-- takeLeast(): the node of the least seconds, which waits no more; -1 when none waits -/
theorem c_X1_takeLeast (l : Launch) {D : va_G} {ay : Nat → ClassId} {base : Nat} {Gx : State → Prop} {ws : va_W} {aq : Nat} {hn : Nat → Nat} {pl : Nat → Int32} {key : Nat → Nat} {sz : Nat} (hq : cq_St ay ws aq hn pl key sz) : Met l yX1_takeLeast wsX1_takeLeast ({ frames := 1, cells := 0, slots := 0, locals := 23 } : Room) (va_Pc [.ref aq] (vg_B D ay base Gx ws)) (va_Qi (fun r u => (sz = 0 ∧ r = -1 ∧ u = ws) ∨ (0 < sz ∧ ∃ (v : Nat) (hn2 : Nat → Nat) (pl2 : Nat → Int32), r = nI v ∧ v < 200 ∧ pl v ≠ -1 ∧ (∀ x, x < 200 → pl x ≠ -1 → key v ≤ key x) ∧ cq_St ay u aq hn2 pl2 key (sz - 1) ∧ (∀ x, x < 200 → (pl2 x = -1 ↔ pl x = -1 ∨ x = v)) ∧ vg_fr ws u [7, 8, 9, 10])) (vg_B D ay base Gx) (vg_A base)) 0 0 (vg_A base) := by
  refine vg_met (cc := cX1_takeLeast) (maxL := 2) (ret := (some .int)) (own := RX1) (lv := [(0, .ref aq)]) (by decide) rfl rfl (Nat.le_of_ble_eq_true rfl) rfl ?_
  intro p e s m args below meth c X hinit
  obtain ⟨ah, ap, asx, hp, qs, h7, h8, h9, h10, hok, hhp, hqs⟩ := hq
  have hz : sz ≤ 200 := hok.1
  refine vg_aload_n X dX1_takeLeast_0 0 rfl rfl ?_
  refine vg_get X in_X1_takeLeast_X1 7 h7 rfl 3 (by decide) ml_X1_takeLeast_28 rfl rfl dX1_takeLeast_1 ?_
  refine vg_if_ne X 9 dX1_takeLeast_4 (by decide) (fun c4 => ?_) (fun c4 => ?_)
  · have c4 : ¬ sz = 0 := fun z => c4 ((vg_eq0 (by omega)).mpr z)
    have t1 := hok.2.1 0 (by omega)
    have t2 : pl (hn 0) ≠ -1 := by rw [t1.2]; exact hq_nm1 (by omega)
    have t3 : ∀ x, x < 200 → pl x ≠ -1 → key (hn 0) ≤ key x := fun x hx hp => by
      rcases hok.2.2.1 x hx with z | ⟨i, hi, he⟩
      · exact absurd z hp
      · rw [← he]; exact hq_least hok i hi
    refine vg_aload_n X dX1_takeLeast_9 0 rfl rfl ?_
    refine vg_get X in_X1_takeLeast_X1 7 h7 rfl 0 (by decide) ml_X1_takeLeast_9 rfl rfl dX1_takeLeast_10 ?_
    refine vg_iconst X (nI 0) dX1_takeLeast_13 (by decide) ?_
    refine vg_iald X (nI (hn 0)) 8 h8 rfl (by omega) (by decide) (hhp 0 (by omega)) dX1_takeLeast_14 ?_
    refine vg_istore_n X [(1, .int (nI (hn 0))), (0, .ref aq)] dX1_takeLeast_15 rfl (by decide) rfl ?_
    refine vg_aload_n X dX1_takeLeast_16 1 rfl rfl ?_
    refine vg_get X in_X1_takeLeast_X1 7 h7 rfl 1 (by decide) ml_X1_takeLeast_15 rfl rfl dX1_takeLeast_17 ?_
    refine vg_iload_n X dX1_takeLeast_20 0 rfl rfl ?_
    refine vg_iconst X (-1) dX1_takeLeast_21 (by decide) ?_
    refine vg_iast X 9 h9 rfl t1.1 (by decide) dX1_takeLeast_22 (fun wz1 ez2 => ?_)
    have fh3 : wz1[9]? = some (ap, .inl (ay 0, 200, .inl (upd pl (hn 0) (-1)))) := vg_se ez2 h9
    refine vg_aload_n X dX1_takeLeast_23 1 rfl rfl ?_
    refine vg_dup X dX1_takeLeast_24 rfl ?_
    have fh4 : wz1[7]? = some (aq, .inr (4, [.ref ah, .ref ap, .ref asx, .int (nI sz)])) := (vg_sn ez2 (by decide)).trans (h7)
    refine vg_get X in_X1_takeLeast_X1 7 fh4 rfl 3 (by decide) ml_X1_takeLeast_28 rfl rfl dX1_takeLeast_25 ?_
    refine vg_iconst X (nI 1) dX1_takeLeast_28 (by decide) ?_
    refine vg_isub X (nI (sz - 1)) dX1_takeLeast_29 (pk_sub (by omega)) ?_
    refine vg_put X in_X1_takeLeast_X1 tyX1 tyX1_ok nmX1 7 fh4 rfl 3 (by decide) ml_X1_takeLeast_28 rfl rfl rfl rfl (Nat.le_of_ble_eq_true rfl) dX1_takeLeast_30 (fun wz5 ez6 => ?_)
    have fh7 : wz5[7]? = some (aq, .inr (4, [.ref ah, .ref ap, .ref asx, .int (nI (sz - 1))])) := vg_se ez6 fh4
    refine vg_aload_n X dX1_takeLeast_33 1 rfl rfl ?_
    refine vg_get X in_X1_takeLeast_X1 7 fh7 rfl 3 (by decide) ml_X1_takeLeast_28 rfl rfl dX1_takeLeast_34 ?_
    refine vg_if_le X 53 dX1_takeLeast_37 (by decide) (fun c37 => ?_) (fun c37 => ?_)
    · have c37 : sz - 1 ≤ 0 := (vg_le0 (by omega)).mp c37
      refine vg_iload_n X dX1_takeLeast_53 0 rfl rfl ?_
      have fh8 : wz5[8]? = some (ah, .inl (ay 0, 200, .inl hp)) := (vg_sn ez6 (by decide)).trans ((vg_sn ez2 (by decide)).trans (h8))
      have fh9 : wz5[9]? = some (ap, .inl (ay 0, 200, .inl (upd pl (hn 0) (-1)))) := (vg_sn ez6 (by decide)).trans (fh3)
      have fh10 : wz5[10]? = some (asx, .inl (ay 1, 200, .inr (.inl qs))) := (vg_sn ez6 (by decide)).trans ((vg_sn ez2 (by decide)).trans (h10))
      have e1 : sz = 1 := by omega
      subst e1
      have hf := hq_pop1 hok
      refine vg_iret X rfl (Or.inr ⟨by omega, hn 0, hn, _, rfl, t1.1, t2, t3, ⟨ah, ap, asx, hp, qs, fh7, fh8, fh9, fh10, hf, fun i hi => absurd hi (by omega), fun i hi => absurd hi (by omega)⟩, fun x hx => ?_, (vg_fr_set (vg_fr_set (vg_fr_rf ws _) ez2 (by decide)) ez6 (by decide))⟩) (Nat.le_refl _) (Nat.le_refl _) dX1_takeLeast_54
      by_cases c1 : x = hn 0
      · subst c1; rw [pk_us]; exact ⟨fun _ => Or.inr rfl, fun _ => rfl⟩
      · rw [pk_un c1]; exact ⟨Or.inl, fun z => z.elim id (fun z => absurd z c1)⟩
    · have c37 : ¬ sz - 1 ≤ 0 := fun z => c37 ((vg_le0 (by omega)).mpr z)
      refine vg_aload_n X dX1_takeLeast_40 1 rfl rfl ?_
      refine vg_aload_n X dX1_takeLeast_41 1 rfl rfl ?_
      refine vg_get X in_X1_takeLeast_X1 7 fh7 rfl 0 (by decide) ml_X1_takeLeast_9 rfl rfl dX1_takeLeast_42 ?_
      refine vg_aload_n X dX1_takeLeast_45 1 rfl rfl ?_
      refine vg_get X in_X1_takeLeast_X1 7 fh7 rfl 3 (by decide) ml_X1_takeLeast_28 rfl rfl dX1_takeLeast_46 ?_
      have fh11 : wz5[8]? = some (ah, .inl (ay 0, 200, .inl hp)) := (vg_sn ez6 (by decide)).trans ((vg_sn ez2 (by decide)).trans (h8))
      refine vg_iald X (nI (hn (sz - 1))) 8 fh11 rfl (by omega) (by decide) (hhp (sz - 1) (by omega)) dX1_takeLeast_49 ?_
      have fh12 : wz5[9]? = some (ap, .inl (ay 0, 200, .inl (upd pl (hn 0) (-1)))) := (vg_sn ez6 (by decide)).trans (fh3)
      have fh13 : wz5[10]? = some (asx, .inl (ay 1, 200, .inr (.inl qs))) := (vg_sn ez6 (by decide)).trans ((vg_sn ez2 (by decide)).trans (h10))
      have hl9 := hq_pop hok (by omega)
      refine vg_callv (vg_runV X (c_X1_sinkFromTop l fh7 fh11 fh12 fh13 hl9 (fun i hi hne => hhp i (by omega)) (fun i hi hne => hqs i (by omega)) (hqs _ (by omega))) (cwV 1 X.2.2.2.2.1 gX1_takeLeast_X1_sinkFromTop rfl rfl rfl (by decide +kernel) ⟨Nat.le_of_ble_eq_true rfl, Nat.le_of_ble_eq_true rfl⟩) 7 fh7 rfl rfl rfl (Nat.le_of_ble_eq_true rfl) dX1_takeLeast_50 ⟨Nat.zero_le _, Nat.zero_le _⟩) (fun ws14 P15 => ?_)
      obtain ⟨hn2, pl2, k1, k2, k3⟩ := P15
      refine vg_iload_n X dX1_takeLeast_53 0 rfl rfl ?_
      refine vg_iret X rfl (Or.inr ⟨by omega, hn 0, hn2, pl2, rfl, t1.1, t2, t3, k1, fun x hx => ?_, vg_fr_tr (vg_fr_set (vg_fr_set (vg_fr_rf ws _) ez2 (by decide)) ez6 (by decide)) k3 (fun j hj => hj.elim id id)⟩) (Nat.le_refl _) (Nat.le_refl _) dX1_takeLeast_54
      rw [k2 x hx]
      by_cases c1 : x = hn 0
      · subst c1; rw [pk_us]; exact ⟨fun _ => Or.inr rfl, fun _ => ⟨rfl, fun z => absurd (hq_inj hok (by omega) (by omega) z) (by omega)⟩⟩
      · rw [pk_un c1]
        have w2 : pl (hn (sz - 1)) ≠ -1 := by rw [(hok.2.1 (sz - 1) (by omega)).2]; exact hq_nm1 (by omega)
        exact ⟨fun z => Or.inl z.1, fun z => ⟨z.resolve_right c1, fun q => w2 (by rw [← q]; exact z.resolve_right c1)⟩⟩
  · have c4 : sz = 0 := (vg_eq0 (by omega)).mp c4
    refine vg_iconst X (-1) dX1_takeLeast_7 (by decide) ?_
    exact vg_iret X rfl (Or.inl ⟨by omega, rfl, rfl⟩) (Nat.le_refl _) (Nat.le_refl _) dX1_takeLeast_8
