
theorem in_X7_rest_X7 : ∀ w ∈ u_ws RX7 TX7 30, w ∈ wsX7_rest := by decide +kernel
theorem ml_X7_rest_75 : Cond.fieldLink RX7 75 "WayTimesModel" "least" "[J" ∈ wsX7_rest := by decide +kernel
theorem ml_X7_rest_7 : Cond.fieldLink RX7 7 "WayTimesModel" "first" "[I" ∈ wsX7_rest := by decide +kernel
theorem ml_X7_rest_13 : Cond.fieldLink RX7 13 "WayTimesModel" "second" "[I" ∈ wsX7_rest := by decide +kernel
theorem ml_X7_rest_16 : Cond.fieldLink RX7 16 "WayTimesModel" "metres" "[I" ∈ wsX7_rest := by decide +kernel
theorem mk_X7_rest_113 : Jvm.Cond.constantLong RX7 113 (lN ma_B) ∈ wsX7_rest := by decide +kernel
theorem mk_X7_rest_146 : Jvm.Cond.constantLong RX7 146 (-1) ∈ wsX7_rest := by decide +kernel
theorem in_X7_way_X7 : ∀ w ∈ u_ws RX7 TX7 30, w ∈ wsX7_way := by decide +kernel
theorem ml_X7_way_100 : Cond.fieldLink RX7 100 "WayTimesModel" "steps" "I" ∈ wsX7_way := by decide +kernel
theorem ml_X7_way_75 : Cond.fieldLink RX7 75 "WayTimesModel" "least" "[J" ∈ wsX7_way := by decide +kernel
theorem mk_X7_way_113 : Jvm.Cond.constantLong RX7 113 (lN ma_B) ∈ wsX7_way := by decide +kernel
theorem ml_X7_way_84 : Cond.fieldLink RX7 84 "WayTimesModel" "step" "[I" ∈ wsX7_way := by decide +kernel
theorem ml_X7_way_7 : Cond.fieldLink RX7 7 "WayTimesModel" "first" "[I" ∈ wsX7_way := by decide +kernel
theorem ml_X7_way_13 : Cond.fieldLink RX7 13 "WayTimesModel" "second" "[I" ∈ wsX7_way := by decide +kernel
theorem mk_X7_way_146 : Jvm.Cond.constantLong RX7 146 (-1) ∈ wsX7_way := by decide +kernel
set_option maxHeartbeats 4000000 in
set_option maxRecDepth 100000 in
/-- rest(..) -/
theorem c_X7_rest (l : Launch) {D : va_G} {ay : Nat → ClassId} {base : Nat} {Gx : State → Prop} {ws : va_W} {am : Nat} {aa : Nat → Nat} {n P U th wl : Nat} {d fr to pe uv : Nat → Nat → Nat} {ku ks kt wp : Nat → Nat} {sk : Nat → Nat → Nat} {u x mm b t : Int32} (hS : cm_St ay ws am aa th n P U d fr to pe uv ku ks kt sk wl wp) (hR : cm_R n P U d fr to pe uv)  : Met l yX7_rest wsX7_rest ({ frames := 4, cells := 0, slots := 0, locals := 103 } : Room) (va_Pc [.ref am, .int u, .int x, .int mm, .int b, .int t] (vg_B D ay base Gx ws)) (va_Ql (fun r u2 => (¬ (cm_in u U ∧ cm_in x P ∧ cm_in b n) ∧ cm_St ay u2 am aa 1 n P U d fr to pe uv ku ks kt sk wl wp ∧ cm_fr ws u2) ∨ ((cm_in u U ∧ cm_in x P ∧ cm_in b n) ∧ ¬ (0 ≤ t ∧ (∃ k, (nI 0 ≤ mm ∧ mm ≤ nI k) ∧ ((∃ i, x = nI i ∧ i < P ∧ k = d i 2) ∨ (¬ cm_in x P ∧ k = 0)))) ∧ cm_St ay u2 am aa 2 n P U d fr to pe uv ku ks kt sk wl wp ∧ cm_fr ws u2) ∨ (cm_St ay u2 am aa 0 n P U d fr to pe uv ku ks kt sk wl wp ∧ cm_fr ws u2 ∧ ∃ jx ix mx bx tx : Nat, u = nI jx ∧ jx < U ∧ x = nI ix ∧ ix < P ∧ mm = nI mx ∧ mx ≤ d ix 2 ∧ b = nI bx ∧ bx < n ∧ t = nI tx ∧ tx < 2 ^ 31 ∧ (¬ ps_ok (d ix) (uv jx) → r = -1) ∧ (ps_ok (d ix) (uv jx) → r = vs_rep (min (ma_d (ma_T P (fun i => d i 0) (fun i => d i 1) (fun i => ps_w (d i) (fr i) (to i) (pe i) (uv jx) tx) bx (d ix 0)) 1 + ps_sec (d ix 3) (ps_per (fr ix) (to ix) (pe ix) (tx / 3600 % 24) (d ix 7) 0) (uv jx 2) (uv jx 3) mx) (ma_d (ma_T P (fun i => d i 0) (fun i => d i 1) (fun i => ps_w (d i) (fr i) (to i) (pe i) (uv jx) tx) bx (d ix 1)) 1 + ps_sec (d ix 3) (ps_per (fr ix) (to ix) (pe ix) (tx / 3600 % 24) (d ix 7) 0) (uv jx 2) (uv jx 3) (d ix 2 - mx)))))) (vg_B D ay base Gx) (vg_A base)) 0 0 (vg_A base) := by
  refine vg_met (cc := cX7_rest) (maxL := 12) (ret := (some .long)) (own := RX7) (lv := [(0, .ref am), (1, .int u), (2, .int x), (3, .int mm), (4, .int b), (5, .int t)]) (by decide) rfl rfl (Nat.le_of_ble_eq_true rfl) rfl ?_
  intro p e s m args below meth c X hinit
  obtain ⟨fl, fm, fn, fs, hO, hD, hT, h51, h52, h53, h54, hwl, hwp⟩ := id hS
  have nn := hR.1
  have nP := hR.2.1
  have nU := hR.2.2.1
  have eB : ma_B = 2 ^ 60 := rfl
  have hO3 := hO
  unfold cm_O at hO3
  obtain ⟨e0, e1, e2, e3, e4, e5, e6, e7, e8, e9, e10, e11, e12, e13, e14, e15, hh0, hh1, hh2, hh3, hh4, hh5, hh6, hh7, hh8, hh9, hh10, hh11, hh12, hh13, hh14, hh15, hp0, hu0⟩ := id hD
  have j31 : ∀ b9 : Int32, ((cm_in u U ∧ cm_in x P ∧ cm_in b n) → b9 = 1) → (¬ (cm_in u U ∧ cm_in x P ∧ cm_in b n) → b9 = 0) → vg_V D base p l e ({ frames := 4, cells := 0, slots := 0, locals := 103 } : Room) s m args below meth c 12 0 0 (MQ below (va_Ql (fun r u2 => (¬ (cm_in u U ∧ cm_in x P ∧ cm_in b n) ∧ cm_St ay u2 am aa 1 n P U d fr to pe uv ku ks kt sk wl wp ∧ cm_fr ws u2) ∨ ((cm_in u U ∧ cm_in x P ∧ cm_in b n) ∧ ¬ (0 ≤ t ∧ (∃ k, (nI 0 ≤ mm ∧ mm ≤ nI k) ∧ ((∃ i, x = nI i ∧ i < P ∧ k = d i 2) ∨ (¬ cm_in x P ∧ k = 0)))) ∧ cm_St ay u2 am aa 2 n P U d fr to pe uv ku ks kt sk wl wp ∧ cm_fr ws u2) ∨ (cm_St ay u2 am aa 0 n P U d fr to pe uv ku ks kt sk wl wp ∧ cm_fr ws u2 ∧ ∃ jx ix mx bx tx : Nat, u = nI jx ∧ jx < U ∧ x = nI ix ∧ ix < P ∧ mm = nI mx ∧ mx ≤ d ix 2 ∧ b = nI bx ∧ bx < n ∧ t = nI tx ∧ tx < 2 ^ 31 ∧ (¬ ps_ok (d ix) (uv jx) → r = -1) ∧ (ps_ok (d ix) (uv jx) → r = vs_rep (min (ma_d (ma_T P (fun i => d i 0) (fun i => d i 1) (fun i => ps_w (d i) (fr i) (to i) (pe i) (uv jx) tx) bx (d ix 0)) 1 + ps_sec (d ix 3) (ps_per (fr ix) (to ix) (pe ix) (tx / 3600 % 24) (d ix 7) 0) (uv jx 2) (uv jx 3) mx) (ma_d (ma_T P (fun i => d i 0) (fun i => d i 1) (fun i => ps_w (d i) (fr i) (to i) (pe i) (uv jx) tx) bx (d ix 1)) 1 + ps_sec (d ix 3) (ps_per (fr ix) (to ix) (pe ix) (tx / 3600 % 24) (d ix 7) 0) (uv jx 2) (uv jx 3) (d ix 2 - mx)))))) (vg_B D ay base Gx) (vg_A base)) args s 0 0 (vg_A base)) [(0, .ref am), (1, .int u), (2, .int x), (3, .int mm), (4, .int b), (5, .int t)] [.int b9, .ref am] ws 31 := by
    intro b31 y31 n31
    have j67 : ∀ b9 : Int32, ((0 ≤ t ∧ (∃ k, (nI 0 ≤ mm ∧ mm ≤ nI k) ∧ ((∃ i, x = nI i ∧ i < P ∧ k = d i 2) ∨ (¬ cm_in x P ∧ k = 0)))) → b9 = 1) → (¬ (0 ≤ t ∧ (∃ k, (nI 0 ≤ mm ∧ mm ≤ nI k) ∧ ((∃ i, x = nI i ∧ i < P ∧ k = d i 2) ∨ (¬ cm_in x P ∧ k = 0)))) → b9 = 0) → vg_V D base p l e ({ frames := 4, cells := 0, slots := 0, locals := 103 } : Room) s m args below meth c 12 0 0 (MQ below (va_Ql (fun r u2 => (¬ (cm_in u U ∧ cm_in x P ∧ cm_in b n) ∧ cm_St ay u2 am aa 1 n P U d fr to pe uv ku ks kt sk wl wp ∧ cm_fr ws u2) ∨ ((cm_in u U ∧ cm_in x P ∧ cm_in b n) ∧ ¬ (0 ≤ t ∧ (∃ k, (nI 0 ≤ mm ∧ mm ≤ nI k) ∧ ((∃ i, x = nI i ∧ i < P ∧ k = d i 2) ∨ (¬ cm_in x P ∧ k = 0)))) ∧ cm_St ay u2 am aa 2 n P U d fr to pe uv ku ks kt sk wl wp ∧ cm_fr ws u2) ∨ (cm_St ay u2 am aa 0 n P U d fr to pe uv ku ks kt sk wl wp ∧ cm_fr ws u2 ∧ ∃ jx ix mx bx tx : Nat, u = nI jx ∧ jx < U ∧ x = nI ix ∧ ix < P ∧ mm = nI mx ∧ mx ≤ d ix 2 ∧ b = nI bx ∧ bx < n ∧ t = nI tx ∧ tx < 2 ^ 31 ∧ (¬ ps_ok (d ix) (uv jx) → r = -1) ∧ (ps_ok (d ix) (uv jx) → r = vs_rep (min (ma_d (ma_T P (fun i => d i 0) (fun i => d i 1) (fun i => ps_w (d i) (fr i) (to i) (pe i) (uv jx) tx) bx (d ix 0)) 1 + ps_sec (d ix 3) (ps_per (fr ix) (to ix) (pe ix) (tx / 3600 % 24) (d ix 7) 0) (uv jx 2) (uv jx 3) mx) (ma_d (ma_T P (fun i => d i 0) (fun i => d i 1) (fun i => ps_w (d i) (fr i) (to i) (pe i) (uv jx) tx) bx (d ix 1)) 1 + ps_sec (d ix 3) (ps_per (fr ix) (to ix) (pe ix) (tx / 3600 % 24) (d ix 7) 0) (uv jx 2) (uv jx 3) (d ix 2 - mx)))))) (vg_B D ay base Gx) (vg_A base)) args s 0 0 (vg_A base)) [(0, .ref am), (1, .int u), (2, .int x), (3, .int mm), (4, .int b), (5, .int t)] [.int b9, .int b31, .ref am] ws 67 := by
      intro b67 y67 n67
      refine vg_iconst X (nI 1) dX7_rest_67 (by decide) ?_
      refine vg_calli (vg_runV X (c_X7_goes l hO (b1 := b31) (b2 := b67) (b3 := nI 1)) (cwV 3 X.2.2.2.2.1 gX7_rest_X7_goes rfl rfl rfl (by decide +kernel) ⟨Nat.le_of_ble_eq_true rfl, Nat.le_of_ble_eq_true rfl⟩) 29 hO3 rfl rfl rfl (Nat.le_of_ble_eq_true rfl) dX7_rest_68 ⟨Nat.zero_le _, Nat.zero_le _⟩) (fun rr3 wz1 PP2 => ?_)
      obtain ⟨gO, gfr0, gy, gn⟩ := PP2
      have e0 : ∀ q, q ≠ 29 → wz1[q]? = ws[q]? := fun q hq => gfr0.2 q (by simpa using hq)
      have gD : cm_D ay wz1 aa n P U d fr to pe uv := cm_D_fr hD (fun q h1 h2 => e0 q (by omega))
      have gT : cm_T ay wz1 aa n ku ks kt sk := cm_T_fr hT (fun q h1 h2 => e0 q (by omega))
      have gF := cm_fr_of gfr0 (by decide)
      have g51 := (e0 51 (by decide)).trans h51
      have g52 := (e0 52 (by decide)).trans h52
      have g53 := (e0 53 (by decide)).trans h53
      have g54 := (e0 54 (by decide)).trans h54
      refine vg_if_ne X 76 dX7_rest_71 (by decide) (fun c71 => ?_) (fun c71 => ?_)
      · skip
        have g0 : go_c b31 b67 (nI 1) = 0 := Classical.byContradiction (fun q9 => c71 (gn q9))
        rw [g0] at gO
        have p0 : cm_in u U ∧ cm_in x P ∧ cm_in b n := Classical.byContradiction (fun q9 => by have := n31 q9; unfold go_c at g0; rw [if_pos this] at g0; exact absurd g0 (by decide))
        have p1 : 0 ≤ t ∧ (∃ k, (nI 0 ≤ mm ∧ mm ≤ nI k) ∧ ((∃ i, x = nI i ∧ i < P ∧ k = d i 2) ∨ (¬ cm_in x P ∧ k = 0))) := Classical.byContradiction (fun q9 => by have := n67 q9; unfold go_c at g0; rw [if_neg (by rw [y31 p0]; decide), if_pos this] at g0; exact absurd g0 (by decide))
        have gO3 := gO
        unfold cm_O at gO3
        obtain ⟨⟨j, hj, rfl⟩, ⟨i, hi, rfl⟩, ⟨b1, hb1, rfl⟩⟩ := p0
        obtain ⟨p1a, k8, p1b, p1c⟩ := p1
        obtain ⟨t1, ht, rfl⟩ := nI_of (x := t) (fun q9 => absurd p1a (Int32.not_le.mpr q9))
        have hk8 : k8 = d i 2 := p1c.elim (fun ⟨i8, e8, _, ek⟩ => by have h6 := (nI_eq (by omega) (by omega)).mp e8; rw [ek, h6]) (fun q => absurd ⟨i, hi, rfl⟩ q.1)
        subst hk8
        obtain ⟨hrr, y0, y1, y6⟩ := hR.2.2.2.1 i hi
        have huv := (hR.2.2.2.2 j hj).1
        have hrr2 := hrr.2.2.2.1
        obtain ⟨m1, _, hm1, rfl⟩ := cm_rng p1b (by decide) (by omega)
        obtain ⟨f0, f1, f2, f3, f4, f5, f6, f7, f8, f9, f10, f11, f12, f13, f14, f15, hh0, hh1, hh2, hh3, hh4, hh5, hh6, hh7, hh8, hh9, hh10, hh11, hh12, hh13, hh14, hh15, hp, hu⟩ := id gD
        obtain ⟨b0, b1x, b2, b3⟩ := hp i hi
        refine vg_aload_n X dX7_rest_76 0 rfl rfl ?_
        refine vg_iload_n X dX7_rest_77 1 rfl rfl ?_
        refine vg_iload_n X dX7_rest_78 2 rfl rfl ?_
        refine vg_calli (vg_runV X (c_X7_mayGo l gO gD hR (j := j) (i := i) hj hi) (cwV 2 X.2.2.2.2.1 gX7_rest_X7_mayGo rfl rfl rfl (by decide +kernel) ⟨Nat.le_of_ble_eq_true rfl, Nat.le_of_ble_eq_true rfl⟩) 29 gO3 rfl rfl rfl (Nat.le_of_ble_eq_true rfl) dX7_rest_79 ⟨Nat.zero_le _, Nat.zero_le _⟩) (fun rr6 wz4 PP5 => ?_)
        obtain ⟨hw8, hy9, hn9⟩ := PP5
        rw [hw8]
        refine vg_if_ne X 89 dX7_rest_82 (by decide) (fun c82 => ?_) (fun c82 => ?_)
        · have hok : ps_ok (d i) (uv j) := Classical.byContradiction (fun q9 => c82 (hn9 q9))
          refine vg_aload_n X dX7_rest_89 0 rfl rfl ?_
          refine vg_iload_n X dX7_rest_90 1 rfl rfl ?_
          refine vg_iload X dX7_rest_91 4 rfl ?_
          refine vg_iload X dX7_rest_93 5 rfl ?_
          refine vg_callv (vg_runV X (c_X7_spread l gO gD hR g51 (j := j) (a := b1) (t := t1) hj hb1 ht) (cwV 3 X.2.2.2.2.1 gX7_rest_X7_spread rfl rfl rfl (by decide +kernel) ⟨Nat.le_of_ble_eq_true rfl, Nat.le_of_ble_eq_true rfl⟩) 29 gO3 rfl rfl rfl (Nat.le_of_ble_eq_true rfl) dX7_rest_95 ⟨Nat.zero_le _, Nat.zero_le _⟩) (fun wz7 PP8 => ?_)
          obtain ⟨fl2, z1, z2, z3⟩ := PP8
          have e1 : ∀ q, q ≠ 51 → wz7[q]? = wz1[q]? := fun q hq => z3.2 q (by simpa using hq)
          have O3 : cm_O wz7 am aa (nI 0) n P U (nI wl) := (e1 29 (by decide)).trans gO
          have O4 := O3
          unfold cm_O at O4
          have D3 : cm_D ay wz7 aa n P U d fr to pe uv := cm_D_fr gD (fun q h1 h2 => e1 q (by omega))
          have hper := ps_per_in (fr := fr i) (to := to i) (pe := pe i) (hour := t1 / 3600 % 24) (d i 7) 0 (fun q _ hq => ⟨(hrr.2.2.2.2.2.2.2.2.2 q (by omega)).2.2.1, (hrr.2.2.2.2.2.2.2.2.2 q (by omega)).2.2.2⟩)
          have hs1 := (ps_sec_in (sp := d i 3) (mm := m1) hok.2.1 hper.1 huv.2.2.1 huv.2.2.2.2.1 huv.2.2.2.2.2.1 (by omega)).1
          have hs2 := (ps_sec_in (sp := d i 3) (mm := (d i 2 - m1)) hok.2.1 hper.1 huv.2.2.1 huv.2.2.2.2.1 huv.2.2.2.2.2.1 (by omega)).1
          obtain ⟨S1, eS1⟩ : ∃ z : Nat, z = ps_sec (d i 3) (ps_per (fr i) (to i) (pe i) (t1 / 3600 % 24) (d i 7) 0) (uv j 2) (uv j 3) m1 := ⟨_, rfl⟩
          rw [← eS1] at hs1
          obtain ⟨S2, eS2⟩ : ∃ z : Nat, z = ps_sec (d i 3) (ps_per (fr i) (to i) (pe i) (t1 / 3600 % 24) (d i 7) 0) (uv j 2) (uv j 3) (d i 2 - m1) := ⟨_, rfl⟩
          rw [← eS2] at hs2
          obtain ⟨L1, eL1⟩ : ∃ z : Nat, z = ma_d (ma_T P (fun i => d i 0) (fun i => d i 1) (fun i => ps_w (d i) (fr i) (to i) (pe i) (uv j) t1) b1 (d i 0)) 1 := ⟨_, rfl⟩
          have hL1 : L1 ≤ ma_B := by rw [eL1]; exact ma_d_leB _ _
          have z21 : fl2 (d i 0) = lN L1 := by rw [eL1]; exact z2 _ y0
          obtain ⟨L2, eL2⟩ : ∃ z : Nat, z = ma_d (ma_T P (fun i => d i 0) (fun i => d i 1) (fun i => ps_w (d i) (fr i) (to i) (pe i) (uv j) t1) b1 (d i 1)) 1 := ⟨_, rfl⟩
          have hL2 : L2 ≤ ma_B := by rw [eL2]; exact ma_d_leB _ _
          have z22 : fl2 (d i 1) = lN L2 := by rw [eL2]; exact z2 _ y1
          have hx0 : wz7[30]? = some ((aa 0), .inl (ay 0, 150, .inl f0)) := (e1 30 (by decide)).trans hh0
          have hx1 : wz7[31]? = some ((aa 1), .inl (ay 0, 150, .inl f1)) := (e1 31 (by decide)).trans hh1
          have hx2 : wz7[32]? = some ((aa 2), .inl (ay 0, 150, .inl f2)) := (e1 32 (by decide)).trans hh2
          refine vg_aload_n X dX7_rest_98 0 rfl rfl ?_
          refine vg_get X in_X7_rest_X7 29 O4 rfl 25 (by decide) ml_X7_rest_75 rfl rfl dX7_rest_99 ?_
          refine vg_aload_n X dX7_rest_102 0 rfl rfl ?_
          refine vg_get X in_X7_rest_X7 29 O4 rfl 3 (by decide) ml_X7_rest_7 rfl rfl dX7_rest_103 ?_
          refine vg_iload_n X dX7_rest_106 2 rfl rfl ?_
          refine vg_iald X (nI (d i 0)) 30 hx0 rfl (by omega) (by decide) b0 dX7_rest_107 ?_
          refine vg_lald X (lN L1) 51 z1 rfl (by omega) (by decide) z21 dX7_rest_108 ?_
          refine vg_aload_n X dX7_rest_109 0 rfl rfl ?_
          refine vg_iload_n X dX7_rest_110 1 rfl rfl ?_
          refine vg_iload_n X dX7_rest_111 2 rfl rfl ?_
          refine vg_iload_n X dX7_rest_112 3 rfl rfl ?_
          refine vg_iload X dX7_rest_113 5 rfl ?_
          refine vg_calll (vg_runV X (c_X7_takes l O3 D3 hR (j := j) (i := i) (mm := m1) (t := t1) hj hi (by omega) ht hok.2.1) (cwV 4 X.2.2.2.2.1 gX7_rest_X7_takes rfl rfl rfl (by decide +kernel) ⟨Nat.le_of_ble_eq_true rfl, Nat.le_of_ble_eq_true rfl⟩) 29 O4 rfl rfl rfl (Nat.le_of_ble_eq_true rfl) dX7_rest_115 ⟨Nat.zero_le _, Nat.zero_le _⟩) (fun rr12 wz10 PP11 => ?_)
          obtain ⟨hw8, hr8⟩ := PP11
          rw [hw8]
          have e8 : rr12 = lN S1 := by rw [hr8, eS1]
          subst e8
          refine vg_ladd X (lN (L1 + S1)) dX7_rest_118 (lN_add _ _) ?_
          refine vg_lstore X [(6, .long (lN (L1 + S1))), (0, .ref am), (1, .int (nI j)), (2, .int (nI i)), (3, .int (nI m1)), (4, .int (nI b1)), (5, .int (nI t1))] dX7_rest_119 (by decide) rfl ?_
          refine vg_aload_n X dX7_rest_121 1 rfl rfl ?_
          refine vg_get X in_X7_rest_X7 29 O4 rfl 25 (by decide) ml_X7_rest_75 rfl rfl dX7_rest_122 ?_
          refine vg_aload_n X dX7_rest_125 1 rfl rfl ?_
          refine vg_get X in_X7_rest_X7 29 O4 rfl 4 (by decide) ml_X7_rest_13 rfl rfl dX7_rest_126 ?_
          refine vg_iload_n X dX7_rest_129 3 rfl rfl ?_
          refine vg_iald X (nI (d i 1)) 31 hx1 rfl (by omega) (by decide) b1x dX7_rest_130 ?_
          refine vg_lald X (lN L2) 51 z1 rfl (by omega) (by decide) z22 dX7_rest_131 ?_
          refine vg_aload_n X dX7_rest_132 1 rfl rfl ?_
          refine vg_iload_n X dX7_rest_133 2 rfl rfl ?_
          refine vg_iload_n X dX7_rest_134 3 rfl rfl ?_
          refine vg_aload_n X dX7_rest_135 1 rfl rfl ?_
          refine vg_get X in_X7_rest_X7 29 O4 rfl 5 (by decide) ml_X7_rest_16 rfl rfl dX7_rest_136 ?_
          refine vg_iload_n X dX7_rest_139 3 rfl rfl ?_
          refine vg_iald X (nI (d i 2)) 32 hx2 rfl (by omega) (by decide) b2 dX7_rest_140 ?_
          refine vg_iload_n X dX7_rest_141 4 rfl rfl ?_
          refine vg_isub X (nI (d i 2 - m1)) dX7_rest_142 (pk_sub (by omega)) ?_
          refine vg_iload X dX7_rest_143 6 rfl ?_
          refine vg_calll (vg_runV X (c_X7_takes l O3 D3 hR (j := j) (i := i) (mm := d i 2 - m1) (t := t1) hj hi (by omega) ht hok.2.1) (cwV 4 X.2.2.2.2.1 gX7_rest_X7_takes rfl rfl rfl (by decide +kernel) ⟨Nat.le_of_ble_eq_true rfl, Nat.le_of_ble_eq_true rfl⟩) 29 O4 rfl rfl rfl (Nat.le_of_ble_eq_true rfl) dX7_rest_145 ⟨Nat.zero_le _, Nat.zero_le _⟩) (fun rr15 wz13 PP14 => ?_)
          obtain ⟨hw8, hr8⟩ := PP14
          rw [hw8]
          have e8 : rr15 = lN S2 := by rw [hr8, eS2]
          subst e8
          refine vg_ladd X (lN (L2 + S2)) dX7_rest_148 (lN_add _ _) ?_
          refine vg_lstore X [(8, .long (lN (L2 + S2))), (6, .long (lN (L1 + S1))), (0, .ref am), (1, .int (nI j)), (2, .int (nI i)), (3, .int (nI m1)), (4, .int (nI b1)), (5, .int (nI t1))] dX7_rest_149 (by decide) rfl ?_
          refine vg_lload X dX7_rest_151 1 rfl ?_
          refine vg_lload X dX7_rest_153 0 rfl ?_
          refine vg_lcmp_ge X 164 dX7_rest_155 dX7_rest_156 (by decide) (fun c155 => ?_) (fun c155 => ?_)
          · have c155 : L2 + S2 ≤ L1 + S1 := (pk_lLE (by omega) (by omega)).mp c155
            skip
            refine vg_lload X dX7_rest_164 0 rfl ?_
            refine vg_lstore X [(10, .long (lN (L2 + S2))), (8, .long (lN (L2 + S2))), (6, .long (lN (L1 + S1))), (0, .ref am), (1, .int (nI j)), (2, .int (nI i)), (3, .int (nI m1)), (4, .int (nI b1)), (5, .int (nI t1))] dX7_rest_166 (by decide) rfl ?_
            refine vg_lload X dX7_rest_168 0 rfl ?_
            refine vg_ldc2 X (lN ma_B) dX7_rest_170 mk_X7_rest_113 ?_
            refine vg_lcmp_ge X 182 dX7_rest_173 dX7_rest_174 (by decide) (fun c173 => ?_) (fun c173 => ?_)
            · have c173 : ma_B ≤ L2 + S2 := (pk_lLE (by omega) (by omega)).mp c173
              refine vg_ldc2 X (-1) dX7_rest_182 mk_X7_rest_146 ?_
              exact vg_lret X rfl (Or.inr (Or.inr (⟨⟨fl2, _, _, _, O3, D3, cm_T_fr gT (fun q h1 h2 => e1 q (by omega)), z1, (e1 52 (by decide)).trans g52, (e1 53 (by decide)).trans g53, (e1 54 (by decide)).trans g54, hwl, hwp⟩, cm_fr_tr gF (cm_fr_of z3 (by decide)), j, i, m1, b1, t1, rfl, hj, rfl, hi, rfl, hm1, rfl, hb1, rfl, ht, fun q9 => absurd hok q9, fun _ => by rw [← eL1, ← eL2, ← eS1, ← eS2, show min (L1 + S1) (L2 + S2) = L2 + S2 by omega]; exact (if_neg (by omega)).symm⟩))) (Nat.le_refl _) (Nat.le_refl _) dX7_rest_185
            · have c173 : ¬ ma_B ≤ L2 + S2 := fun z => c173 ((pk_lLE (by omega) (by omega)).mpr z)
              refine vg_lload X dX7_rest_177 0 rfl ?_
              refine vg_goto X 185 dX7_rest_179 (by decide) ?_
              exact vg_lret X rfl (Or.inr (Or.inr (⟨⟨fl2, _, _, _, O3, D3, cm_T_fr gT (fun q h1 h2 => e1 q (by omega)), z1, (e1 52 (by decide)).trans g52, (e1 53 (by decide)).trans g53, (e1 54 (by decide)).trans g54, hwl, hwp⟩, cm_fr_tr gF (cm_fr_of z3 (by decide)), j, i, m1, b1, t1, rfl, hj, rfl, hi, rfl, hm1, rfl, hb1, rfl, ht, fun q9 => absurd hok q9, fun _ => by rw [← eL1, ← eL2, ← eS1, ← eS2, show min (L1 + S1) (L2 + S2) = L2 + S2 by omega, vs_rep_lt (by omega)]⟩))) (Nat.le_refl _) (Nat.le_refl _) dX7_rest_185
          · have c155 : ¬ L2 + S2 ≤ L1 + S1 := fun z => c155 ((pk_lLE (by omega) (by omega)).mpr z)
            skip
            refine vg_lload X dX7_rest_159 1 rfl ?_
            refine vg_goto X 166 dX7_rest_161 (by decide) ?_
            refine vg_lstore X [(10, .long (lN (L1 + S1))), (8, .long (lN (L2 + S2))), (6, .long (lN (L1 + S1))), (0, .ref am), (1, .int (nI j)), (2, .int (nI i)), (3, .int (nI m1)), (4, .int (nI b1)), (5, .int (nI t1))] dX7_rest_166 (by decide) rfl ?_
            refine vg_lload X dX7_rest_168 0 rfl ?_
            refine vg_ldc2 X (lN ma_B) dX7_rest_170 mk_X7_rest_113 ?_
            refine vg_lcmp_ge X 182 dX7_rest_173 dX7_rest_174 (by decide) (fun c173 => ?_) (fun c173 => ?_)
            · have c173 : ma_B ≤ L1 + S1 := (pk_lLE (by omega) (by omega)).mp c173
              refine vg_ldc2 X (-1) dX7_rest_182 mk_X7_rest_146 ?_
              exact vg_lret X rfl (Or.inr (Or.inr (⟨⟨fl2, _, _, _, O3, D3, cm_T_fr gT (fun q h1 h2 => e1 q (by omega)), z1, (e1 52 (by decide)).trans g52, (e1 53 (by decide)).trans g53, (e1 54 (by decide)).trans g54, hwl, hwp⟩, cm_fr_tr gF (cm_fr_of z3 (by decide)), j, i, m1, b1, t1, rfl, hj, rfl, hi, rfl, hm1, rfl, hb1, rfl, ht, fun q9 => absurd hok q9, fun _ => by rw [← eL1, ← eL2, ← eS1, ← eS2, show min (L1 + S1) (L2 + S2) = L1 + S1 by omega]; exact (if_neg (by omega)).symm⟩))) (Nat.le_refl _) (Nat.le_refl _) dX7_rest_185
            · have c173 : ¬ ma_B ≤ L1 + S1 := fun z => c173 ((pk_lLE (by omega) (by omega)).mpr z)
              refine vg_lload X dX7_rest_177 0 rfl ?_
              refine vg_goto X 185 dX7_rest_179 (by decide) ?_
              exact vg_lret X rfl (Or.inr (Or.inr (⟨⟨fl2, _, _, _, O3, D3, cm_T_fr gT (fun q h1 h2 => e1 q (by omega)), z1, (e1 52 (by decide)).trans g52, (e1 53 (by decide)).trans g53, (e1 54 (by decide)).trans g54, hwl, hwp⟩, cm_fr_tr gF (cm_fr_of z3 (by decide)), j, i, m1, b1, t1, rfl, hj, rfl, hi, rfl, hm1, rfl, hb1, rfl, ht, fun q9 => absurd hok q9, fun _ => by rw [← eL1, ← eL2, ← eS1, ← eS2, show min (L1 + S1) (L2 + S2) = L1 + S1 by omega, vs_rep_lt (by omega)]⟩))) (Nat.le_refl _) (Nat.le_refl _) dX7_rest_185
        · have hok : ¬ ps_ok (d i) (uv j) := fun q9 => by have := hy9 q9; rw [c82] at this; exact absurd this (by decide)
          refine vg_ldc2 X (-1) dX7_rest_85 mk_X7_rest_146 ?_
          exact vg_lret X rfl (Or.inr (Or.inr (⟨⟨_, _, _, _, gO, gD, gT, g51, g52, g53, g54, hwl, hwp⟩, gF, j, i, m1, b1, t1, rfl, hj, rfl, hi, rfl, hm1, rfl, hb1, rfl, ht, fun _ => rfl, fun q9 => absurd q9 hok⟩))) (Nat.le_refl _) (Nat.le_refl _) dX7_rest_88
      · skip
        have ng : go_c b31 b67 (nI 1) ≠ 0 := fun q9 => by have := gy q9; rw [c71] at this; exact absurd this (by decide)
        by_cases p0 : cm_in u U ∧ cm_in x P ∧ cm_in b n
        · skip
          by_cases p1 : 0 ≤ t ∧ (∃ k, (nI 0 ≤ mm ∧ mm ≤ nI k) ∧ ((∃ i, x = nI i ∧ i < P ∧ k = d i 2) ∨ (¬ cm_in x P ∧ k = 0)))
          · skip
            exact absurd (by unfold go_c; rw [if_neg (by rw [y31 p0]; decide), if_neg (by rw [y67 p1]; decide), if_neg (by decide)]) ng
          · skip
            have g9 : go_c b31 b67 (nI 1) = 2 := by unfold go_c; rw [if_neg (by rw [y31 p0]; decide), if_pos (n67 p1)]
            rw [g9] at gO
            refine vg_lconst X (lN 0) dX7_rest_74 (by decide) ?_
            exact vg_lret X rfl (Or.inr (Or.inl ⟨p0, p1, ⟨_, _, _, _, gO, gD, gT, g51, g52, g53, g54, hwl, hwp⟩, gF⟩)) (Nat.le_refl _) (Nat.le_refl _) dX7_rest_75
        · skip
          have g9 : go_c b31 b67 (nI 1) = 1 := by unfold go_c; rw [if_pos (n31 p0)]
          rw [g9] at gO
          refine vg_lconst X (lN 0) dX7_rest_74 (by decide) ?_
          exact vg_lret X rfl (Or.inl ⟨p0, ⟨_, _, _, _, gO, gD, gT, g51, g52, g53, g54, hwl, hwp⟩, gF⟩) (Nat.le_refl _) (Nat.le_refl _) dX7_rest_75
    refine vg_iload X dX7_rest_31 5 rfl ?_
    skip
    refine vg_if_lt X 66 dX7_rest_33 (by decide) (fun c33 => ?_) (fun c33 => ?_)
    · have k33 : ¬ (0 ≤ t) := Int32.not_le.mpr c33
      refine vg_iconst X (nI 0) dX7_rest_66 (by decide) ?_
      exact j67 _ (fun q9 => absurd (q9.1) k33) (fun _ => by decide)
    · have k33 : 0 ≤ t := Int32.not_lt.mp c33
      refine vg_iload_n X dX7_rest_36 3 rfl rfl ?_
      refine vg_iconst X (nI 0) dX7_rest_37 (by decide) ?_
      refine vg_aload_n X dX7_rest_38 0 rfl rfl ?_
      refine vg_iload_n X dX7_rest_39 2 rfl rfl ?_
      refine vg_calli (vg_runV X (c_X7_isPiece l hO (k := x) (by omega)) (cwV 1 X.2.2.2.2.1 gX7_rest_X7_isPiece rfl rfl rfl (by decide +kernel) ⟨Nat.le_of_ble_eq_true rfl, Nat.le_of_ble_eq_true rfl⟩) 29 hO3 rfl rfl rfl (Nat.le_of_ble_eq_true rfl) dX7_rest_40 ⟨Nat.zero_le _, Nat.zero_le _⟩) (fun rr18 wz16 PP17 => ?_)
      obtain ⟨hw9, yrr18, nrr18⟩ := PP17
      rw [hw9]
      skip
      refine vg_if_eq X 55 dX7_rest_43 (by decide) (fun c43 => ?_) (fun c43 => ?_)
      · have k43 : ¬ (cm_in x P) := fun q9 => by have := yrr18 q9; rw [c43] at this; exact absurd this (by decide)
        refine vg_iconst X (nI 0) dX7_rest_55 (by decide) ?_
        refine vg_calli (vg_runS X (c_X7_in l (x := mm) (a := nI 0) (b := nI 0)) (va_cwS 3 X.2.2.2.2.1 gX7_rest_X7_in rfl rfl rfl (by decide +kernel) ⟨Nat.le_of_ble_eq_true rfl, Nat.le_of_ble_eq_true rfl⟩) rfl rfl (Nat.le_of_ble_eq_true rfl) dX7_rest_56 ⟨Nat.zero_le _, Nat.zero_le _⟩) (fun rr21 wz19 PP20 => ?_)
        obtain ⟨hw9, yrr21, nrr21⟩ := PP20
        rw [hw9]
        skip
        refine vg_if_eq X 66 dX7_rest_59 (by decide) (fun c59 => ?_) (fun c59 => ?_)
        · have k59 : ¬ (∃ k, (nI 0 ≤ mm ∧ mm ≤ nI k) ∧ ((∃ i, x = nI i ∧ i < P ∧ k = d i 2) ∨ (¬ cm_in x P ∧ k = 0))) := fun ⟨k8, h8, h9⟩ => by have h7 : k8 = 0 := h9.elim (fun ⟨i8, e8, hi8, _⟩ => absurd ⟨i8, hi8, e8⟩ k43) (fun q => q.2); rw [h7] at h8; have := yrr21 h8; rw [c59] at this; exact absurd this (by decide)
          refine vg_iconst X (nI 0) dX7_rest_66 (by decide) ?_
          exact j67 _ (fun q9 => absurd (q9.2) k59) (fun _ => by decide)
        · have k59 : ∃ k, (nI 0 ≤ mm ∧ mm ≤ nI k) ∧ ((∃ i, x = nI i ∧ i < P ∧ k = d i 2) ∨ (¬ cm_in x P ∧ k = 0)) := ⟨0, Classical.byContradiction (fun q9 => c59 (nrr21 q9)), Or.inr ⟨k43, rfl⟩⟩
          refine vg_iconst X (nI 1) dX7_rest_62 (by decide) ?_
          refine vg_goto X 67 dX7_rest_63 (by decide) ?_
          exact j67 _ (fun _ => by decide) (fun q9 => absurd (show 0 ≤ t ∧ (∃ k, (nI 0 ≤ mm ∧ mm ≤ nI k) ∧ ((∃ i, x = nI i ∧ i < P ∧ k = d i 2) ∨ (¬ cm_in x P ∧ k = 0))) from ⟨by assumption, by assumption⟩) q9)
      · have k43 : cm_in x P := Classical.byContradiction (fun q9 => c43 (nrr18 q9))
        obtain ⟨i9, hi9, ei9⟩ := id k43
        have hr9 := (hR.2.2.2.1 i9 hi9).1
        refine vg_aload_n X dX7_rest_46 0 rfl rfl ?_
        refine vg_get X in_X7_rest_X7 29 hO3 rfl 5 (by decide) ml_X7_rest_16 rfl rfl dX7_rest_47 ?_
        refine vg_iload_n X dX7_rest_50 2 rfl rfl ?_
        refine vg_same rfl (st2 := [.int (nI i9), .ref (aa 2), .int (nI 0), .int mm, .int b31, .ref am]) (by rw [ei9]) ?_
        refine vg_iald X (nI (d i9 2)) 32 hh2 rfl (by omega) (by decide) (hp0 i9 hi9).2.2.1 dX7_rest_51 ?_
        refine vg_goto X 56 dX7_rest_52 (by decide) ?_
        refine vg_calli (vg_runS X (c_X7_in l (x := mm) (a := nI 0) (b := nI (d i9 2))) (va_cwS 3 X.2.2.2.2.1 gX7_rest_X7_in rfl rfl rfl (by decide +kernel) ⟨Nat.le_of_ble_eq_true rfl, Nat.le_of_ble_eq_true rfl⟩) rfl rfl (Nat.le_of_ble_eq_true rfl) dX7_rest_56 ⟨Nat.zero_le _, Nat.zero_le _⟩) (fun rr24 wz22 PP23 => ?_)
        obtain ⟨hw9, yrr24, nrr24⟩ := PP23
        rw [hw9]
        skip
        refine vg_if_eq X 66 dX7_rest_59 (by decide) (fun c59 => ?_) (fun c59 => ?_)
        · have k59 : ¬ (∃ k, (nI 0 ≤ mm ∧ mm ≤ nI k) ∧ ((∃ i, x = nI i ∧ i < P ∧ k = d i 2) ∨ (¬ cm_in x P ∧ k = 0))) := fun ⟨k8, h8, h9⟩ => by have h7 : k8 = d i9 2 := h9.elim (fun ⟨i8, e8, _, ek⟩ => by have h6 := (nI_eq (by omega) (by omega)).mp (ei9.symm.trans e8); rw [ek, h6]) (fun q => absurd k43 q.1); rw [h7] at h8; have := yrr24 h8; rw [c59] at this; exact absurd this (by decide)
          refine vg_iconst X (nI 0) dX7_rest_66 (by decide) ?_
          exact j67 _ (fun q9 => absurd (q9.2) k59) (fun _ => by decide)
        · have k59 : ∃ k, (nI 0 ≤ mm ∧ mm ≤ nI k) ∧ ((∃ i, x = nI i ∧ i < P ∧ k = d i 2) ∨ (¬ cm_in x P ∧ k = 0)) := ⟨d i9 2, Classical.byContradiction (fun q9 => c59 (nrr24 q9)), Or.inl ⟨i9, ei9, hi9, rfl⟩⟩
          refine vg_iconst X (nI 1) dX7_rest_62 (by decide) ?_
          refine vg_goto X 67 dX7_rest_63 (by decide) ?_
          exact j67 _ (fun _ => by decide) (fun q9 => absurd (show 0 ≤ t ∧ (∃ k, (nI 0 ≤ mm ∧ mm ≤ nI k) ∧ ((∃ i, x = nI i ∧ i < P ∧ k = d i 2) ∨ (¬ cm_in x P ∧ k = 0))) from ⟨by assumption, by assumption⟩) q9)
  refine vg_aload_n X dX7_rest_0 0 rfl rfl ?_
  refine vg_aload_n X dX7_rest_1 0 rfl rfl ?_
  refine vg_iload_n X dX7_rest_2 1 rfl rfl ?_
  refine vg_calli (vg_runV X (c_X7_isUnit l hO (k := u) (by omega)) (cwV 1 X.2.2.2.2.1 gX7_rest_X7_isUnit rfl rfl rfl (by decide +kernel) ⟨Nat.le_of_ble_eq_true rfl, Nat.le_of_ble_eq_true rfl⟩) 29 hO3 rfl rfl rfl (Nat.le_of_ble_eq_true rfl) dX7_rest_3 ⟨Nat.zero_le _, Nat.zero_le _⟩) (fun rr27 wz25 PP26 => ?_)
  obtain ⟨hw9, yrr27, nrr27⟩ := PP26
  rw [hw9]
  skip
  refine vg_if_eq X 30 dX7_rest_6 (by decide) (fun c6 => ?_) (fun c6 => ?_)
  · have k6 : ¬ (cm_in u U) := fun q9 => by have := yrr27 q9; rw [c6] at this; exact absurd this (by decide)
    refine vg_iconst X (nI 0) dX7_rest_30 (by decide) ?_
    exact j31 _ (fun q9 => absurd (q9.1) k6) (fun _ => by decide)
  · have k6 : cm_in u U := Classical.byContradiction (fun q9 => c6 (nrr27 q9))
    refine vg_aload_n X dX7_rest_9 0 rfl rfl ?_
    refine vg_iload_n X dX7_rest_10 2 rfl rfl ?_
    refine vg_calli (vg_runV X (c_X7_isPiece l hO (k := x) (by omega)) (cwV 1 X.2.2.2.2.1 gX7_rest_X7_isPiece rfl rfl rfl (by decide +kernel) ⟨Nat.le_of_ble_eq_true rfl, Nat.le_of_ble_eq_true rfl⟩) 29 hO3 rfl rfl rfl (Nat.le_of_ble_eq_true rfl) dX7_rest_11 ⟨Nat.zero_le _, Nat.zero_le _⟩) (fun rr30 wz28 PP29 => ?_)
    obtain ⟨hw9, yrr30, nrr30⟩ := PP29
    rw [hw9]
    skip
    refine vg_if_eq X 30 dX7_rest_14 (by decide) (fun c14 => ?_) (fun c14 => ?_)
    · have k14 : ¬ (cm_in x P) := fun q9 => by have := yrr30 q9; rw [c14] at this; exact absurd this (by decide)
      refine vg_iconst X (nI 0) dX7_rest_30 (by decide) ?_
      exact j31 _ (fun q9 => absurd (q9.2.1) k14) (fun _ => by decide)
    · have k14 : cm_in x P := Classical.byContradiction (fun q9 => c14 (nrr30 q9))
      refine vg_aload_n X dX7_rest_17 0 rfl rfl ?_
      refine vg_iload X dX7_rest_18 4 rfl ?_
      refine vg_calli (vg_runV X (c_X7_isNode l hO (k := b) (by omega)) (cwV 1 X.2.2.2.2.1 gX7_rest_X7_isNode rfl rfl rfl (by decide +kernel) ⟨Nat.le_of_ble_eq_true rfl, Nat.le_of_ble_eq_true rfl⟩) 29 hO3 rfl rfl rfl (Nat.le_of_ble_eq_true rfl) dX7_rest_20 ⟨Nat.zero_le _, Nat.zero_le _⟩) (fun rr33 wz31 PP32 => ?_)
      obtain ⟨hw9, yrr33, nrr33⟩ := PP32
      rw [hw9]
      skip
      refine vg_if_eq X 30 dX7_rest_23 (by decide) (fun c23 => ?_) (fun c23 => ?_)
      · have k23 : ¬ (cm_in b n) := fun q9 => by have := yrr33 q9; rw [c23] at this; exact absurd this (by decide)
        refine vg_iconst X (nI 0) dX7_rest_30 (by decide) ?_
        exact j31 _ (fun q9 => absurd (q9.2.2) k23) (fun _ => by decide)
      · have k23 : cm_in b n := Classical.byContradiction (fun q9 => c23 (nrr33 q9))
        refine vg_iconst X (nI 1) dX7_rest_26 (by decide) ?_
        refine vg_goto X 31 dX7_rest_27 (by decide) ?_
        exact j31 _ (fun _ => by decide) (fun q9 => absurd (show cm_in u U ∧ cm_in x P ∧ cm_in b n from ⟨by assumption, by assumption, by assumption⟩) q9)
set_option maxHeartbeats 4000000 in
set_option maxRecDepth 100000 in
/-- way(..) -/
theorem c_X7_way (l : Launch) {D : va_G} {ay : Nat → ClassId} {base : Nat} {Gx : State → Prop} {ws : va_W} {am : Nat} {aa : Nat → Nat} {n P U th wl : Nat} {d fr to pe uv : Nat → Nat → Nat} {ku ks kt wp : Nat → Nat} {sk : Nat → Nat → Nat} {u a b t : Int32} (hS : cm_St ay ws am aa th n P U d fr to pe uv ku ks kt sk wl wp) (hR : cm_R n P U d fr to pe uv)  : Met l yX7_way wsX7_way ({ frames := 4, cells := 0, slots := 0, locals := 103 } : Room) (va_Pc [.ref am, .int u, .int a, .int b, .int t] (vg_B D ay base Gx ws)) (va_Ql (fun r u2 => (¬ (cm_in u U ∧ cm_in a n ∧ cm_in b n) ∧ cm_St ay u2 am aa 1 n P U d fr to pe uv ku ks kt sk wl wp ∧ cm_fr ws u2) ∨ ((cm_in u U ∧ cm_in a n ∧ cm_in b n) ∧ ¬ (0 ≤ t) ∧ cm_St ay u2 am aa 2 n P U d fr to pe uv ku ks kt sk wl wp ∧ cm_fr ws u2) ∨ (∃ (jx ax bx tx wl2 : Nat) (wp2 nd : Nat → Nat), u = nI jx ∧ jx < U ∧ a = nI ax ∧ ax < n ∧ b = nI bx ∧ bx < n ∧ t = nI tx ∧ tx < 2 ^ 31 ∧ cm_St ay u2 am aa 0 n P U d fr to pe uv ku ks kt sk wl2 wp2 ∧ cm_fr ws u2 ∧ (ma_d (ma_T P (fun i => d i 0) (fun i => d i 1) (fun i => ps_w (d i) (fr i) (to i) (pe i) (uv jx) tx) ax bx) 1 < ma_B → wy_path P (fun i => d i 0) (fun i => d i 1) (fun i => ps_w (d i) (fr i) (to i) (pe i) (uv jx) tx) (fun x => ma_d (ma_T P (fun i => d i 0) (fun i => d i 1) (fun i => ps_w (d i) (fr i) (to i) (pe i) (uv jx) tx) ax x) 1) ax bx wl2 wp2 nd ∧ nd wl2 = ax) ∧ (¬ ma_d (ma_T P (fun i => d i 0) (fun i => d i 1) (fun i => ps_w (d i) (fr i) (to i) (pe i) (uv jx) tx) ax bx) 1 < ma_B → wl2 = 0) ∧ r = vs_rep (ma_d (ma_T P (fun i => d i 0) (fun i => d i 1) (fun i => ps_w (d i) (fr i) (to i) (pe i) (uv jx) tx) ax bx) 1))) (vg_B D ay base Gx) (vg_A base)) 0 0 (vg_A base) := by
  refine vg_met (cc := cX7_way) (maxL := 8) (ret := (some .long)) (own := RX7) (lv := [(0, .ref am), (1, .int u), (2, .int a), (3, .int b), (4, .int t)]) (by decide) rfl rfl (Nat.le_of_ble_eq_true rfl) rfl ?_
  intro p e s m args below meth c X hinit
  obtain ⟨fl, fm, fn, fs, hO, hD, hT, h51, h52, h53, h54, hwl, hwp⟩ := id hS
  have nn := hR.1
  have nP := hR.2.1
  have nU := hR.2.2.1
  have eB : ma_B = 2 ^ 60 := rfl
  have hO3 := hO
  unfold cm_O at hO3
  have j30 : ∀ b9 : Int32, ((cm_in u U ∧ cm_in a n ∧ cm_in b n) → b9 = 1) → (¬ (cm_in u U ∧ cm_in a n ∧ cm_in b n) → b9 = 0) → vg_V D base p l e ({ frames := 4, cells := 0, slots := 0, locals := 103 } : Room) s m args below meth c 8 0 0 (MQ below (va_Ql (fun r u2 => (¬ (cm_in u U ∧ cm_in a n ∧ cm_in b n) ∧ cm_St ay u2 am aa 1 n P U d fr to pe uv ku ks kt sk wl wp ∧ cm_fr ws u2) ∨ ((cm_in u U ∧ cm_in a n ∧ cm_in b n) ∧ ¬ (0 ≤ t) ∧ cm_St ay u2 am aa 2 n P U d fr to pe uv ku ks kt sk wl wp ∧ cm_fr ws u2) ∨ (∃ (jx ax bx tx wl2 : Nat) (wp2 nd : Nat → Nat), u = nI jx ∧ jx < U ∧ a = nI ax ∧ ax < n ∧ b = nI bx ∧ bx < n ∧ t = nI tx ∧ tx < 2 ^ 31 ∧ cm_St ay u2 am aa 0 n P U d fr to pe uv ku ks kt sk wl2 wp2 ∧ cm_fr ws u2 ∧ (ma_d (ma_T P (fun i => d i 0) (fun i => d i 1) (fun i => ps_w (d i) (fr i) (to i) (pe i) (uv jx) tx) ax bx) 1 < ma_B → wy_path P (fun i => d i 0) (fun i => d i 1) (fun i => ps_w (d i) (fr i) (to i) (pe i) (uv jx) tx) (fun x => ma_d (ma_T P (fun i => d i 0) (fun i => d i 1) (fun i => ps_w (d i) (fr i) (to i) (pe i) (uv jx) tx) ax x) 1) ax bx wl2 wp2 nd ∧ nd wl2 = ax) ∧ (¬ ma_d (ma_T P (fun i => d i 0) (fun i => d i 1) (fun i => ps_w (d i) (fr i) (to i) (pe i) (uv jx) tx) ax bx) 1 < ma_B → wl2 = 0) ∧ r = vs_rep (ma_d (ma_T P (fun i => d i 0) (fun i => d i 1) (fun i => ps_w (d i) (fr i) (to i) (pe i) (uv jx) tx) ax bx) 1))) (vg_B D ay base Gx) (vg_A base)) args s 0 0 (vg_A base)) [(0, .ref am), (1, .int u), (2, .int a), (3, .int b), (4, .int t)] [.int b9, .ref am] ws 30 := by
    intro b30 y30 n30
    have j40 : ∀ b9 : Int32, ((0 ≤ t) → b9 = 1) → (¬ (0 ≤ t) → b9 = 0) → vg_V D base p l e ({ frames := 4, cells := 0, slots := 0, locals := 103 } : Room) s m args below meth c 8 0 0 (MQ below (va_Ql (fun r u2 => (¬ (cm_in u U ∧ cm_in a n ∧ cm_in b n) ∧ cm_St ay u2 am aa 1 n P U d fr to pe uv ku ks kt sk wl wp ∧ cm_fr ws u2) ∨ ((cm_in u U ∧ cm_in a n ∧ cm_in b n) ∧ ¬ (0 ≤ t) ∧ cm_St ay u2 am aa 2 n P U d fr to pe uv ku ks kt sk wl wp ∧ cm_fr ws u2) ∨ (∃ (jx ax bx tx wl2 : Nat) (wp2 nd : Nat → Nat), u = nI jx ∧ jx < U ∧ a = nI ax ∧ ax < n ∧ b = nI bx ∧ bx < n ∧ t = nI tx ∧ tx < 2 ^ 31 ∧ cm_St ay u2 am aa 0 n P U d fr to pe uv ku ks kt sk wl2 wp2 ∧ cm_fr ws u2 ∧ (ma_d (ma_T P (fun i => d i 0) (fun i => d i 1) (fun i => ps_w (d i) (fr i) (to i) (pe i) (uv jx) tx) ax bx) 1 < ma_B → wy_path P (fun i => d i 0) (fun i => d i 1) (fun i => ps_w (d i) (fr i) (to i) (pe i) (uv jx) tx) (fun x => ma_d (ma_T P (fun i => d i 0) (fun i => d i 1) (fun i => ps_w (d i) (fr i) (to i) (pe i) (uv jx) tx) ax x) 1) ax bx wl2 wp2 nd ∧ nd wl2 = ax) ∧ (¬ ma_d (ma_T P (fun i => d i 0) (fun i => d i 1) (fun i => ps_w (d i) (fr i) (to i) (pe i) (uv jx) tx) ax bx) 1 < ma_B → wl2 = 0) ∧ r = vs_rep (ma_d (ma_T P (fun i => d i 0) (fun i => d i 1) (fun i => ps_w (d i) (fr i) (to i) (pe i) (uv jx) tx) ax bx) 1))) (vg_B D ay base Gx) (vg_A base)) args s 0 0 (vg_A base)) [(0, .ref am), (1, .int u), (2, .int a), (3, .int b), (4, .int t)] [.int b9, .int b30, .ref am] ws 40 := by
      intro b40 y40 n40
      refine vg_iconst X (nI 1) dX7_way_40 (by decide) ?_
      refine vg_calli (vg_runV X (c_X7_goes l hO (b1 := b30) (b2 := b40) (b3 := nI 1)) (cwV 3 X.2.2.2.2.1 gX7_way_X7_goes rfl rfl rfl (by decide +kernel) ⟨Nat.le_of_ble_eq_true rfl, Nat.le_of_ble_eq_true rfl⟩) 29 hO3 rfl rfl rfl (Nat.le_of_ble_eq_true rfl) dX7_way_41 ⟨Nat.zero_le _, Nat.zero_le _⟩) (fun rr3 wz1 PP2 => ?_)
      obtain ⟨gO, gfr0, gy, gn⟩ := PP2
      have e0 : ∀ q, q ≠ 29 → wz1[q]? = ws[q]? := fun q hq => gfr0.2 q (by simpa using hq)
      have gD : cm_D ay wz1 aa n P U d fr to pe uv := cm_D_fr hD (fun q h1 h2 => e0 q (by omega))
      have gT : cm_T ay wz1 aa n ku ks kt sk := cm_T_fr hT (fun q h1 h2 => e0 q (by omega))
      have gF := cm_fr_of gfr0 (by decide)
      have g51 := (e0 51 (by decide)).trans h51
      have g52 := (e0 52 (by decide)).trans h52
      have g53 := (e0 53 (by decide)).trans h53
      have g54 := (e0 54 (by decide)).trans h54
      refine vg_if_ne X 49 dX7_way_44 (by decide) (fun c44 => ?_) (fun c44 => ?_)
      · skip
        have g0 : go_c b30 b40 (nI 1) = 0 := Classical.byContradiction (fun q9 => c44 (gn q9))
        rw [g0] at gO
        have p0 : cm_in u U ∧ cm_in a n ∧ cm_in b n := Classical.byContradiction (fun q9 => by have := n30 q9; unfold go_c at g0; rw [if_pos this] at g0; exact absurd g0 (by decide))
        have p1 : 0 ≤ t := Classical.byContradiction (fun q9 => by have := n40 q9; unfold go_c at g0; rw [if_neg (by rw [y30 p0]; decide), if_pos this] at g0; exact absurd g0 (by decide))
        have gO3 := gO
        unfold cm_O at gO3
        obtain ⟨⟨j, hj, rfl⟩, ⟨a1, ha1, rfl⟩, ⟨b1, hb1, rfl⟩⟩ := p0
        obtain ⟨t1, ht, rfl⟩ := nI_of (x := t) (fun q9 => absurd p1 (Int32.not_le.mpr q9))
        obtain ⟨f0, f1, f2, f3, f4, f5, f6, f7, f8, f9, f10, f11, f12, f13, f14, f15, hh0, hh1, hh2, hh3, hh4, hh5, hh6, hh7, hh8, hh9, hh10, hh11, hh12, hh13, hh14, hh15, hp, hu⟩ := id gD
        obtain ⟨w, ew⟩ : ∃ z : Nat → Nat, z = (fun i => ps_w (d i) (fr i) (to i) (pe i) (uv j) t1) := ⟨_, rfl⟩
        obtain ⟨D9, eD⟩ : ∃ z : Nat → Nat, z = fun x => ma_d (ma_T P (fun i => d i 0) (fun i => d i 1) w a1 x) 1 := ⟨_, rfl⟩
        have hDB : ∀ q, D9 q ≤ ma_B := fun q => by rw [eD]; exact ma_d_leB _ _
        have hea : ∀ i, i < P → (fun i => d i 0) i < n := fun i hi => (hR.2.2.2.1 i hi).2.1
        have heb : ∀ i, i < P → (fun i => d i 1) i < n := fun i hi => (hR.2.2.2.1 i hi).2.2.1
        have hd9 : ∀ v, v < n → ma_d (ma_T P (fun i => d i 0) (fun i => d i 1) w a1 v) 1 = D9 v := fun v _ => by rw [eD]
        refine vg_aload_n X dX7_way_49 0 rfl rfl ?_
        refine vg_iload_n X dX7_way_50 1 rfl rfl ?_
        refine vg_iload_n X dX7_way_51 2 rfl rfl ?_
        refine vg_iload X dX7_way_52 4 rfl ?_
        refine vg_callv (vg_runV X (c_X7_spread l gO gD hR g51 (j := j) (a := a1) (t := t1) hj ha1 ht) (cwV 3 X.2.2.2.2.1 gX7_way_X7_spread rfl rfl rfl (by decide +kernel) ⟨Nat.le_of_ble_eq_true rfl, Nat.le_of_ble_eq_true rfl⟩) 29 gO3 rfl rfl rfl (Nat.le_of_ble_eq_true rfl) dX7_way_54 ⟨Nat.zero_le _, Nat.zero_le _⟩) (fun wz4 PP5 => ?_)
        rw [← ew] at PP5
        obtain ⟨fl2, y1, y2, y3⟩ := PP5
        have hl9 : ∀ x, x < n → fl2 x = lN (D9 x) ∧ D9 x ≤ ma_B := fun x hx => ⟨by rw [eD]; exact y2 x hx, hDB x⟩
        have e0x : ∀ q, q ≠ 51 → wz4[q]? = wz1[q]? := fun q hq => y3.2 q (by simpa using hq)
        have O3 : cm_O wz4 am aa (nI 0) n P U (nI wl) := (e0x 29 (by decide)).trans gO
        unfold cm_O at O3
        have x54 := (e0x 54 (by decide)).trans g54
        refine vg_aload_n X dX7_way_57 0 rfl rfl ?_
        refine vg_iconst X (nI 0) dX7_way_58 (by decide) ?_
        refine vg_put X in_X7_way_X7 tyX7 tyX7_ok nmX7 29 O3 rfl 28 (by decide) ml_X7_way_100 rfl rfl rfl rfl (Nat.le_of_ble_eq_true rfl) dX7_way_59 (fun wz7 ez8 => ?_)
        have fh9 : wz7[29]? = some (am, .inr (10, [.int (nI 0), .int (nI n), .int (nI P), .ref (aa 0), .ref (aa 1), .ref (aa 2), .ref (aa 3), .ref (aa 4), .ref (aa 5), .ref (aa 6), .ref (aa 7), .ref (aa 8), .ref (aa 9), .ref (aa 10), .int (nI U), .ref (aa 11), .ref (aa 12), .ref (aa 13), .ref (aa 14), .ref (aa 15), .ref (aa 16), .ref (aa 17), .ref (aa 18), .ref (aa 19), .ref (aa 20), .ref (aa 21), .ref (aa 22), .ref (aa 23), .int (nI 0), .ref (aa 24)])) := vg_se ez8 O3
        refine vg_aload_n X dX7_way_62 0 rfl rfl ?_
        refine vg_get X in_X7_way_X7 29 fh9 rfl 25 (by decide) ml_X7_way_75 rfl rfl dX7_way_63 ?_
        refine vg_iload_n X dX7_way_66 3 rfl rfl ?_
        have fh10 : wz7[51]? = some ((aa 21), .inl (ay 1, 200, .inr (.inl fl2))) := (vg_sn ez8 (by decide)).trans (y1)
        refine vg_lald X (lN (D9 b1)) 51 fh10 rfl (by omega) (by decide) (hl9 b1 hb1).1 dX7_way_67 ?_
        refine vg_ldc2 X (lN ma_B) dX7_way_68 mk_X7_way_113 ?_
        refine vg_lcmp_lt X 79 dX7_way_71 dX7_way_72 (by decide) (fun c71 => ?_) (fun c71 => ?_)
        · have c71 : D9 b1 < ma_B := (pk_lLT (by have := hDB b1; omega) (by omega)).mp c71
          refine vg_iload_n X dX7_way_79 3 rfl rfl ?_
          refine vg_istore X [(5, .int (nI b1)), (0, .ref am), (1, .int (nI j)), (2, .int (nI a1)), (3, .int (nI b1)), (4, .int (nI t1))] dX7_way_80 (by decide) rfl ?_
          have turn : ∀ (k9 q k : Nat) (wp1 nd : Nat → Nat) (fs1 : Nat → Int32) (ws1 : va_W), q + k9 = k / 2 → ws1[29]? = some (am, .inr (10, [.int (nI 0), .int (nI n), .int (nI P), .ref (aa 0), .ref (aa 1), .ref (aa 2), .ref (aa 3), .ref (aa 4), .ref (aa 5), .ref (aa 6), .ref (aa 7), .ref (aa 8), .ref (aa 9), .ref (aa 10), .int (nI U), .ref (aa 11), .ref (aa 12), .ref (aa 13), .ref (aa 14), .ref (aa 15), .ref (aa 16), .ref (aa 17), .ref (aa 18), .ref (aa 19), .ref (aa 20), .ref (aa 21), .ref (aa 22), .ref (aa 23), .int (nI k), .ref (aa 24)])) → ws1[54]? = some ((aa 24), .inl (ay 0, 200, .inl fs1)) → vg_fr wz4 ws1 [29, 54] → wy_path P (fun i => d i 0) (fun i => d i 1) w D9 a1 b1 k wp1 nd → nd k = a1 → k ≤ 150 → D9 b1 < ma_B → (∀ i, i < q → fs1 i = nI (wp1 (k - 1 - i)) ∧ fs1 (k - 1 - i) = nI (wp1 i)) → (∀ i, q ≤ i → i < k - q → fs1 i = nI (wp1 i)) → vg_V D base p l e ({ frames := 4, cells := 0, slots := 0, locals := 103 } : Room) s m args below meth c 8 0 0 (MQ below (va_Ql (fun r u2 => (¬ (cm_in (nI j) U ∧ cm_in (nI a1) n ∧ cm_in (nI b1) n) ∧ cm_St ay u2 am aa 1 n P U d fr to pe uv ku ks kt sk wl wp ∧ cm_fr ws u2) ∨ ((cm_in (nI j) U ∧ cm_in (nI a1) n ∧ cm_in (nI b1) n) ∧ ¬ (0 ≤ (nI t1)) ∧ cm_St ay u2 am aa 2 n P U d fr to pe uv ku ks kt sk wl wp ∧ cm_fr ws u2) ∨ (∃ (jx ax bx tx wl2 : Nat) (wp2 nd : Nat → Nat), (nI j) = nI jx ∧ jx < U ∧ (nI a1) = nI ax ∧ ax < n ∧ (nI b1) = nI bx ∧ bx < n ∧ (nI t1) = nI tx ∧ tx < 2 ^ 31 ∧ cm_St ay u2 am aa 0 n P U d fr to pe uv ku ks kt sk wl2 wp2 ∧ cm_fr ws u2 ∧ (ma_d (ma_T P (fun i => d i 0) (fun i => d i 1) (fun i => ps_w (d i) (fr i) (to i) (pe i) (uv jx) tx) ax bx) 1 < ma_B → wy_path P (fun i => d i 0) (fun i => d i 1) (fun i => ps_w (d i) (fr i) (to i) (pe i) (uv jx) tx) (fun x => ma_d (ma_T P (fun i => d i 0) (fun i => d i 1) (fun i => ps_w (d i) (fr i) (to i) (pe i) (uv jx) tx) ax x) 1) ax bx wl2 wp2 nd ∧ nd wl2 = ax) ∧ (¬ ma_d (ma_T P (fun i => d i 0) (fun i => d i 1) (fun i => ps_w (d i) (fr i) (to i) (pe i) (uv jx) tx) ax bx) 1 < ma_B → wl2 = 0) ∧ r = vs_rep (ma_d (ma_T P (fun i => d i 0) (fun i => d i 1) (fun i => ps_w (d i) (fr i) (to i) (pe i) (uv jx) tx) ax bx) 1))) (vg_B D ay base Gx) (vg_A base)) args s 0 0 (vg_A base)) [(6, .int (nI q)), (5, .int (nI a1)), (0, .ref am), (1, .int (nI j)), (2, .int (nI a1)), (3, .int (nI b1)), (4, .int (nI t1))] [] ws1 174 := by
            intro k9
            induction k9 using Nat.strongRecOn with
            | ind k9 ih =>
              intro q k wp1 nd fs1 ws1 hk x29 x54 gfr hpath hnd hk5 hDb hsw hmid
              have e1 : ∀ q, q ≠ 29 → q ≠ 54 → ws1[q]? = wz4[q]? := fun q h1 h2 => gfr.2 q (by simp only [List.mem_cons, List.not_mem_nil, or_false]; omega)
              have x51 := (e1 51 (by decide) (by decide)).trans y1
              refine vg_iload X dX7_way_174 0 rfl ?_
              refine vg_aload_n X dX7_way_176 2 rfl rfl ?_
              refine vg_get X in_X7_way_X7 29 x29 rfl 28 (by decide) ml_X7_way_100 rfl rfl dX7_way_177 ?_
              refine vg_iconst X (nI 2) dX7_way_180 (by decide) ?_
              refine vg_idiv X (nI (k / 2)) dX7_way_181 (nI_ne0 (by omega) (by omega)) (pk_div (by omega) (by omega) (by omega)) ?_
              refine vg_icmp_ge X 237 dX7_way_182 (by decide) (fun c182 => ?_) (fun c182 => ?_)
              · have c182 : k / 2 ≤ q := (nI_leI (by omega) (by omega)).mp c182
                refine vg_aload_n X dX7_way_237 2 rfl rfl ?_
                refine vg_get X in_X7_way_X7 29 x29 rfl 25 (by decide) ml_X7_way_75 rfl rfl dX7_way_238 ?_
                refine vg_iload_n X dX7_way_241 5 rfl rfl ?_
                refine vg_lald X (lN (D9 b1)) 51 x51 rfl (by omega) (by decide) (hl9 b1 hb1).1 dX7_way_242 ?_
                have hfs : ∀ i, i < k → fs1 i = nI (wp1 (k - 1 - i)) := fun i hi => by
                  by_cases q8 : i < q
                  · exact (hsw i q8).1
                  · by_cases q7 : i < k - q
                    · have g := hmid i (by omega) q7
                      rw [g, show k - 1 - i = i by omega]
                    · have g := (hsw (k - 1 - i) (by omega)).2
                      rw [show k - 1 - (k - 1 - i) = i by omega] at g
                      exact g
                exact vg_lret X rfl (Or.inr (Or.inr (⟨j, a1, b1, t1, k, wp1, nd, rfl, hj, rfl, ha1, rfl, hb1, rfl, ht, ⟨fl2, _, _, fs1, x29, cm_D_fr gD (fun q h1 h2 => (e1 q (by omega) (by omega)).trans (e0x q (by omega))), cm_T_fr gT (fun q h1 h2 => (e1 q (by omega) (by omega)).trans (e0x q (by omega))), (e1 51 (by decide) (by decide)).trans y1, (e1 52 (by decide) (by decide)).trans ((e0x 52 (by decide)).trans g52), (e1 53 (by decide) (by decide)).trans ((e0x 53 (by decide)).trans g53), x54, (by omega), hfs⟩, cm_fr_tr gF (cm_fr_tr (cm_fr_of y3 (by decide)) (cm_fr_of gfr (by decide))), fun _ => by rw [← ew, ← eD]; exact ⟨hpath, hnd⟩, fun q9 => absurd (by rw [← ew, hd9 _ hb1]; exact hDb) q9, by rw [← ew, hd9 _ hb1, vs_rep_lt hDb]⟩))) (Nat.le_refl _) (Nat.le_refl _) dX7_way_243
              · have c182 : ¬ k / 2 ≤ q := fun z => c182 ((nI_leI (by omega) (by omega)).mpr z)
                refine vg_aload_n X dX7_way_185 2 rfl rfl ?_
                refine vg_get X in_X7_way_X7 29 x29 rfl 29 (by decide) ml_X7_way_84 rfl rfl dX7_way_186 ?_
                refine vg_iload X dX7_way_189 0 rfl ?_
                refine vg_iald X (nI (wp1 q)) 54 x54 rfl (by omega) (by decide) (hmid q (by omega) (by omega)) dX7_way_191 ?_
                refine vg_istore X [(7, .int (nI (wp1 q))), (6, .int (nI q)), (5, .int (nI a1)), (0, .ref am), (1, .int (nI j)), (2, .int (nI a1)), (3, .int (nI b1)), (4, .int (nI t1))] dX7_way_192 (by decide) rfl ?_
                refine vg_aload_n X dX7_way_194 3 rfl rfl ?_
                refine vg_get X in_X7_way_X7 29 x29 rfl 29 (by decide) ml_X7_way_84 rfl rfl dX7_way_195 ?_
                refine vg_iload X dX7_way_198 1 rfl ?_
                refine vg_aload_n X dX7_way_200 3 rfl rfl ?_
                refine vg_get X in_X7_way_X7 29 x29 rfl 29 (by decide) ml_X7_way_84 rfl rfl dX7_way_201 ?_
                refine vg_aload_n X dX7_way_204 3 rfl rfl ?_
                refine vg_get X in_X7_way_X7 29 x29 rfl 28 (by decide) ml_X7_way_100 rfl rfl dX7_way_205 ?_
                refine vg_iconst X (nI 1) dX7_way_208 (by decide) ?_
                refine vg_isub X (nI (k - 1)) dX7_way_209 (pk_sub (by omega)) ?_
                refine vg_iload X dX7_way_210 1 rfl ?_
                refine vg_isub X (nI (k - 1 - q)) dX7_way_212 (pk_sub (by omega)) ?_
                refine vg_iald X (nI (wp1 (k - 1 - q))) 54 x54 rfl (by omega) (by decide) (hmid (k - 1 - q) (by omega) (by omega)) dX7_way_213 ?_
                refine vg_iast X 54 x54 rfl (by omega) (by decide) dX7_way_214 (fun wz11 ez12 => ?_)
                have fh13 : wz11[54]? = some ((aa 24), .inl (ay 0, 200, .inl (upd fs1 q (nI (wp1 (k - 1 - q)))))) := vg_se ez12 x54
                refine vg_aload_n X dX7_way_215 3 rfl rfl ?_
                have fh14 : wz11[29]? = some (am, .inr (10, [.int (nI 0), .int (nI n), .int (nI P), .ref (aa 0), .ref (aa 1), .ref (aa 2), .ref (aa 3), .ref (aa 4), .ref (aa 5), .ref (aa 6), .ref (aa 7), .ref (aa 8), .ref (aa 9), .ref (aa 10), .int (nI U), .ref (aa 11), .ref (aa 12), .ref (aa 13), .ref (aa 14), .ref (aa 15), .ref (aa 16), .ref (aa 17), .ref (aa 18), .ref (aa 19), .ref (aa 20), .ref (aa 21), .ref (aa 22), .ref (aa 23), .int (nI k), .ref (aa 24)])) := (vg_sn ez12 (by decide)).trans (x29)
                refine vg_get X in_X7_way_X7 29 fh14 rfl 29 (by decide) ml_X7_way_84 rfl rfl dX7_way_216 ?_
                refine vg_aload_n X dX7_way_219 3 rfl rfl ?_
                refine vg_get X in_X7_way_X7 29 fh14 rfl 28 (by decide) ml_X7_way_100 rfl rfl dX7_way_220 ?_
                refine vg_iconst X (nI 1) dX7_way_223 (by decide) ?_
                refine vg_isub X (nI (k - 1)) dX7_way_224 (pk_sub (by omega)) ?_
                refine vg_iload X dX7_way_225 1 rfl ?_
                refine vg_isub X (nI (k - 1 - q)) dX7_way_227 (pk_sub (by omega)) ?_
                refine vg_iload X dX7_way_228 0 rfl ?_
                refine vg_iast X 54 fh13 rfl (by omega) (by decide) dX7_way_230 (fun wz15 ez16 => ?_)
                have fh17 : wz15[54]? = some ((aa 24), .inl (ay 0, 200, .inl (upd (upd fs1 q (nI (wp1 (k - 1 - q)))) (k - 1 - q) (nI (wp1 q))))) := vg_se ez16 fh13
                refine vg_iinc X (v := nI (q + 1)) [(6, .int (nI (q + 1))), (7, .int (nI (wp1 q))), (5, .int (nI a1)), (0, .ref am), (1, .int (nI j)), (2, .int (nI a1)), (3, .int (nI b1)), (4, .int (nI t1))] dX7_way_231 1 rfl (by rw [show Int32.ofInt 1 = nI 1 by decide, nI_add]) (by decide) rfl ?_
                refine vg_goto X 174 dX7_way_234 (by decide) ?_
                refine vg_locals [0, 2, 3, 4, 5, 6, 7] rfl ?_
                have fh18 : wz15[29]? = some (am, .inr (10, [.int (nI 0), .int (nI n), .int (nI P), .ref (aa 0), .ref (aa 1), .ref (aa 2), .ref (aa 3), .ref (aa 4), .ref (aa 5), .ref (aa 6), .ref (aa 7), .ref (aa 8), .ref (aa 9), .ref (aa 10), .int (nI U), .ref (aa 11), .ref (aa 12), .ref (aa 13), .ref (aa 14), .ref (aa 15), .ref (aa 16), .ref (aa 17), .ref (aa 18), .ref (aa 19), .ref (aa 20), .ref (aa 21), .ref (aa 22), .ref (aa 23), .int (nI k), .ref (aa 24)])) := (vg_sn ez16 (by decide)).trans (fh14)
                refine ih (k9 - 1) (by omega) (q + 1) k wp1 nd _ _ (by omega) fh18 fh17 (vg_fr_set (vg_fr_set gfr ez12 (by decide)) ez16 (by decide)) hpath hnd hk5 hDb (fun i hi => ?_) (fun i h1 h2 => ?_)
                · by_cases q9 : i = q
                  · subst q9; refine ⟨?_, ?_⟩
                    · rw [pk_un (by omega)]; exact pk_us
                    · exact pk_us
                  · refine ⟨?_, ?_⟩
                    · rw [pk_un (by omega), pk_un (by omega)]; exact (hsw i (by omega)).1
                    · rw [pk_un (by omega), pk_un (by omega)]; exact (hsw i (by omega)).2
                · rw [pk_un (by omega), pk_un (by omega)]; exact hmid i (by omega) (by omega)
          have loop : ∀ (S x k : Nat) (wp1 nd : Nat → Nat) (fs1 : Nat → Int32) (ws1 : va_W), wy_C P (fun i => d i 0) (fun i => d i 1) D9 x = S → ws1[29]? = some (am, .inr (10, [.int (nI 0), .int (nI n), .int (nI P), .ref (aa 0), .ref (aa 1), .ref (aa 2), .ref (aa 3), .ref (aa 4), .ref (aa 5), .ref (aa 6), .ref (aa 7), .ref (aa 8), .ref (aa 9), .ref (aa 10), .int (nI U), .ref (aa 11), .ref (aa 12), .ref (aa 13), .ref (aa 14), .ref (aa 15), .ref (aa 16), .ref (aa 17), .ref (aa 18), .ref (aa 19), .ref (aa 20), .ref (aa 21), .ref (aa 22), .ref (aa 23), .int (nI k), .ref (aa 24)])) → ws1[54]? = some ((aa 24), .inl (ay 0, 200, .inl fs1)) → vg_fr wz4 ws1 [29, 54] → wy_path P (fun i => d i 0) (fun i => d i 1) w D9 a1 b1 k wp1 nd → nd k = x → x < n → k + S ≤ P → D9 x < ma_B → D9 b1 < ma_B → (∀ i, i < k → fs1 i = nI (wp1 i)) → vg_V D base p l e ({ frames := 4, cells := 0, slots := 0, locals := 103 } : Room) s m args below meth c 8 0 0 (MQ below (va_Ql (fun r u2 => (¬ (cm_in (nI j) U ∧ cm_in (nI a1) n ∧ cm_in (nI b1) n) ∧ cm_St ay u2 am aa 1 n P U d fr to pe uv ku ks kt sk wl wp ∧ cm_fr ws u2) ∨ ((cm_in (nI j) U ∧ cm_in (nI a1) n ∧ cm_in (nI b1) n) ∧ ¬ (0 ≤ (nI t1)) ∧ cm_St ay u2 am aa 2 n P U d fr to pe uv ku ks kt sk wl wp ∧ cm_fr ws u2) ∨ (∃ (jx ax bx tx wl2 : Nat) (wp2 nd : Nat → Nat), (nI j) = nI jx ∧ jx < U ∧ (nI a1) = nI ax ∧ ax < n ∧ (nI b1) = nI bx ∧ bx < n ∧ (nI t1) = nI tx ∧ tx < 2 ^ 31 ∧ cm_St ay u2 am aa 0 n P U d fr to pe uv ku ks kt sk wl2 wp2 ∧ cm_fr ws u2 ∧ (ma_d (ma_T P (fun i => d i 0) (fun i => d i 1) (fun i => ps_w (d i) (fr i) (to i) (pe i) (uv jx) tx) ax bx) 1 < ma_B → wy_path P (fun i => d i 0) (fun i => d i 1) (fun i => ps_w (d i) (fr i) (to i) (pe i) (uv jx) tx) (fun x => ma_d (ma_T P (fun i => d i 0) (fun i => d i 1) (fun i => ps_w (d i) (fr i) (to i) (pe i) (uv jx) tx) ax x) 1) ax bx wl2 wp2 nd ∧ nd wl2 = ax) ∧ (¬ ma_d (ma_T P (fun i => d i 0) (fun i => d i 1) (fun i => ps_w (d i) (fr i) (to i) (pe i) (uv jx) tx) ax bx) 1 < ma_B → wl2 = 0) ∧ r = vs_rep (ma_d (ma_T P (fun i => d i 0) (fun i => d i 1) (fun i => ps_w (d i) (fr i) (to i) (pe i) (uv jx) tx) ax bx) 1))) (vg_B D ay base Gx) (vg_A base)) args s 0 0 (vg_A base)) [(5, .int (nI x)), (0, .ref am), (1, .int (nI j)), (2, .int (nI a1)), (3, .int (nI b1)), (4, .int (nI t1))] [] ws1 82 := by
            intro S
            induction S using Nat.strongRecOn with
            | ind S ih =>
              intro x k wp1 nd fs1 ws1 hS9 x29 x54 gfr hpath hnd hx hkS hDx hDb hfs
              have e1 : ∀ q, q ≠ 29 → q ≠ 54 → ws1[q]? = wz4[q]? := fun q h1 h2 => gfr.2 q (by simp only [List.mem_cons, List.not_mem_nil, or_false]; omega)
              have x51 := (e1 51 (by decide) (by decide)).trans y1
              have O5 : cm_O ws1 am aa (nI 0) n P U (nI k) := x29
              have D5 : cm_D ay ws1 aa n P U d fr to pe uv := cm_D_fr gD (fun q h1 h2 => (e1 q (by omega) (by omega)).trans (e0x q (by omega)))
              have x30 : ws1[30]? = some ((aa 0), .inl (ay 0, 150, .inl f0)) := (e1 30 (by decide) (by decide)).trans ((e0x 30 (by decide)).trans hh0)
              have x31 : ws1[31]? = some ((aa 1), .inl (ay 0, 150, .inl f1)) := (e1 31 (by decide) (by decide)).trans ((e0x 31 (by decide)).trans hh1)
              refine vg_iload X dX7_way_82 0 rfl ?_
              refine vg_iload_n X dX7_way_84 3 rfl rfl ?_
              refine vg_icmp_eq X 171 dX7_way_85 (by decide) (fun c85 => ?_) (fun c85 => ?_)
              · have c85 : x = a1 := (nI_eq (by omega) (by omega)).mp c85
                rw [c85] at hnd
                rw [c85]
                refine vg_iconst X (nI 0) dX7_way_171 (by decide) ?_
                refine vg_istore X [(6, .int (nI 0)), (5, .int (nI a1)), (0, .ref am), (1, .int (nI j)), (2, .int (nI a1)), (3, .int (nI b1)), (4, .int (nI t1))] dX7_way_172 (by decide) rfl ?_
                exact turn (k / 2) 0 k wp1 nd fs1 ws1 (by omega) x29 x54 gfr hpath hnd (by omega) hDb (fun i hi => absurd hi (Nat.not_lt_zero i)) (fun i _ hi => hfs i (by omega))
              · have c85 : ¬ x = a1 := fun z => c85 ((nI_eq (by omega) (by omega)).mpr z)
                refine vg_aload_n X dX7_way_88 1 rfl rfl ?_
                refine vg_get X in_X7_way_X7 29 x29 rfl 29 (by decide) ml_X7_way_84 rfl rfl dX7_way_89 ?_
                refine vg_aload_n X dX7_way_92 1 rfl rfl ?_
                refine vg_get X in_X7_way_X7 29 x29 rfl 28 (by decide) ml_X7_way_100 rfl rfl dX7_way_93 ?_
                refine vg_aload_n X dX7_way_96 1 rfl rfl ?_
                refine vg_iload_n X dX7_way_97 2 rfl rfl ?_
                refine vg_iload X dX7_way_98 0 rfl ?_
                refine vg_iload X dX7_way_100 5 rfl ?_
                refine vg_calli (vg_runV X (c_X7_lastPiece l O5 D5 hR x51 (j := j) (v := x) (t := t1) (D9 := D9) hj hx ht hl9 hDx) (cwV 3 X.2.2.2.2.1 gX7_way_X7_lastPiece rfl rfl rfl (by decide +kernel) ⟨Nat.le_of_ble_eq_true rfl, Nat.le_of_ble_eq_true rfl⟩) 29 x29 rfl rfl rfl (Nat.le_of_ble_eq_true rfl) dX7_way_102 ⟨Nat.zero_le _, Nat.zero_le _⟩) (fun rr21 wz19 PP20 => ?_)
                rw [← ew] at PP20
                obtain ⟨hw8, hc8⟩ := PP20
                rw [hw8]
                obtain ⟨i, rfl, hi, hlow⟩ : ∃ i, rr21 = nI i ∧ i < P ∧ wy_low P (fun i => d i 0) (fun i => d i 1) w D9 x i := hc8.elim (fun q9 => by obtain ⟨i8, h8⟩ := wy_ex hd9 hea heb hx c85 hDx; exact absurd h8.1 (q9.2 i8)) id
                obtain ⟨b0, b1x, _⟩ := hp i hi
                obtain ⟨hrr, y0, y1x, y6⟩ := hR.2.2.2.1 i hi
                have hoth := wy_fit_oth hlow.1 (show (fun i => d i 0) i ≠ (fun i => d i 1) i from y6)
                have hst := wy_C_step hlow.1 (show (fun i => d i 0) i ≠ (fun i => d i 1) i from y6)
                refine vg_iast X 54 x54 rfl (by omega) (by decide) dX7_way_105 (fun wz22 ez23 => ?_)
                have fh24 : wz22[54]? = some ((aa 24), .inl (ay 0, 200, .inl (upd fs1 k (nI i)))) := vg_se ez23 x54
                refine vg_aload_n X dX7_way_106 1 rfl rfl ?_
                have fh25 : wz22[29]? = some (am, .inr (10, [.int (nI 0), .int (nI n), .int (nI P), .ref (aa 0), .ref (aa 1), .ref (aa 2), .ref (aa 3), .ref (aa 4), .ref (aa 5), .ref (aa 6), .ref (aa 7), .ref (aa 8), .ref (aa 9), .ref (aa 10), .int (nI U), .ref (aa 11), .ref (aa 12), .ref (aa 13), .ref (aa 14), .ref (aa 15), .ref (aa 16), .ref (aa 17), .ref (aa 18), .ref (aa 19), .ref (aa 20), .ref (aa 21), .ref (aa 22), .ref (aa 23), .int (nI k), .ref (aa 24)])) := (vg_sn ez23 (by decide)).trans (x29)
                refine vg_get X in_X7_way_X7 29 fh25 rfl 3 (by decide) ml_X7_way_7 rfl rfl dX7_way_107 ?_
                refine vg_aload_n X dX7_way_110 1 rfl rfl ?_
                refine vg_get X in_X7_way_X7 29 fh25 rfl 29 (by decide) ml_X7_way_84 rfl rfl dX7_way_111 ?_
                refine vg_aload_n X dX7_way_114 1 rfl rfl ?_
                refine vg_get X in_X7_way_X7 29 fh25 rfl 28 (by decide) ml_X7_way_100 rfl rfl dX7_way_115 ?_
                refine vg_iald X (nI i) 54 fh24 rfl (by omega) (by decide) pk_us dX7_way_118 ?_
                have fh26 : wz22[30]? = some ((aa 0), .inl (ay 0, 150, .inl f0)) := (vg_sn ez23 (by decide)).trans (x30)
                refine vg_iald X (nI (d i 0)) 30 fh26 rfl (by omega) (by decide) b0 dX7_way_119 ?_
                refine vg_iload X dX7_way_120 0 rfl ?_
                refine vg_icmp_ne X 142 dX7_way_122 (by decide) (fun c122 => ?_) (fun c122 => ?_)
                · have c122 : ¬ d i 0 = x := fun z => c122 ((nI_eq (by omega) (by omega)).mpr z)
                  skip
                  refine vg_aload_n X dX7_way_142 1 rfl rfl ?_
                  refine vg_get X in_X7_way_X7 29 fh25 rfl 3 (by decide) ml_X7_way_7 rfl rfl dX7_way_143 ?_
                  refine vg_aload_n X dX7_way_146 1 rfl rfl ?_
                  refine vg_get X in_X7_way_X7 29 fh25 rfl 29 (by decide) ml_X7_way_84 rfl rfl dX7_way_147 ?_
                  refine vg_aload_n X dX7_way_150 1 rfl rfl ?_
                  refine vg_get X in_X7_way_X7 29 fh25 rfl 28 (by decide) ml_X7_way_100 rfl rfl dX7_way_151 ?_
                  refine vg_iald X (nI i) 54 fh24 rfl (by omega) (by decide) pk_us dX7_way_154 ?_
                  refine vg_iald X (nI (d i 0)) 30 fh26 rfl (by omega) (by decide) b0 dX7_way_155 ?_
                  refine vg_istore X [(5, .int (nI (d i 0))), (0, .ref am), (1, .int (nI j)), (2, .int (nI a1)), (3, .int (nI b1)), (4, .int (nI t1))] dX7_way_156 (by decide) rfl ?_
                  refine vg_aload_n X dX7_way_158 1 rfl rfl ?_
                  refine vg_dup X dX7_way_159 rfl ?_
                  refine vg_get X in_X7_way_X7 29 fh25 rfl 28 (by decide) ml_X7_way_100 rfl rfl dX7_way_160 ?_
                  refine vg_iconst X (nI 1) dX7_way_163 (by decide) ?_
                  refine vg_iadd X (nI (k + 1)) dX7_way_164 (nI_add _ _) ?_
                  refine vg_put X in_X7_way_X7 tyX7 tyX7_ok nmX7 29 fh25 rfl 28 (by decide) ml_X7_way_100 rfl rfl rfl rfl (Nat.le_of_ble_eq_true rfl) dX7_way_165 (fun wz27 ez28 => ?_)
                  have fh29 : wz27[29]? = some (am, .inr (10, [.int (nI 0), .int (nI n), .int (nI P), .ref (aa 0), .ref (aa 1), .ref (aa 2), .ref (aa 3), .ref (aa 4), .ref (aa 5), .ref (aa 6), .ref (aa 7), .ref (aa 8), .ref (aa 9), .ref (aa 10), .int (nI U), .ref (aa 11), .ref (aa 12), .ref (aa 13), .ref (aa 14), .ref (aa 15), .ref (aa 16), .ref (aa 17), .ref (aa 18), .ref (aa 19), .ref (aa 20), .ref (aa 21), .ref (aa 22), .ref (aa 23), .int (nI (k + 1)), .ref (aa 24)])) := vg_se ez28 fh25
                  refine vg_goto X 82 dX7_way_168 (by decide) ?_
                  have fh30 : wz27[54]? = some ((aa 24), .inl (ay 0, 200, .inl (upd fs1 k (nI i)))) := (vg_sn ez28 (by decide)).trans (fh24)
                  have eo : d i 0 = wy_oth (fun i => d i 0) (fun i => d i 1) i x := by unfold wy_oth; exact (if_neg c122).symm
                  rw [← eo] at hoth hst
                  refine ih _ (by rw [← hS9]; exact hst) (d i 0) (k + 1) (va_up wp1 k i) (va_up nd (k + 1) (d i 0)) _ _ rfl fh29 fh30 (vg_fr_set (vg_fr_set gfr ez23 (by decide)) ez28 (by decide)) ?_ (va_up_self _ _ _) y0 (by rw [hS9] at hst; omega) (by omega) hDb (fun q hq => ?_)
                  · rw [eo, ← hnd]; exact wy_path_ext hpath (by rw [hnd]; exact c85) (by rw [hnd]; exact hlow)
                  · by_cases q9 : q = k
                    · subst q9; rw [pk_us, va_up_self]
                    · rw [pk_un q9, va_up_ne _ _ q9]; exact hfs q (by omega)
                · have c122 : d i 0 = x := (nI_eq (by omega) (by omega)).mp c122
                  skip
                  refine vg_aload_n X dX7_way_125 1 rfl rfl ?_
                  refine vg_get X in_X7_way_X7 29 fh25 rfl 4 (by decide) ml_X7_way_13 rfl rfl dX7_way_126 ?_
                  refine vg_aload_n X dX7_way_129 1 rfl rfl ?_
                  refine vg_get X in_X7_way_X7 29 fh25 rfl 29 (by decide) ml_X7_way_84 rfl rfl dX7_way_130 ?_
                  refine vg_aload_n X dX7_way_133 1 rfl rfl ?_
                  refine vg_get X in_X7_way_X7 29 fh25 rfl 28 (by decide) ml_X7_way_100 rfl rfl dX7_way_134 ?_
                  refine vg_iald X (nI i) 54 fh24 rfl (by omega) (by decide) pk_us dX7_way_137 ?_
                  have fh31 : wz22[31]? = some ((aa 1), .inl (ay 0, 150, .inl f1)) := (vg_sn ez23 (by decide)).trans (x31)
                  refine vg_iald X (nI (d i 1)) 31 fh31 rfl (by omega) (by decide) b1x dX7_way_138 ?_
                  refine vg_goto X 156 dX7_way_139 (by decide) ?_
                  refine vg_istore X [(5, .int (nI (d i 1))), (0, .ref am), (1, .int (nI j)), (2, .int (nI a1)), (3, .int (nI b1)), (4, .int (nI t1))] dX7_way_156 (by decide) rfl ?_
                  refine vg_aload_n X dX7_way_158 1 rfl rfl ?_
                  refine vg_dup X dX7_way_159 rfl ?_
                  refine vg_get X in_X7_way_X7 29 fh25 rfl 28 (by decide) ml_X7_way_100 rfl rfl dX7_way_160 ?_
                  refine vg_iconst X (nI 1) dX7_way_163 (by decide) ?_
                  refine vg_iadd X (nI (k + 1)) dX7_way_164 (nI_add _ _) ?_
                  refine vg_put X in_X7_way_X7 tyX7 tyX7_ok nmX7 29 fh25 rfl 28 (by decide) ml_X7_way_100 rfl rfl rfl rfl (Nat.le_of_ble_eq_true rfl) dX7_way_165 (fun wz32 ez33 => ?_)
                  have fh34 : wz32[29]? = some (am, .inr (10, [.int (nI 0), .int (nI n), .int (nI P), .ref (aa 0), .ref (aa 1), .ref (aa 2), .ref (aa 3), .ref (aa 4), .ref (aa 5), .ref (aa 6), .ref (aa 7), .ref (aa 8), .ref (aa 9), .ref (aa 10), .int (nI U), .ref (aa 11), .ref (aa 12), .ref (aa 13), .ref (aa 14), .ref (aa 15), .ref (aa 16), .ref (aa 17), .ref (aa 18), .ref (aa 19), .ref (aa 20), .ref (aa 21), .ref (aa 22), .ref (aa 23), .int (nI (k + 1)), .ref (aa 24)])) := vg_se ez33 fh25
                  refine vg_goto X 82 dX7_way_168 (by decide) ?_
                  have fh35 : wz32[54]? = some ((aa 24), .inl (ay 0, 200, .inl (upd fs1 k (nI i)))) := (vg_sn ez33 (by decide)).trans (fh24)
                  have eo : d i 1 = wy_oth (fun i => d i 0) (fun i => d i 1) i x := by unfold wy_oth; exact (if_pos c122).symm
                  rw [← eo] at hoth hst
                  refine ih _ (by rw [← hS9]; exact hst) (d i 1) (k + 1) (va_up wp1 k i) (va_up nd (k + 1) (d i 1)) _ _ rfl fh34 fh35 (vg_fr_set (vg_fr_set gfr ez23 (by decide)) ez33 (by decide)) ?_ (va_up_self _ _ _) y1x (by rw [hS9] at hst; omega) (by omega) hDb (fun q hq => ?_)
                  · rw [eo, ← hnd]; exact wy_path_ext hpath (by rw [hnd]; exact c85) (by rw [hnd]; exact hlow)
                  · by_cases q9 : q = k
                    · subst q9; rw [pk_us, va_up_self]
                    · rw [pk_un q9, va_up_ne _ _ q9]; exact hfs q (by omega)
          exact loop _ b1 0 wp (fun _ => b1) fs _ rfl fh9 ((vg_sn (j := 54) ez8 (by decide)).trans x54) (vg_fr_set (vg_fr_rf _ _) ez8 (by decide)) ⟨rfl, fun q hq => absurd hq (Nat.not_lt_zero q)⟩ rfl hb1 (by have := wy_C_le P (fun i => d i 0) (fun i => d i 1) D9 b1; omega) c71 c71 (fun q hq => absurd hq (Nat.not_lt_zero q))
        · have c71 : ¬ D9 b1 < ma_B := fun z => c71 ((pk_lLT (by have := hDB b1; omega) (by omega)).mpr z)
          refine vg_ldc2 X (-1) dX7_way_75 mk_X7_way_146 ?_
          have e1 : ∀ q, q ≠ 29 → q ≠ 54 → wz7[q]? = wz4[q]? := fun q h1 h2 => vg_sn ez8 (by omega)
          exact vg_lret X rfl (Or.inr (Or.inr (⟨j, a1, b1, t1, 0, wp, fun _ => 0, rfl, hj, rfl, ha1, rfl, hb1, rfl, ht, ⟨fl2, _, _, _, fh9, cm_D_fr gD (fun q h1 h2 => (e1 q (by omega) (by omega)).trans (e0x q (by omega))), cm_T_fr gT (fun q h1 h2 => (e1 q (by omega) (by omega)).trans (e0x q (by omega))), (e1 51 (by decide) (by decide)).trans y1, (e1 52 (by decide) (by decide)).trans ((e0x 52 (by decide)).trans g52), (e1 53 (by decide) (by decide)).trans ((e0x 53 (by decide)).trans g53), (vg_sn (j := 54) ez8 (by decide)).trans x54, Nat.zero_le _, fun q hq => absurd hq (Nat.not_lt_zero q)⟩, cm_fr_tr gF (cm_fr_tr (cm_fr_of y3 (by decide)) (cm_fr_of (vg_fr_set (vg_fr_rf _ [29]) ez8 (by decide)) (by decide))), fun q9 => absurd q9 (by rw [← ew, hd9 _ hb1]; omega), fun _ => rfl, by rw [← ew, hd9 _ hb1, show D9 b1 = ma_B by have := hDB b1; omega, vs_rep_B]⟩))) (Nat.le_refl _) (Nat.le_refl _) dX7_way_78
      · skip
        have ng : go_c b30 b40 (nI 1) ≠ 0 := fun q9 => by have := gy q9; rw [c44] at this; exact absurd this (by decide)
        by_cases p0 : cm_in u U ∧ cm_in a n ∧ cm_in b n
        · skip
          by_cases p1 : 0 ≤ t
          · skip
            exact absurd (by unfold go_c; rw [if_neg (by rw [y30 p0]; decide), if_neg (by rw [y40 p1]; decide), if_neg (by decide)]) ng
          · skip
            have g9 : go_c b30 b40 (nI 1) = 2 := by unfold go_c; rw [if_neg (by rw [y30 p0]; decide), if_pos (n40 p1)]
            rw [g9] at gO
            refine vg_lconst X (lN 0) dX7_way_47 (by decide) ?_
            exact vg_lret X rfl (Or.inr (Or.inl ⟨p0, p1, ⟨_, _, _, _, gO, gD, gT, g51, g52, g53, g54, hwl, hwp⟩, gF⟩)) (Nat.le_refl _) (Nat.le_refl _) dX7_way_48
        · skip
          have g9 : go_c b30 b40 (nI 1) = 1 := by unfold go_c; rw [if_pos (n30 p0)]
          rw [g9] at gO
          refine vg_lconst X (lN 0) dX7_way_47 (by decide) ?_
          exact vg_lret X rfl (Or.inl ⟨p0, ⟨_, _, _, _, gO, gD, gT, g51, g52, g53, g54, hwl, hwp⟩, gF⟩) (Nat.le_refl _) (Nat.le_refl _) dX7_way_48
    refine vg_iload X dX7_way_30 4 rfl ?_
    skip
    refine vg_if_lt X 39 dX7_way_32 (by decide) (fun c32 => ?_) (fun c32 => ?_)
    · have k32 : ¬ (0 ≤ t) := Int32.not_le.mpr c32
      refine vg_iconst X (nI 0) dX7_way_39 (by decide) ?_
      exact j40 _ (fun q9 => absurd (q9) k32) (fun _ => by decide)
    · have k32 : 0 ≤ t := Int32.not_lt.mp c32
      refine vg_iconst X (nI 1) dX7_way_35 (by decide) ?_
      refine vg_goto X 40 dX7_way_36 (by decide) ?_
      exact j40 _ (fun _ => by decide) (fun q9 => absurd (show 0 ≤ t from (by assumption)) q9)
  refine vg_aload_n X dX7_way_0 0 rfl rfl ?_
  refine vg_aload_n X dX7_way_1 0 rfl rfl ?_
  refine vg_iload_n X dX7_way_2 1 rfl rfl ?_
  refine vg_calli (vg_runV X (c_X7_isUnit l hO (k := u) (by omega)) (cwV 1 X.2.2.2.2.1 gX7_way_X7_isUnit rfl rfl rfl (by decide +kernel) ⟨Nat.le_of_ble_eq_true rfl, Nat.le_of_ble_eq_true rfl⟩) 29 hO3 rfl rfl rfl (Nat.le_of_ble_eq_true rfl) dX7_way_3 ⟨Nat.zero_le _, Nat.zero_le _⟩) (fun rr38 wz36 PP37 => ?_)
  obtain ⟨hw9, yrr38, nrr38⟩ := PP37
  rw [hw9]
  skip
  refine vg_if_eq X 29 dX7_way_6 (by decide) (fun c6 => ?_) (fun c6 => ?_)
  · have k6 : ¬ (cm_in u U) := fun q9 => by have := yrr38 q9; rw [c6] at this; exact absurd this (by decide)
    refine vg_iconst X (nI 0) dX7_way_29 (by decide) ?_
    exact j30 _ (fun q9 => absurd (q9.1) k6) (fun _ => by decide)
  · have k6 : cm_in u U := Classical.byContradiction (fun q9 => c6 (nrr38 q9))
    refine vg_aload_n X dX7_way_9 0 rfl rfl ?_
    refine vg_iload_n X dX7_way_10 2 rfl rfl ?_
    refine vg_calli (vg_runV X (c_X7_isNode l hO (k := a) (by omega)) (cwV 1 X.2.2.2.2.1 gX7_way_X7_isNode rfl rfl rfl (by decide +kernel) ⟨Nat.le_of_ble_eq_true rfl, Nat.le_of_ble_eq_true rfl⟩) 29 hO3 rfl rfl rfl (Nat.le_of_ble_eq_true rfl) dX7_way_11 ⟨Nat.zero_le _, Nat.zero_le _⟩) (fun rr41 wz39 PP40 => ?_)
    obtain ⟨hw9, yrr41, nrr41⟩ := PP40
    rw [hw9]
    skip
    refine vg_if_eq X 29 dX7_way_14 (by decide) (fun c14 => ?_) (fun c14 => ?_)
    · have k14 : ¬ (cm_in a n) := fun q9 => by have := yrr41 q9; rw [c14] at this; exact absurd this (by decide)
      refine vg_iconst X (nI 0) dX7_way_29 (by decide) ?_
      exact j30 _ (fun q9 => absurd (q9.2.1) k14) (fun _ => by decide)
    · have k14 : cm_in a n := Classical.byContradiction (fun q9 => c14 (nrr41 q9))
      refine vg_aload_n X dX7_way_17 0 rfl rfl ?_
      refine vg_iload_n X dX7_way_18 3 rfl rfl ?_
      refine vg_calli (vg_runV X (c_X7_isNode l hO (k := b) (by omega)) (cwV 1 X.2.2.2.2.1 gX7_way_X7_isNode rfl rfl rfl (by decide +kernel) ⟨Nat.le_of_ble_eq_true rfl, Nat.le_of_ble_eq_true rfl⟩) 29 hO3 rfl rfl rfl (Nat.le_of_ble_eq_true rfl) dX7_way_19 ⟨Nat.zero_le _, Nat.zero_le _⟩) (fun rr44 wz42 PP43 => ?_)
      obtain ⟨hw9, yrr44, nrr44⟩ := PP43
      rw [hw9]
      skip
      refine vg_if_eq X 29 dX7_way_22 (by decide) (fun c22 => ?_) (fun c22 => ?_)
      · have k22 : ¬ (cm_in b n) := fun q9 => by have := yrr44 q9; rw [c22] at this; exact absurd this (by decide)
        refine vg_iconst X (nI 0) dX7_way_29 (by decide) ?_
        exact j30 _ (fun q9 => absurd (q9.2.2) k22) (fun _ => by decide)
      · have k22 : cm_in b n := Classical.byContradiction (fun q9 => c22 (nrr44 q9))
        refine vg_iconst X (nI 1) dX7_way_25 (by decide) ?_
        refine vg_goto X 30 dX7_way_26 (by decide) ?_
        exact j30 _ (fun _ => by decide) (fun q9 => absurd (show cm_in u U ∧ cm_in a n ∧ cm_in b n from ⟨by assumption, by assumption, by assumption⟩) q9)
