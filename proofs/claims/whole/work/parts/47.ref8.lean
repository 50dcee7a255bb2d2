theorem vg_same {D : va_G} {base : Nat} {p : Program} {l : Launch} {e : Env} {R : Room} {s : State} {m : MethodId} {args : Array Value} {below : List Frame} {meth : Method} {c : Code} {nL cells slots : Nat} {Q : State → Prop} {lv lv2 : List (Nat × Value)} {st st2 : List Value} {ws : va_W} {pc : Nat} (h1 : lv = lv2) (h2 : st = st2) (kk : vg_V D base p l e R s m args below meth c nL cells slots Q lv2 st2 ws pc) : vg_V D base p l e R s m args below meth c nL cells slots Q lv st ws pc := by
  rw [h1, h2]; exact kk
theorem cm_rng {x : Int32} {a b : Nat} (h : nI a ≤ x ∧ x ≤ nI b) (ha : a < 2 ^ 31) (hb : b < 2 ^ 31) : ∃ k, a ≤ k ∧ k ≤ b ∧ x = nI k := by
  obtain ⟨k, hk, rfl⟩ := nI_of (x := x) (fun q => absurd (Int32.lt_of_le_of_lt h.1 q) (fun q2 => by rw [← nI_0] at q2; exact absurd ((nI_ltI ha (by decide)).mp q2) (by omega)))
  exact ⟨k, (nI_leI ha hk).mp h.1, (nI_leI hk hb).mp h.2, rfl⟩
theorem cp_R4 {d fr to pe : Nat → Nat} {w h : Nat} (q : cp_R d fr to pe) (hw : w ≤ 1000) (hh : h ≤ 1000) : cp_R (va_up (va_up d 4 w) 5 h) fr to pe := by
  obtain ⟨b0, b1, b2, b3, b4, b5, b6, b7, b8, b9⟩ := q
  exact ⟨b0, b1, b2, b3, b4, hw, hh, b7, b8, b9⟩
theorem cp_R3 {d fr to pe : Nat → Nat} {w : Nat} (q : cp_R d fr to pe) (hw : w ≤ 200) : cp_R (va_up d 3 w) fr to pe := by
  obtain ⟨b0, b1, b2, b3, b4, b5, b6, b7, b8, b9⟩ := q
  exact ⟨b0, b1, b2, b3, hw, b5, b6, b7, b8, b9⟩
theorem cp_R6 {d fr to pe : Nat → Nat} {w : Nat} (q : cp_R d fr to pe) (hw : w ≤ 1) : cp_R (va_up d 6 w) fr to pe := by
  obtain ⟨b0, b1, b2, b3, b4, b5, b6, b7, b8, b9⟩ := q
  exact ⟨b0, b1, b2, b3, b4, b5, b6, hw, b8, b9⟩
theorem cp_R7 {d fr to pe : Nat → Nat} {a b x : Nat} (q : cp_R d fr to pe) (h3 : d 7 < 3) (ha : a ≤ 23) (hb : b ≤ 23) (h1 : 1 ≤ x) (hx : x ≤ 100) : cp_R (va_up d 7 (d 7 + 1)) (va_up fr (d 7) a) (va_up to (d 7) b) (va_up pe (d 7) x) := by
  obtain ⟨b0, b1, b2, b3, b4, b5, b6, b7, b8, b9⟩ := q
  refine ⟨b0, b1, b2, b3, b4, b5, b6, b7, (show d 7 + 1 ≤ 3 by omega), fun r hr => ?_⟩
  have hr : r < d 7 + 1 := hr
  by_cases e : r = d 7
  · subst e; rw [va_up_self, va_up_self, va_up_self]; exact ⟨ha, hb, h1, hx⟩
  · rw [va_up_ne _ _ e, va_up_ne _ _ e, va_up_ne _ _ e]; exact b9 r (by omega)
theorem cm_R_d {n P U : Nat} {d fr to pe uv : Nat → Nat → Nat} {i : Nat} {di : Nat → Nat} (h : cm_R n P U d fr to pe uv) (hi : i < P) (h1 : cp_R di (fr i) (to i) (pe i)) (e0 : di 0 = d i 0) (e1 : di 1 = d i 1) : cm_R n P U (va_up d i di) fr to pe uv := by
  obtain ⟨a1, a2, a3, a4, a5⟩ := h
  refine ⟨a1, a2, a3, fun j hj => ?_, a5⟩
  by_cases e : j = i
  · subst e; rw [va_up_self, e0, e1]; exact ⟨h1, (a4 j hj).2⟩
  · rw [va_up_ne _ _ e]; exact a4 j hj
theorem cm_R_dr {n P U : Nat} {d fr to pe uv : Nat → Nat → Nat} {i : Nat} {di f2 t2 p2 : Nat → Nat} (h : cm_R n P U d fr to pe uv) (hi : i < P) (h1 : cp_R di f2 t2 p2) (e0 : di 0 = d i 0) (e1 : di 1 = d i 1) : cm_R n P U (va_up d i di) (va_up fr i f2) (va_up to i t2) (va_up pe i p2) uv := by
  obtain ⟨a1, a2, a3, a4, a5⟩ := h
  refine ⟨a1, a2, a3, fun j hj => ?_, a5⟩
  by_cases e : j = i
  · subst e; rw [va_up_self, va_up_self, va_up_self, va_up_self, e0, e1]; exact ⟨h1, (a4 j hj).2⟩
  · rw [va_up_ne _ _ e, va_up_ne _ _ e, va_up_ne _ _ e, va_up_ne _ _ e]; exact a4 j hj
theorem nar01 {n : Nat} (h : n ≤ 1) : (nI n) &&& 1 = nI n := by
  rcases (show n = 0 ∨ n = 1 by omega) with e | e <;> subst e <;> decide
theorem in_X7_seconds_X7 : ∀ w ∈ u_ws RX7 TX7 30, w ∈ wsX7_seconds := by decide +kernel
theorem ml_X7_seconds_16 : Cond.fieldLink RX7 16 "WayTimesModel" "metres" "[I" ∈ wsX7_seconds := by decide +kernel
theorem ml_X7_seconds_19 : Cond.fieldLink RX7 19 "WayTimesModel" "speed" "[I" ∈ wsX7_seconds := by decide +kernel
theorem in_X7_limit_X7 : ∀ w ∈ u_ws RX7 TX7 30, w ∈ wsX7_limit := by decide +kernel
theorem ml_X7_limit_22 : Cond.fieldLink RX7 22 "WayTimesModel" "weight" "[I" ∈ wsX7_limit := by decide +kernel
theorem ml_X7_limit_25 : Cond.fieldLink RX7 25 "WayTimesModel" "height" "[I" ∈ wsX7_limit := by decide +kernel
theorem in_X7_speed_X7 : ∀ w ∈ u_ws RX7 TX7 30, w ∈ wsX7_speed := by decide +kernel
theorem ml_X7_speed_19 : Cond.fieldLink RX7 19 "WayTimesModel" "speed" "[I" ∈ wsX7_speed := by decide +kernel
theorem in_X7_close_X7 : ∀ w ∈ u_ws RX7 TX7 30, w ∈ wsX7_close := by decide +kernel
theorem ml_X7_close_28 : Cond.fieldLink RX7 28 "WayTimesModel" "closed" "[Z" ∈ wsX7_close := by decide +kernel
theorem in_X7_slow_X7 : ∀ w ∈ u_ws RX7 TX7 30, w ∈ wsX7_slow := by decide +kernel
theorem ml_X7_slow_35 : Cond.fieldLink RX7 35 "WayTimesModel" "from" "[I" ∈ wsX7_slow := by decide +kernel
theorem ml_X7_slow_32 : Cond.fieldLink RX7 32 "WayTimesModel" "rows" "[I" ∈ wsX7_slow := by decide +kernel
theorem ml_X7_slow_38 : Cond.fieldLink RX7 38 "WayTimesModel" "to" "[I" ∈ wsX7_slow := by decide +kernel
theorem ml_X7_slow_41 : Cond.fieldLink RX7 41 "WayTimesModel" "percent" "[I" ∈ wsX7_slow := by decide +kernel
set_option maxHeartbeats 4000000 in
set_option maxRecDepth 100000 in
/-- seconds(..) -/
theorem c_X7_seconds (l : Launch) {D : va_G} {ay : Nat → ClassId} {base : Nat} {Gx : State → Prop} {ws : va_W} {am : Nat} {aa : Nat → Nat} {n P U th wl : Nat} {d fr to pe uv : Nat → Nat → Nat} {ku ks kt wp : Nat → Nat} {sk : Nat → Nat → Nat} {u x t : Int32} (hS : cm_St ay ws am aa th n P U d fr to pe uv ku ks kt sk wl wp) (hR : cm_R n P U d fr to pe uv)  : Met l yX7_seconds wsX7_seconds ({ frames := 3, cells := 0, slots := 0, locals := 74 } : Room) (va_Pc [.ref am, .int u, .int x, .int t] (vg_B D ay base Gx ws)) (va_Ql (fun r u2 => (¬ (cm_in u U ∧ cm_in x P) ∧ cm_St ay u2 am aa 1 n P U d fr to pe uv ku ks kt sk wl wp ∧ cm_fr ws u2) ∨ ((cm_in u U ∧ cm_in x P) ∧ ¬ (0 ≤ t) ∧ cm_St ay u2 am aa 2 n P U d fr to pe uv ku ks kt sk wl wp ∧ cm_fr ws u2) ∨ ((cm_in u U ∧ cm_in x P) ∧ (0 ≤ t) ∧ ¬ (cm_in x P ∧ (∃ i, x = nI i ∧ i < P ∧ 0 < d i 3)) ∧ cm_St ay u2 am aa 3 n P U d fr to pe uv ku ks kt sk wl wp ∧ cm_fr ws u2) ∨ (cm_St ay u2 am aa 0 n P U d fr to pe uv ku ks kt sk wl wp ∧ cm_fr ws u2 ∧ ∃ jx ix tx : Nat, u = nI jx ∧ jx < U ∧ x = nI ix ∧ ix < P ∧ t = nI tx ∧ tx < 2 ^ 31 ∧ 0 < d ix 3 ∧ r = lN (ps_sec (d ix 3) (ps_per (fr ix) (to ix) (pe ix) (tx / 3600 % 24) (d ix 7) 0) (uv jx 2) (uv jx 3) (d ix 2)))) (vg_B D ay base Gx) (vg_A base)) 0 0 (vg_A base) := by
  refine vg_met (cc := cX7_seconds) (maxL := 4) (ret := (some .long)) (own := RX7) (lv := [(0, .ref am), (1, .int u), (2, .int x), (3, .int t)]) (by decide) rfl rfl (Nat.le_of_ble_eq_true rfl) rfl ?_
  intro p e s m args below meth c X hinit
  obtain ⟨fl, fm, fn, fs, hO, hD, hT, h51, h52, h53, h54, hwl, hwp⟩ := id hS
  have nn := hR.1
  have nP := hR.2.1
  have nU := hR.2.2.1
  have eB : ma_B = 2 ^ 60 := rfl
  have hO3 := hO
  unfold cm_O at hO3
  obtain ⟨e0, e1, e2, e3, e4, e5, e6, e7, e8, e9, e10, e11, e12, e13, e14, e15, hh0, hh1, hh2, hh3, hh4, hh5, hh6, hh7, hh8, hh9, hh10, hh11, hh12, hh13, hh14, hh15, hp0, hu0⟩ := id hD
  have j22 : ∀ b9 : Int32, ((cm_in u U ∧ cm_in x P) → b9 = 1) → (¬ (cm_in u U ∧ cm_in x P) → b9 = 0) → vg_V D base p l e ({ frames := 3, cells := 0, slots := 0, locals := 74 } : Room) s m args below meth c 4 0 0 (MQ below (va_Ql (fun r u2 => (¬ (cm_in u U ∧ cm_in x P) ∧ cm_St ay u2 am aa 1 n P U d fr to pe uv ku ks kt sk wl wp ∧ cm_fr ws u2) ∨ ((cm_in u U ∧ cm_in x P) ∧ ¬ (0 ≤ t) ∧ cm_St ay u2 am aa 2 n P U d fr to pe uv ku ks kt sk wl wp ∧ cm_fr ws u2) ∨ ((cm_in u U ∧ cm_in x P) ∧ (0 ≤ t) ∧ ¬ (cm_in x P ∧ (∃ i, x = nI i ∧ i < P ∧ 0 < d i 3)) ∧ cm_St ay u2 am aa 3 n P U d fr to pe uv ku ks kt sk wl wp ∧ cm_fr ws u2) ∨ (cm_St ay u2 am aa 0 n P U d fr to pe uv ku ks kt sk wl wp ∧ cm_fr ws u2 ∧ ∃ jx ix tx : Nat, u = nI jx ∧ jx < U ∧ x = nI ix ∧ ix < P ∧ t = nI tx ∧ tx < 2 ^ 31 ∧ 0 < d ix 3 ∧ r = lN (ps_sec (d ix 3) (ps_per (fr ix) (to ix) (pe ix) (tx / 3600 % 24) (d ix 7) 0) (uv jx 2) (uv jx 3) (d ix 2)))) (vg_B D ay base Gx) (vg_A base)) args s 0 0 (vg_A base)) [(0, .ref am), (1, .int u), (2, .int x), (3, .int t)] [.int b9, .ref am] ws 22 := by
    intro b22 y22 n22
    have j31 : ∀ b9 : Int32, ((0 ≤ t) → b9 = 1) → (¬ (0 ≤ t) → b9 = 0) → vg_V D base p l e ({ frames := 3, cells := 0, slots := 0, locals := 74 } : Room) s m args below meth c 4 0 0 (MQ below (va_Ql (fun r u2 => (¬ (cm_in u U ∧ cm_in x P) ∧ cm_St ay u2 am aa 1 n P U d fr to pe uv ku ks kt sk wl wp ∧ cm_fr ws u2) ∨ ((cm_in u U ∧ cm_in x P) ∧ ¬ (0 ≤ t) ∧ cm_St ay u2 am aa 2 n P U d fr to pe uv ku ks kt sk wl wp ∧ cm_fr ws u2) ∨ ((cm_in u U ∧ cm_in x P) ∧ (0 ≤ t) ∧ ¬ (cm_in x P ∧ (∃ i, x = nI i ∧ i < P ∧ 0 < d i 3)) ∧ cm_St ay u2 am aa 3 n P U d fr to pe uv ku ks kt sk wl wp ∧ cm_fr ws u2) ∨ (cm_St ay u2 am aa 0 n P U d fr to pe uv ku ks kt sk wl wp ∧ cm_fr ws u2 ∧ ∃ jx ix tx : Nat, u = nI jx ∧ jx < U ∧ x = nI ix ∧ ix < P ∧ t = nI tx ∧ tx < 2 ^ 31 ∧ 0 < d ix 3 ∧ r = lN (ps_sec (d ix 3) (ps_per (fr ix) (to ix) (pe ix) (tx / 3600 % 24) (d ix 7) 0) (uv jx 2) (uv jx 3) (d ix 2)))) (vg_B D ay base Gx) (vg_A base)) args s 0 0 (vg_A base)) [(0, .ref am), (1, .int u), (2, .int x), (3, .int t)] [.int b9, .int b22, .ref am] ws 31 := by
      intro b31 y31 n31
      have j53 : ∀ b9 : Int32, ((cm_in x P ∧ (∃ i, x = nI i ∧ i < P ∧ 0 < d i 3)) → b9 = 1) → (¬ (cm_in x P ∧ (∃ i, x = nI i ∧ i < P ∧ 0 < d i 3)) → b9 = 0) → vg_V D base p l e ({ frames := 3, cells := 0, slots := 0, locals := 74 } : Room) s m args below meth c 4 0 0 (MQ below (va_Ql (fun r u2 => (¬ (cm_in u U ∧ cm_in x P) ∧ cm_St ay u2 am aa 1 n P U d fr to pe uv ku ks kt sk wl wp ∧ cm_fr ws u2) ∨ ((cm_in u U ∧ cm_in x P) ∧ ¬ (0 ≤ t) ∧ cm_St ay u2 am aa 2 n P U d fr to pe uv ku ks kt sk wl wp ∧ cm_fr ws u2) ∨ ((cm_in u U ∧ cm_in x P) ∧ (0 ≤ t) ∧ ¬ (cm_in x P ∧ (∃ i, x = nI i ∧ i < P ∧ 0 < d i 3)) ∧ cm_St ay u2 am aa 3 n P U d fr to pe uv ku ks kt sk wl wp ∧ cm_fr ws u2) ∨ (cm_St ay u2 am aa 0 n P U d fr to pe uv ku ks kt sk wl wp ∧ cm_fr ws u2 ∧ ∃ jx ix tx : Nat, u = nI jx ∧ jx < U ∧ x = nI ix ∧ ix < P ∧ t = nI tx ∧ tx < 2 ^ 31 ∧ 0 < d ix 3 ∧ r = lN (ps_sec (d ix 3) (ps_per (fr ix) (to ix) (pe ix) (tx / 3600 % 24) (d ix 7) 0) (uv jx 2) (uv jx 3) (d ix 2)))) (vg_B D ay base Gx) (vg_A base)) args s 0 0 (vg_A base)) [(0, .ref am), (1, .int u), (2, .int x), (3, .int t)] [.int b9, .int b31, .int b22, .ref am] ws 53 := by
        intro b53 y53 n53
        refine vg_calli (vg_runV X (c_X7_goes l hO (b1 := b22) (b2 := b31) (b3 := b53)) (cwV 3 X.2.2.2.2.1 gX7_seconds_X7_goes rfl rfl rfl (by decide +kernel) ⟨Nat.le_of_ble_eq_true rfl, Nat.le_of_ble_eq_true rfl⟩) 29 hO3 rfl rfl rfl (Nat.le_of_ble_eq_true rfl) dX7_seconds_53 ⟨Nat.zero_le _, Nat.zero_le _⟩) (fun rr3 wz1 PP2 => ?_)
        obtain ⟨gO, gfr0, gy, gn⟩ := PP2
        have e0 : ∀ q, q ≠ 29 → wz1[q]? = ws[q]? := fun q hq => gfr0.2 q (by simpa using hq)
        have gD : cm_D ay wz1 aa n P U d fr to pe uv := cm_D_fr hD (fun q h1 h2 => e0 q (by omega))
        have gT : cm_T ay wz1 aa n ku ks kt sk := cm_T_fr hT (fun q h1 h2 => e0 q (by omega))
        have gF := cm_fr_of gfr0 (by decide)
        have g51 := (e0 51 (by decide)).trans h51
        have g52 := (e0 52 (by decide)).trans h52
        have g53 := (e0 53 (by decide)).trans h53
        have g54 := (e0 54 (by decide)).trans h54
        refine vg_if_ne X 61 dX7_seconds_56 (by decide) (fun c56 => ?_) (fun c56 => ?_)
        · skip
          have g0 : go_c b22 b31 b53 = 0 := Classical.byContradiction (fun q9 => c56 (gn q9))
          rw [g0] at gO
          have p0 : cm_in u U ∧ cm_in x P := Classical.byContradiction (fun q9 => by have := n22 q9; unfold go_c at g0; rw [if_pos this] at g0; exact absurd g0 (by decide))
          have p1 : 0 ≤ t := Classical.byContradiction (fun q9 => by have := n31 q9; unfold go_c at g0; rw [if_neg (by rw [y22 p0]; decide), if_pos this] at g0; exact absurd g0 (by decide))
          have p2 : cm_in x P ∧ (∃ i, x = nI i ∧ i < P ∧ 0 < d i 3) := Classical.byContradiction (fun q9 => by have := n53 q9; unfold go_c at g0; rw [if_neg (by rw [y22 p0]; decide), if_neg (by rw [y31 p1]; decide), if_pos this] at g0; exact absurd g0 (by decide))
          have gO3 := gO
          unfold cm_O at gO3
          obtain ⟨⟨j, hj, rfl⟩, ⟨i, hi, rfl⟩⟩ := p0
          obtain ⟨t1, ht, rfl⟩ := nI_of (x := t) (fun q9 => absurd p1 (Int32.not_le.mpr q9))
          obtain ⟨p2a, i2, ei2, hi2, hs0⟩ := p2
          have ei3 := (nI_eq (by omega) (by omega)).mp ei2
          subst ei3
          have hrr := (hR.2.2.2.1 i hi).1
          obtain ⟨f0, f1, f2, f3, f4, f5, f6, f7, f8, f9, f10, f11, f12, f13, f14, f15, hh0, hh1, hh2, hh3, hh4, hh5, hh6, hh7, hh8, hh9, hh10, hh11, hh12, hh13, hh14, hh15, hp, hu⟩ := id gD
          refine vg_aload_n X dX7_seconds_61 0 rfl rfl ?_
          refine vg_iload_n X dX7_seconds_62 1 rfl rfl ?_
          refine vg_iload_n X dX7_seconds_63 2 rfl rfl ?_
          refine vg_aload_n X dX7_seconds_64 0 rfl rfl ?_
          refine vg_get X in_X7_seconds_X7 29 gO3 rfl 5 (by decide) ml_X7_seconds_16 rfl rfl dX7_seconds_65 ?_
          refine vg_iload_n X dX7_seconds_68 2 rfl rfl ?_
          refine vg_iald X (nI (d i 2)) 32 hh2 rfl (by omega) (by decide) (hp i hi).2.2.1 dX7_seconds_69 ?_
          refine vg_iload_n X dX7_seconds_70 3 rfl rfl ?_
          refine vg_calll (vg_runV X (c_X7_takes l gO gD hR (j := j) (i := i) (mm := d i 2) (t := t1) hj hi hrr.2.2.2.1 ht hs0) (cwV 4 X.2.2.2.2.1 gX7_seconds_X7_takes rfl rfl rfl (by decide +kernel) ⟨Nat.le_of_ble_eq_true rfl, Nat.le_of_ble_eq_true rfl⟩) 29 gO3 rfl rfl rfl (Nat.le_of_ble_eq_true rfl) dX7_seconds_71 ⟨Nat.zero_le _, Nat.zero_le _⟩) (fun rr6 wz4 PP5 => ?_)
          obtain ⟨hw9, hr9⟩ := PP5
          rw [hw9]
          exact vg_lret X rfl (Or.inr (Or.inr (Or.inr (⟨⟨_, _, _, _, gO, gD, gT, g51, g52, g53, g54, hwl, hwp⟩, gF, j, i, t1, rfl, hj, rfl, hi, rfl, ht, hs0, hr9⟩)))) (Nat.le_refl _) (Nat.le_refl _) dX7_seconds_74
        · skip
          have ng : go_c b22 b31 b53 ≠ 0 := fun q9 => by have := gy q9; rw [c56] at this; exact absurd this (by decide)
          by_cases p0 : cm_in u U ∧ cm_in x P
          · skip
            by_cases p1 : 0 ≤ t
            · skip
              by_cases p2 : cm_in x P ∧ (∃ i, x = nI i ∧ i < P ∧ 0 < d i 3)
              · skip
                exact absurd (by unfold go_c; rw [if_neg (by rw [y22 p0]; decide), if_neg (by rw [y31 p1]; decide), if_neg (by rw [y53 p2]; decide)]) ng
              · skip
                have g9 : go_c b22 b31 b53 = 3 := by unfold go_c; rw [if_neg (by rw [y22 p0]; decide), if_neg (by rw [y31 p1]; decide), if_pos (n53 p2)]
                rw [g9] at gO
                refine vg_lconst X (lN 0) dX7_seconds_59 (by decide) ?_
                exact vg_lret X rfl (Or.inr (Or.inr (Or.inl ⟨p0, p1, p2, ⟨_, _, _, _, gO, gD, gT, g51, g52, g53, g54, hwl, hwp⟩, gF⟩))) (Nat.le_refl _) (Nat.le_refl _) dX7_seconds_60
            · skip
              have g9 : go_c b22 b31 b53 = 2 := by unfold go_c; rw [if_neg (by rw [y22 p0]; decide), if_pos (n31 p1)]
              rw [g9] at gO
              refine vg_lconst X (lN 0) dX7_seconds_59 (by decide) ?_
              exact vg_lret X rfl (Or.inr (Or.inl ⟨p0, p1, ⟨_, _, _, _, gO, gD, gT, g51, g52, g53, g54, hwl, hwp⟩, gF⟩)) (Nat.le_refl _) (Nat.le_refl _) dX7_seconds_60
          · skip
            have g9 : go_c b22 b31 b53 = 1 := by unfold go_c; rw [if_pos (n22 p0)]
            rw [g9] at gO
            refine vg_lconst X (lN 0) dX7_seconds_59 (by decide) ?_
            exact vg_lret X rfl (Or.inl ⟨p0, ⟨_, _, _, _, gO, gD, gT, g51, g52, g53, g54, hwl, hwp⟩, gF⟩) (Nat.le_refl _) (Nat.le_refl _) dX7_seconds_60
      refine vg_aload_n X dX7_seconds_31 0 rfl rfl ?_
      refine vg_iload_n X dX7_seconds_32 2 rfl rfl ?_
      refine vg_calli (vg_runV X (c_X7_isPiece l hO (k := x) (by omega)) (cwV 1 X.2.2.2.2.1 gX7_seconds_X7_isPiece rfl rfl rfl (by decide +kernel) ⟨Nat.le_of_ble_eq_true rfl, Nat.le_of_ble_eq_true rfl⟩) 29 hO3 rfl rfl rfl (Nat.le_of_ble_eq_true rfl) dX7_seconds_33 ⟨Nat.zero_le _, Nat.zero_le _⟩) (fun rr9 wz7 PP8 => ?_)
      obtain ⟨hw9, yrr9, nrr9⟩ := PP8
      rw [hw9]
      skip
      refine vg_if_eq X 52 dX7_seconds_36 (by decide) (fun c36 => ?_) (fun c36 => ?_)
      · have k36 : ¬ (cm_in x P) := fun q9 => by have := yrr9 q9; rw [c36] at this; exact absurd this (by decide)
        refine vg_iconst X (nI 0) dX7_seconds_52 (by decide) ?_
        exact j53 _ (fun q9 => absurd (q9.1) k36) (fun _ => by decide)
      · have k36 : cm_in x P := Classical.byContradiction (fun q9 => c36 (nrr9 q9))
        obtain ⟨i9, hi9, ei9⟩ := id k36
        have hr9 := (hR.2.2.2.1 i9 hi9).1
        refine vg_aload_n X dX7_seconds_39 0 rfl rfl ?_
        refine vg_get X in_X7_seconds_X7 29 hO3 rfl 6 (by decide) ml_X7_seconds_19 rfl rfl dX7_seconds_40 ?_
        refine vg_iload_n X dX7_seconds_43 2 rfl rfl ?_
        refine vg_same rfl (st2 := [.int (nI i9), .ref (aa 3), .int b31, .int b22, .ref am]) (by rw [ei9]) ?_
        refine vg_iald X (nI (d i9 3)) 33 hh3 rfl (by omega) (by decide) (hp0 i9 hi9).2.2.2.1 dX7_seconds_44 ?_
        refine vg_if_le X 52 dX7_seconds_45 (by decide) (fun c45 => ?_) (fun c45 => ?_)
        · have c45 : d i9 3 ≤ 0 := (vg_le0 (by have := hr9.2.2.2.2.1; omega)).mp c45
          have k45 : ¬ (∃ i, x = nI i ∧ i < P ∧ 0 < d i 3) := fun ⟨i8, h8a, h8b, h8c⟩ => by have h8 := (nI_eq (by omega) (by omega)).mp (ei9.symm.trans h8a); subst h8; omega
          refine vg_iconst X (nI 0) dX7_seconds_52 (by decide) ?_
          exact j53 _ (fun q9 => absurd (q9.2) k45) (fun _ => by decide)
        · have c45 : ¬ d i9 3 ≤ 0 := fun z => c45 ((vg_le0 (by have := hr9.2.2.2.2.1; omega)).mpr z)
          have k45 : ∃ i, x = nI i ∧ i < P ∧ 0 < d i 3 := ⟨i9, ei9, hi9, by omega⟩
          refine vg_iconst X (nI 1) dX7_seconds_48 (by decide) ?_
          refine vg_goto X 53 dX7_seconds_49 (by decide) ?_
          exact j53 _ (fun _ => by decide) (fun q9 => absurd (show cm_in x P ∧ (∃ i, x = nI i ∧ i < P ∧ 0 < d i 3) from ⟨by assumption, by assumption⟩) q9)
    refine vg_iload_n X dX7_seconds_22 3 rfl rfl ?_
    skip
    refine vg_if_lt X 30 dX7_seconds_23 (by decide) (fun c23 => ?_) (fun c23 => ?_)
    · have k23 : ¬ (0 ≤ t) := Int32.not_le.mpr c23
      refine vg_iconst X (nI 0) dX7_seconds_30 (by decide) ?_
      exact j31 _ (fun q9 => absurd (q9) k23) (fun _ => by decide)
    · have k23 : 0 ≤ t := Int32.not_lt.mp c23
      refine vg_iconst X (nI 1) dX7_seconds_26 (by decide) ?_
      refine vg_goto X 31 dX7_seconds_27 (by decide) ?_
      exact j31 _ (fun _ => by decide) (fun q9 => absurd (show 0 ≤ t from (by assumption)) q9)
  refine vg_aload_n X dX7_seconds_0 0 rfl rfl ?_
  refine vg_aload_n X dX7_seconds_1 0 rfl rfl ?_
  refine vg_iload_n X dX7_seconds_2 1 rfl rfl ?_
  refine vg_calli (vg_runV X (c_X7_isUnit l hO (k := u) (by omega)) (cwV 1 X.2.2.2.2.1 gX7_seconds_X7_isUnit rfl rfl rfl (by decide +kernel) ⟨Nat.le_of_ble_eq_true rfl, Nat.le_of_ble_eq_true rfl⟩) 29 hO3 rfl rfl rfl (Nat.le_of_ble_eq_true rfl) dX7_seconds_3 ⟨Nat.zero_le _, Nat.zero_le _⟩) (fun rr12 wz10 PP11 => ?_)
  obtain ⟨hw9, yrr12, nrr12⟩ := PP11
  rw [hw9]
  skip
  refine vg_if_eq X 21 dX7_seconds_6 (by decide) (fun c6 => ?_) (fun c6 => ?_)
  · have k6 : ¬ (cm_in u U) := fun q9 => by have := yrr12 q9; rw [c6] at this; exact absurd this (by decide)
    refine vg_iconst X (nI 0) dX7_seconds_21 (by decide) ?_
    exact j22 _ (fun q9 => absurd (q9.1) k6) (fun _ => by decide)
  · have k6 : cm_in u U := Classical.byContradiction (fun q9 => c6 (nrr12 q9))
    refine vg_aload_n X dX7_seconds_9 0 rfl rfl ?_
    refine vg_iload_n X dX7_seconds_10 2 rfl rfl ?_
    refine vg_calli (vg_runV X (c_X7_isPiece l hO (k := x) (by omega)) (cwV 1 X.2.2.2.2.1 gX7_seconds_X7_isPiece rfl rfl rfl (by decide +kernel) ⟨Nat.le_of_ble_eq_true rfl, Nat.le_of_ble_eq_true rfl⟩) 29 hO3 rfl rfl rfl (Nat.le_of_ble_eq_true rfl) dX7_seconds_11 ⟨Nat.zero_le _, Nat.zero_le _⟩) (fun rr15 wz13 PP14 => ?_)
    obtain ⟨hw9, yrr15, nrr15⟩ := PP14
    rw [hw9]
    skip
    refine vg_if_eq X 21 dX7_seconds_14 (by decide) (fun c14 => ?_) (fun c14 => ?_)
    · have k14 : ¬ (cm_in x P) := fun q9 => by have := yrr15 q9; rw [c14] at this; exact absurd this (by decide)
      refine vg_iconst X (nI 0) dX7_seconds_21 (by decide) ?_
      exact j22 _ (fun q9 => absurd (q9.2) k14) (fun _ => by decide)
    · have k14 : cm_in x P := Classical.byContradiction (fun q9 => c14 (nrr15 q9))
      refine vg_iconst X (nI 1) dX7_seconds_17 (by decide) ?_
      refine vg_goto X 22 dX7_seconds_18 (by decide) ?_
      exact j22 _ (fun _ => by decide) (fun q9 => absurd (show cm_in u U ∧ cm_in x P from ⟨by assumption, by assumption⟩) q9)
set_option maxHeartbeats 4000000 in
set_option maxRecDepth 100000 in
/-- limit(..) -/
theorem c_X7_limit (l : Launch) {D : va_G} {ay : Nat → ClassId} {base : Nat} {Gx : State → Prop} {ws : va_W} {am : Nat} {aa : Nat → Nat} {n P U th wl : Nat} {d fr to pe uv : Nat → Nat → Nat} {ku ks kt wp : Nat → Nat} {sk : Nat → Nat → Nat} {x w h : Int32} (hS : cm_St ay ws am aa th n P U d fr to pe uv ku ks kt sk wl wp) (hR : cm_R n P U d fr to pe uv) (hK : ct_k n U ku ks kt) : Met l yX7_limit wsX7_limit ({ frames := 5, cells := 0, slots := 0, locals := 130 } : Room) (va_Pc [.ref am, .int x, .int w, .int h] (vg_B D ay base Gx ws)) (va_Qi (fun r u2 => (¬ (cm_in x P) ∧ cm_St ay u2 am aa 1 n P U d fr to pe uv ku ks kt sk wl wp ∧ cm_fr ws u2) ∨ ((cm_in x P) ∧ ¬ ((nI 0 ≤ w ∧ w ≤ nI 1000) ∧ (nI 0 ≤ h ∧ h ≤ nI 1000)) ∧ cm_St ay u2 am aa 2 n P U d fr to pe uv ku ks kt sk wl wp ∧ cm_fr ws u2) ∨ (∃ ix wx hx : Nat, x = nI ix ∧ ix < P ∧ w = nI wx ∧ wx ≤ 1000 ∧ h = nI hx ∧ hx ≤ 1000 ∧ cm_St ay u2 am aa 0 n P U (va_up d ix (va_up (va_up (d ix) 4 wx) 5 hx)) fr to pe uv ku ks kt (ct_new P (va_up d ix (va_up (va_up (d ix) 4 wx) 5 hx)) fr to pe uv ku ks kt) wl wp ∧ cm_fr ws u2 ∧ r = nI (ct_cnt n ku sk (ct_new P (va_up d ix (va_up (va_up (d ix) 4 wx) 5 hx)) fr to pe uv ku ks kt) 6))) (vg_B D ay base Gx) (vg_A base)) 0 0 (vg_A base) := by
  refine vg_met (cc := cX7_limit) (maxL := 4) (ret := (some .int)) (own := RX7) (lv := [(0, .ref am), (1, .int x), (2, .int w), (3, .int h)]) (by decide) rfl rfl (Nat.le_of_ble_eq_true rfl) rfl ?_
  intro p e s m args below meth c X hinit
  obtain ⟨fl, fm, fn, fs, hO, hD, hT, h51, h52, h53, h54, hwl, hwp⟩ := id hS
  have nn := hR.1
  have nP := hR.2.1
  have nU := hR.2.2.1
  have eB : ma_B = 2 ^ 60 := rfl
  have hO3 := hO
  unfold cm_O at hO3
  have j6 : ∀ b9 : Int32, ((cm_in x P) → b9 = 1) → (¬ (cm_in x P) → b9 = 0) → vg_V D base p l e ({ frames := 5, cells := 0, slots := 0, locals := 130 } : Room) s m args below meth c 4 0 0 (MQ below (va_Qi (fun r u2 => (¬ (cm_in x P) ∧ cm_St ay u2 am aa 1 n P U d fr to pe uv ku ks kt sk wl wp ∧ cm_fr ws u2) ∨ ((cm_in x P) ∧ ¬ ((nI 0 ≤ w ∧ w ≤ nI 1000) ∧ (nI 0 ≤ h ∧ h ≤ nI 1000)) ∧ cm_St ay u2 am aa 2 n P U d fr to pe uv ku ks kt sk wl wp ∧ cm_fr ws u2) ∨ (∃ ix wx hx : Nat, x = nI ix ∧ ix < P ∧ w = nI wx ∧ wx ≤ 1000 ∧ h = nI hx ∧ hx ≤ 1000 ∧ cm_St ay u2 am aa 0 n P U (va_up d ix (va_up (va_up (d ix) 4 wx) 5 hx)) fr to pe uv ku ks kt (ct_new P (va_up d ix (va_up (va_up (d ix) 4 wx) 5 hx)) fr to pe uv ku ks kt) wl wp ∧ cm_fr ws u2 ∧ r = nI (ct_cnt n ku sk (ct_new P (va_up d ix (va_up (va_up (d ix) 4 wx) 5 hx)) fr to pe uv ku ks kt) 6))) (vg_B D ay base Gx) (vg_A base)) args s 0 0 (vg_A base)) [(0, .ref am), (1, .int x), (2, .int w), (3, .int h)] [.int b9, .ref am] ws 6 := by
    intro b6 y6 n6
    have j33 : ∀ b9 : Int32, (((nI 0 ≤ w ∧ w ≤ nI 1000) ∧ (nI 0 ≤ h ∧ h ≤ nI 1000)) → b9 = 1) → (¬ ((nI 0 ≤ w ∧ w ≤ nI 1000) ∧ (nI 0 ≤ h ∧ h ≤ nI 1000)) → b9 = 0) → vg_V D base p l e ({ frames := 5, cells := 0, slots := 0, locals := 130 } : Room) s m args below meth c 4 0 0 (MQ below (va_Qi (fun r u2 => (¬ (cm_in x P) ∧ cm_St ay u2 am aa 1 n P U d fr to pe uv ku ks kt sk wl wp ∧ cm_fr ws u2) ∨ ((cm_in x P) ∧ ¬ ((nI 0 ≤ w ∧ w ≤ nI 1000) ∧ (nI 0 ≤ h ∧ h ≤ nI 1000)) ∧ cm_St ay u2 am aa 2 n P U d fr to pe uv ku ks kt sk wl wp ∧ cm_fr ws u2) ∨ (∃ ix wx hx : Nat, x = nI ix ∧ ix < P ∧ w = nI wx ∧ wx ≤ 1000 ∧ h = nI hx ∧ hx ≤ 1000 ∧ cm_St ay u2 am aa 0 n P U (va_up d ix (va_up (va_up (d ix) 4 wx) 5 hx)) fr to pe uv ku ks kt (ct_new P (va_up d ix (va_up (va_up (d ix) 4 wx) 5 hx)) fr to pe uv ku ks kt) wl wp ∧ cm_fr ws u2 ∧ r = nI (ct_cnt n ku sk (ct_new P (va_up d ix (va_up (va_up (d ix) 4 wx) 5 hx)) fr to pe uv ku ks kt) 6))) (vg_B D ay base Gx) (vg_A base)) args s 0 0 (vg_A base)) [(0, .ref am), (1, .int x), (2, .int w), (3, .int h)] [.int b9, .int b6, .ref am] ws 33 := by
      intro b33 y33 n33
      refine vg_iconst X (nI 1) dX7_limit_33 (by decide) ?_
      refine vg_calli (vg_runV X (c_X7_goes l hO (b1 := b6) (b2 := b33) (b3 := nI 1)) (cwV 3 X.2.2.2.2.1 gX7_limit_X7_goes rfl rfl rfl (by decide +kernel) ⟨Nat.le_of_ble_eq_true rfl, Nat.le_of_ble_eq_true rfl⟩) 29 hO3 rfl rfl rfl (Nat.le_of_ble_eq_true rfl) dX7_limit_34 ⟨Nat.zero_le _, Nat.zero_le _⟩) (fun rr3 wz1 PP2 => ?_)
      obtain ⟨gO, gfr0, gy, gn⟩ := PP2
      have e0 : ∀ q, q ≠ 29 → wz1[q]? = ws[q]? := fun q hq => gfr0.2 q (by simpa using hq)
      have gD : cm_D ay wz1 aa n P U d fr to pe uv := cm_D_fr hD (fun q h1 h2 => e0 q (by omega))
      have gT : cm_T ay wz1 aa n ku ks kt sk := cm_T_fr hT (fun q h1 h2 => e0 q (by omega))
      have gF := cm_fr_of gfr0 (by decide)
      have g51 := (e0 51 (by decide)).trans h51
      have g52 := (e0 52 (by decide)).trans h52
      have g53 := (e0 53 (by decide)).trans h53
      have g54 := (e0 54 (by decide)).trans h54
      refine vg_if_ne X 42 dX7_limit_37 (by decide) (fun c37 => ?_) (fun c37 => ?_)
      · skip
        have g0 : go_c b6 b33 (nI 1) = 0 := Classical.byContradiction (fun q9 => c37 (gn q9))
        rw [g0] at gO
        have p0 : cm_in x P := Classical.byContradiction (fun q9 => by have := n6 q9; unfold go_c at g0; rw [if_pos this] at g0; exact absurd g0 (by decide))
        have p1 : (nI 0 ≤ w ∧ w ≤ nI 1000) ∧ (nI 0 ≤ h ∧ h ≤ nI 1000) := Classical.byContradiction (fun q9 => by have := n33 q9; unfold go_c at g0; rw [if_neg (by rw [y6 p0]; decide), if_pos this] at g0; exact absurd g0 (by decide))
        have gO3 := gO
        unfold cm_O at gO3
        obtain ⟨i, hi, rfl⟩ := p0
        obtain ⟨w1, _, hw1, rfl⟩ := cm_rng p1.1 (by decide) (by decide)
        obtain ⟨h1, _, hv1, rfl⟩ := cm_rng p1.2 (by decide) (by decide)
        obtain ⟨f0, f1, f2, f3, f4, f5, f6, f7, f8, f9, f10, f11, f12, f13, f14, f15, hh0, hh1, hh2, hh3, hh4, hh5, hh6, hh7, hh8, hh9, hh10, hh11, hh12, hh13, hh14, hh15, hp, hu⟩ := id gD
        have hrr := hR.2.2.2.1 i hi
        refine vg_aload_n X dX7_limit_42 0 rfl rfl ?_
        refine vg_get X in_X7_limit_X7 29 gO3 rfl 7 (by decide) ml_X7_limit_22 rfl rfl dX7_limit_43 ?_
        refine vg_iload_n X dX7_limit_46 1 rfl rfl ?_
        refine vg_iload_n X dX7_limit_47 2 rfl rfl ?_
        refine vg_iast X 34 hh4 rfl (by omega) (by decide) dX7_limit_48 (fun wz4 ez5 => ?_)
        have fh6 : wz4[34]? = some ((aa 4), .inl (ay 0, 150, .inl (upd f4 i (nI w1)))) := vg_se ez5 hh4
        refine vg_aload_n X dX7_limit_49 0 rfl rfl ?_
        have fh7 : wz4[29]? = some (am, .inr (10, [.int (nI 0), .int (nI n), .int (nI P), .ref (aa 0), .ref (aa 1), .ref (aa 2), .ref (aa 3), .ref (aa 4), .ref (aa 5), .ref (aa 6), .ref (aa 7), .ref (aa 8), .ref (aa 9), .ref (aa 10), .int (nI U), .ref (aa 11), .ref (aa 12), .ref (aa 13), .ref (aa 14), .ref (aa 15), .ref (aa 16), .ref (aa 17), .ref (aa 18), .ref (aa 19), .ref (aa 20), .ref (aa 21), .ref (aa 22), .ref (aa 23), .int (nI wl), .ref (aa 24)])) := (vg_sn ez5 (by decide)).trans (gO3)
        refine vg_get X in_X7_limit_X7 29 fh7 rfl 8 (by decide) ml_X7_limit_25 rfl rfl dX7_limit_50 ?_
        refine vg_iload_n X dX7_limit_53 1 rfl rfl ?_
        refine vg_iload_n X dX7_limit_54 3 rfl rfl ?_
        have fh8 : wz4[35]? = some ((aa 5), .inl (ay 0, 150, .inl f5)) := (vg_sn ez5 (by decide)).trans (hh5)
        refine vg_iast X 35 fh8 rfl (by omega) (by decide) dX7_limit_55 (fun wz9 ez10 => ?_)
        have fh11 : wz9[35]? = some ((aa 5), .inl (ay 0, 150, .inl (upd f5 i (nI h1)))) := vg_se ez10 fh8
        refine vg_aload_n X dX7_limit_56 0 rfl rfl ?_
        have fh12 : wz9[30]? = some ((aa 0), .inl (ay 0, 150, .inl f0)) := (vg_sn ez10 (by decide)).trans ((vg_sn ez5 (by decide)).trans (hh0))
        have fh13 : wz9[31]? = some ((aa 1), .inl (ay 0, 150, .inl f1)) := (vg_sn ez10 (by decide)).trans ((vg_sn ez5 (by decide)).trans (hh1))
        have fh14 : wz9[32]? = some ((aa 2), .inl (ay 0, 150, .inl f2)) := (vg_sn ez10 (by decide)).trans ((vg_sn ez5 (by decide)).trans (hh2))
        have fh15 : wz9[33]? = some ((aa 3), .inl (ay 0, 150, .inl f3)) := (vg_sn ez10 (by decide)).trans ((vg_sn ez5 (by decide)).trans (hh3))
        have fh16 : wz9[34]? = some ((aa 4), .inl (ay 0, 150, .inl (upd f4 i (nI w1)))) := (vg_sn ez10 (by decide)).trans (fh6)
        have fh17 : wz9[36]? = some ((aa 6), .inl (ay 2, 150, .inl f6)) := (vg_sn ez10 (by decide)).trans ((vg_sn ez5 (by decide)).trans (hh6))
        have fh18 : wz9[37]? = some ((aa 7), .inl (ay 0, 150, .inl f7)) := (vg_sn ez10 (by decide)).trans ((vg_sn ez5 (by decide)).trans (hh7))
        have fh19 : wz9[38]? = some ((aa 8), .inl (ay 0, 450, .inl f8)) := (vg_sn ez10 (by decide)).trans ((vg_sn ez5 (by decide)).trans (hh8))
        have fh20 : wz9[39]? = some ((aa 9), .inl (ay 0, 450, .inl f9)) := (vg_sn ez10 (by decide)).trans ((vg_sn ez5 (by decide)).trans (hh9))
        have fh21 : wz9[40]? = some ((aa 10), .inl (ay 0, 450, .inl f10)) := (vg_sn ez10 (by decide)).trans ((vg_sn ez5 (by decide)).trans (hh10))
        have fh22 : wz9[41]? = some ((aa 11), .inl (ay 0, 12, .inl f11)) := (vg_sn ez10 (by decide)).trans ((vg_sn ez5 (by decide)).trans (hh11))
        have fh23 : wz9[42]? = some ((aa 12), .inl (ay 0, 12, .inl f12)) := (vg_sn ez10 (by decide)).trans ((vg_sn ez5 (by decide)).trans (hh12))
        have fh24 : wz9[43]? = some ((aa 13), .inl (ay 0, 12, .inl f13)) := (vg_sn ez10 (by decide)).trans ((vg_sn ez5 (by decide)).trans (hh13))
        have fh25 : wz9[44]? = some ((aa 14), .inl (ay 0, 12, .inl f14)) := (vg_sn ez10 (by decide)).trans ((vg_sn ez5 (by decide)).trans (hh14))
        have fh26 : wz9[45]? = some ((aa 15), .inl (ay 0, 12, .inl f15)) := (vg_sn ez10 (by decide)).trans ((vg_sn ez5 (by decide)).trans (hh15))
        have D2 : cm_D ay wz9 aa n P U (va_up d i (va_up (va_up (d i) 4 w1) 5 h1)) fr to pe uv := ⟨f0, f1, f2, f3, (upd f4 i (nI w1)), (upd f5 i (nI h1)), f6, f7, f8, f9, f10, f11, f12, f13, f14, f15, fh12, fh13, fh14, fh15, fh16, fh11, fh17, fh18, fh19, fh20, fh21, fh22, fh23, fh24, fh25, fh26, fun i2 hi2 => by
      by_cases q9 : i2 = i
      · subst q9; obtain ⟨a0, a1, a2, a3, a4, a5, a6, a7, a8⟩ := hp i2 hi2; rw [va_up_self, pk_us, pk_us]; exact ⟨a0, a1, a2, a3, rfl, rfl, a6, a7, a8⟩
      · rw [va_up_ne _ _ q9, pk_un q9, pk_un q9]; exact hp i2 hi2, hu⟩
        have R2 : cm_R n P U (va_up d i (va_up (va_up (d i) 4 w1) 5 h1)) fr to pe uv := cm_R_d hR hi (cp_R4 hrr.1 hw1 hv1) rfl rfl
        have fh27 : wz9[29]? = some (am, .inr (10, [.int (nI 0), .int (nI n), .int (nI P), .ref (aa 0), .ref (aa 1), .ref (aa 2), .ref (aa 3), .ref (aa 4), .ref (aa 5), .ref (aa 6), .ref (aa 7), .ref (aa 8), .ref (aa 9), .ref (aa 10), .int (nI U), .ref (aa 11), .ref (aa 12), .ref (aa 13), .ref (aa 14), .ref (aa 15), .ref (aa 16), .ref (aa 17), .ref (aa 18), .ref (aa 19), .ref (aa 20), .ref (aa 21), .ref (aa 22), .ref (aa 23), .int (nI wl), .ref (aa 24)])) := (vg_sn ez10 (by decide)).trans (fh7)
        have T2 : cm_T ay wz9 aa n ku ks kt sk := cm_T_fr gT (fun q h1 h2 => ((vg_sn (j := q) ez10 (by omega)).trans (vg_sn (j := q) ez5 (by omega))))
        have O2 : cm_O wz9 am aa (nI 0) n P U (nI wl) := fh27
        refine vg_calli (vg_runV X (c_X7_redo l O2 D2 R2 T2 hK (((vg_sn (j := 51) ez10 (by decide)).trans (vg_sn (j := 51) ez5 (by decide))).trans g51)) (cwV 0 X.2.2.2.2.1 gX7_limit_X7_redo rfl rfl rfl (by decide +kernel) ⟨Nat.le_of_ble_eq_true rfl, Nat.le_of_ble_eq_true rfl⟩) 29 fh27 rfl rfl rfl (Nat.le_of_ble_eq_true rfl) dX7_limit_57 ⟨Nat.zero_le _, Nat.zero_le _⟩) (fun rr30 wz28 PP29 => ?_)
        obtain ⟨hr9, T3, ⟨fl3, h51z⟩, fr3⟩ := PP29
        have e3 : ∀ q, q ≠ 50 → q ≠ 51 → wz28[q]? = wz9[q]? := fun q h1 h2 => fr3.2 q (by simp only [List.mem_cons, List.not_mem_nil, or_false]; omega)
        exact vg_iret X rfl (Or.inr (Or.inr (⟨i, w1, h1, rfl, hi, rfl, hw1, rfl, hv1, ⟨fl3, _, _, _, (e3 29 (by decide) (by decide)).trans O2, cm_D_fr D2 (fun q h1 h2 => e3 q (by omega) (by omega)), T3, h51z, (e3 52 (by decide) (by decide)).trans (((vg_sn (j := 52) ez10 (by decide)).trans (vg_sn (j := 52) ez5 (by decide))).trans g52), (e3 53 (by decide) (by decide)).trans (((vg_sn (j := 53) ez10 (by decide)).trans (vg_sn (j := 53) ez5 (by decide))).trans g53), (e3 54 (by decide) (by decide)).trans (((vg_sn (j := 54) ez10 (by decide)).trans (vg_sn (j := 54) ez5 (by decide))).trans g54), hwl, hwp⟩, cm_fr_tr gF (cm_fr_tr (cm_fr_of (vg_fr_set (vg_fr_set (vg_fr_rf _ [34, 35]) ez5 (by decide)) ez10 (by decide)) (by decide)) (cm_fr_of fr3 (by decide))), hr9⟩))) (Nat.le_refl _) (Nat.le_refl _) dX7_limit_60
      · skip
        have ng : go_c b6 b33 (nI 1) ≠ 0 := fun q9 => by have := gy q9; rw [c37] at this; exact absurd this (by decide)
        by_cases p0 : cm_in x P
        · skip
          by_cases p1 : (nI 0 ≤ w ∧ w ≤ nI 1000) ∧ (nI 0 ≤ h ∧ h ≤ nI 1000)
          · skip
            exact absurd (by unfold go_c; rw [if_neg (by rw [y6 p0]; decide), if_neg (by rw [y33 p1]; decide), if_neg (by decide)]) ng
          · skip
            have g9 : go_c b6 b33 (nI 1) = 2 := by unfold go_c; rw [if_neg (by rw [y6 p0]; decide), if_pos (n33 p1)]
            rw [g9] at gO
            refine vg_iconst X (nI 0) dX7_limit_40 (by decide) ?_
            exact vg_iret X rfl (Or.inr (Or.inl ⟨p0, p1, ⟨_, _, _, _, gO, gD, gT, g51, g52, g53, g54, hwl, hwp⟩, gF⟩)) (Nat.le_refl _) (Nat.le_refl _) dX7_limit_41
        · skip
          have g9 : go_c b6 b33 (nI 1) = 1 := by unfold go_c; rw [if_pos (n6 p0)]
          rw [g9] at gO
          refine vg_iconst X (nI 0) dX7_limit_40 (by decide) ?_
          exact vg_iret X rfl (Or.inl ⟨p0, ⟨_, _, _, _, gO, gD, gT, g51, g52, g53, g54, hwl, hwp⟩, gF⟩) (Nat.le_refl _) (Nat.le_refl _) dX7_limit_41
    refine vg_iload_n X dX7_limit_6 2 rfl rfl ?_
    refine vg_iconst X (nI 0) dX7_limit_7 (by decide) ?_
    refine vg_sipush X (nI 1000) dX7_limit_8 (by decide) ?_
    refine vg_calli (vg_runS X (c_X7_in l (x := w) (a := nI 0) (b := nI 1000)) (va_cwS 3 X.2.2.2.2.1 gX7_limit_X7_in rfl rfl rfl (by decide +kernel) ⟨Nat.le_of_ble_eq_true rfl, Nat.le_of_ble_eq_true rfl⟩) rfl rfl (Nat.le_of_ble_eq_true rfl) dX7_limit_11 ⟨Nat.zero_le _, Nat.zero_le _⟩) (fun rr33 wz31 PP32 => ?_)
    obtain ⟨hw9, yrr33, nrr33⟩ := PP32
    rw [hw9]
    skip
    refine vg_if_eq X 32 dX7_limit_14 (by decide) (fun c14 => ?_) (fun c14 => ?_)
    · have k14 : ¬ ((nI 0) ≤ w ∧ w ≤ (nI 1000)) := fun q9 => by have := yrr33 q9; rw [c14] at this; exact absurd this (by decide)
      refine vg_iconst X (nI 0) dX7_limit_32 (by decide) ?_
      exact j33 _ (fun q9 => absurd (q9.1) k14) (fun _ => by decide)
    · have k14 : (nI 0) ≤ w ∧ w ≤ (nI 1000) := Classical.byContradiction (fun q9 => c14 (nrr33 q9))
      refine vg_iload_n X dX7_limit_17 3 rfl rfl ?_
      refine vg_iconst X (nI 0) dX7_limit_18 (by decide) ?_
      refine vg_sipush X (nI 1000) dX7_limit_19 (by decide) ?_
      refine vg_calli (vg_runS X (c_X7_in l (x := h) (a := nI 0) (b := nI 1000)) (va_cwS 3 X.2.2.2.2.1 gX7_limit_X7_in rfl rfl rfl (by decide +kernel) ⟨Nat.le_of_ble_eq_true rfl, Nat.le_of_ble_eq_true rfl⟩) rfl rfl (Nat.le_of_ble_eq_true rfl) dX7_limit_22 ⟨Nat.zero_le _, Nat.zero_le _⟩) (fun rr36 wz34 PP35 => ?_)
      obtain ⟨hw9, yrr36, nrr36⟩ := PP35
      rw [hw9]
      skip
      refine vg_if_eq X 32 dX7_limit_25 (by decide) (fun c25 => ?_) (fun c25 => ?_)
      · have k25 : ¬ ((nI 0) ≤ h ∧ h ≤ (nI 1000)) := fun q9 => by have := yrr36 q9; rw [c25] at this; exact absurd this (by decide)
        refine vg_iconst X (nI 0) dX7_limit_32 (by decide) ?_
        exact j33 _ (fun q9 => absurd (q9.2) k25) (fun _ => by decide)
      · have k25 : (nI 0) ≤ h ∧ h ≤ (nI 1000) := Classical.byContradiction (fun q9 => c25 (nrr36 q9))
        refine vg_iconst X (nI 1) dX7_limit_28 (by decide) ?_
        refine vg_goto X 33 dX7_limit_29 (by decide) ?_
        exact j33 _ (fun _ => by decide) (fun q9 => absurd (show (nI 0 ≤ w ∧ w ≤ nI 1000) ∧ (nI 0 ≤ h ∧ h ≤ nI 1000) from ⟨by assumption, by assumption⟩) q9)
  refine vg_aload_n X dX7_limit_0 0 rfl rfl ?_
  refine vg_aload_n X dX7_limit_1 0 rfl rfl ?_
  refine vg_iload_n X dX7_limit_2 1 rfl rfl ?_
  refine vg_calli (vg_runV X (c_X7_isPiece l hO (k := x) (by omega)) (cwV 1 X.2.2.2.2.1 gX7_limit_X7_isPiece rfl rfl rfl (by decide +kernel) ⟨Nat.le_of_ble_eq_true rfl, Nat.le_of_ble_eq_true rfl⟩) 29 hO3 rfl rfl rfl (Nat.le_of_ble_eq_true rfl) dX7_limit_3 ⟨Nat.zero_le _, Nat.zero_le _⟩) (fun rr39 wz37 PP38 => ?_)
  obtain ⟨hw9, yrr39, nrr39⟩ := PP38
  rw [hw9]
  exact j6 _ yrr39 nrr39
set_option maxHeartbeats 4000000 in
set_option maxRecDepth 100000 in
/-- speed(..) -/
theorem c_X7_speed (l : Launch) {D : va_G} {ay : Nat → ClassId} {base : Nat} {Gx : State → Prop} {ws : va_W} {am : Nat} {aa : Nat → Nat} {n P U th wl : Nat} {d fr to pe uv : Nat → Nat → Nat} {ku ks kt wp : Nat → Nat} {sk : Nat → Nat → Nat} {x w : Int32} (hS : cm_St ay ws am aa th n P U d fr to pe uv ku ks kt sk wl wp) (hR : cm_R n P U d fr to pe uv) (hK : ct_k n U ku ks kt) : Met l yX7_speed wsX7_speed ({ frames := 5, cells := 0, slots := 0, locals := 130 } : Room) (va_Pc [.ref am, .int x, .int w] (vg_B D ay base Gx ws)) (va_Qi (fun r u2 => (¬ (cm_in x P) ∧ cm_St ay u2 am aa 1 n P U d fr to pe uv ku ks kt sk wl wp ∧ cm_fr ws u2) ∨ ((cm_in x P) ∧ ¬ (nI 0 ≤ w ∧ w ≤ nI 200) ∧ cm_St ay u2 am aa 2 n P U d fr to pe uv ku ks kt sk wl wp ∧ cm_fr ws u2) ∨ (∃ ix wx : Nat, x = nI ix ∧ ix < P ∧ w = nI wx ∧ wx ≤ 200 ∧ cm_St ay u2 am aa 0 n P U (va_up d ix (va_up (d ix) 3 wx)) fr to pe uv ku ks kt (ct_new P (va_up d ix (va_up (d ix) 3 wx)) fr to pe uv ku ks kt) wl wp ∧ cm_fr ws u2 ∧ r = nI (ct_cnt n ku sk (ct_new P (va_up d ix (va_up (d ix) 3 wx)) fr to pe uv ku ks kt) 6))) (vg_B D ay base Gx) (vg_A base)) 0 0 (vg_A base) := by
  refine vg_met (cc := cX7_speed) (maxL := 3) (ret := (some .int)) (own := RX7) (lv := [(0, .ref am), (1, .int x), (2, .int w)]) (by decide) rfl rfl (Nat.le_of_ble_eq_true rfl) rfl ?_
  intro p e s m args below meth c X hinit
  obtain ⟨fl, fm, fn, fs, hO, hD, hT, h51, h52, h53, h54, hwl, hwp⟩ := id hS
  have nn := hR.1
  have nP := hR.2.1
  have nU := hR.2.2.1
  have eB : ma_B = 2 ^ 60 := rfl
  have hO3 := hO
  unfold cm_O at hO3
  refine vg_aload_n X dX7_speed_0 0 rfl rfl ?_
  refine vg_aload_n X dX7_speed_1 0 rfl rfl ?_
  refine vg_iload_n X dX7_speed_2 1 rfl rfl ?_
  refine vg_calli (vg_runV X (c_X7_isPiece l hO (k := x) (by omega)) (cwV 1 X.2.2.2.2.1 gX7_speed_X7_isPiece rfl rfl rfl (by decide +kernel) ⟨Nat.le_of_ble_eq_true rfl, Nat.le_of_ble_eq_true rfl⟩) 29 hO3 rfl rfl rfl (Nat.le_of_ble_eq_true rfl) dX7_speed_3 ⟨Nat.zero_le _, Nat.zero_le _⟩) (fun rr3 wz1 PP2 => ?_)
  obtain ⟨hw9, yrr3, nrr3⟩ := PP2
  rw [hw9]
  refine vg_iload_n X dX7_speed_6 2 rfl rfl ?_
  refine vg_iconst X (nI 0) dX7_speed_7 (by decide) ?_
  refine vg_sipush X (nI 200) dX7_speed_8 (by decide) ?_
  refine vg_calli (vg_runS X (c_X7_in l (x := w) (a := nI 0) (b := nI 200)) (va_cwS 3 X.2.2.2.2.1 gX7_speed_X7_in rfl rfl rfl (by decide +kernel) ⟨Nat.le_of_ble_eq_true rfl, Nat.le_of_ble_eq_true rfl⟩) rfl rfl (Nat.le_of_ble_eq_true rfl) dX7_speed_11 ⟨Nat.zero_le _, Nat.zero_le _⟩) (fun rr6 wz4 PP5 => ?_)
  obtain ⟨hw9, yrr6, nrr6⟩ := PP5
  rw [hw9]
  refine vg_iconst X (nI 1) dX7_speed_14 (by decide) ?_
  refine vg_calli (vg_runV X (c_X7_goes l hO (b1 := rr3) (b2 := rr6) (b3 := nI 1)) (cwV 3 X.2.2.2.2.1 gX7_speed_X7_goes rfl rfl rfl (by decide +kernel) ⟨Nat.le_of_ble_eq_true rfl, Nat.le_of_ble_eq_true rfl⟩) 29 hO3 rfl rfl rfl (Nat.le_of_ble_eq_true rfl) dX7_speed_15 ⟨Nat.zero_le _, Nat.zero_le _⟩) (fun rr9 wz7 PP8 => ?_)
  obtain ⟨gO, gfr0, gy, gn⟩ := PP8
  have e0 : ∀ q, q ≠ 29 → wz7[q]? = ws[q]? := fun q hq => gfr0.2 q (by simpa using hq)
  have gD : cm_D ay wz7 aa n P U d fr to pe uv := cm_D_fr hD (fun q h1 h2 => e0 q (by omega))
  have gT : cm_T ay wz7 aa n ku ks kt sk := cm_T_fr hT (fun q h1 h2 => e0 q (by omega))
  have gF := cm_fr_of gfr0 (by decide)
  have g51 := (e0 51 (by decide)).trans h51
  have g52 := (e0 52 (by decide)).trans h52
  have g53 := (e0 53 (by decide)).trans h53
  have g54 := (e0 54 (by decide)).trans h54
  refine vg_if_ne X 23 dX7_speed_18 (by decide) (fun c18 => ?_) (fun c18 => ?_)
  · skip
    have g0 : go_c rr3 rr6 (nI 1) = 0 := Classical.byContradiction (fun q9 => c18 (gn q9))
    rw [g0] at gO
    have p0 : cm_in x P := Classical.byContradiction (fun q9 => by have := nrr3 q9; unfold go_c at g0; rw [if_pos this] at g0; exact absurd g0 (by decide))
    have p1 : nI 0 ≤ w ∧ w ≤ nI 200 := Classical.byContradiction (fun q9 => by have := nrr6 q9; unfold go_c at g0; rw [if_neg (by rw [yrr3 p0]; decide), if_pos this] at g0; exact absurd g0 (by decide))
    have gO3 := gO
    unfold cm_O at gO3
    obtain ⟨i, hi, rfl⟩ := p0
    obtain ⟨w1, _, hw1, rfl⟩ := cm_rng p1 (by decide) (by decide)
    obtain ⟨f0, f1, f2, f3, f4, f5, f6, f7, f8, f9, f10, f11, f12, f13, f14, f15, hh0, hh1, hh2, hh3, hh4, hh5, hh6, hh7, hh8, hh9, hh10, hh11, hh12, hh13, hh14, hh15, hp, hu⟩ := id gD
    have hrr := hR.2.2.2.1 i hi
    refine vg_aload_n X dX7_speed_23 0 rfl rfl ?_
    refine vg_get X in_X7_speed_X7 29 gO3 rfl 6 (by decide) ml_X7_speed_19 rfl rfl dX7_speed_24 ?_
    refine vg_iload_n X dX7_speed_27 1 rfl rfl ?_
    refine vg_iload_n X dX7_speed_28 2 rfl rfl ?_
    refine vg_iast X 33 hh3 rfl (by omega) (by decide) dX7_speed_29 (fun wz10 ez11 => ?_)
    have fh12 : wz10[33]? = some ((aa 3), .inl (ay 0, 150, .inl (upd f3 i (nI w1)))) := vg_se ez11 hh3
    refine vg_aload_n X dX7_speed_30 0 rfl rfl ?_
    have fh13 : wz10[30]? = some ((aa 0), .inl (ay 0, 150, .inl f0)) := (vg_sn ez11 (by decide)).trans (hh0)
    have fh14 : wz10[31]? = some ((aa 1), .inl (ay 0, 150, .inl f1)) := (vg_sn ez11 (by decide)).trans (hh1)
    have fh15 : wz10[32]? = some ((aa 2), .inl (ay 0, 150, .inl f2)) := (vg_sn ez11 (by decide)).trans (hh2)
    have fh16 : wz10[34]? = some ((aa 4), .inl (ay 0, 150, .inl f4)) := (vg_sn ez11 (by decide)).trans (hh4)
    have fh17 : wz10[35]? = some ((aa 5), .inl (ay 0, 150, .inl f5)) := (vg_sn ez11 (by decide)).trans (hh5)
    have fh18 : wz10[36]? = some ((aa 6), .inl (ay 2, 150, .inl f6)) := (vg_sn ez11 (by decide)).trans (hh6)
    have fh19 : wz10[37]? = some ((aa 7), .inl (ay 0, 150, .inl f7)) := (vg_sn ez11 (by decide)).trans (hh7)
    have fh20 : wz10[38]? = some ((aa 8), .inl (ay 0, 450, .inl f8)) := (vg_sn ez11 (by decide)).trans (hh8)
    have fh21 : wz10[39]? = some ((aa 9), .inl (ay 0, 450, .inl f9)) := (vg_sn ez11 (by decide)).trans (hh9)
    have fh22 : wz10[40]? = some ((aa 10), .inl (ay 0, 450, .inl f10)) := (vg_sn ez11 (by decide)).trans (hh10)
    have fh23 : wz10[41]? = some ((aa 11), .inl (ay 0, 12, .inl f11)) := (vg_sn ez11 (by decide)).trans (hh11)
    have fh24 : wz10[42]? = some ((aa 12), .inl (ay 0, 12, .inl f12)) := (vg_sn ez11 (by decide)).trans (hh12)
    have fh25 : wz10[43]? = some ((aa 13), .inl (ay 0, 12, .inl f13)) := (vg_sn ez11 (by decide)).trans (hh13)
    have fh26 : wz10[44]? = some ((aa 14), .inl (ay 0, 12, .inl f14)) := (vg_sn ez11 (by decide)).trans (hh14)
    have fh27 : wz10[45]? = some ((aa 15), .inl (ay 0, 12, .inl f15)) := (vg_sn ez11 (by decide)).trans (hh15)
    have D2 : cm_D ay wz10 aa n P U (va_up d i (va_up (d i) 3 w1)) fr to pe uv := ⟨f0, f1, f2, (upd f3 i (nI w1)), f4, f5, f6, f7, f8, f9, f10, f11, f12, f13, f14, f15, fh13, fh14, fh15, fh12, fh16, fh17, fh18, fh19, fh20, fh21, fh22, fh23, fh24, fh25, fh26, fh27, fun i2 hi2 => by
      by_cases q9 : i2 = i
      · subst q9; obtain ⟨a0, a1, a2, a3, a4, a5, a6, a7, a8⟩ := hp i2 hi2; rw [va_up_self, pk_us]; exact ⟨a0, a1, a2, rfl, a4, a5, a6, a7, a8⟩
      · rw [va_up_ne _ _ q9, pk_un q9]; exact hp i2 hi2, hu⟩
    have R2 : cm_R n P U (va_up d i (va_up (d i) 3 w1)) fr to pe uv := cm_R_d hR hi (cp_R3 hrr.1 hw1) rfl rfl
    have fh28 : wz10[29]? = some (am, .inr (10, [.int (nI 0), .int (nI n), .int (nI P), .ref (aa 0), .ref (aa 1), .ref (aa 2), .ref (aa 3), .ref (aa 4), .ref (aa 5), .ref (aa 6), .ref (aa 7), .ref (aa 8), .ref (aa 9), .ref (aa 10), .int (nI U), .ref (aa 11), .ref (aa 12), .ref (aa 13), .ref (aa 14), .ref (aa 15), .ref (aa 16), .ref (aa 17), .ref (aa 18), .ref (aa 19), .ref (aa 20), .ref (aa 21), .ref (aa 22), .ref (aa 23), .int (nI wl), .ref (aa 24)])) := (vg_sn ez11 (by decide)).trans (gO3)
    have T2 : cm_T ay wz10 aa n ku ks kt sk := cm_T_fr gT (fun q h1 h2 => (vg_sn (j := q) ez11 (by omega)))
    have O2 : cm_O wz10 am aa (nI 0) n P U (nI wl) := fh28
    refine vg_calli (vg_runV X (c_X7_redo l O2 D2 R2 T2 hK ((vg_sn (j := 51) ez11 (by decide)).trans g51)) (cwV 0 X.2.2.2.2.1 gX7_speed_X7_redo rfl rfl rfl (by decide +kernel) ⟨Nat.le_of_ble_eq_true rfl, Nat.le_of_ble_eq_true rfl⟩) 29 fh28 rfl rfl rfl (Nat.le_of_ble_eq_true rfl) dX7_speed_31 ⟨Nat.zero_le _, Nat.zero_le _⟩) (fun rr31 wz29 PP30 => ?_)
    obtain ⟨hr9, T3, ⟨fl3, h51z⟩, fr3⟩ := PP30
    have e3 : ∀ q, q ≠ 50 → q ≠ 51 → wz29[q]? = wz10[q]? := fun q h1 h2 => fr3.2 q (by simp only [List.mem_cons, List.not_mem_nil, or_false]; omega)
    exact vg_iret X rfl (Or.inr (Or.inr (⟨i, w1, rfl, hi, rfl, hw1, ⟨fl3, _, _, _, (e3 29 (by decide) (by decide)).trans O2, cm_D_fr D2 (fun q h1 h2 => e3 q (by omega) (by omega)), T3, h51z, (e3 52 (by decide) (by decide)).trans ((vg_sn (j := 52) ez11 (by decide)).trans g52), (e3 53 (by decide) (by decide)).trans ((vg_sn (j := 53) ez11 (by decide)).trans g53), (e3 54 (by decide) (by decide)).trans ((vg_sn (j := 54) ez11 (by decide)).trans g54), hwl, hwp⟩, cm_fr_tr gF (cm_fr_tr (cm_fr_of (vg_fr_set (vg_fr_rf _ [33]) ez11 (by decide)) (by decide)) (cm_fr_of fr3 (by decide))), hr9⟩))) (Nat.le_refl _) (Nat.le_refl _) dX7_speed_34
  · skip
    have ng : go_c rr3 rr6 (nI 1) ≠ 0 := fun q9 => by have := gy q9; rw [c18] at this; exact absurd this (by decide)
    by_cases p0 : cm_in x P
    · skip
      by_cases p1 : nI 0 ≤ w ∧ w ≤ nI 200
      · skip
        exact absurd (by unfold go_c; rw [if_neg (by rw [yrr3 p0]; decide), if_neg (by rw [yrr6 p1]; decide), if_neg (by decide)]) ng
      · skip
        have g9 : go_c rr3 rr6 (nI 1) = 2 := by unfold go_c; rw [if_neg (by rw [yrr3 p0]; decide), if_pos (nrr6 p1)]
        rw [g9] at gO
        refine vg_iconst X (nI 0) dX7_speed_21 (by decide) ?_
        exact vg_iret X rfl (Or.inr (Or.inl ⟨p0, p1, ⟨_, _, _, _, gO, gD, gT, g51, g52, g53, g54, hwl, hwp⟩, gF⟩)) (Nat.le_refl _) (Nat.le_refl _) dX7_speed_22
    · skip
      have g9 : go_c rr3 rr6 (nI 1) = 1 := by unfold go_c; rw [if_pos (nrr3 p0)]
      rw [g9] at gO
      refine vg_iconst X (nI 0) dX7_speed_21 (by decide) ?_
      exact vg_iret X rfl (Or.inl ⟨p0, ⟨_, _, _, _, gO, gD, gT, g51, g52, g53, g54, hwl, hwp⟩, gF⟩) (Nat.le_refl _) (Nat.le_refl _) dX7_speed_22
set_option maxHeartbeats 4000000 in
set_option maxRecDepth 100000 in
/-- close(..) -/
theorem c_X7_close (l : Launch) {D : va_G} {ay : Nat → ClassId} {base : Nat} {Gx : State → Prop} {ws : va_W} {am : Nat} {aa : Nat → Nat} {n P U th wl : Nat} {d fr to pe uv : Nat → Nat → Nat} {ku ks kt wp : Nat → Nat} {sk : Nat → Nat → Nat} {x : Int32} {on : Nat} (hS : cm_St ay ws am aa th n P U d fr to pe uv ku ks kt sk wl wp) (hR : cm_R n P U d fr to pe uv) (hK : ct_k n U ku ks kt) (hon : on ≤ 1) : Met l yX7_close wsX7_close ({ frames := 5, cells := 0, slots := 0, locals := 130 } : Room) (va_Pc [.ref am, .int x, .int (nI on)] (vg_B D ay base Gx ws)) (va_Qi (fun r u2 => (¬ (cm_in x P) ∧ cm_St ay u2 am aa 1 n P U d fr to pe uv ku ks kt sk wl wp ∧ cm_fr ws u2) ∨ ((cm_in x P) ∧ ¬ (cm_in x P ∧ (∃ i, x = nI i ∧ i < P ∧ d i 6 ≠ on)) ∧ cm_St ay u2 am aa 2 n P U d fr to pe uv ku ks kt sk wl wp ∧ cm_fr ws u2) ∨ (∃ ix : Nat, x = nI ix ∧ ix < P ∧ d ix 6 ≠ on ∧ cm_St ay u2 am aa 0 n P U (va_up d ix (va_up (d ix) 6 on)) fr to pe uv ku ks kt (ct_new P (va_up d ix (va_up (d ix) 6 on)) fr to pe uv ku ks kt) wl wp ∧ cm_fr ws u2 ∧ r = nI (ct_cnt n ku sk (ct_new P (va_up d ix (va_up (d ix) 6 on)) fr to pe uv ku ks kt) 6))) (vg_B D ay base Gx) (vg_A base)) 0 0 (vg_A base) := by
  refine vg_met (cc := cX7_close) (maxL := 3) (ret := (some .int)) (own := RX7) (lv := [(0, .ref am), (1, .int x), (2, .int (nI on))]) (by decide) rfl rfl (Nat.le_of_ble_eq_true rfl) rfl ?_
  intro p e s m args below meth c X hinit
  obtain ⟨fl, fm, fn, fs, hO, hD, hT, h51, h52, h53, h54, hwl, hwp⟩ := id hS
  have nn := hR.1
  have nP := hR.2.1
  have nU := hR.2.2.1
  have eB : ma_B = 2 ^ 60 := rfl
  have hO3 := hO
  unfold cm_O at hO3
  obtain ⟨e0, e1, e2, e3, e4, e5, e6, e7, e8, e9, e10, e11, e12, e13, e14, e15, hh0, hh1, hh2, hh3, hh4, hh5, hh6, hh7, hh8, hh9, hh10, hh11, hh12, hh13, hh14, hh15, hp0, hu0⟩ := id hD
  have j6 : ∀ b9 : Int32, ((cm_in x P) → b9 = 1) → (¬ (cm_in x P) → b9 = 0) → vg_V D base p l e ({ frames := 5, cells := 0, slots := 0, locals := 130 } : Room) s m args below meth c 3 0 0 (MQ below (va_Qi (fun r u2 => (¬ (cm_in x P) ∧ cm_St ay u2 am aa 1 n P U d fr to pe uv ku ks kt sk wl wp ∧ cm_fr ws u2) ∨ ((cm_in x P) ∧ ¬ (cm_in x P ∧ (∃ i, x = nI i ∧ i < P ∧ d i 6 ≠ on)) ∧ cm_St ay u2 am aa 2 n P U d fr to pe uv ku ks kt sk wl wp ∧ cm_fr ws u2) ∨ (∃ ix : Nat, x = nI ix ∧ ix < P ∧ d ix 6 ≠ on ∧ cm_St ay u2 am aa 0 n P U (va_up d ix (va_up (d ix) 6 on)) fr to pe uv ku ks kt (ct_new P (va_up d ix (va_up (d ix) 6 on)) fr to pe uv ku ks kt) wl wp ∧ cm_fr ws u2 ∧ r = nI (ct_cnt n ku sk (ct_new P (va_up d ix (va_up (d ix) 6 on)) fr to pe uv ku ks kt) 6))) (vg_B D ay base Gx) (vg_A base)) args s 0 0 (vg_A base)) [(0, .ref am), (1, .int x), (2, .int (nI on))] [.int b9, .ref am] ws 6 := by
    intro b6 y6 n6
    have j29 : ∀ b9 : Int32, ((cm_in x P ∧ (∃ i, x = nI i ∧ i < P ∧ d i 6 ≠ on)) → b9 = 1) → (¬ (cm_in x P ∧ (∃ i, x = nI i ∧ i < P ∧ d i 6 ≠ on)) → b9 = 0) → vg_V D base p l e ({ frames := 5, cells := 0, slots := 0, locals := 130 } : Room) s m args below meth c 3 0 0 (MQ below (va_Qi (fun r u2 => (¬ (cm_in x P) ∧ cm_St ay u2 am aa 1 n P U d fr to pe uv ku ks kt sk wl wp ∧ cm_fr ws u2) ∨ ((cm_in x P) ∧ ¬ (cm_in x P ∧ (∃ i, x = nI i ∧ i < P ∧ d i 6 ≠ on)) ∧ cm_St ay u2 am aa 2 n P U d fr to pe uv ku ks kt sk wl wp ∧ cm_fr ws u2) ∨ (∃ ix : Nat, x = nI ix ∧ ix < P ∧ d ix 6 ≠ on ∧ cm_St ay u2 am aa 0 n P U (va_up d ix (va_up (d ix) 6 on)) fr to pe uv ku ks kt (ct_new P (va_up d ix (va_up (d ix) 6 on)) fr to pe uv ku ks kt) wl wp ∧ cm_fr ws u2 ∧ r = nI (ct_cnt n ku sk (ct_new P (va_up d ix (va_up (d ix) 6 on)) fr to pe uv ku ks kt) 6))) (vg_B D ay base Gx) (vg_A base)) args s 0 0 (vg_A base)) [(0, .ref am), (1, .int x), (2, .int (nI on))] [.int b9, .int b6, .ref am] ws 29 := by
      intro b29 y29 n29
      refine vg_iconst X (nI 1) dX7_close_29 (by decide) ?_
      refine vg_calli (vg_runV X (c_X7_goes l hO (b1 := b6) (b2 := b29) (b3 := nI 1)) (cwV 3 X.2.2.2.2.1 gX7_close_X7_goes rfl rfl rfl (by decide +kernel) ⟨Nat.le_of_ble_eq_true rfl, Nat.le_of_ble_eq_true rfl⟩) 29 hO3 rfl rfl rfl (Nat.le_of_ble_eq_true rfl) dX7_close_30 ⟨Nat.zero_le _, Nat.zero_le _⟩) (fun rr3 wz1 PP2 => ?_)
      obtain ⟨gO, gfr0, gy, gn⟩ := PP2
      have e0 : ∀ q, q ≠ 29 → wz1[q]? = ws[q]? := fun q hq => gfr0.2 q (by simpa using hq)
      have gD : cm_D ay wz1 aa n P U d fr to pe uv := cm_D_fr hD (fun q h1 h2 => e0 q (by omega))
      have gT : cm_T ay wz1 aa n ku ks kt sk := cm_T_fr hT (fun q h1 h2 => e0 q (by omega))
      have gF := cm_fr_of gfr0 (by decide)
      have g51 := (e0 51 (by decide)).trans h51
      have g52 := (e0 52 (by decide)).trans h52
      have g53 := (e0 53 (by decide)).trans h53
      have g54 := (e0 54 (by decide)).trans h54
      refine vg_if_ne X 38 dX7_close_33 (by decide) (fun c33 => ?_) (fun c33 => ?_)
      · skip
        have g0 : go_c b6 b29 (nI 1) = 0 := Classical.byContradiction (fun q9 => c33 (gn q9))
        rw [g0] at gO
        have p0 : cm_in x P := Classical.byContradiction (fun q9 => by have := n6 q9; unfold go_c at g0; rw [if_pos this] at g0; exact absurd g0 (by decide))
        have p1 : cm_in x P ∧ (∃ i, x = nI i ∧ i < P ∧ d i 6 ≠ on) := Classical.byContradiction (fun q9 => by have := n29 q9; unfold go_c at g0; rw [if_neg (by rw [y6 p0]; decide), if_pos this] at g0; exact absurd g0 (by decide))
        have gO3 := gO
        unfold cm_O at gO3
        obtain ⟨i, hi, rfl⟩ := p0
        obtain ⟨f0, f1, f2, f3, f4, f5, f6, f7, f8, f9, f10, f11, f12, f13, f14, f15, hh0, hh1, hh2, hh3, hh4, hh5, hh6, hh7, hh8, hh9, hh10, hh11, hh12, hh13, hh14, hh15, hp, hu⟩ := id gD
        have hne : d i 6 ≠ on := fun q9 => by obtain ⟨_, i8, h8a, h8b, h8c⟩ := p1; have h8 := (nI_eq (by omega) (by omega)).mp h8a; subst h8; exact h8c q9
        have hrr := hR.2.2.2.1 i hi
        refine vg_aload_n X dX7_close_38 0 rfl rfl ?_
        refine vg_get X in_X7_close_X7 29 gO3 rfl 9 (by decide) ml_X7_close_28 rfl rfl dX7_close_39 ?_
        refine vg_iload_n X dX7_close_42 1 rfl rfl ?_
        refine vg_iload_n X dX7_close_43 2 rfl rfl ?_
        refine vg_zast X 36 hh6 rfl (by omega) (by decide) (nar01 hon) dX7_close_44 (fun wz4 ez5 => ?_)
        have fh6 : wz4[36]? = some ((aa 6), .inl (ay 2, 150, .inl (upd f6 i (nI on)))) := vg_se ez5 hh6
        refine vg_aload_n X dX7_close_45 0 rfl rfl ?_
        have fh7 : wz4[30]? = some ((aa 0), .inl (ay 0, 150, .inl f0)) := (vg_sn ez5 (by decide)).trans (hh0)
        have fh8 : wz4[31]? = some ((aa 1), .inl (ay 0, 150, .inl f1)) := (vg_sn ez5 (by decide)).trans (hh1)
        have fh9 : wz4[32]? = some ((aa 2), .inl (ay 0, 150, .inl f2)) := (vg_sn ez5 (by decide)).trans (hh2)
        have fh10 : wz4[33]? = some ((aa 3), .inl (ay 0, 150, .inl f3)) := (vg_sn ez5 (by decide)).trans (hh3)
        have fh11 : wz4[34]? = some ((aa 4), .inl (ay 0, 150, .inl f4)) := (vg_sn ez5 (by decide)).trans (hh4)
        have fh12 : wz4[35]? = some ((aa 5), .inl (ay 0, 150, .inl f5)) := (vg_sn ez5 (by decide)).trans (hh5)
        have fh13 : wz4[37]? = some ((aa 7), .inl (ay 0, 150, .inl f7)) := (vg_sn ez5 (by decide)).trans (hh7)
        have fh14 : wz4[38]? = some ((aa 8), .inl (ay 0, 450, .inl f8)) := (vg_sn ez5 (by decide)).trans (hh8)
        have fh15 : wz4[39]? = some ((aa 9), .inl (ay 0, 450, .inl f9)) := (vg_sn ez5 (by decide)).trans (hh9)
        have fh16 : wz4[40]? = some ((aa 10), .inl (ay 0, 450, .inl f10)) := (vg_sn ez5 (by decide)).trans (hh10)
        have fh17 : wz4[41]? = some ((aa 11), .inl (ay 0, 12, .inl f11)) := (vg_sn ez5 (by decide)).trans (hh11)
        have fh18 : wz4[42]? = some ((aa 12), .inl (ay 0, 12, .inl f12)) := (vg_sn ez5 (by decide)).trans (hh12)
        have fh19 : wz4[43]? = some ((aa 13), .inl (ay 0, 12, .inl f13)) := (vg_sn ez5 (by decide)).trans (hh13)
        have fh20 : wz4[44]? = some ((aa 14), .inl (ay 0, 12, .inl f14)) := (vg_sn ez5 (by decide)).trans (hh14)
        have fh21 : wz4[45]? = some ((aa 15), .inl (ay 0, 12, .inl f15)) := (vg_sn ez5 (by decide)).trans (hh15)
        have D2 : cm_D ay wz4 aa n P U (va_up d i (va_up (d i) 6 on)) fr to pe uv := ⟨f0, f1, f2, f3, f4, f5, (upd f6 i (nI on)), f7, f8, f9, f10, f11, f12, f13, f14, f15, fh7, fh8, fh9, fh10, fh11, fh12, fh6, fh13, fh14, fh15, fh16, fh17, fh18, fh19, fh20, fh21, fun i2 hi2 => by
      by_cases q9 : i2 = i
      · subst q9; obtain ⟨a0, a1, a2, a3, a4, a5, a6, a7, a8⟩ := hp i2 hi2; rw [va_up_self, pk_us]; exact ⟨a0, a1, a2, a3, a4, a5, rfl, a7, a8⟩
      · rw [va_up_ne _ _ q9, pk_un q9]; exact hp i2 hi2, hu⟩
        have R2 : cm_R n P U (va_up d i (va_up (d i) 6 on)) fr to pe uv := cm_R_d hR hi (cp_R6 hrr.1 hon) rfl rfl
        have fh22 : wz4[29]? = some (am, .inr (10, [.int (nI 0), .int (nI n), .int (nI P), .ref (aa 0), .ref (aa 1), .ref (aa 2), .ref (aa 3), .ref (aa 4), .ref (aa 5), .ref (aa 6), .ref (aa 7), .ref (aa 8), .ref (aa 9), .ref (aa 10), .int (nI U), .ref (aa 11), .ref (aa 12), .ref (aa 13), .ref (aa 14), .ref (aa 15), .ref (aa 16), .ref (aa 17), .ref (aa 18), .ref (aa 19), .ref (aa 20), .ref (aa 21), .ref (aa 22), .ref (aa 23), .int (nI wl), .ref (aa 24)])) := (vg_sn ez5 (by decide)).trans (gO3)
        have T2 : cm_T ay wz4 aa n ku ks kt sk := cm_T_fr gT (fun q h1 h2 => (vg_sn (j := q) ez5 (by omega)))
        have O2 : cm_O wz4 am aa (nI 0) n P U (nI wl) := fh22
        refine vg_calli (vg_runV X (c_X7_redo l O2 D2 R2 T2 hK ((vg_sn (j := 51) ez5 (by decide)).trans g51)) (cwV 0 X.2.2.2.2.1 gX7_close_X7_redo rfl rfl rfl (by decide +kernel) ⟨Nat.le_of_ble_eq_true rfl, Nat.le_of_ble_eq_true rfl⟩) 29 fh22 rfl rfl rfl (Nat.le_of_ble_eq_true rfl) dX7_close_46 ⟨Nat.zero_le _, Nat.zero_le _⟩) (fun rr25 wz23 PP24 => ?_)
        obtain ⟨hr9, T3, ⟨fl3, h51z⟩, fr3⟩ := PP24
        have e3 : ∀ q, q ≠ 50 → q ≠ 51 → wz23[q]? = wz4[q]? := fun q h1 h2 => fr3.2 q (by simp only [List.mem_cons, List.not_mem_nil, or_false]; omega)
        exact vg_iret X rfl (Or.inr (Or.inr (⟨i, rfl, hi, hne, ⟨fl3, _, _, _, (e3 29 (by decide) (by decide)).trans O2, cm_D_fr D2 (fun q h1 h2 => e3 q (by omega) (by omega)), T3, h51z, (e3 52 (by decide) (by decide)).trans ((vg_sn (j := 52) ez5 (by decide)).trans g52), (e3 53 (by decide) (by decide)).trans ((vg_sn (j := 53) ez5 (by decide)).trans g53), (e3 54 (by decide) (by decide)).trans ((vg_sn (j := 54) ez5 (by decide)).trans g54), hwl, hwp⟩, cm_fr_tr gF (cm_fr_tr (cm_fr_of (vg_fr_set (vg_fr_rf _ [36]) ez5 (by decide)) (by decide)) (cm_fr_of fr3 (by decide))), hr9⟩))) (Nat.le_refl _) (Nat.le_refl _) dX7_close_49
      · skip
        have ng : go_c b6 b29 (nI 1) ≠ 0 := fun q9 => by have := gy q9; rw [c33] at this; exact absurd this (by decide)
        by_cases p0 : cm_in x P
        · skip
          by_cases p1 : cm_in x P ∧ (∃ i, x = nI i ∧ i < P ∧ d i 6 ≠ on)
          · skip
            exact absurd (by unfold go_c; rw [if_neg (by rw [y6 p0]; decide), if_neg (by rw [y29 p1]; decide), if_neg (by decide)]) ng
          · skip
            have g9 : go_c b6 b29 (nI 1) = 2 := by unfold go_c; rw [if_neg (by rw [y6 p0]; decide), if_pos (n29 p1)]
            rw [g9] at gO
            refine vg_iconst X (nI 0) dX7_close_36 (by decide) ?_
            exact vg_iret X rfl (Or.inr (Or.inl ⟨p0, p1, ⟨_, _, _, _, gO, gD, gT, g51, g52, g53, g54, hwl, hwp⟩, gF⟩)) (Nat.le_refl _) (Nat.le_refl _) dX7_close_37
        · skip
          have g9 : go_c b6 b29 (nI 1) = 1 := by unfold go_c; rw [if_pos (n6 p0)]
          rw [g9] at gO
          refine vg_iconst X (nI 0) dX7_close_36 (by decide) ?_
          exact vg_iret X rfl (Or.inl ⟨p0, ⟨_, _, _, _, gO, gD, gT, g51, g52, g53, g54, hwl, hwp⟩, gF⟩) (Nat.le_refl _) (Nat.le_refl _) dX7_close_37
    refine vg_aload_n X dX7_close_6 0 rfl rfl ?_
    refine vg_iload_n X dX7_close_7 1 rfl rfl ?_
    refine vg_calli (vg_runV X (c_X7_isPiece l hO (k := x) (by omega)) (cwV 1 X.2.2.2.2.1 gX7_close_X7_isPiece rfl rfl rfl (by decide +kernel) ⟨Nat.le_of_ble_eq_true rfl, Nat.le_of_ble_eq_true rfl⟩) 29 hO3 rfl rfl rfl (Nat.le_of_ble_eq_true rfl) dX7_close_8 ⟨Nat.zero_le _, Nat.zero_le _⟩) (fun rr28 wz26 PP27 => ?_)
    obtain ⟨hw9, yrr28, nrr28⟩ := PP27
    rw [hw9]
    skip
    refine vg_if_eq X 28 dX7_close_11 (by decide) (fun c11 => ?_) (fun c11 => ?_)
    · have k11 : ¬ (cm_in x P) := fun q9 => by have := yrr28 q9; rw [c11] at this; exact absurd this (by decide)
      refine vg_iconst X (nI 0) dX7_close_28 (by decide) ?_
      exact j29 _ (fun q9 => absurd (q9.1) k11) (fun _ => by decide)
    · have k11 : cm_in x P := Classical.byContradiction (fun q9 => c11 (nrr28 q9))
      obtain ⟨i9, hi9, ei9⟩ := id k11
      have hr9 := (hR.2.2.2.1 i9 hi9).1
      refine vg_aload_n X dX7_close_14 0 rfl rfl ?_
      refine vg_get X in_X7_close_X7 29 hO3 rfl 9 (by decide) ml_X7_close_28 rfl rfl dX7_close_15 ?_
      refine vg_iload_n X dX7_close_18 1 rfl rfl ?_
      refine vg_same rfl (st2 := [.int (nI i9), .ref (aa 6), .int b6, .ref am]) (by rw [ei9]) ?_
      refine vg_zald X (nI (d i9 6)) 36 hh6 rfl (by omega) (by decide) (hp0 i9 hi9).2.2.2.2.2.2.1 dX7_close_19 ?_
      refine vg_iload_n X dX7_close_20 2 rfl rfl ?_
      refine vg_icmp_eq X 28 dX7_close_21 (by decide) (fun c21 => ?_) (fun c21 => ?_)
      · have c21 : d i9 6 = on := (nI_eq (by have := hr9.2.2.2.2.2.2.2.1; omega) (by omega)).mp c21
        have k21 : ¬ (∃ i, x = nI i ∧ i < P ∧ d i 6 ≠ on) := fun ⟨i8, h8a, h8b, h8c⟩ => by have h8 := (nI_eq (by omega) (by omega)).mp (ei9.symm.trans h8a); subst h8; exact h8c c21
        refine vg_iconst X (nI 0) dX7_close_28 (by decide) ?_
        exact j29 _ (fun q9 => absurd (q9.2) k21) (fun _ => by decide)
      · have c21 : ¬ d i9 6 = on := fun z => c21 ((nI_eq (by have := hr9.2.2.2.2.2.2.2.1; omega) (by omega)).mpr z)
        have k21 : ∃ i, x = nI i ∧ i < P ∧ d i 6 ≠ on := ⟨i9, ei9, hi9, c21⟩
        refine vg_iconst X (nI 1) dX7_close_24 (by decide) ?_
        refine vg_goto X 29 dX7_close_25 (by decide) ?_
        exact j29 _ (fun _ => by decide) (fun q9 => absurd (show cm_in x P ∧ (∃ i, x = nI i ∧ i < P ∧ d i 6 ≠ on) from ⟨by assumption, by assumption⟩) q9)
  refine vg_aload_n X dX7_close_0 0 rfl rfl ?_
  refine vg_aload_n X dX7_close_1 0 rfl rfl ?_
  refine vg_iload_n X dX7_close_2 1 rfl rfl ?_
  refine vg_calli (vg_runV X (c_X7_isPiece l hO (k := x) (by omega)) (cwV 1 X.2.2.2.2.1 gX7_close_X7_isPiece rfl rfl rfl (by decide +kernel) ⟨Nat.le_of_ble_eq_true rfl, Nat.le_of_ble_eq_true rfl⟩) 29 hO3 rfl rfl rfl (Nat.le_of_ble_eq_true rfl) dX7_close_3 ⟨Nat.zero_le _, Nat.zero_le _⟩) (fun rr31 wz29 PP30 => ?_)
  obtain ⟨hw9, yrr31, nrr31⟩ := PP30
  rw [hw9]
  exact j6 _ yrr31 nrr31
set_option maxHeartbeats 4000000 in
set_option maxRecDepth 100000 in
/-- slow(..) -/
theorem c_X7_slow (l : Launch) {D : va_G} {ay : Nat → ClassId} {base : Nat} {Gx : State → Prop} {ws : va_W} {am : Nat} {aa : Nat → Nat} {n P U th wl : Nat} {d fr to pe uv : Nat → Nat → Nat} {ku ks kt wp : Nat → Nat} {sk : Nat → Nat → Nat} {x f t w : Int32} (hS : cm_St ay ws am aa th n P U d fr to pe uv ku ks kt sk wl wp) (hR : cm_R n P U d fr to pe uv) (hK : ct_k n U ku ks kt) : Met l yX7_slow wsX7_slow ({ frames := 5, cells := 0, slots := 0, locals := 130 } : Room) (va_Pc [.ref am, .int x, .int f, .int t, .int w] (vg_B D ay base Gx ws)) (va_Qi (fun r u2 => (¬ (cm_in x P) ∧ cm_St ay u2 am aa 1 n P U d fr to pe uv ku ks kt sk wl wp ∧ cm_fr ws u2) ∨ ((cm_in x P) ∧ ¬ ((nI 0 ≤ f ∧ f ≤ nI 23) ∧ (f ≤ t ∧ t ≤ nI 23) ∧ (nI 1 ≤ w ∧ w ≤ nI 100)) ∧ cm_St ay u2 am aa 2 n P U d fr to pe uv ku ks kt sk wl wp ∧ cm_fr ws u2) ∨ ((cm_in x P) ∧ ((nI 0 ≤ f ∧ f ≤ nI 23) ∧ (f ≤ t ∧ t ≤ nI 23) ∧ (nI 1 ≤ w ∧ w ≤ nI 100)) ∧ ¬ (cm_in x P ∧ (∃ i, x = nI i ∧ i < P ∧ d i 7 < 3)) ∧ cm_St ay u2 am aa 3 n P U d fr to pe uv ku ks kt sk wl wp ∧ cm_fr ws u2) ∨ (∃ ix fx tx px : Nat, x = nI ix ∧ ix < P ∧ f = nI fx ∧ fx ≤ 23 ∧ t = nI tx ∧ fx ≤ tx ∧ tx ≤ 23 ∧ w = nI px ∧ 1 ≤ px ∧ px ≤ 100 ∧ d ix 7 < 3 ∧ cm_St ay u2 am aa 0 n P U (va_up d ix (va_up (d ix) 7 (d ix 7 + 1))) (va_up fr ix (va_up (fr ix) (d ix 7) fx)) (va_up to ix (va_up (to ix) (d ix 7) tx)) (va_up pe ix (va_up (pe ix) (d ix 7) px)) uv ku ks kt (ct_new P (va_up d ix (va_up (d ix) 7 (d ix 7 + 1))) (va_up fr ix (va_up (fr ix) (d ix 7) fx)) (va_up to ix (va_up (to ix) (d ix 7) tx)) (va_up pe ix (va_up (pe ix) (d ix 7) px)) uv ku ks kt) wl wp ∧ cm_fr ws u2 ∧ r = nI (ct_cnt n ku sk (ct_new P (va_up d ix (va_up (d ix) 7 (d ix 7 + 1))) (va_up fr ix (va_up (fr ix) (d ix 7) fx)) (va_up to ix (va_up (to ix) (d ix 7) tx)) (va_up pe ix (va_up (pe ix) (d ix 7) px)) uv ku ks kt) 6))) (vg_B D ay base Gx) (vg_A base)) 0 0 (vg_A base) := by
  refine vg_met (cc := cX7_slow) (maxL := 5) (ret := (some .int)) (own := RX7) (lv := [(0, .ref am), (1, .int x), (2, .int f), (3, .int t), (4, .int w)]) (by decide) rfl rfl (Nat.le_of_ble_eq_true rfl) rfl ?_
  intro p e s m args below meth c X hinit
  obtain ⟨fl, fm, fn, fs, hO, hD, hT, h51, h52, h53, h54, hwl, hwp⟩ := id hS
  have nn := hR.1
  have nP := hR.2.1
  have nU := hR.2.2.1
  have eB : ma_B = 2 ^ 60 := rfl
  have hO3 := hO
  unfold cm_O at hO3
  obtain ⟨e0, e1, e2, e3, e4, e5, e6, e7, e8, e9, e10, e11, e12, e13, e14, e15, hh0, hh1, hh2, hh3, hh4, hh5, hh6, hh7, hh8, hh9, hh10, hh11, hh12, hh13, hh14, hh15, hp0, hu0⟩ := id hD
  have j6 : ∀ b9 : Int32, ((cm_in x P) → b9 = 1) → (¬ (cm_in x P) → b9 = 0) → vg_V D base p l e ({ frames := 5, cells := 0, slots := 0, locals := 130 } : Room) s m args below meth c 5 0 0 (MQ below (va_Qi (fun r u2 => (¬ (cm_in x P) ∧ cm_St ay u2 am aa 1 n P U d fr to pe uv ku ks kt sk wl wp ∧ cm_fr ws u2) ∨ ((cm_in x P) ∧ ¬ ((nI 0 ≤ f ∧ f ≤ nI 23) ∧ (f ≤ t ∧ t ≤ nI 23) ∧ (nI 1 ≤ w ∧ w ≤ nI 100)) ∧ cm_St ay u2 am aa 2 n P U d fr to pe uv ku ks kt sk wl wp ∧ cm_fr ws u2) ∨ ((cm_in x P) ∧ ((nI 0 ≤ f ∧ f ≤ nI 23) ∧ (f ≤ t ∧ t ≤ nI 23) ∧ (nI 1 ≤ w ∧ w ≤ nI 100)) ∧ ¬ (cm_in x P ∧ (∃ i, x = nI i ∧ i < P ∧ d i 7 < 3)) ∧ cm_St ay u2 am aa 3 n P U d fr to pe uv ku ks kt sk wl wp ∧ cm_fr ws u2) ∨ (∃ ix fx tx px : Nat, x = nI ix ∧ ix < P ∧ f = nI fx ∧ fx ≤ 23 ∧ t = nI tx ∧ fx ≤ tx ∧ tx ≤ 23 ∧ w = nI px ∧ 1 ≤ px ∧ px ≤ 100 ∧ d ix 7 < 3 ∧ cm_St ay u2 am aa 0 n P U (va_up d ix (va_up (d ix) 7 (d ix 7 + 1))) (va_up fr ix (va_up (fr ix) (d ix 7) fx)) (va_up to ix (va_up (to ix) (d ix 7) tx)) (va_up pe ix (va_up (pe ix) (d ix 7) px)) uv ku ks kt (ct_new P (va_up d ix (va_up (d ix) 7 (d ix 7 + 1))) (va_up fr ix (va_up (fr ix) (d ix 7) fx)) (va_up to ix (va_up (to ix) (d ix 7) tx)) (va_up pe ix (va_up (pe ix) (d ix 7) px)) uv ku ks kt) wl wp ∧ cm_fr ws u2 ∧ r = nI (ct_cnt n ku sk (ct_new P (va_up d ix (va_up (d ix) 7 (d ix 7 + 1))) (va_up fr ix (va_up (fr ix) (d ix 7) fx)) (va_up to ix (va_up (to ix) (d ix 7) tx)) (va_up pe ix (va_up (pe ix) (d ix 7) px)) uv ku ks kt) 6))) (vg_B D ay base Gx) (vg_A base)) args s 0 0 (vg_A base)) [(0, .ref am), (1, .int x), (2, .int f), (3, .int t), (4, .int w)] [.int b9, .ref am] ws 6 := by
    intro b6 y6 n6
    have j42 : ∀ b9 : Int32, (((nI 0 ≤ f ∧ f ≤ nI 23) ∧ (f ≤ t ∧ t ≤ nI 23) ∧ (nI 1 ≤ w ∧ w ≤ nI 100)) → b9 = 1) → (¬ ((nI 0 ≤ f ∧ f ≤ nI 23) ∧ (f ≤ t ∧ t ≤ nI 23) ∧ (nI 1 ≤ w ∧ w ≤ nI 100)) → b9 = 0) → vg_V D base p l e ({ frames := 5, cells := 0, slots := 0, locals := 130 } : Room) s m args below meth c 5 0 0 (MQ below (va_Qi (fun r u2 => (¬ (cm_in x P) ∧ cm_St ay u2 am aa 1 n P U d fr to pe uv ku ks kt sk wl wp ∧ cm_fr ws u2) ∨ ((cm_in x P) ∧ ¬ ((nI 0 ≤ f ∧ f ≤ nI 23) ∧ (f ≤ t ∧ t ≤ nI 23) ∧ (nI 1 ≤ w ∧ w ≤ nI 100)) ∧ cm_St ay u2 am aa 2 n P U d fr to pe uv ku ks kt sk wl wp ∧ cm_fr ws u2) ∨ ((cm_in x P) ∧ ((nI 0 ≤ f ∧ f ≤ nI 23) ∧ (f ≤ t ∧ t ≤ nI 23) ∧ (nI 1 ≤ w ∧ w ≤ nI 100)) ∧ ¬ (cm_in x P ∧ (∃ i, x = nI i ∧ i < P ∧ d i 7 < 3)) ∧ cm_St ay u2 am aa 3 n P U d fr to pe uv ku ks kt sk wl wp ∧ cm_fr ws u2) ∨ (∃ ix fx tx px : Nat, x = nI ix ∧ ix < P ∧ f = nI fx ∧ fx ≤ 23 ∧ t = nI tx ∧ fx ≤ tx ∧ tx ≤ 23 ∧ w = nI px ∧ 1 ≤ px ∧ px ≤ 100 ∧ d ix 7 < 3 ∧ cm_St ay u2 am aa 0 n P U (va_up d ix (va_up (d ix) 7 (d ix 7 + 1))) (va_up fr ix (va_up (fr ix) (d ix 7) fx)) (va_up to ix (va_up (to ix) (d ix 7) tx)) (va_up pe ix (va_up (pe ix) (d ix 7) px)) uv ku ks kt (ct_new P (va_up d ix (va_up (d ix) 7 (d ix 7 + 1))) (va_up fr ix (va_up (fr ix) (d ix 7) fx)) (va_up to ix (va_up (to ix) (d ix 7) tx)) (va_up pe ix (va_up (pe ix) (d ix 7) px)) uv ku ks kt) wl wp ∧ cm_fr ws u2 ∧ r = nI (ct_cnt n ku sk (ct_new P (va_up d ix (va_up (d ix) 7 (d ix 7 + 1))) (va_up fr ix (va_up (fr ix) (d ix 7) fx)) (va_up to ix (va_up (to ix) (d ix 7) tx)) (va_up pe ix (va_up (pe ix) (d ix 7) px)) uv ku ks kt) 6))) (vg_B D ay base Gx) (vg_A base)) args s 0 0 (vg_A base)) [(0, .ref am), (1, .int x), (2, .int f), (3, .int t), (4, .int w)] [.int b9, .int b6, .ref am] ws 42 := by
      intro b42 y42 n42
      have j65 : ∀ b9 : Int32, ((cm_in x P ∧ (∃ i, x = nI i ∧ i < P ∧ d i 7 < 3)) → b9 = 1) → (¬ (cm_in x P ∧ (∃ i, x = nI i ∧ i < P ∧ d i 7 < 3)) → b9 = 0) → vg_V D base p l e ({ frames := 5, cells := 0, slots := 0, locals := 130 } : Room) s m args below meth c 5 0 0 (MQ below (va_Qi (fun r u2 => (¬ (cm_in x P) ∧ cm_St ay u2 am aa 1 n P U d fr to pe uv ku ks kt sk wl wp ∧ cm_fr ws u2) ∨ ((cm_in x P) ∧ ¬ ((nI 0 ≤ f ∧ f ≤ nI 23) ∧ (f ≤ t ∧ t ≤ nI 23) ∧ (nI 1 ≤ w ∧ w ≤ nI 100)) ∧ cm_St ay u2 am aa 2 n P U d fr to pe uv ku ks kt sk wl wp ∧ cm_fr ws u2) ∨ ((cm_in x P) ∧ ((nI 0 ≤ f ∧ f ≤ nI 23) ∧ (f ≤ t ∧ t ≤ nI 23) ∧ (nI 1 ≤ w ∧ w ≤ nI 100)) ∧ ¬ (cm_in x P ∧ (∃ i, x = nI i ∧ i < P ∧ d i 7 < 3)) ∧ cm_St ay u2 am aa 3 n P U d fr to pe uv ku ks kt sk wl wp ∧ cm_fr ws u2) ∨ (∃ ix fx tx px : Nat, x = nI ix ∧ ix < P ∧ f = nI fx ∧ fx ≤ 23 ∧ t = nI tx ∧ fx ≤ tx ∧ tx ≤ 23 ∧ w = nI px ∧ 1 ≤ px ∧ px ≤ 100 ∧ d ix 7 < 3 ∧ cm_St ay u2 am aa 0 n P U (va_up d ix (va_up (d ix) 7 (d ix 7 + 1))) (va_up fr ix (va_up (fr ix) (d ix 7) fx)) (va_up to ix (va_up (to ix) (d ix 7) tx)) (va_up pe ix (va_up (pe ix) (d ix 7) px)) uv ku ks kt (ct_new P (va_up d ix (va_up (d ix) 7 (d ix 7 + 1))) (va_up fr ix (va_up (fr ix) (d ix 7) fx)) (va_up to ix (va_up (to ix) (d ix 7) tx)) (va_up pe ix (va_up (pe ix) (d ix 7) px)) uv ku ks kt) wl wp ∧ cm_fr ws u2 ∧ r = nI (ct_cnt n ku sk (ct_new P (va_up d ix (va_up (d ix) 7 (d ix 7 + 1))) (va_up fr ix (va_up (fr ix) (d ix 7) fx)) (va_up to ix (va_up (to ix) (d ix 7) tx)) (va_up pe ix (va_up (pe ix) (d ix 7) px)) uv ku ks kt) 6))) (vg_B D ay base Gx) (vg_A base)) args s 0 0 (vg_A base)) [(0, .ref am), (1, .int x), (2, .int f), (3, .int t), (4, .int w)] [.int b9, .int b42, .int b6, .ref am] ws 65 := by
        intro b65 y65 n65
        refine vg_calli (vg_runV X (c_X7_goes l hO (b1 := b6) (b2 := b42) (b3 := b65)) (cwV 3 X.2.2.2.2.1 gX7_slow_X7_goes rfl rfl rfl (by decide +kernel) ⟨Nat.le_of_ble_eq_true rfl, Nat.le_of_ble_eq_true rfl⟩) 29 hO3 rfl rfl rfl (Nat.le_of_ble_eq_true rfl) dX7_slow_65 ⟨Nat.zero_le _, Nat.zero_le _⟩) (fun rr3 wz1 PP2 => ?_)
        obtain ⟨gO, gfr0, gy, gn⟩ := PP2
        have e0 : ∀ q, q ≠ 29 → wz1[q]? = ws[q]? := fun q hq => gfr0.2 q (by simpa using hq)
        have gD : cm_D ay wz1 aa n P U d fr to pe uv := cm_D_fr hD (fun q h1 h2 => e0 q (by omega))
        have gT : cm_T ay wz1 aa n ku ks kt sk := cm_T_fr hT (fun q h1 h2 => e0 q (by omega))
        have gF := cm_fr_of gfr0 (by decide)
        have g51 := (e0 51 (by decide)).trans h51
        have g52 := (e0 52 (by decide)).trans h52
        have g53 := (e0 53 (by decide)).trans h53
        have g54 := (e0 54 (by decide)).trans h54
        refine vg_if_ne X 73 dX7_slow_68 (by decide) (fun c68 => ?_) (fun c68 => ?_)
        · skip
          have g0 : go_c b6 b42 b65 = 0 := Classical.byContradiction (fun q9 => c68 (gn q9))
          rw [g0] at gO
          have p0 : cm_in x P := Classical.byContradiction (fun q9 => by have := n6 q9; unfold go_c at g0; rw [if_pos this] at g0; exact absurd g0 (by decide))
          have p1 : (nI 0 ≤ f ∧ f ≤ nI 23) ∧ (f ≤ t ∧ t ≤ nI 23) ∧ (nI 1 ≤ w ∧ w ≤ nI 100) := Classical.byContradiction (fun q9 => by have := n42 q9; unfold go_c at g0; rw [if_neg (by rw [y6 p0]; decide), if_pos this] at g0; exact absurd g0 (by decide))
          have p2 : cm_in x P ∧ (∃ i, x = nI i ∧ i < P ∧ d i 7 < 3) := Classical.byContradiction (fun q9 => by have := n65 q9; unfold go_c at g0; rw [if_neg (by rw [y6 p0]; decide), if_neg (by rw [y42 p1]; decide), if_pos this] at g0; exact absurd g0 (by decide))
          have gO3 := gO
          unfold cm_O at gO3
          obtain ⟨i, hi, rfl⟩ := p0
          obtain ⟨fa, _, hfa, rfl⟩ := cm_rng p1.1 (by decide) (by decide)
          obtain ⟨ta, hft, hta, rfl⟩ := cm_rng p1.2.1 (by omega) (by decide)
          obtain ⟨pa, hpa1, hpa, rfl⟩ := cm_rng p1.2.2 (by decide) (by decide)
          obtain ⟨f0, f1, f2, f3, f4, f5, f6, f7, f8, f9, f10, f11, f12, f13, f14, f15, hh0, hh1, hh2, hh3, hh4, hh5, hh6, hh7, hh8, hh9, hh10, hh11, hh12, hh13, hh14, hh15, hp, hu⟩ := id gD
          have h3 : d i 7 < 3 := by obtain ⟨_, i8, h8a, h8b, h8c⟩ := p2; have h8 := (nI_eq (by omega) (by omega)).mp h8a; subst h8; exact h8c
          have hrr := hR.2.2.2.1 i hi
          have hp7 := (hp i hi).2.2.2.2.2.2.2.1
          refine vg_aload_n X dX7_slow_73 0 rfl rfl ?_
          refine vg_get X in_X7_slow_X7 29 gO3 rfl 11 (by decide) ml_X7_slow_35 rfl rfl dX7_slow_74 ?_
          refine vg_iconst X (nI 3) dX7_slow_77 (by decide) ?_
          refine vg_iload_n X dX7_slow_78 1 rfl rfl ?_
          refine vg_imul X (nI (3 * i)) dX7_slow_79 (pk_mul _ _) ?_
          refine vg_aload_n X dX7_slow_80 0 rfl rfl ?_
          refine vg_get X in_X7_slow_X7 29 gO3 rfl 10 (by decide) ml_X7_slow_32 rfl rfl dX7_slow_81 ?_
          refine vg_iload_n X dX7_slow_84 1 rfl rfl ?_
          refine vg_iald X (nI (d i 7)) 37 hh7 rfl (by omega) (by decide) hp7 dX7_slow_85 ?_
          refine vg_iadd X (nI (3 * i + d i 7)) dX7_slow_86 (nI_add _ _) ?_
          refine vg_iload_n X dX7_slow_87 2 rfl rfl ?_
          refine vg_iast X 38 hh8 rfl (by omega) (by decide) dX7_slow_88 (fun wz4 ez5 => ?_)
          have fh6 : wz4[38]? = some ((aa 8), .inl (ay 0, 450, .inl (upd f8 (3 * i + d i 7) (nI fa)))) := vg_se ez5 hh8
          refine vg_aload_n X dX7_slow_89 0 rfl rfl ?_
          have fh7 : wz4[29]? = some (am, .inr (10, [.int (nI 0), .int (nI n), .int (nI P), .ref (aa 0), .ref (aa 1), .ref (aa 2), .ref (aa 3), .ref (aa 4), .ref (aa 5), .ref (aa 6), .ref (aa 7), .ref (aa 8), .ref (aa 9), .ref (aa 10), .int (nI U), .ref (aa 11), .ref (aa 12), .ref (aa 13), .ref (aa 14), .ref (aa 15), .ref (aa 16), .ref (aa 17), .ref (aa 18), .ref (aa 19), .ref (aa 20), .ref (aa 21), .ref (aa 22), .ref (aa 23), .int (nI wl), .ref (aa 24)])) := (vg_sn ez5 (by decide)).trans (gO3)
          refine vg_get X in_X7_slow_X7 29 fh7 rfl 12 (by decide) ml_X7_slow_38 rfl rfl dX7_slow_90 ?_
          refine vg_iconst X (nI 3) dX7_slow_93 (by decide) ?_
          refine vg_iload_n X dX7_slow_94 1 rfl rfl ?_
          refine vg_imul X (nI (3 * i)) dX7_slow_95 (pk_mul _ _) ?_
          refine vg_aload_n X dX7_slow_96 0 rfl rfl ?_
          refine vg_get X in_X7_slow_X7 29 fh7 rfl 10 (by decide) ml_X7_slow_32 rfl rfl dX7_slow_97 ?_
          refine vg_iload_n X dX7_slow_100 1 rfl rfl ?_
          have fh8 : wz4[37]? = some ((aa 7), .inl (ay 0, 150, .inl f7)) := (vg_sn ez5 (by decide)).trans (hh7)
          refine vg_iald X (nI (d i 7)) 37 fh8 rfl (by omega) (by decide) hp7 dX7_slow_101 ?_
          refine vg_iadd X (nI (3 * i + d i 7)) dX7_slow_102 (nI_add _ _) ?_
          refine vg_iload_n X dX7_slow_103 3 rfl rfl ?_
          have fh9 : wz4[39]? = some ((aa 9), .inl (ay 0, 450, .inl f9)) := (vg_sn ez5 (by decide)).trans (hh9)
          refine vg_iast X 39 fh9 rfl (by omega) (by decide) dX7_slow_104 (fun wz10 ez11 => ?_)
          have fh12 : wz10[39]? = some ((aa 9), .inl (ay 0, 450, .inl (upd f9 (3 * i + d i 7) (nI ta)))) := vg_se ez11 fh9
          refine vg_aload_n X dX7_slow_105 0 rfl rfl ?_
          have fh13 : wz10[29]? = some (am, .inr (10, [.int (nI 0), .int (nI n), .int (nI P), .ref (aa 0), .ref (aa 1), .ref (aa 2), .ref (aa 3), .ref (aa 4), .ref (aa 5), .ref (aa 6), .ref (aa 7), .ref (aa 8), .ref (aa 9), .ref (aa 10), .int (nI U), .ref (aa 11), .ref (aa 12), .ref (aa 13), .ref (aa 14), .ref (aa 15), .ref (aa 16), .ref (aa 17), .ref (aa 18), .ref (aa 19), .ref (aa 20), .ref (aa 21), .ref (aa 22), .ref (aa 23), .int (nI wl), .ref (aa 24)])) := (vg_sn ez11 (by decide)).trans (fh7)
          refine vg_get X in_X7_slow_X7 29 fh13 rfl 13 (by decide) ml_X7_slow_41 rfl rfl dX7_slow_106 ?_
          refine vg_iconst X (nI 3) dX7_slow_109 (by decide) ?_
          refine vg_iload_n X dX7_slow_110 1 rfl rfl ?_
          refine vg_imul X (nI (3 * i)) dX7_slow_111 (pk_mul _ _) ?_
          refine vg_aload_n X dX7_slow_112 0 rfl rfl ?_
          refine vg_get X in_X7_slow_X7 29 fh13 rfl 10 (by decide) ml_X7_slow_32 rfl rfl dX7_slow_113 ?_
          refine vg_iload_n X dX7_slow_116 1 rfl rfl ?_
          have fh14 : wz10[37]? = some ((aa 7), .inl (ay 0, 150, .inl f7)) := (vg_sn ez11 (by decide)).trans (fh8)
          refine vg_iald X (nI (d i 7)) 37 fh14 rfl (by omega) (by decide) hp7 dX7_slow_117 ?_
          refine vg_iadd X (nI (3 * i + d i 7)) dX7_slow_118 (nI_add _ _) ?_
          refine vg_iload X dX7_slow_119 4 rfl ?_
          have fh15 : wz10[40]? = some ((aa 10), .inl (ay 0, 450, .inl f10)) := (vg_sn ez11 (by decide)).trans ((vg_sn ez5 (by decide)).trans (hh10))
          refine vg_iast X 40 fh15 rfl (by omega) (by decide) dX7_slow_121 (fun wz16 ez17 => ?_)
          have fh18 : wz16[40]? = some ((aa 10), .inl (ay 0, 450, .inl (upd f10 (3 * i + d i 7) (nI pa)))) := vg_se ez17 fh15
          refine vg_aload_n X dX7_slow_122 0 rfl rfl ?_
          have fh19 : wz16[29]? = some (am, .inr (10, [.int (nI 0), .int (nI n), .int (nI P), .ref (aa 0), .ref (aa 1), .ref (aa 2), .ref (aa 3), .ref (aa 4), .ref (aa 5), .ref (aa 6), .ref (aa 7), .ref (aa 8), .ref (aa 9), .ref (aa 10), .int (nI U), .ref (aa 11), .ref (aa 12), .ref (aa 13), .ref (aa 14), .ref (aa 15), .ref (aa 16), .ref (aa 17), .ref (aa 18), .ref (aa 19), .ref (aa 20), .ref (aa 21), .ref (aa 22), .ref (aa 23), .int (nI wl), .ref (aa 24)])) := (vg_sn ez17 (by decide)).trans (fh13)
          refine vg_get X in_X7_slow_X7 29 fh19 rfl 10 (by decide) ml_X7_slow_32 rfl rfl dX7_slow_123 ?_
          refine vg_iload_n X dX7_slow_126 1 rfl rfl ?_
          refine vg_dup2 X dX7_slow_127 rfl rfl ?_
          have fh20 : wz16[37]? = some ((aa 7), .inl (ay 0, 150, .inl f7)) := (vg_sn ez17 (by decide)).trans (fh14)
          refine vg_iald X (nI (d i 7)) 37 fh20 rfl (by omega) (by decide) hp7 dX7_slow_128 ?_
          refine vg_iconst X (nI 1) dX7_slow_129 (by decide) ?_
          refine vg_iadd X (nI ((d i 7) + 1)) dX7_slow_130 (nI_add _ _) ?_
          refine vg_iast X 37 fh20 rfl (by omega) (by decide) dX7_slow_131 (fun wz21 ez22 => ?_)
          have fh23 : wz21[37]? = some ((aa 7), .inl (ay 0, 150, .inl (upd f7 i (nI ((d i 7) + 1))))) := vg_se ez22 fh20
          refine vg_aload_n X dX7_slow_132 0 rfl rfl ?_
          have fh24 : wz21[30]? = some ((aa 0), .inl (ay 0, 150, .inl f0)) := (vg_sn ez22 (by decide)).trans ((vg_sn ez17 (by decide)).trans ((vg_sn ez11 (by decide)).trans ((vg_sn ez5 (by decide)).trans (hh0))))
          have fh25 : wz21[31]? = some ((aa 1), .inl (ay 0, 150, .inl f1)) := (vg_sn ez22 (by decide)).trans ((vg_sn ez17 (by decide)).trans ((vg_sn ez11 (by decide)).trans ((vg_sn ez5 (by decide)).trans (hh1))))
          have fh26 : wz21[32]? = some ((aa 2), .inl (ay 0, 150, .inl f2)) := (vg_sn ez22 (by decide)).trans ((vg_sn ez17 (by decide)).trans ((vg_sn ez11 (by decide)).trans ((vg_sn ez5 (by decide)).trans (hh2))))
          have fh27 : wz21[33]? = some ((aa 3), .inl (ay 0, 150, .inl f3)) := (vg_sn ez22 (by decide)).trans ((vg_sn ez17 (by decide)).trans ((vg_sn ez11 (by decide)).trans ((vg_sn ez5 (by decide)).trans (hh3))))
          have fh28 : wz21[34]? = some ((aa 4), .inl (ay 0, 150, .inl f4)) := (vg_sn ez22 (by decide)).trans ((vg_sn ez17 (by decide)).trans ((vg_sn ez11 (by decide)).trans ((vg_sn ez5 (by decide)).trans (hh4))))
          have fh29 : wz21[35]? = some ((aa 5), .inl (ay 0, 150, .inl f5)) := (vg_sn ez22 (by decide)).trans ((vg_sn ez17 (by decide)).trans ((vg_sn ez11 (by decide)).trans ((vg_sn ez5 (by decide)).trans (hh5))))
          have fh30 : wz21[36]? = some ((aa 6), .inl (ay 2, 150, .inl f6)) := (vg_sn ez22 (by decide)).trans ((vg_sn ez17 (by decide)).trans ((vg_sn ez11 (by decide)).trans ((vg_sn ez5 (by decide)).trans (hh6))))
          have fh31 : wz21[38]? = some ((aa 8), .inl (ay 0, 450, .inl (upd f8 (3 * i + d i 7) (nI fa)))) := (vg_sn ez22 (by decide)).trans ((vg_sn ez17 (by decide)).trans ((vg_sn ez11 (by decide)).trans (fh6)))
          have fh32 : wz21[39]? = some ((aa 9), .inl (ay 0, 450, .inl (upd f9 (3 * i + d i 7) (nI ta)))) := (vg_sn ez22 (by decide)).trans ((vg_sn ez17 (by decide)).trans (fh12))
          have fh33 : wz21[40]? = some ((aa 10), .inl (ay 0, 450, .inl (upd f10 (3 * i + d i 7) (nI pa)))) := (vg_sn ez22 (by decide)).trans (fh18)
          have fh34 : wz21[41]? = some ((aa 11), .inl (ay 0, 12, .inl f11)) := (vg_sn ez22 (by decide)).trans ((vg_sn ez17 (by decide)).trans ((vg_sn ez11 (by decide)).trans ((vg_sn ez5 (by decide)).trans (hh11))))
          have fh35 : wz21[42]? = some ((aa 12), .inl (ay 0, 12, .inl f12)) := (vg_sn ez22 (by decide)).trans ((vg_sn ez17 (by decide)).trans ((vg_sn ez11 (by decide)).trans ((vg_sn ez5 (by decide)).trans (hh12))))
          have fh36 : wz21[43]? = some ((aa 13), .inl (ay 0, 12, .inl f13)) := (vg_sn ez22 (by decide)).trans ((vg_sn ez17 (by decide)).trans ((vg_sn ez11 (by decide)).trans ((vg_sn ez5 (by decide)).trans (hh13))))
          have fh37 : wz21[44]? = some ((aa 14), .inl (ay 0, 12, .inl f14)) := (vg_sn ez22 (by decide)).trans ((vg_sn ez17 (by decide)).trans ((vg_sn ez11 (by decide)).trans ((vg_sn ez5 (by decide)).trans (hh14))))
          have fh38 : wz21[45]? = some ((aa 15), .inl (ay 0, 12, .inl f15)) := (vg_sn ez22 (by decide)).trans ((vg_sn ez17 (by decide)).trans ((vg_sn ez11 (by decide)).trans ((vg_sn ez5 (by decide)).trans (hh15))))
          have D2 : cm_D ay wz21 aa n P U (va_up d i (va_up (d i) 7 (d i 7 + 1))) (va_up fr i (va_up (fr i) (d i 7) fa)) (va_up to i (va_up (to i) (d i 7) ta)) (va_up pe i (va_up (pe i) (d i 7) pa)) uv := ⟨f0, f1, f2, f3, f4, f5, f6, (upd f7 i (nI ((d i 7) + 1))), (upd f8 (3 * i + d i 7) (nI fa)), (upd f9 (3 * i + d i 7) (nI ta)), (upd f10 (3 * i + d i 7) (nI pa)), f11, f12, f13, f14, f15, fh24, fh25, fh26, fh27, fh28, fh29, fh30, fh23, fh31, fh32, fh33, fh34, fh35, fh36, fh37, fh38, fun i2 hi2 => by
      by_cases q9 : i2 = i
      · subst q9; obtain ⟨a0, a1, a2, a3, a4, a5, a6, a7, a8⟩ := hp i2 hi2; rw [va_up_self, va_up_self, va_up_self, va_up_self, va_up_self, pk_us]
        refine ⟨a0, a1, a2, a3, a4, a5, a6, rfl, fun r hr => ?_⟩
        have hr : r < d i2 7 + 1 := hr
        by_cases q8 : r = d i2 7
        · subst q8; rw [pk_us, pk_us, pk_us, va_up_self, va_up_self, va_up_self]; exact ⟨rfl, rfl, rfl⟩
        · rw [pk_un (by omega), pk_un (by omega), pk_un (by omega), va_up_ne _ _ q8, va_up_ne _ _ q8, va_up_ne _ _ q8]; exact a8 r (by omega)
      · rw [va_up_ne _ _ q9, va_up_ne _ _ q9, va_up_ne _ _ q9, va_up_ne _ _ q9, pk_un q9]
        obtain ⟨a0, a1, a2, a3, a4, a5, a6, a7, a8⟩ := hp i2 hi2
        have h37 := (hR.2.2.2.1 i2 hi2).1.2.2.2.2.2.2.2.2.1
        refine ⟨a0, a1, a2, a3, a4, a5, a6, a7, fun r hr => ?_⟩
        rw [pk_un (by omega), pk_un (by omega), pk_un (by omega)]; exact a8 r hr, hu⟩
          have R2 : cm_R n P U (va_up d i (va_up (d i) 7 (d i 7 + 1))) (va_up fr i (va_up (fr i) (d i 7) fa)) (va_up to i (va_up (to i) (d i 7) ta)) (va_up pe i (va_up (pe i) (d i 7) pa)) uv := cm_R_dr hR hi (cp_R7 hrr.1 h3 hfa hta hpa1 hpa) rfl rfl
          have fh39 : wz21[29]? = some (am, .inr (10, [.int (nI 0), .int (nI n), .int (nI P), .ref (aa 0), .ref (aa 1), .ref (aa 2), .ref (aa 3), .ref (aa 4), .ref (aa 5), .ref (aa 6), .ref (aa 7), .ref (aa 8), .ref (aa 9), .ref (aa 10), .int (nI U), .ref (aa 11), .ref (aa 12), .ref (aa 13), .ref (aa 14), .ref (aa 15), .ref (aa 16), .ref (aa 17), .ref (aa 18), .ref (aa 19), .ref (aa 20), .ref (aa 21), .ref (aa 22), .ref (aa 23), .int (nI wl), .ref (aa 24)])) := (vg_sn ez22 (by decide)).trans (fh19)
          have T2 : cm_T ay wz21 aa n ku ks kt sk := cm_T_fr gT (fun q h1 h2 => ((vg_sn (j := q) ez22 (by omega)).trans ((vg_sn (j := q) ez17 (by omega)).trans ((vg_sn (j := q) ez11 (by omega)).trans (vg_sn (j := q) ez5 (by omega))))))
          have O2 : cm_O wz21 am aa (nI 0) n P U (nI wl) := fh39
          refine vg_calli (vg_runV X (c_X7_redo l O2 D2 R2 T2 hK (((vg_sn (j := 51) ez22 (by decide)).trans ((vg_sn (j := 51) ez17 (by decide)).trans ((vg_sn (j := 51) ez11 (by decide)).trans (vg_sn (j := 51) ez5 (by decide))))).trans g51)) (cwV 0 X.2.2.2.2.1 gX7_slow_X7_redo rfl rfl rfl (by decide +kernel) ⟨Nat.le_of_ble_eq_true rfl, Nat.le_of_ble_eq_true rfl⟩) 29 fh39 rfl rfl rfl (Nat.le_of_ble_eq_true rfl) dX7_slow_133 ⟨Nat.zero_le _, Nat.zero_le _⟩) (fun rr42 wz40 PP41 => ?_)
          obtain ⟨hr9, T3, ⟨fl3, h51z⟩, fr3⟩ := PP41
          have e3 : ∀ q, q ≠ 50 → q ≠ 51 → wz40[q]? = wz21[q]? := fun q h1 h2 => fr3.2 q (by simp only [List.mem_cons, List.not_mem_nil, or_false]; omega)
          exact vg_iret X rfl (Or.inr (Or.inr (Or.inr (⟨i, fa, ta, pa, rfl, hi, rfl, hfa, rfl, hft, hta, rfl, hpa1, hpa, h3, ⟨fl3, _, _, _, (e3 29 (by decide) (by decide)).trans O2, cm_D_fr D2 (fun q h1 h2 => e3 q (by omega) (by omega)), T3, h51z, (e3 52 (by decide) (by decide)).trans (((vg_sn (j := 52) ez22 (by decide)).trans ((vg_sn (j := 52) ez17 (by decide)).trans ((vg_sn (j := 52) ez11 (by decide)).trans (vg_sn (j := 52) ez5 (by decide))))).trans g52), (e3 53 (by decide) (by decide)).trans (((vg_sn (j := 53) ez22 (by decide)).trans ((vg_sn (j := 53) ez17 (by decide)).trans ((vg_sn (j := 53) ez11 (by decide)).trans (vg_sn (j := 53) ez5 (by decide))))).trans g53), (e3 54 (by decide) (by decide)).trans (((vg_sn (j := 54) ez22 (by decide)).trans ((vg_sn (j := 54) ez17 (by decide)).trans ((vg_sn (j := 54) ez11 (by decide)).trans (vg_sn (j := 54) ez5 (by decide))))).trans g54), hwl, hwp⟩, cm_fr_tr gF (cm_fr_tr (cm_fr_of (vg_fr_set (vg_fr_set (vg_fr_set (vg_fr_set (vg_fr_rf _ [37, 38, 39, 40]) ez5 (by decide)) ez11 (by decide)) ez17 (by decide)) ez22 (by decide)) (by decide)) (cm_fr_of fr3 (by decide))), hr9⟩)))) (Nat.le_refl _) (Nat.le_refl _) dX7_slow_136
        · skip
          have ng : go_c b6 b42 b65 ≠ 0 := fun q9 => by have := gy q9; rw [c68] at this; exact absurd this (by decide)
          by_cases p0 : cm_in x P
          · skip
            by_cases p1 : (nI 0 ≤ f ∧ f ≤ nI 23) ∧ (f ≤ t ∧ t ≤ nI 23) ∧ (nI 1 ≤ w ∧ w ≤ nI 100)
            · skip
              by_cases p2 : cm_in x P ∧ (∃ i, x = nI i ∧ i < P ∧ d i 7 < 3)
              · skip
                exact absurd (by unfold go_c; rw [if_neg (by rw [y6 p0]; decide), if_neg (by rw [y42 p1]; decide), if_neg (by rw [y65 p2]; decide)]) ng
              · skip
                have g9 : go_c b6 b42 b65 = 3 := by unfold go_c; rw [if_neg (by rw [y6 p0]; decide), if_neg (by rw [y42 p1]; decide), if_pos (n65 p2)]
                rw [g9] at gO
                refine vg_iconst X (nI 0) dX7_slow_71 (by decide) ?_
                exact vg_iret X rfl (Or.inr (Or.inr (Or.inl ⟨p0, p1, p2, ⟨_, _, _, _, gO, gD, gT, g51, g52, g53, g54, hwl, hwp⟩, gF⟩))) (Nat.le_refl _) (Nat.le_refl _) dX7_slow_72
            · skip
              have g9 : go_c b6 b42 b65 = 2 := by unfold go_c; rw [if_neg (by rw [y6 p0]; decide), if_pos (n42 p1)]
              rw [g9] at gO
              refine vg_iconst X (nI 0) dX7_slow_71 (by decide) ?_
              exact vg_iret X rfl (Or.inr (Or.inl ⟨p0, p1, ⟨_, _, _, _, gO, gD, gT, g51, g52, g53, g54, hwl, hwp⟩, gF⟩)) (Nat.le_refl _) (Nat.le_refl _) dX7_slow_72
          · skip
            have g9 : go_c b6 b42 b65 = 1 := by unfold go_c; rw [if_pos (n6 p0)]
            rw [g9] at gO
            refine vg_iconst X (nI 0) dX7_slow_71 (by decide) ?_
            exact vg_iret X rfl (Or.inl ⟨p0, ⟨_, _, _, _, gO, gD, gT, g51, g52, g53, g54, hwl, hwp⟩, gF⟩) (Nat.le_refl _) (Nat.le_refl _) dX7_slow_72
      refine vg_aload_n X dX7_slow_42 0 rfl rfl ?_
      refine vg_iload_n X dX7_slow_43 1 rfl rfl ?_
      refine vg_calli (vg_runV X (c_X7_isPiece l hO (k := x) (by omega)) (cwV 1 X.2.2.2.2.1 gX7_slow_X7_isPiece rfl rfl rfl (by decide +kernel) ⟨Nat.le_of_ble_eq_true rfl, Nat.le_of_ble_eq_true rfl⟩) 29 hO3 rfl rfl rfl (Nat.le_of_ble_eq_true rfl) dX7_slow_44 ⟨Nat.zero_le _, Nat.zero_le _⟩) (fun rr45 wz43 PP44 => ?_)
      obtain ⟨hw9, yrr45, nrr45⟩ := PP44
      rw [hw9]
      skip
      refine vg_if_eq X 64 dX7_slow_47 (by decide) (fun c47 => ?_) (fun c47 => ?_)
      · have k47 : ¬ (cm_in x P) := fun q9 => by have := yrr45 q9; rw [c47] at this; exact absurd this (by decide)
        refine vg_iconst X (nI 0) dX7_slow_64 (by decide) ?_
        exact j65 _ (fun q9 => absurd (q9.1) k47) (fun _ => by decide)
      · have k47 : cm_in x P := Classical.byContradiction (fun q9 => c47 (nrr45 q9))
        obtain ⟨i9, hi9, ei9⟩ := id k47
        have hr9 := (hR.2.2.2.1 i9 hi9).1
        refine vg_aload_n X dX7_slow_50 0 rfl rfl ?_
        refine vg_get X in_X7_slow_X7 29 hO3 rfl 10 (by decide) ml_X7_slow_32 rfl rfl dX7_slow_51 ?_
        refine vg_iload_n X dX7_slow_54 1 rfl rfl ?_
        refine vg_same rfl (st2 := [.int (nI i9), .ref (aa 7), .int b42, .int b6, .ref am]) (by rw [ei9]) ?_
        refine vg_iald X (nI (d i9 7)) 37 hh7 rfl (by omega) (by decide) (hp0 i9 hi9).2.2.2.2.2.2.2.1 dX7_slow_55 ?_
        refine vg_iconst X (nI 3) dX7_slow_56 (by decide) ?_
        refine vg_icmp_ge X 64 dX7_slow_57 (by decide) (fun c57 => ?_) (fun c57 => ?_)
        · have c57 : 3 ≤ d i9 7 := (nI_leI (by decide) (by have := hr9.2.2.2.2.2.2.2.2.1; omega)).mp c57
          have k57 : ¬ (∃ i, x = nI i ∧ i < P ∧ d i 7 < 3) := fun ⟨i8, h8a, h8b, h8c⟩ => by have h8 := (nI_eq (by omega) (by omega)).mp (ei9.symm.trans h8a); subst h8; omega
          refine vg_iconst X (nI 0) dX7_slow_64 (by decide) ?_
          exact j65 _ (fun q9 => absurd (q9.2) k57) (fun _ => by decide)
        · have c57 : ¬ 3 ≤ d i9 7 := fun z => c57 ((nI_leI (by decide) (by have := hr9.2.2.2.2.2.2.2.2.1; omega)).mpr z)
          have k57 : ∃ i, x = nI i ∧ i < P ∧ d i 7 < 3 := ⟨i9, ei9, hi9, by omega⟩
          refine vg_iconst X (nI 1) dX7_slow_60 (by decide) ?_
          refine vg_goto X 65 dX7_slow_61 (by decide) ?_
          exact j65 _ (fun _ => by decide) (fun q9 => absurd (show cm_in x P ∧ (∃ i, x = nI i ∧ i < P ∧ d i 7 < 3) from ⟨by assumption, by assumption⟩) q9)
    refine vg_iload_n X dX7_slow_6 2 rfl rfl ?_
    refine vg_iconst X (nI 0) dX7_slow_7 (by decide) ?_
    refine vg_bipush X (nI 23) dX7_slow_8 (by decide) ?_
    refine vg_calli (vg_runS X (c_X7_in l (x := f) (a := nI 0) (b := nI 23)) (va_cwS 3 X.2.2.2.2.1 gX7_slow_X7_in rfl rfl rfl (by decide +kernel) ⟨Nat.le_of_ble_eq_true rfl, Nat.le_of_ble_eq_true rfl⟩) rfl rfl (Nat.le_of_ble_eq_true rfl) dX7_slow_10 ⟨Nat.zero_le _, Nat.zero_le _⟩) (fun rr48 wz46 PP47 => ?_)
    obtain ⟨hw9, yrr48, nrr48⟩ := PP47
    rw [hw9]
    skip
    refine vg_if_eq X 41 dX7_slow_13 (by decide) (fun c13 => ?_) (fun c13 => ?_)
    · have k13 : ¬ ((nI 0) ≤ f ∧ f ≤ (nI 23)) := fun q9 => by have := yrr48 q9; rw [c13] at this; exact absurd this (by decide)
      refine vg_iconst X (nI 0) dX7_slow_41 (by decide) ?_
      exact j42 _ (fun q9 => absurd (q9.1) k13) (fun _ => by decide)
    · have k13 : (nI 0) ≤ f ∧ f ≤ (nI 23) := Classical.byContradiction (fun q9 => c13 (nrr48 q9))
      refine vg_iload_n X dX7_slow_16 3 rfl rfl ?_
      refine vg_iload_n X dX7_slow_17 2 rfl rfl ?_
      refine vg_bipush X (nI 23) dX7_slow_18 (by decide) ?_
      refine vg_calli (vg_runS X (c_X7_in l (x := t) (a := f) (b := nI 23)) (va_cwS 3 X.2.2.2.2.1 gX7_slow_X7_in rfl rfl rfl (by decide +kernel) ⟨Nat.le_of_ble_eq_true rfl, Nat.le_of_ble_eq_true rfl⟩) rfl rfl (Nat.le_of_ble_eq_true rfl) dX7_slow_20 ⟨Nat.zero_le _, Nat.zero_le _⟩) (fun rr51 wz49 PP50 => ?_)
      obtain ⟨hw9, yrr51, nrr51⟩ := PP50
      rw [hw9]
      skip
      refine vg_if_eq X 41 dX7_slow_23 (by decide) (fun c23 => ?_) (fun c23 => ?_)
      · have k23 : ¬ (f ≤ t ∧ t ≤ (nI 23)) := fun q9 => by have := yrr51 q9; rw [c23] at this; exact absurd this (by decide)
        refine vg_iconst X (nI 0) dX7_slow_41 (by decide) ?_
        exact j42 _ (fun q9 => absurd (q9.2.1) k23) (fun _ => by decide)
      · have k23 : f ≤ t ∧ t ≤ (nI 23) := Classical.byContradiction (fun q9 => c23 (nrr51 q9))
        refine vg_iload X dX7_slow_26 4 rfl ?_
        refine vg_iconst X (nI 1) dX7_slow_28 (by decide) ?_
        refine vg_bipush X (nI 100) dX7_slow_29 (by decide) ?_
        refine vg_calli (vg_runS X (c_X7_in l (x := w) (a := nI 1) (b := nI 100)) (va_cwS 3 X.2.2.2.2.1 gX7_slow_X7_in rfl rfl rfl (by decide +kernel) ⟨Nat.le_of_ble_eq_true rfl, Nat.le_of_ble_eq_true rfl⟩) rfl rfl (Nat.le_of_ble_eq_true rfl) dX7_slow_31 ⟨Nat.zero_le _, Nat.zero_le _⟩) (fun rr54 wz52 PP53 => ?_)
        obtain ⟨hw9, yrr54, nrr54⟩ := PP53
        rw [hw9]
        skip
        refine vg_if_eq X 41 dX7_slow_34 (by decide) (fun c34 => ?_) (fun c34 => ?_)
        · have k34 : ¬ ((nI 1) ≤ w ∧ w ≤ (nI 100)) := fun q9 => by have := yrr54 q9; rw [c34] at this; exact absurd this (by decide)
          refine vg_iconst X (nI 0) dX7_slow_41 (by decide) ?_
          exact j42 _ (fun q9 => absurd (q9.2.2) k34) (fun _ => by decide)
        · have k34 : (nI 1) ≤ w ∧ w ≤ (nI 100) := Classical.byContradiction (fun q9 => c34 (nrr54 q9))
          refine vg_iconst X (nI 1) dX7_slow_37 (by decide) ?_
          refine vg_goto X 42 dX7_slow_38 (by decide) ?_
          exact j42 _ (fun _ => by decide) (fun q9 => absurd (show (nI 0 ≤ f ∧ f ≤ nI 23) ∧ (f ≤ t ∧ t ≤ nI 23) ∧ (nI 1 ≤ w ∧ w ≤ nI 100) from ⟨by assumption, by assumption, by assumption⟩) q9)
  refine vg_aload_n X dX7_slow_0 0 rfl rfl ?_
  refine vg_aload_n X dX7_slow_1 0 rfl rfl ?_
  refine vg_iload_n X dX7_slow_2 1 rfl rfl ?_
  refine vg_calli (vg_runV X (c_X7_isPiece l hO (k := x) (by omega)) (cwV 1 X.2.2.2.2.1 gX7_slow_X7_isPiece rfl rfl rfl (by decide +kernel) ⟨Nat.le_of_ble_eq_true rfl, Nat.le_of_ble_eq_true rfl⟩) 29 hO3 rfl rfl rfl (Nat.le_of_ble_eq_true rfl) dX7_slow_3 ⟨Nat.zero_le _, Nat.zero_le _⟩) (fun rr57 wz55 PP56 => ?_)
  obtain ⟨hw9, yrr57, nrr57⟩ := PP56
  rw [hw9]
  exact j6 _ yrr57 nrr57
