/-- a new piece's numbers, a new unit's numbers -/
def cp_new (a b m s : Nat) : Nat → Nat := fun k => if k = 0 then a else if k = 1 then b else if k = 2 then m else if k = 3 then s else 0
def cu_new (v w h p q : Nat) : Nat → Nat := fun k => if k = 0 then w else if k = 1 then h else if k = 2 then p else if k = 3 then q else if k = 4 then v else 0
theorem cm_R_p {n P U : Nat} {d fr to pe uv : Nat → Nat → Nat} {a b m s : Nat} (h : cm_R n P U d fr to pe uv) (hP : P < 150) (ha : a < n) (hb : b < n) (hab : a ≠ b) (h1 : 1 ≤ m) (hm : m ≤ 60000) (hs : s ≤ 200) : cm_R n (P + 1) U (va_up d P (cp_new a b m s)) fr to pe uv := by
  obtain ⟨a1, a2, a3, a4, a5⟩ := h
  refine ⟨a1, by omega, a3, fun j hj => ?_, a5⟩
  by_cases e : j = P
  · subst e; rw [va_up_self]; exact ⟨⟨show a < 200 by omega, show b < 200 by omega, h1, hm, hs, Nat.zero_le _, Nat.zero_le _, Nat.zero_le _, Nat.zero_le _, fun r hr => absurd hr (Nat.not_lt_zero r)⟩, ha, hb, hab⟩
  · rw [va_up_ne _ _ e]; exact a4 j (by omega)
theorem cm_R_u {n P U : Nat} {d fr to pe uv : Nat → Nat → Nat} {v w hh p q : Nat} (h : cm_R n P U d fr to pe uv) (hU : U < 12) (hv : v < n) (hw : w ≤ 1000) (h2 : hh ≤ 1000) (h3 : 1 ≤ p) (h4 : p ≤ 20) (h5 : 1 ≤ q) (h6 : q ≤ 20) : cm_R n P (U + 1) d fr to pe (va_up uv U (cu_new v w hh p q)) := by
  obtain ⟨a1, a2, a3, a4, a5⟩ := h
  refine ⟨a1, a2, by omega, a4, fun j hj => ?_⟩
  by_cases e : j = U
  · subst e; rw [va_up_self]; exact ⟨⟨hw, h2, h3, h4, h5, h6, show v < 200 by omega⟩, hv⟩
  · rw [va_up_ne _ _ e]; exact a5 j (by omega)
theorem in_X7_piece_X7 : ∀ w ∈ u_ws RX7 TX7 30, w ∈ wsX7_piece := by decide +kernel
theorem ml_X7_piece_7 : Cond.fieldLink RX7 7 "WayTimesModel" "first" "[I" ∈ wsX7_piece := by decide +kernel
theorem ml_X7_piece_94 : Cond.fieldLink RX7 94 "WayTimesModel" "pieces" "I" ∈ wsX7_piece := by decide +kernel
theorem ml_X7_piece_13 : Cond.fieldLink RX7 13 "WayTimesModel" "second" "[I" ∈ wsX7_piece := by decide +kernel
theorem ml_X7_piece_16 : Cond.fieldLink RX7 16 "WayTimesModel" "metres" "[I" ∈ wsX7_piece := by decide +kernel
theorem ml_X7_piece_19 : Cond.fieldLink RX7 19 "WayTimesModel" "speed" "[I" ∈ wsX7_piece := by decide +kernel
theorem ml_X7_piece_22 : Cond.fieldLink RX7 22 "WayTimesModel" "weight" "[I" ∈ wsX7_piece := by decide +kernel
theorem ml_X7_piece_25 : Cond.fieldLink RX7 25 "WayTimesModel" "height" "[I" ∈ wsX7_piece := by decide +kernel
theorem ml_X7_piece_28 : Cond.fieldLink RX7 28 "WayTimesModel" "closed" "[Z" ∈ wsX7_piece := by decide +kernel
theorem ml_X7_piece_32 : Cond.fieldLink RX7 32 "WayTimesModel" "rows" "[I" ∈ wsX7_piece := by decide +kernel
theorem mk_X7_piece_131 : Jvm.Cond.constant RX7 131 (nI 60000) ∈ wsX7_piece := by decide +kernel
theorem in_X7_unit_X7 : ∀ w ∈ u_ws RX7 TX7 30, w ∈ wsX7_unit := by decide +kernel
theorem ml_X7_unit_44 : Cond.fieldLink RX7 44 "WayTimesModel" "at" "[I" ∈ wsX7_unit := by decide +kernel
theorem ml_X7_unit_97 : Cond.fieldLink RX7 97 "WayTimesModel" "units" "I" ∈ wsX7_unit := by decide +kernel
theorem ml_X7_unit_47 : Cond.fieldLink RX7 47 "WayTimesModel" "heavy" "[I" ∈ wsX7_unit := by decide +kernel
theorem ml_X7_unit_50 : Cond.fieldLink RX7 50 "WayTimesModel" "high" "[I" ∈ wsX7_unit := by decide +kernel
theorem ml_X7_unit_53 : Cond.fieldLink RX7 53 "WayTimesModel" "up" "[I" ∈ wsX7_unit := by decide +kernel
theorem ml_X7_unit_56 : Cond.fieldLink RX7 56 "WayTimesModel" "down" "[I" ∈ wsX7_unit := by decide +kernel
theorem in_X7_net_X7 : ∀ w ∈ u_ws RX7 TX7 30, w ∈ wsX7_net := by decide +kernel
theorem ml_X7_net_87 : Cond.fieldLink RX7 87 "WayTimesModel" "thrown" "I" ∈ wsX7_net := by decide +kernel
theorem ml_X7_net_91 : Cond.fieldLink RX7 91 "WayTimesModel" "nodes" "I" ∈ wsX7_net := by decide +kernel
theorem ml_X7_net_94 : Cond.fieldLink RX7 94 "WayTimesModel" "pieces" "I" ∈ wsX7_net := by decide +kernel
theorem ml_X7_net_97 : Cond.fieldLink RX7 97 "WayTimesModel" "units" "I" ∈ wsX7_net := by decide +kernel
theorem ml_X7_net_100 : Cond.fieldLink RX7 100 "WayTimesModel" "steps" "I" ∈ wsX7_net := by decide +kernel
theorem ml_X7_net_59 : Cond.fieldLink RX7 59 "WayTimesModel" "has" "[Z" ∈ wsX7_net := by decide +kernel
set_option maxHeartbeats 4000000 in
set_option maxRecDepth 100000 in
/-- piece(..) -/
theorem c_X7_piece (l : Launch) {D : va_G} {ay : Nat → ClassId} {base : Nat} {Gx : State → Prop} {ws : va_W} {am : Nat} {aa : Nat → Nat} {n P U th wl : Nat} {d fr to pe uv : Nat → Nat → Nat} {ku ks kt wp : Nat → Nat} {sk : Nat → Nat → Nat} {a b mm sp : Int32} (hS : cm_St ay ws am aa th n P U d fr to pe uv ku ks kt sk wl wp) (hR : cm_R n P U d fr to pe uv) (hK : ct_k n U ku ks kt) : Met l yX7_piece wsX7_piece ({ frames := 5, cells := 0, slots := 0, locals := 130 } : Room) (va_Pc [.ref am, .int a, .int b, .int mm, .int sp] (vg_B D ay base Gx ws)) (va_Qi (fun r u2 => (¬ (cm_in a n ∧ cm_in b n ∧ a ≠ b) ∧ cm_St ay u2 am aa 1 n P U d fr to pe uv ku ks kt sk wl wp ∧ cm_fr ws u2) ∨ ((cm_in a n ∧ cm_in b n ∧ a ≠ b) ∧ ¬ ((nI 1 ≤ mm ∧ mm ≤ nI 60000) ∧ (nI 0 ≤ sp ∧ sp ≤ nI 200)) ∧ cm_St ay u2 am aa 2 n P U d fr to pe uv ku ks kt sk wl wp ∧ cm_fr ws u2) ∨ ((cm_in a n ∧ cm_in b n ∧ a ≠ b) ∧ ((nI 1 ≤ mm ∧ mm ≤ nI 60000) ∧ (nI 0 ≤ sp ∧ sp ≤ nI 200)) ∧ ¬ (P < 150) ∧ cm_St ay u2 am aa 3 n P U d fr to pe uv ku ks kt sk wl wp ∧ cm_fr ws u2) ∨ (∃ ax bx mx sx : Nat, a = nI ax ∧ ax < n ∧ b = nI bx ∧ bx < n ∧ ax ≠ bx ∧ mm = nI mx ∧ 1 ≤ mx ∧ mx ≤ 60000 ∧ sp = nI sx ∧ sx ≤ 200 ∧ P < 150 ∧ cm_St ay u2 am aa 0 n (P + 1) U (va_up d P (cp_new ax bx mx sx)) fr to pe uv ku ks kt (ct_new (P + 1) (va_up d P (cp_new ax bx mx sx)) fr to pe uv ku ks kt) wl wp ∧ cm_fr ws u2 ∧ r = nI P)) (vg_B D ay base Gx) (vg_A base)) 0 0 (vg_A base) := by
  refine vg_met (cc := cX7_piece) (maxL := 6) (ret := (some .int)) (own := RX7) (lv := [(0, .ref am), (1, .int a), (2, .int b), (3, .int mm), (4, .int sp)]) (by decide) rfl rfl (Nat.le_of_ble_eq_true rfl) rfl ?_
  intro p e s m args below meth c X hinit
  obtain ⟨fl, fm, fn, fs, hO, hD, hT, h51, h52, h53, h54, hwl, hwp⟩ := id hS
  have nn := hR.1
  have nP := hR.2.1
  have nU := hR.2.2.1
  have eB : ma_B = 2 ^ 60 := rfl
  have hO3 := hO
  unfold cm_O at hO3
  have j27 : ∀ b9 : Int32, ((cm_in a n ∧ cm_in b n ∧ a ≠ b) → b9 = 1) → (¬ (cm_in a n ∧ cm_in b n ∧ a ≠ b) → b9 = 0) → vg_V D base p l e ({ frames := 5, cells := 0, slots := 0, locals := 130 } : Room) s m args below meth c 6 0 0 (MQ below (va_Qi (fun r u2 => (¬ (cm_in a n ∧ cm_in b n ∧ a ≠ b) ∧ cm_St ay u2 am aa 1 n P U d fr to pe uv ku ks kt sk wl wp ∧ cm_fr ws u2) ∨ ((cm_in a n ∧ cm_in b n ∧ a ≠ b) ∧ ¬ ((nI 1 ≤ mm ∧ mm ≤ nI 60000) ∧ (nI 0 ≤ sp ∧ sp ≤ nI 200)) ∧ cm_St ay u2 am aa 2 n P U d fr to pe uv ku ks kt sk wl wp ∧ cm_fr ws u2) ∨ ((cm_in a n ∧ cm_in b n ∧ a ≠ b) ∧ ((nI 1 ≤ mm ∧ mm ≤ nI 60000) ∧ (nI 0 ≤ sp ∧ sp ≤ nI 200)) ∧ ¬ (P < 150) ∧ cm_St ay u2 am aa 3 n P U d fr to pe uv ku ks kt sk wl wp ∧ cm_fr ws u2) ∨ (∃ ax bx mx sx : Nat, a = nI ax ∧ ax < n ∧ b = nI bx ∧ bx < n ∧ ax ≠ bx ∧ mm = nI mx ∧ 1 ≤ mx ∧ mx ≤ 60000 ∧ sp = nI sx ∧ sx ≤ 200 ∧ P < 150 ∧ cm_St ay u2 am aa 0 n (P + 1) U (va_up d P (cp_new ax bx mx sx)) fr to pe uv ku ks kt (ct_new (P + 1) (va_up d P (cp_new ax bx mx sx)) fr to pe uv ku ks kt) wl wp ∧ cm_fr ws u2 ∧ r = nI P)) (vg_B D ay base Gx) (vg_A base)) args s 0 0 (vg_A base)) [(0, .ref am), (1, .int a), (2, .int b), (3, .int mm), (4, .int sp)] [.int b9, .ref am] ws 27 := by
    intro b27 y27 n27
    have j54 : ∀ b9 : Int32, (((nI 1 ≤ mm ∧ mm ≤ nI 60000) ∧ (nI 0 ≤ sp ∧ sp ≤ nI 200)) → b9 = 1) → (¬ ((nI 1 ≤ mm ∧ mm ≤ nI 60000) ∧ (nI 0 ≤ sp ∧ sp ≤ nI 200)) → b9 = 0) → vg_V D base p l e ({ frames := 5, cells := 0, slots := 0, locals := 130 } : Room) s m args below meth c 6 0 0 (MQ below (va_Qi (fun r u2 => (¬ (cm_in a n ∧ cm_in b n ∧ a ≠ b) ∧ cm_St ay u2 am aa 1 n P U d fr to pe uv ku ks kt sk wl wp ∧ cm_fr ws u2) ∨ ((cm_in a n ∧ cm_in b n ∧ a ≠ b) ∧ ¬ ((nI 1 ≤ mm ∧ mm ≤ nI 60000) ∧ (nI 0 ≤ sp ∧ sp ≤ nI 200)) ∧ cm_St ay u2 am aa 2 n P U d fr to pe uv ku ks kt sk wl wp ∧ cm_fr ws u2) ∨ ((cm_in a n ∧ cm_in b n ∧ a ≠ b) ∧ ((nI 1 ≤ mm ∧ mm ≤ nI 60000) ∧ (nI 0 ≤ sp ∧ sp ≤ nI 200)) ∧ ¬ (P < 150) ∧ cm_St ay u2 am aa 3 n P U d fr to pe uv ku ks kt sk wl wp ∧ cm_fr ws u2) ∨ (∃ ax bx mx sx : Nat, a = nI ax ∧ ax < n ∧ b = nI bx ∧ bx < n ∧ ax ≠ bx ∧ mm = nI mx ∧ 1 ≤ mx ∧ mx ≤ 60000 ∧ sp = nI sx ∧ sx ≤ 200 ∧ P < 150 ∧ cm_St ay u2 am aa 0 n (P + 1) U (va_up d P (cp_new ax bx mx sx)) fr to pe uv ku ks kt (ct_new (P + 1) (va_up d P (cp_new ax bx mx sx)) fr to pe uv ku ks kt) wl wp ∧ cm_fr ws u2 ∧ r = nI P)) (vg_B D ay base Gx) (vg_A base)) args s 0 0 (vg_A base)) [(0, .ref am), (1, .int a), (2, .int b), (3, .int mm), (4, .int sp)] [.int b9, .int b27, .ref am] ws 54 := by
      intro b54 y54 n54
      have j69 : ∀ b9 : Int32, ((P < 150) → b9 = 1) → (¬ (P < 150) → b9 = 0) → vg_V D base p l e ({ frames := 5, cells := 0, slots := 0, locals := 130 } : Room) s m args below meth c 6 0 0 (MQ below (va_Qi (fun r u2 => (¬ (cm_in a n ∧ cm_in b n ∧ a ≠ b) ∧ cm_St ay u2 am aa 1 n P U d fr to pe uv ku ks kt sk wl wp ∧ cm_fr ws u2) ∨ ((cm_in a n ∧ cm_in b n ∧ a ≠ b) ∧ ¬ ((nI 1 ≤ mm ∧ mm ≤ nI 60000) ∧ (nI 0 ≤ sp ∧ sp ≤ nI 200)) ∧ cm_St ay u2 am aa 2 n P U d fr to pe uv ku ks kt sk wl wp ∧ cm_fr ws u2) ∨ ((cm_in a n ∧ cm_in b n ∧ a ≠ b) ∧ ((nI 1 ≤ mm ∧ mm ≤ nI 60000) ∧ (nI 0 ≤ sp ∧ sp ≤ nI 200)) ∧ ¬ (P < 150) ∧ cm_St ay u2 am aa 3 n P U d fr to pe uv ku ks kt sk wl wp ∧ cm_fr ws u2) ∨ (∃ ax bx mx sx : Nat, a = nI ax ∧ ax < n ∧ b = nI bx ∧ bx < n ∧ ax ≠ bx ∧ mm = nI mx ∧ 1 ≤ mx ∧ mx ≤ 60000 ∧ sp = nI sx ∧ sx ≤ 200 ∧ P < 150 ∧ cm_St ay u2 am aa 0 n (P + 1) U (va_up d P (cp_new ax bx mx sx)) fr to pe uv ku ks kt (ct_new (P + 1) (va_up d P (cp_new ax bx mx sx)) fr to pe uv ku ks kt) wl wp ∧ cm_fr ws u2 ∧ r = nI P)) (vg_B D ay base Gx) (vg_A base)) args s 0 0 (vg_A base)) [(0, .ref am), (1, .int a), (2, .int b), (3, .int mm), (4, .int sp)] [.int b9, .int b54, .int b27, .ref am] ws 69 := by
        intro b69 y69 n69
        refine vg_calli (vg_runV X (c_X7_goes l hO (b1 := b27) (b2 := b54) (b3 := b69)) (cwV 3 X.2.2.2.2.1 gX7_piece_X7_goes rfl rfl rfl (by decide +kernel) ⟨Nat.le_of_ble_eq_true rfl, Nat.le_of_ble_eq_true rfl⟩) 29 hO3 rfl rfl rfl (Nat.le_of_ble_eq_true rfl) dX7_piece_69 ⟨Nat.zero_le _, Nat.zero_le _⟩) (fun rr3 wz1 PP2 => ?_)
        obtain ⟨gO, gfr0, gy, gn⟩ := PP2
        have e0 : ∀ q, q ≠ 29 → wz1[q]? = ws[q]? := fun q hq => gfr0.2 q (by simpa using hq)
        have gD : cm_D ay wz1 aa n P U d fr to pe uv := cm_D_fr hD (fun q h1 h2 => e0 q (by omega))
        have gT : cm_T ay wz1 aa n ku ks kt sk := cm_T_fr hT (fun q h1 h2 => e0 q (by omega))
        have gF := cm_fr_of gfr0 (by decide)
        have g51 := (e0 51 (by decide)).trans h51
        have g52 := (e0 52 (by decide)).trans h52
        have g53 := (e0 53 (by decide)).trans h53
        have g54 := (e0 54 (by decide)).trans h54
        refine vg_if_ne X 77 dX7_piece_72 (by decide) (fun c72 => ?_) (fun c72 => ?_)
        · skip
          have g0 : go_c b27 b54 b69 = 0 := Classical.byContradiction (fun q9 => c72 (gn q9))
          rw [g0] at gO
          have p0 : cm_in a n ∧ cm_in b n ∧ a ≠ b := Classical.byContradiction (fun q9 => by have := n27 q9; unfold go_c at g0; rw [if_pos this] at g0; exact absurd g0 (by decide))
          have p1 : (nI 1 ≤ mm ∧ mm ≤ nI 60000) ∧ (nI 0 ≤ sp ∧ sp ≤ nI 200) := Classical.byContradiction (fun q9 => by have := n54 q9; unfold go_c at g0; rw [if_neg (by rw [y27 p0]; decide), if_pos this] at g0; exact absurd g0 (by decide))
          have p2 : P < 150 := Classical.byContradiction (fun q9 => by have := n69 q9; unfold go_c at g0; rw [if_neg (by rw [y27 p0]; decide), if_neg (by rw [y54 p1]; decide), if_pos this] at g0; exact absurd g0 (by decide))
          have gO3 := gO
          unfold cm_O at gO3
          obtain ⟨⟨a1, ha1, rfl⟩, ⟨b1, hb1, rfl⟩, hab⟩ := p0
          have hab1 : a1 ≠ b1 := fun q9 => hab (by rw [q9])
          obtain ⟨m1, hm0, hm1, rfl⟩ := cm_rng p1.1 (by decide) (by decide)
          obtain ⟨s1, _, hs1, rfl⟩ := cm_rng p1.2 (by decide) (by decide)
          obtain ⟨f0, f1, f2, f3, f4, f5, f6, f7, f8, f9, f10, f11, f12, f13, f14, f15, hh0, hh1, hh2, hh3, hh4, hh5, hh6, hh7, hh8, hh9, hh10, hh11, hh12, hh13, hh14, hh15, hp, hu⟩ := id gD
          refine vg_aload_n X dX7_piece_77 0 rfl rfl ?_
          refine vg_get X in_X7_piece_X7 29 gO3 rfl 3 (by decide) ml_X7_piece_7 rfl rfl dX7_piece_78 ?_
          refine vg_aload_n X dX7_piece_81 0 rfl rfl ?_
          refine vg_get X in_X7_piece_X7 29 gO3 rfl 2 (by decide) ml_X7_piece_94 rfl rfl dX7_piece_82 ?_
          refine vg_iload_n X dX7_piece_85 1 rfl rfl ?_
          refine vg_iast X 30 hh0 rfl (by omega) (by decide) dX7_piece_86 (fun wz4 ez5 => ?_)
          have fh6 : wz4[30]? = some ((aa 0), .inl (ay 0, 150, .inl (upd f0 P (nI a1)))) := vg_se ez5 hh0
          refine vg_aload_n X dX7_piece_87 0 rfl rfl ?_
          have fh7 : wz4[29]? = some (am, .inr (10, [.int (nI 0), .int (nI n), .int (nI P), .ref (aa 0), .ref (aa 1), .ref (aa 2), .ref (aa 3), .ref (aa 4), .ref (aa 5), .ref (aa 6), .ref (aa 7), .ref (aa 8), .ref (aa 9), .ref (aa 10), .int (nI U), .ref (aa 11), .ref (aa 12), .ref (aa 13), .ref (aa 14), .ref (aa 15), .ref (aa 16), .ref (aa 17), .ref (aa 18), .ref (aa 19), .ref (aa 20), .ref (aa 21), .ref (aa 22), .ref (aa 23), .int (nI wl), .ref (aa 24)])) := (vg_sn ez5 (by decide)).trans (gO3)
          refine vg_get X in_X7_piece_X7 29 fh7 rfl 4 (by decide) ml_X7_piece_13 rfl rfl dX7_piece_88 ?_
          refine vg_aload_n X dX7_piece_91 0 rfl rfl ?_
          refine vg_get X in_X7_piece_X7 29 fh7 rfl 2 (by decide) ml_X7_piece_94 rfl rfl dX7_piece_92 ?_
          refine vg_iload_n X dX7_piece_95 2 rfl rfl ?_
          have fh8 : wz4[31]? = some ((aa 1), .inl (ay 0, 150, .inl f1)) := (vg_sn ez5 (by decide)).trans (hh1)
          refine vg_iast X 31 fh8 rfl (by omega) (by decide) dX7_piece_96 (fun wz9 ez10 => ?_)
          have fh11 : wz9[31]? = some ((aa 1), .inl (ay 0, 150, .inl (upd f1 P (nI b1)))) := vg_se ez10 fh8
          refine vg_aload_n X dX7_piece_97 0 rfl rfl ?_
          have fh12 : wz9[29]? = some (am, .inr (10, [.int (nI 0), .int (nI n), .int (nI P), .ref (aa 0), .ref (aa 1), .ref (aa 2), .ref (aa 3), .ref (aa 4), .ref (aa 5), .ref (aa 6), .ref (aa 7), .ref (aa 8), .ref (aa 9), .ref (aa 10), .int (nI U), .ref (aa 11), .ref (aa 12), .ref (aa 13), .ref (aa 14), .ref (aa 15), .ref (aa 16), .ref (aa 17), .ref (aa 18), .ref (aa 19), .ref (aa 20), .ref (aa 21), .ref (aa 22), .ref (aa 23), .int (nI wl), .ref (aa 24)])) := (vg_sn ez10 (by decide)).trans (fh7)
          refine vg_get X in_X7_piece_X7 29 fh12 rfl 5 (by decide) ml_X7_piece_16 rfl rfl dX7_piece_98 ?_
          refine vg_aload_n X dX7_piece_101 0 rfl rfl ?_
          refine vg_get X in_X7_piece_X7 29 fh12 rfl 2 (by decide) ml_X7_piece_94 rfl rfl dX7_piece_102 ?_
          refine vg_iload_n X dX7_piece_105 3 rfl rfl ?_
          have fh13 : wz9[32]? = some ((aa 2), .inl (ay 0, 150, .inl f2)) := (vg_sn ez10 (by decide)).trans ((vg_sn ez5 (by decide)).trans (hh2))
          refine vg_iast X 32 fh13 rfl (by omega) (by decide) dX7_piece_106 (fun wz14 ez15 => ?_)
          have fh16 : wz14[32]? = some ((aa 2), .inl (ay 0, 150, .inl (upd f2 P (nI m1)))) := vg_se ez15 fh13
          refine vg_aload_n X dX7_piece_107 0 rfl rfl ?_
          have fh17 : wz14[29]? = some (am, .inr (10, [.int (nI 0), .int (nI n), .int (nI P), .ref (aa 0), .ref (aa 1), .ref (aa 2), .ref (aa 3), .ref (aa 4), .ref (aa 5), .ref (aa 6), .ref (aa 7), .ref (aa 8), .ref (aa 9), .ref (aa 10), .int (nI U), .ref (aa 11), .ref (aa 12), .ref (aa 13), .ref (aa 14), .ref (aa 15), .ref (aa 16), .ref (aa 17), .ref (aa 18), .ref (aa 19), .ref (aa 20), .ref (aa 21), .ref (aa 22), .ref (aa 23), .int (nI wl), .ref (aa 24)])) := (vg_sn ez15 (by decide)).trans (fh12)
          refine vg_get X in_X7_piece_X7 29 fh17 rfl 6 (by decide) ml_X7_piece_19 rfl rfl dX7_piece_108 ?_
          refine vg_aload_n X dX7_piece_111 0 rfl rfl ?_
          refine vg_get X in_X7_piece_X7 29 fh17 rfl 2 (by decide) ml_X7_piece_94 rfl rfl dX7_piece_112 ?_
          refine vg_iload X dX7_piece_115 4 rfl ?_
          have fh18 : wz14[33]? = some ((aa 3), .inl (ay 0, 150, .inl f3)) := (vg_sn ez15 (by decide)).trans ((vg_sn ez10 (by decide)).trans ((vg_sn ez5 (by decide)).trans (hh3)))
          refine vg_iast X 33 fh18 rfl (by omega) (by decide) dX7_piece_117 (fun wz19 ez20 => ?_)
          have fh21 : wz19[33]? = some ((aa 3), .inl (ay 0, 150, .inl (upd f3 P (nI s1)))) := vg_se ez20 fh18
          refine vg_aload_n X dX7_piece_118 0 rfl rfl ?_
          have fh22 : wz19[29]? = some (am, .inr (10, [.int (nI 0), .int (nI n), .int (nI P), .ref (aa 0), .ref (aa 1), .ref (aa 2), .ref (aa 3), .ref (aa 4), .ref (aa 5), .ref (aa 6), .ref (aa 7), .ref (aa 8), .ref (aa 9), .ref (aa 10), .int (nI U), .ref (aa 11), .ref (aa 12), .ref (aa 13), .ref (aa 14), .ref (aa 15), .ref (aa 16), .ref (aa 17), .ref (aa 18), .ref (aa 19), .ref (aa 20), .ref (aa 21), .ref (aa 22), .ref (aa 23), .int (nI wl), .ref (aa 24)])) := (vg_sn ez20 (by decide)).trans (fh17)
          refine vg_get X in_X7_piece_X7 29 fh22 rfl 7 (by decide) ml_X7_piece_22 rfl rfl dX7_piece_119 ?_
          refine vg_aload_n X dX7_piece_122 0 rfl rfl ?_
          refine vg_get X in_X7_piece_X7 29 fh22 rfl 2 (by decide) ml_X7_piece_94 rfl rfl dX7_piece_123 ?_
          refine vg_iconst X (nI 0) dX7_piece_126 (by decide) ?_
          have fh23 : wz19[34]? = some ((aa 4), .inl (ay 0, 150, .inl f4)) := (vg_sn ez20 (by decide)).trans ((vg_sn ez15 (by decide)).trans ((vg_sn ez10 (by decide)).trans ((vg_sn ez5 (by decide)).trans (hh4))))
          refine vg_iast X 34 fh23 rfl (by omega) (by decide) dX7_piece_127 (fun wz24 ez25 => ?_)
          have fh26 : wz24[34]? = some ((aa 4), .inl (ay 0, 150, .inl (upd f4 P (nI 0)))) := vg_se ez25 fh23
          refine vg_aload_n X dX7_piece_128 0 rfl rfl ?_
          have fh27 : wz24[29]? = some (am, .inr (10, [.int (nI 0), .int (nI n), .int (nI P), .ref (aa 0), .ref (aa 1), .ref (aa 2), .ref (aa 3), .ref (aa 4), .ref (aa 5), .ref (aa 6), .ref (aa 7), .ref (aa 8), .ref (aa 9), .ref (aa 10), .int (nI U), .ref (aa 11), .ref (aa 12), .ref (aa 13), .ref (aa 14), .ref (aa 15), .ref (aa 16), .ref (aa 17), .ref (aa 18), .ref (aa 19), .ref (aa 20), .ref (aa 21), .ref (aa 22), .ref (aa 23), .int (nI wl), .ref (aa 24)])) := (vg_sn ez25 (by decide)).trans (fh22)
          refine vg_get X in_X7_piece_X7 29 fh27 rfl 8 (by decide) ml_X7_piece_25 rfl rfl dX7_piece_129 ?_
          refine vg_aload_n X dX7_piece_132 0 rfl rfl ?_
          refine vg_get X in_X7_piece_X7 29 fh27 rfl 2 (by decide) ml_X7_piece_94 rfl rfl dX7_piece_133 ?_
          refine vg_iconst X (nI 0) dX7_piece_136 (by decide) ?_
          have fh28 : wz24[35]? = some ((aa 5), .inl (ay 0, 150, .inl f5)) := (vg_sn ez25 (by decide)).trans ((vg_sn ez20 (by decide)).trans ((vg_sn ez15 (by decide)).trans ((vg_sn ez10 (by decide)).trans ((vg_sn ez5 (by decide)).trans (hh5)))))
          refine vg_iast X 35 fh28 rfl (by omega) (by decide) dX7_piece_137 (fun wz29 ez30 => ?_)
          have fh31 : wz29[35]? = some ((aa 5), .inl (ay 0, 150, .inl (upd f5 P (nI 0)))) := vg_se ez30 fh28
          refine vg_aload_n X dX7_piece_138 0 rfl rfl ?_
          have fh32 : wz29[29]? = some (am, .inr (10, [.int (nI 0), .int (nI n), .int (nI P), .ref (aa 0), .ref (aa 1), .ref (aa 2), .ref (aa 3), .ref (aa 4), .ref (aa 5), .ref (aa 6), .ref (aa 7), .ref (aa 8), .ref (aa 9), .ref (aa 10), .int (nI U), .ref (aa 11), .ref (aa 12), .ref (aa 13), .ref (aa 14), .ref (aa 15), .ref (aa 16), .ref (aa 17), .ref (aa 18), .ref (aa 19), .ref (aa 20), .ref (aa 21), .ref (aa 22), .ref (aa 23), .int (nI wl), .ref (aa 24)])) := (vg_sn ez30 (by decide)).trans (fh27)
          refine vg_get X in_X7_piece_X7 29 fh32 rfl 9 (by decide) ml_X7_piece_28 rfl rfl dX7_piece_139 ?_
          refine vg_aload_n X dX7_piece_142 0 rfl rfl ?_
          refine vg_get X in_X7_piece_X7 29 fh32 rfl 2 (by decide) ml_X7_piece_94 rfl rfl dX7_piece_143 ?_
          refine vg_iconst X (nI 0) dX7_piece_146 (by decide) ?_
          have fh33 : wz29[36]? = some ((aa 6), .inl (ay 2, 150, .inl f6)) := (vg_sn ez30 (by decide)).trans ((vg_sn ez25 (by decide)).trans ((vg_sn ez20 (by decide)).trans ((vg_sn ez15 (by decide)).trans ((vg_sn ez10 (by decide)).trans ((vg_sn ez5 (by decide)).trans (hh6))))))
          refine vg_zast X 36 fh33 rfl (by omega) (by decide) (by decide) dX7_piece_147 (fun wz34 ez35 => ?_)
          have fh36 : wz34[36]? = some ((aa 6), .inl (ay 2, 150, .inl (upd f6 P (nI 0)))) := vg_se ez35 fh33
          refine vg_aload_n X dX7_piece_148 0 rfl rfl ?_
          have fh37 : wz34[29]? = some (am, .inr (10, [.int (nI 0), .int (nI n), .int (nI P), .ref (aa 0), .ref (aa 1), .ref (aa 2), .ref (aa 3), .ref (aa 4), .ref (aa 5), .ref (aa 6), .ref (aa 7), .ref (aa 8), .ref (aa 9), .ref (aa 10), .int (nI U), .ref (aa 11), .ref (aa 12), .ref (aa 13), .ref (aa 14), .ref (aa 15), .ref (aa 16), .ref (aa 17), .ref (aa 18), .ref (aa 19), .ref (aa 20), .ref (aa 21), .ref (aa 22), .ref (aa 23), .int (nI wl), .ref (aa 24)])) := (vg_sn ez35 (by decide)).trans (fh32)
          refine vg_get X in_X7_piece_X7 29 fh37 rfl 10 (by decide) ml_X7_piece_32 rfl rfl dX7_piece_149 ?_
          refine vg_aload_n X dX7_piece_152 0 rfl rfl ?_
          refine vg_get X in_X7_piece_X7 29 fh37 rfl 2 (by decide) ml_X7_piece_94 rfl rfl dX7_piece_153 ?_
          refine vg_iconst X (nI 0) dX7_piece_156 (by decide) ?_
          have fh38 : wz34[37]? = some ((aa 7), .inl (ay 0, 150, .inl f7)) := (vg_sn ez35 (by decide)).trans ((vg_sn ez30 (by decide)).trans ((vg_sn ez25 (by decide)).trans ((vg_sn ez20 (by decide)).trans ((vg_sn ez15 (by decide)).trans ((vg_sn ez10 (by decide)).trans ((vg_sn ez5 (by decide)).trans (hh7)))))))
          refine vg_iast X 37 fh38 rfl (by omega) (by decide) dX7_piece_157 (fun wz39 ez40 => ?_)
          have fh41 : wz39[37]? = some ((aa 7), .inl (ay 0, 150, .inl (upd f7 P (nI 0)))) := vg_se ez40 fh38
          refine vg_aload_n X dX7_piece_158 0 rfl rfl ?_
          refine vg_dup X dX7_piece_159 rfl ?_
          have fh42 : wz39[29]? = some (am, .inr (10, [.int (nI 0), .int (nI n), .int (nI P), .ref (aa 0), .ref (aa 1), .ref (aa 2), .ref (aa 3), .ref (aa 4), .ref (aa 5), .ref (aa 6), .ref (aa 7), .ref (aa 8), .ref (aa 9), .ref (aa 10), .int (nI U), .ref (aa 11), .ref (aa 12), .ref (aa 13), .ref (aa 14), .ref (aa 15), .ref (aa 16), .ref (aa 17), .ref (aa 18), .ref (aa 19), .ref (aa 20), .ref (aa 21), .ref (aa 22), .ref (aa 23), .int (nI wl), .ref (aa 24)])) := (vg_sn ez40 (by decide)).trans (fh37)
          refine vg_get X in_X7_piece_X7 29 fh42 rfl 2 (by decide) ml_X7_piece_94 rfl rfl dX7_piece_160 ?_
          refine vg_iconst X (nI 1) dX7_piece_163 (by decide) ?_
          refine vg_iadd X (nI (P + 1)) dX7_piece_164 (nI_add _ _) ?_
          refine vg_put X in_X7_piece_X7 tyX7 tyX7_ok nmX7 29 fh42 rfl 2 (by decide) ml_X7_piece_94 rfl rfl rfl rfl (Nat.le_of_ble_eq_true rfl) dX7_piece_165 (fun wz43 ez44 => ?_)
          have fh45 : wz43[29]? = some (am, .inr (10, [.int (nI 0), .int (nI n), .int (nI (P + 1)), .ref (aa 0), .ref (aa 1), .ref (aa 2), .ref (aa 3), .ref (aa 4), .ref (aa 5), .ref (aa 6), .ref (aa 7), .ref (aa 8), .ref (aa 9), .ref (aa 10), .int (nI U), .ref (aa 11), .ref (aa 12), .ref (aa 13), .ref (aa 14), .ref (aa 15), .ref (aa 16), .ref (aa 17), .ref (aa 18), .ref (aa 19), .ref (aa 20), .ref (aa 21), .ref (aa 22), .ref (aa 23), .int (nI wl), .ref (aa 24)])) := vg_se ez44 fh42
          refine vg_aload_n X dX7_piece_168 0 rfl rfl ?_
          have fh46 : wz43[30]? = some ((aa 0), .inl (ay 0, 150, .inl (upd f0 P (nI a1)))) := (vg_sn ez44 (by decide)).trans ((vg_sn ez40 (by decide)).trans ((vg_sn ez35 (by decide)).trans ((vg_sn ez30 (by decide)).trans ((vg_sn ez25 (by decide)).trans ((vg_sn ez20 (by decide)).trans ((vg_sn ez15 (by decide)).trans ((vg_sn ez10 (by decide)).trans (fh6))))))))
          have fh47 : wz43[31]? = some ((aa 1), .inl (ay 0, 150, .inl (upd f1 P (nI b1)))) := (vg_sn ez44 (by decide)).trans ((vg_sn ez40 (by decide)).trans ((vg_sn ez35 (by decide)).trans ((vg_sn ez30 (by decide)).trans ((vg_sn ez25 (by decide)).trans ((vg_sn ez20 (by decide)).trans ((vg_sn ez15 (by decide)).trans (fh11)))))))
          have fh48 : wz43[32]? = some ((aa 2), .inl (ay 0, 150, .inl (upd f2 P (nI m1)))) := (vg_sn ez44 (by decide)).trans ((vg_sn ez40 (by decide)).trans ((vg_sn ez35 (by decide)).trans ((vg_sn ez30 (by decide)).trans ((vg_sn ez25 (by decide)).trans ((vg_sn ez20 (by decide)).trans (fh16))))))
          have fh49 : wz43[33]? = some ((aa 3), .inl (ay 0, 150, .inl (upd f3 P (nI s1)))) := (vg_sn ez44 (by decide)).trans ((vg_sn ez40 (by decide)).trans ((vg_sn ez35 (by decide)).trans ((vg_sn ez30 (by decide)).trans ((vg_sn ez25 (by decide)).trans (fh21)))))
          have fh50 : wz43[34]? = some ((aa 4), .inl (ay 0, 150, .inl (upd f4 P (nI 0)))) := (vg_sn ez44 (by decide)).trans ((vg_sn ez40 (by decide)).trans ((vg_sn ez35 (by decide)).trans ((vg_sn ez30 (by decide)).trans (fh26))))
          have fh51 : wz43[35]? = some ((aa 5), .inl (ay 0, 150, .inl (upd f5 P (nI 0)))) := (vg_sn ez44 (by decide)).trans ((vg_sn ez40 (by decide)).trans ((vg_sn ez35 (by decide)).trans (fh31)))
          have fh52 : wz43[36]? = some ((aa 6), .inl (ay 2, 150, .inl (upd f6 P (nI 0)))) := (vg_sn ez44 (by decide)).trans ((vg_sn ez40 (by decide)).trans (fh36))
          have fh53 : wz43[37]? = some ((aa 7), .inl (ay 0, 150, .inl (upd f7 P (nI 0)))) := (vg_sn ez44 (by decide)).trans (fh41)
          have fh54 : wz43[38]? = some ((aa 8), .inl (ay 0, 450, .inl f8)) := (vg_sn ez44 (by decide)).trans ((vg_sn ez40 (by decide)).trans ((vg_sn ez35 (by decide)).trans ((vg_sn ez30 (by decide)).trans ((vg_sn ez25 (by decide)).trans ((vg_sn ez20 (by decide)).trans ((vg_sn ez15 (by decide)).trans ((vg_sn ez10 (by decide)).trans ((vg_sn ez5 (by decide)).trans (hh8)))))))))
          have fh55 : wz43[39]? = some ((aa 9), .inl (ay 0, 450, .inl f9)) := (vg_sn ez44 (by decide)).trans ((vg_sn ez40 (by decide)).trans ((vg_sn ez35 (by decide)).trans ((vg_sn ez30 (by decide)).trans ((vg_sn ez25 (by decide)).trans ((vg_sn ez20 (by decide)).trans ((vg_sn ez15 (by decide)).trans ((vg_sn ez10 (by decide)).trans ((vg_sn ez5 (by decide)).trans (hh9)))))))))
          have fh56 : wz43[40]? = some ((aa 10), .inl (ay 0, 450, .inl f10)) := (vg_sn ez44 (by decide)).trans ((vg_sn ez40 (by decide)).trans ((vg_sn ez35 (by decide)).trans ((vg_sn ez30 (by decide)).trans ((vg_sn ez25 (by decide)).trans ((vg_sn ez20 (by decide)).trans ((vg_sn ez15 (by decide)).trans ((vg_sn ez10 (by decide)).trans ((vg_sn ez5 (by decide)).trans (hh10)))))))))
          have fh57 : wz43[41]? = some ((aa 11), .inl (ay 0, 12, .inl f11)) := (vg_sn ez44 (by decide)).trans ((vg_sn ez40 (by decide)).trans ((vg_sn ez35 (by decide)).trans ((vg_sn ez30 (by decide)).trans ((vg_sn ez25 (by decide)).trans ((vg_sn ez20 (by decide)).trans ((vg_sn ez15 (by decide)).trans ((vg_sn ez10 (by decide)).trans ((vg_sn ez5 (by decide)).trans (hh11)))))))))
          have fh58 : wz43[42]? = some ((aa 12), .inl (ay 0, 12, .inl f12)) := (vg_sn ez44 (by decide)).trans ((vg_sn ez40 (by decide)).trans ((vg_sn ez35 (by decide)).trans ((vg_sn ez30 (by decide)).trans ((vg_sn ez25 (by decide)).trans ((vg_sn ez20 (by decide)).trans ((vg_sn ez15 (by decide)).trans ((vg_sn ez10 (by decide)).trans ((vg_sn ez5 (by decide)).trans (hh12)))))))))
          have fh59 : wz43[43]? = some ((aa 13), .inl (ay 0, 12, .inl f13)) := (vg_sn ez44 (by decide)).trans ((vg_sn ez40 (by decide)).trans ((vg_sn ez35 (by decide)).trans ((vg_sn ez30 (by decide)).trans ((vg_sn ez25 (by decide)).trans ((vg_sn ez20 (by decide)).trans ((vg_sn ez15 (by decide)).trans ((vg_sn ez10 (by decide)).trans ((vg_sn ez5 (by decide)).trans (hh13)))))))))
          have fh60 : wz43[44]? = some ((aa 14), .inl (ay 0, 12, .inl f14)) := (vg_sn ez44 (by decide)).trans ((vg_sn ez40 (by decide)).trans ((vg_sn ez35 (by decide)).trans ((vg_sn ez30 (by decide)).trans ((vg_sn ez25 (by decide)).trans ((vg_sn ez20 (by decide)).trans ((vg_sn ez15 (by decide)).trans ((vg_sn ez10 (by decide)).trans ((vg_sn ez5 (by decide)).trans (hh14)))))))))
          have fh61 : wz43[45]? = some ((aa 15), .inl (ay 0, 12, .inl f15)) := (vg_sn ez44 (by decide)).trans ((vg_sn ez40 (by decide)).trans ((vg_sn ez35 (by decide)).trans ((vg_sn ez30 (by decide)).trans ((vg_sn ez25 (by decide)).trans ((vg_sn ez20 (by decide)).trans ((vg_sn ez15 (by decide)).trans ((vg_sn ez10 (by decide)).trans ((vg_sn ez5 (by decide)).trans (hh15)))))))))
          have D2 : cm_D ay wz43 aa n (P + 1) U (va_up d P (cp_new a1 b1 m1 s1)) fr to pe uv := ⟨(upd f0 P (nI a1)), (upd f1 P (nI b1)), (upd f2 P (nI m1)), (upd f3 P (nI s1)), (upd f4 P (nI 0)), (upd f5 P (nI 0)), (upd f6 P (nI 0)), (upd f7 P (nI 0)), f8, f9, f10, f11, f12, f13, f14, f15, fh46, fh47, fh48, fh49, fh50, fh51, fh52, fh53, fh54, fh55, fh56, fh57, fh58, fh59, fh60, fh61, fun i2 hi2 => by
      by_cases q9 : i2 = P
      · subst q9; rw [va_up_self, pk_us, pk_us, pk_us, pk_us, pk_us, pk_us, pk_us, pk_us]; exact ⟨rfl, rfl, rfl, rfl, rfl, rfl, rfl, rfl, fun r hr => absurd hr (Nat.not_lt_zero r)⟩
      · rw [va_up_ne _ _ q9, pk_un q9, pk_un q9, pk_un q9, pk_un q9, pk_un q9, pk_un q9, pk_un q9, pk_un q9]; exact hp i2 (by omega), hu⟩
          have R2 : cm_R n (P + 1) U (va_up d P (cp_new a1 b1 m1 s1)) fr to pe uv := cm_R_p hR p2 ha1 hb1 hab1 hm0 hm1 hs1
          have T2 : cm_T ay wz43 aa n ku ks kt sk := cm_T_fr gT (fun q h1 h2 => ((vg_sn (j := q) ez44 (by omega)).trans ((vg_sn (j := q) ez40 (by omega)).trans ((vg_sn (j := q) ez35 (by omega)).trans ((vg_sn (j := q) ez30 (by omega)).trans ((vg_sn (j := q) ez25 (by omega)).trans ((vg_sn (j := q) ez20 (by omega)).trans ((vg_sn (j := q) ez15 (by omega)).trans ((vg_sn (j := q) ez10 (by omega)).trans (vg_sn (j := q) ez5 (by omega)))))))))))
          have O2 : cm_O wz43 am aa (nI 0) n (P + 1) U (nI wl) := fh45
          refine vg_calli (vg_runV X (c_X7_redo l O2 D2 R2 T2 hK (((vg_sn (j := 51) ez44 (by decide)).trans ((vg_sn (j := 51) ez40 (by decide)).trans ((vg_sn (j := 51) ez35 (by decide)).trans ((vg_sn (j := 51) ez30 (by decide)).trans ((vg_sn (j := 51) ez25 (by decide)).trans ((vg_sn (j := 51) ez20 (by decide)).trans ((vg_sn (j := 51) ez15 (by decide)).trans ((vg_sn (j := 51) ez10 (by decide)).trans (vg_sn (j := 51) ez5 (by decide)))))))))).trans g51)) (cwV 0 X.2.2.2.2.1 gX7_piece_X7_redo rfl rfl rfl (by decide +kernel) ⟨Nat.le_of_ble_eq_true rfl, Nat.le_of_ble_eq_true rfl⟩) 29 fh45 rfl rfl rfl (Nat.le_of_ble_eq_true rfl) dX7_piece_169 ⟨Nat.zero_le _, Nat.zero_le _⟩) (fun rr64 wz62 PP63 => ?_)
          obtain ⟨hr9, T3, ⟨fl3, h51z⟩, fr3⟩ := PP63
          have e3 : ∀ q, q ≠ 50 → q ≠ 51 → wz62[q]? = wz43[q]? := fun q h1 h2 => fr3.2 q (by simp only [List.mem_cons, List.not_mem_nil, or_false]; omega)
          have O3 := (e3 29 (by decide) (by decide)).trans O2
          have O4 := O3
          unfold cm_O at O4
          refine vg_istore X [(5, .int rr64), (0, .ref am), (1, .int (nI a1)), (2, .int (nI b1)), (3, .int (nI m1)), (4, .int (nI s1))] dX7_piece_172 (by decide) rfl ?_
          refine vg_aload_n X dX7_piece_174 1 rfl rfl ?_
          refine vg_get X in_X7_piece_X7 29 O4 rfl 2 (by decide) ml_X7_piece_94 rfl rfl dX7_piece_175 ?_
          refine vg_iconst X (nI 1) dX7_piece_178 (by decide) ?_
          refine vg_isub X (nI P) dX7_piece_179 (pk_sub (by omega)) ?_
          exact vg_iret X rfl (Or.inr (Or.inr (Or.inr (⟨a1, b1, m1, s1, rfl, ha1, rfl, hb1, hab1, rfl, hm0, hm1, rfl, hs1, p2, ⟨fl3, _, _, _, O3, cm_D_fr D2 (fun q h1 h2 => e3 q (by omega) (by omega)), T3, h51z, (e3 52 (by decide) (by decide)).trans (((vg_sn (j := 52) ez44 (by decide)).trans ((vg_sn (j := 52) ez40 (by decide)).trans ((vg_sn (j := 52) ez35 (by decide)).trans ((vg_sn (j := 52) ez30 (by decide)).trans ((vg_sn (j := 52) ez25 (by decide)).trans ((vg_sn (j := 52) ez20 (by decide)).trans ((vg_sn (j := 52) ez15 (by decide)).trans ((vg_sn (j := 52) ez10 (by decide)).trans (vg_sn (j := 52) ez5 (by decide)))))))))).trans g52), (e3 53 (by decide) (by decide)).trans (((vg_sn (j := 53) ez44 (by decide)).trans ((vg_sn (j := 53) ez40 (by decide)).trans ((vg_sn (j := 53) ez35 (by decide)).trans ((vg_sn (j := 53) ez30 (by decide)).trans ((vg_sn (j := 53) ez25 (by decide)).trans ((vg_sn (j := 53) ez20 (by decide)).trans ((vg_sn (j := 53) ez15 (by decide)).trans ((vg_sn (j := 53) ez10 (by decide)).trans (vg_sn (j := 53) ez5 (by decide)))))))))).trans g53), (e3 54 (by decide) (by decide)).trans (((vg_sn (j := 54) ez44 (by decide)).trans ((vg_sn (j := 54) ez40 (by decide)).trans ((vg_sn (j := 54) ez35 (by decide)).trans ((vg_sn (j := 54) ez30 (by decide)).trans ((vg_sn (j := 54) ez25 (by decide)).trans ((vg_sn (j := 54) ez20 (by decide)).trans ((vg_sn (j := 54) ez15 (by decide)).trans ((vg_sn (j := 54) ez10 (by decide)).trans (vg_sn (j := 54) ez5 (by decide)))))))))).trans g54), hwl, hwp⟩, cm_fr_tr gF (cm_fr_tr (cm_fr_of (vg_fr_set (vg_fr_set (vg_fr_set (vg_fr_set (vg_fr_set (vg_fr_set (vg_fr_set (vg_fr_set (vg_fr_set (vg_fr_rf _ [29, 30, 31, 32, 33, 34, 35, 36, 37]) ez5 (by decide)) ez10 (by decide)) ez15 (by decide)) ez20 (by decide)) ez25 (by decide)) ez30 (by decide)) ez35 (by decide)) ez40 (by decide)) ez44 (by decide)) (by decide)) (cm_fr_of fr3 (by decide))), rfl⟩)))) (Nat.le_refl _) (Nat.le_refl _) dX7_piece_180
        · skip
          have ng : go_c b27 b54 b69 ≠ 0 := fun q9 => by have := gy q9; rw [c72] at this; exact absurd this (by decide)
          by_cases p0 : cm_in a n ∧ cm_in b n ∧ a ≠ b
          · skip
            by_cases p1 : (nI 1 ≤ mm ∧ mm ≤ nI 60000) ∧ (nI 0 ≤ sp ∧ sp ≤ nI 200)
            · skip
              by_cases p2 : P < 150
              · skip
                exact absurd (by unfold go_c; rw [if_neg (by rw [y27 p0]; decide), if_neg (by rw [y54 p1]; decide), if_neg (by rw [y69 p2]; decide)]) ng
              · skip
                have g9 : go_c b27 b54 b69 = 3 := by unfold go_c; rw [if_neg (by rw [y27 p0]; decide), if_neg (by rw [y54 p1]; decide), if_pos (n69 p2)]
                rw [g9] at gO
                refine vg_iconst X (nI 0) dX7_piece_75 (by decide) ?_
                exact vg_iret X rfl (Or.inr (Or.inr (Or.inl ⟨p0, p1, p2, ⟨_, _, _, _, gO, gD, gT, g51, g52, g53, g54, hwl, hwp⟩, gF⟩))) (Nat.le_refl _) (Nat.le_refl _) dX7_piece_76
            · skip
              have g9 : go_c b27 b54 b69 = 2 := by unfold go_c; rw [if_neg (by rw [y27 p0]; decide), if_pos (n54 p1)]
              rw [g9] at gO
              refine vg_iconst X (nI 0) dX7_piece_75 (by decide) ?_
              exact vg_iret X rfl (Or.inr (Or.inl ⟨p0, p1, ⟨_, _, _, _, gO, gD, gT, g51, g52, g53, g54, hwl, hwp⟩, gF⟩)) (Nat.le_refl _) (Nat.le_refl _) dX7_piece_76
          · skip
            have g9 : go_c b27 b54 b69 = 1 := by unfold go_c; rw [if_pos (n27 p0)]
            rw [g9] at gO
            refine vg_iconst X (nI 0) dX7_piece_75 (by decide) ?_
            exact vg_iret X rfl (Or.inl ⟨p0, ⟨_, _, _, _, gO, gD, gT, g51, g52, g53, g54, hwl, hwp⟩, gF⟩) (Nat.le_refl _) (Nat.le_refl _) dX7_piece_76
      refine vg_aload_n X dX7_piece_54 0 rfl rfl ?_
      refine vg_get X in_X7_piece_X7 29 hO3 rfl 2 (by decide) ml_X7_piece_94 rfl rfl dX7_piece_55 ?_
      refine vg_sipush X (nI 150) dX7_piece_58 (by decide) ?_
      refine vg_icmp_ge X 68 dX7_piece_61 (by decide) (fun c61 => ?_) (fun c61 => ?_)
      · have c61 : 150 ≤ P := (nI_leI (by omega) (by omega)).mp c61
        have k61 : ¬ (P < 150) := by omega
        refine vg_iconst X (nI 0) dX7_piece_68 (by decide) ?_
        exact j69 _ (fun q9 => absurd (q9) k61) (fun _ => by decide)
      · have c61 : ¬ 150 ≤ P := fun z => c61 ((nI_leI (by omega) (by omega)).mpr z)
        have k61 : P < 150 := by omega
        refine vg_iconst X (nI 1) dX7_piece_64 (by decide) ?_
        refine vg_goto X 69 dX7_piece_65 (by decide) ?_
        exact j69 _ (fun _ => by decide) (fun q9 => absurd (show P < 150 from (by assumption)) q9)
    refine vg_iload_n X dX7_piece_27 3 rfl rfl ?_
    refine vg_iconst X (nI 1) dX7_piece_28 (by decide) ?_
    refine vg_ldc X (nI 60000) dX7_piece_29 mk_X7_piece_131 ?_
    refine vg_calli (vg_runS X (c_X7_in l (x := mm) (a := nI 1) (b := nI 60000)) (va_cwS 3 X.2.2.2.2.1 gX7_piece_X7_in rfl rfl rfl (by decide +kernel) ⟨Nat.le_of_ble_eq_true rfl, Nat.le_of_ble_eq_true rfl⟩) rfl rfl (Nat.le_of_ble_eq_true rfl) dX7_piece_31 ⟨Nat.zero_le _, Nat.zero_le _⟩) (fun rr67 wz65 PP66 => ?_)
    obtain ⟨hw9, yrr67, nrr67⟩ := PP66
    rw [hw9]
    skip
    refine vg_if_eq X 53 dX7_piece_34 (by decide) (fun c34 => ?_) (fun c34 => ?_)
    · have k34 : ¬ ((nI 1) ≤ mm ∧ mm ≤ (nI 60000)) := fun q9 => by have := yrr67 q9; rw [c34] at this; exact absurd this (by decide)
      refine vg_iconst X (nI 0) dX7_piece_53 (by decide) ?_
      exact j54 _ (fun q9 => absurd (q9.1) k34) (fun _ => by decide)
    · have k34 : (nI 1) ≤ mm ∧ mm ≤ (nI 60000) := Classical.byContradiction (fun q9 => c34 (nrr67 q9))
      refine vg_iload X dX7_piece_37 4 rfl ?_
      refine vg_iconst X (nI 0) dX7_piece_39 (by decide) ?_
      refine vg_sipush X (nI 200) dX7_piece_40 (by decide) ?_
      refine vg_calli (vg_runS X (c_X7_in l (x := sp) (a := nI 0) (b := nI 200)) (va_cwS 3 X.2.2.2.2.1 gX7_piece_X7_in rfl rfl rfl (by decide +kernel) ⟨Nat.le_of_ble_eq_true rfl, Nat.le_of_ble_eq_true rfl⟩) rfl rfl (Nat.le_of_ble_eq_true rfl) dX7_piece_43 ⟨Nat.zero_le _, Nat.zero_le _⟩) (fun rr70 wz68 PP69 => ?_)
      obtain ⟨hw9, yrr70, nrr70⟩ := PP69
      rw [hw9]
      skip
      refine vg_if_eq X 53 dX7_piece_46 (by decide) (fun c46 => ?_) (fun c46 => ?_)
      · have k46 : ¬ ((nI 0) ≤ sp ∧ sp ≤ (nI 200)) := fun q9 => by have := yrr70 q9; rw [c46] at this; exact absurd this (by decide)
        refine vg_iconst X (nI 0) dX7_piece_53 (by decide) ?_
        exact j54 _ (fun q9 => absurd (q9.2) k46) (fun _ => by decide)
      · have k46 : (nI 0) ≤ sp ∧ sp ≤ (nI 200) := Classical.byContradiction (fun q9 => c46 (nrr70 q9))
        refine vg_iconst X (nI 1) dX7_piece_49 (by decide) ?_
        refine vg_goto X 54 dX7_piece_50 (by decide) ?_
        exact j54 _ (fun _ => by decide) (fun q9 => absurd (show (nI 1 ≤ mm ∧ mm ≤ nI 60000) ∧ (nI 0 ≤ sp ∧ sp ≤ nI 200) from ⟨by assumption, by assumption⟩) q9)
  refine vg_aload_n X dX7_piece_0 0 rfl rfl ?_
  refine vg_aload_n X dX7_piece_1 0 rfl rfl ?_
  refine vg_iload_n X dX7_piece_2 1 rfl rfl ?_
  refine vg_calli (vg_runV X (c_X7_isNode l hO (k := a) (by omega)) (cwV 1 X.2.2.2.2.1 gX7_piece_X7_isNode rfl rfl rfl (by decide +kernel) ⟨Nat.le_of_ble_eq_true rfl, Nat.le_of_ble_eq_true rfl⟩) 29 hO3 rfl rfl rfl (Nat.le_of_ble_eq_true rfl) dX7_piece_3 ⟨Nat.zero_le _, Nat.zero_le _⟩) (fun rr73 wz71 PP72 => ?_)
  obtain ⟨hw9, yrr73, nrr73⟩ := PP72
  rw [hw9]
  skip
  refine vg_if_eq X 26 dX7_piece_6 (by decide) (fun c6 => ?_) (fun c6 => ?_)
  · have k6 : ¬ (cm_in a n) := fun q9 => by have := yrr73 q9; rw [c6] at this; exact absurd this (by decide)
    refine vg_iconst X (nI 0) dX7_piece_26 (by decide) ?_
    exact j27 _ (fun q9 => absurd (q9.1) k6) (fun _ => by decide)
  · have k6 : cm_in a n := Classical.byContradiction (fun q9 => c6 (nrr73 q9))
    refine vg_aload_n X dX7_piece_9 0 rfl rfl ?_
    refine vg_iload_n X dX7_piece_10 2 rfl rfl ?_
    refine vg_calli (vg_runV X (c_X7_isNode l hO (k := b) (by omega)) (cwV 1 X.2.2.2.2.1 gX7_piece_X7_isNode rfl rfl rfl (by decide +kernel) ⟨Nat.le_of_ble_eq_true rfl, Nat.le_of_ble_eq_true rfl⟩) 29 hO3 rfl rfl rfl (Nat.le_of_ble_eq_true rfl) dX7_piece_11 ⟨Nat.zero_le _, Nat.zero_le _⟩) (fun rr76 wz74 PP75 => ?_)
    obtain ⟨hw9, yrr76, nrr76⟩ := PP75
    rw [hw9]
    skip
    refine vg_if_eq X 26 dX7_piece_14 (by decide) (fun c14 => ?_) (fun c14 => ?_)
    · have k14 : ¬ (cm_in b n) := fun q9 => by have := yrr76 q9; rw [c14] at this; exact absurd this (by decide)
      refine vg_iconst X (nI 0) dX7_piece_26 (by decide) ?_
      exact j27 _ (fun q9 => absurd (q9.2.1) k14) (fun _ => by decide)
    · have k14 : cm_in b n := Classical.byContradiction (fun q9 => c14 (nrr76 q9))
      refine vg_iload_n X dX7_piece_17 1 rfl rfl ?_
      refine vg_iload_n X dX7_piece_18 2 rfl rfl ?_
      refine vg_icmp_eq X 26 dX7_piece_19 (by decide) (fun c19 => ?_) (fun c19 => ?_)
      · have k19 : ¬ (a ≠ b) := fun q9 => q9 c19
        refine vg_iconst X (nI 0) dX7_piece_26 (by decide) ?_
        exact j27 _ (fun q9 => absurd (q9.2.2) k19) (fun _ => by decide)
      · have k19 : a ≠ b := c19
        refine vg_iconst X (nI 1) dX7_piece_22 (by decide) ?_
        refine vg_goto X 27 dX7_piece_23 (by decide) ?_
        exact j27 _ (fun _ => by decide) (fun q9 => absurd (show cm_in a n ∧ cm_in b n ∧ a ≠ b from ⟨by assumption, by assumption, by assumption⟩) q9)
set_option maxHeartbeats 4000000 in
set_option maxRecDepth 100000 in
/-- unit(..) -/
theorem c_X7_unit (l : Launch) {D : va_G} {ay : Nat → ClassId} {base : Nat} {Gx : State → Prop} {ws : va_W} {am : Nat} {aa : Nat → Nat} {n P U th wl : Nat} {d fr to pe uv : Nat → Nat → Nat} {ku ks kt wp : Nat → Nat} {sk : Nat → Nat → Nat} {v w h pf qf : Int32} (hS : cm_St ay ws am aa th n P U d fr to pe uv ku ks kt sk wl wp) (hR : cm_R n P U d fr to pe uv)  : Met l yX7_unit wsX7_unit ({ frames := 2, cells := 0, slots := 0, locals := 46 } : Room) (va_Pc [.ref am, .int v, .int w, .int h, .int pf, .int qf] (vg_B D ay base Gx ws)) (va_Qi (fun r u2 => (¬ (cm_in v n) ∧ cm_St ay u2 am aa 1 n P U d fr to pe uv ku ks kt sk wl wp ∧ cm_fr ws u2) ∨ ((cm_in v n) ∧ ¬ ((nI 0 ≤ w ∧ w ≤ nI 1000) ∧ (nI 0 ≤ h ∧ h ≤ nI 1000) ∧ (nI 1 ≤ pf ∧ pf ≤ nI 20) ∧ (nI 1 ≤ qf ∧ qf ≤ nI 20)) ∧ cm_St ay u2 am aa 2 n P U d fr to pe uv ku ks kt sk wl wp ∧ cm_fr ws u2) ∨ ((cm_in v n) ∧ ((nI 0 ≤ w ∧ w ≤ nI 1000) ∧ (nI 0 ≤ h ∧ h ≤ nI 1000) ∧ (nI 1 ≤ pf ∧ pf ≤ nI 20) ∧ (nI 1 ≤ qf ∧ qf ≤ nI 20)) ∧ ¬ (U < 12) ∧ cm_St ay u2 am aa 3 n P U d fr to pe uv ku ks kt sk wl wp ∧ cm_fr ws u2) ∨ (∃ vx wx hx px qx : Nat, v = nI vx ∧ vx < n ∧ w = nI wx ∧ wx ≤ 1000 ∧ h = nI hx ∧ hx ≤ 1000 ∧ pf = nI px ∧ 1 ≤ px ∧ px ≤ 20 ∧ qf = nI qx ∧ 1 ≤ qx ∧ qx ≤ 20 ∧ U < 12 ∧ cm_St ay u2 am aa 0 n P (U + 1) d fr to pe (va_up uv U (cu_new vx wx hx px qx)) ku ks kt sk wl wp ∧ cm_fr ws u2 ∧ r = nI U)) (vg_B D ay base Gx) (vg_A base)) 0 0 (vg_A base) := by
  refine vg_met (cc := cX7_unit) (maxL := 6) (ret := (some .int)) (own := RX7) (lv := [(0, .ref am), (1, .int v), (2, .int w), (3, .int h), (4, .int pf), (5, .int qf)]) (by decide) rfl rfl (Nat.le_of_ble_eq_true rfl) rfl ?_
  intro p e s m args below meth c X hinit
  obtain ⟨fl, fm, fn, fs, hO, hD, hT, h51, h52, h53, h54, hwl, hwp⟩ := id hS
  have nn := hR.1
  have nP := hR.2.1
  have nU := hR.2.2.1
  have eB : ma_B = 2 ^ 60 := rfl
  have hO3 := hO
  unfold cm_O at hO3
  have j6 : ∀ b9 : Int32, ((cm_in v n) → b9 = 1) → (¬ (cm_in v n) → b9 = 0) → vg_V D base p l e ({ frames := 2, cells := 0, slots := 0, locals := 46 } : Room) s m args below meth c 6 0 0 (MQ below (va_Qi (fun r u2 => (¬ (cm_in v n) ∧ cm_St ay u2 am aa 1 n P U d fr to pe uv ku ks kt sk wl wp ∧ cm_fr ws u2) ∨ ((cm_in v n) ∧ ¬ ((nI 0 ≤ w ∧ w ≤ nI 1000) ∧ (nI 0 ≤ h ∧ h ≤ nI 1000) ∧ (nI 1 ≤ pf ∧ pf ≤ nI 20) ∧ (nI 1 ≤ qf ∧ qf ≤ nI 20)) ∧ cm_St ay u2 am aa 2 n P U d fr to pe uv ku ks kt sk wl wp ∧ cm_fr ws u2) ∨ ((cm_in v n) ∧ ((nI 0 ≤ w ∧ w ≤ nI 1000) ∧ (nI 0 ≤ h ∧ h ≤ nI 1000) ∧ (nI 1 ≤ pf ∧ pf ≤ nI 20) ∧ (nI 1 ≤ qf ∧ qf ≤ nI 20)) ∧ ¬ (U < 12) ∧ cm_St ay u2 am aa 3 n P U d fr to pe uv ku ks kt sk wl wp ∧ cm_fr ws u2) ∨ (∃ vx wx hx px qx : Nat, v = nI vx ∧ vx < n ∧ w = nI wx ∧ wx ≤ 1000 ∧ h = nI hx ∧ hx ≤ 1000 ∧ pf = nI px ∧ 1 ≤ px ∧ px ≤ 20 ∧ qf = nI qx ∧ 1 ≤ qx ∧ qx ≤ 20 ∧ U < 12 ∧ cm_St ay u2 am aa 0 n P (U + 1) d fr to pe (va_up uv U (cu_new vx wx hx px qx)) ku ks kt sk wl wp ∧ cm_fr ws u2 ∧ r = nI U)) (vg_B D ay base Gx) (vg_A base)) args s 0 0 (vg_A base)) [(0, .ref am), (1, .int v), (2, .int w), (3, .int h), (4, .int pf), (5, .int qf)] [.int b9, .ref am] ws 6 := by
    intro b6 y6 n6
    have j55 : ∀ b9 : Int32, (((nI 0 ≤ w ∧ w ≤ nI 1000) ∧ (nI 0 ≤ h ∧ h ≤ nI 1000) ∧ (nI 1 ≤ pf ∧ pf ≤ nI 20) ∧ (nI 1 ≤ qf ∧ qf ≤ nI 20)) → b9 = 1) → (¬ ((nI 0 ≤ w ∧ w ≤ nI 1000) ∧ (nI 0 ≤ h ∧ h ≤ nI 1000) ∧ (nI 1 ≤ pf ∧ pf ≤ nI 20) ∧ (nI 1 ≤ qf ∧ qf ≤ nI 20)) → b9 = 0) → vg_V D base p l e ({ frames := 2, cells := 0, slots := 0, locals := 46 } : Room) s m args below meth c 6 0 0 (MQ below (va_Qi (fun r u2 => (¬ (cm_in v n) ∧ cm_St ay u2 am aa 1 n P U d fr to pe uv ku ks kt sk wl wp ∧ cm_fr ws u2) ∨ ((cm_in v n) ∧ ¬ ((nI 0 ≤ w ∧ w ≤ nI 1000) ∧ (nI 0 ≤ h ∧ h ≤ nI 1000) ∧ (nI 1 ≤ pf ∧ pf ≤ nI 20) ∧ (nI 1 ≤ qf ∧ qf ≤ nI 20)) ∧ cm_St ay u2 am aa 2 n P U d fr to pe uv ku ks kt sk wl wp ∧ cm_fr ws u2) ∨ ((cm_in v n) ∧ ((nI 0 ≤ w ∧ w ≤ nI 1000) ∧ (nI 0 ≤ h ∧ h ≤ nI 1000) ∧ (nI 1 ≤ pf ∧ pf ≤ nI 20) ∧ (nI 1 ≤ qf ∧ qf ≤ nI 20)) ∧ ¬ (U < 12) ∧ cm_St ay u2 am aa 3 n P U d fr to pe uv ku ks kt sk wl wp ∧ cm_fr ws u2) ∨ (∃ vx wx hx px qx : Nat, v = nI vx ∧ vx < n ∧ w = nI wx ∧ wx ≤ 1000 ∧ h = nI hx ∧ hx ≤ 1000 ∧ pf = nI px ∧ 1 ≤ px ∧ px ≤ 20 ∧ qf = nI qx ∧ 1 ≤ qx ∧ qx ≤ 20 ∧ U < 12 ∧ cm_St ay u2 am aa 0 n P (U + 1) d fr to pe (va_up uv U (cu_new vx wx hx px qx)) ku ks kt sk wl wp ∧ cm_fr ws u2 ∧ r = nI U)) (vg_B D ay base Gx) (vg_A base)) args s 0 0 (vg_A base)) [(0, .ref am), (1, .int v), (2, .int w), (3, .int h), (4, .int pf), (5, .int qf)] [.int b9, .int b6, .ref am] ws 55 := by
      intro b55 y55 n55
      have j69 : ∀ b9 : Int32, ((U < 12) → b9 = 1) → (¬ (U < 12) → b9 = 0) → vg_V D base p l e ({ frames := 2, cells := 0, slots := 0, locals := 46 } : Room) s m args below meth c 6 0 0 (MQ below (va_Qi (fun r u2 => (¬ (cm_in v n) ∧ cm_St ay u2 am aa 1 n P U d fr to pe uv ku ks kt sk wl wp ∧ cm_fr ws u2) ∨ ((cm_in v n) ∧ ¬ ((nI 0 ≤ w ∧ w ≤ nI 1000) ∧ (nI 0 ≤ h ∧ h ≤ nI 1000) ∧ (nI 1 ≤ pf ∧ pf ≤ nI 20) ∧ (nI 1 ≤ qf ∧ qf ≤ nI 20)) ∧ cm_St ay u2 am aa 2 n P U d fr to pe uv ku ks kt sk wl wp ∧ cm_fr ws u2) ∨ ((cm_in v n) ∧ ((nI 0 ≤ w ∧ w ≤ nI 1000) ∧ (nI 0 ≤ h ∧ h ≤ nI 1000) ∧ (nI 1 ≤ pf ∧ pf ≤ nI 20) ∧ (nI 1 ≤ qf ∧ qf ≤ nI 20)) ∧ ¬ (U < 12) ∧ cm_St ay u2 am aa 3 n P U d fr to pe uv ku ks kt sk wl wp ∧ cm_fr ws u2) ∨ (∃ vx wx hx px qx : Nat, v = nI vx ∧ vx < n ∧ w = nI wx ∧ wx ≤ 1000 ∧ h = nI hx ∧ hx ≤ 1000 ∧ pf = nI px ∧ 1 ≤ px ∧ px ≤ 20 ∧ qf = nI qx ∧ 1 ≤ qx ∧ qx ≤ 20 ∧ U < 12 ∧ cm_St ay u2 am aa 0 n P (U + 1) d fr to pe (va_up uv U (cu_new vx wx hx px qx)) ku ks kt sk wl wp ∧ cm_fr ws u2 ∧ r = nI U)) (vg_B D ay base Gx) (vg_A base)) args s 0 0 (vg_A base)) [(0, .ref am), (1, .int v), (2, .int w), (3, .int h), (4, .int pf), (5, .int qf)] [.int b9, .int b55, .int b6, .ref am] ws 69 := by
        intro b69 y69 n69
        refine vg_calli (vg_runV X (c_X7_goes l hO (b1 := b6) (b2 := b55) (b3 := b69)) (cwV 3 X.2.2.2.2.1 gX7_unit_X7_goes rfl rfl rfl (by decide +kernel) ⟨Nat.le_of_ble_eq_true rfl, Nat.le_of_ble_eq_true rfl⟩) 29 hO3 rfl rfl rfl (Nat.le_of_ble_eq_true rfl) dX7_unit_69 ⟨Nat.zero_le _, Nat.zero_le _⟩) (fun rr3 wz1 PP2 => ?_)
        obtain ⟨gO, gfr0, gy, gn⟩ := PP2
        have e0 : ∀ q, q ≠ 29 → wz1[q]? = ws[q]? := fun q hq => gfr0.2 q (by simpa using hq)
        have gD : cm_D ay wz1 aa n P U d fr to pe uv := cm_D_fr hD (fun q h1 h2 => e0 q (by omega))
        have gT : cm_T ay wz1 aa n ku ks kt sk := cm_T_fr hT (fun q h1 h2 => e0 q (by omega))
        have gF := cm_fr_of gfr0 (by decide)
        have g51 := (e0 51 (by decide)).trans h51
        have g52 := (e0 52 (by decide)).trans h52
        have g53 := (e0 53 (by decide)).trans h53
        have g54 := (e0 54 (by decide)).trans h54
        refine vg_if_ne X 77 dX7_unit_72 (by decide) (fun c72 => ?_) (fun c72 => ?_)
        · skip
          have g0 : go_c b6 b55 b69 = 0 := Classical.byContradiction (fun q9 => c72 (gn q9))
          rw [g0] at gO
          have p0 : cm_in v n := Classical.byContradiction (fun q9 => by have := n6 q9; unfold go_c at g0; rw [if_pos this] at g0; exact absurd g0 (by decide))
          have p1 : (nI 0 ≤ w ∧ w ≤ nI 1000) ∧ (nI 0 ≤ h ∧ h ≤ nI 1000) ∧ (nI 1 ≤ pf ∧ pf ≤ nI 20) ∧ (nI 1 ≤ qf ∧ qf ≤ nI 20) := Classical.byContradiction (fun q9 => by have := n55 q9; unfold go_c at g0; rw [if_neg (by rw [y6 p0]; decide), if_pos this] at g0; exact absurd g0 (by decide))
          have p2 : U < 12 := Classical.byContradiction (fun q9 => by have := n69 q9; unfold go_c at g0; rw [if_neg (by rw [y6 p0]; decide), if_neg (by rw [y55 p1]; decide), if_pos this] at g0; exact absurd g0 (by decide))
          have gO3 := gO
          unfold cm_O at gO3
          obtain ⟨v1, hv1, rfl⟩ := p0
          obtain ⟨w7, kw0, kw1, rfl⟩ := cm_rng p1.1 (by decide) (by decide)
          obtain ⟨h7, kh0, kh1, rfl⟩ := cm_rng p1.2.1 (by decide) (by decide)
          obtain ⟨p7, kp0, kp1, rfl⟩ := cm_rng p1.2.2.1 (by decide) (by decide)
          obtain ⟨q7, kq0, kq1, rfl⟩ := cm_rng p1.2.2.2 (by decide) (by decide)
          obtain ⟨f0, f1, f2, f3, f4, f5, f6, f7, f8, f9, f10, f11, f12, f13, f14, f15, hh0, hh1, hh2, hh3, hh4, hh5, hh6, hh7, hh8, hh9, hh10, hh11, hh12, hh13, hh14, hh15, hp, hu⟩ := id gD
          refine vg_aload_n X dX7_unit_77 0 rfl rfl ?_
          refine vg_get X in_X7_unit_X7 29 gO3 rfl 15 (by decide) ml_X7_unit_44 rfl rfl dX7_unit_78 ?_
          refine vg_aload_n X dX7_unit_81 0 rfl rfl ?_
          refine vg_get X in_X7_unit_X7 29 gO3 rfl 14 (by decide) ml_X7_unit_97 rfl rfl dX7_unit_82 ?_
          refine vg_iload_n X dX7_unit_85 1 rfl rfl ?_
          refine vg_iast X 41 hh11 rfl (by omega) (by decide) dX7_unit_86 (fun wz4 ez5 => ?_)
          have fh6 : wz4[41]? = some ((aa 11), .inl (ay 0, 12, .inl (upd f11 U (nI v1)))) := vg_se ez5 hh11
          refine vg_aload_n X dX7_unit_87 0 rfl rfl ?_
          have fh7 : wz4[29]? = some (am, .inr (10, [.int (nI 0), .int (nI n), .int (nI P), .ref (aa 0), .ref (aa 1), .ref (aa 2), .ref (aa 3), .ref (aa 4), .ref (aa 5), .ref (aa 6), .ref (aa 7), .ref (aa 8), .ref (aa 9), .ref (aa 10), .int (nI U), .ref (aa 11), .ref (aa 12), .ref (aa 13), .ref (aa 14), .ref (aa 15), .ref (aa 16), .ref (aa 17), .ref (aa 18), .ref (aa 19), .ref (aa 20), .ref (aa 21), .ref (aa 22), .ref (aa 23), .int (nI wl), .ref (aa 24)])) := (vg_sn ez5 (by decide)).trans (gO3)
          refine vg_get X in_X7_unit_X7 29 fh7 rfl 16 (by decide) ml_X7_unit_47 rfl rfl dX7_unit_88 ?_
          refine vg_aload_n X dX7_unit_91 0 rfl rfl ?_
          refine vg_get X in_X7_unit_X7 29 fh7 rfl 14 (by decide) ml_X7_unit_97 rfl rfl dX7_unit_92 ?_
          refine vg_iload_n X dX7_unit_95 2 rfl rfl ?_
          have fh8 : wz4[42]? = some ((aa 12), .inl (ay 0, 12, .inl f12)) := (vg_sn ez5 (by decide)).trans (hh12)
          refine vg_iast X 42 fh8 rfl (by omega) (by decide) dX7_unit_96 (fun wz9 ez10 => ?_)
          have fh11 : wz9[42]? = some ((aa 12), .inl (ay 0, 12, .inl (upd f12 U (nI w7)))) := vg_se ez10 fh8
          refine vg_aload_n X dX7_unit_97 0 rfl rfl ?_
          have fh12 : wz9[29]? = some (am, .inr (10, [.int (nI 0), .int (nI n), .int (nI P), .ref (aa 0), .ref (aa 1), .ref (aa 2), .ref (aa 3), .ref (aa 4), .ref (aa 5), .ref (aa 6), .ref (aa 7), .ref (aa 8), .ref (aa 9), .ref (aa 10), .int (nI U), .ref (aa 11), .ref (aa 12), .ref (aa 13), .ref (aa 14), .ref (aa 15), .ref (aa 16), .ref (aa 17), .ref (aa 18), .ref (aa 19), .ref (aa 20), .ref (aa 21), .ref (aa 22), .ref (aa 23), .int (nI wl), .ref (aa 24)])) := (vg_sn ez10 (by decide)).trans (fh7)
          refine vg_get X in_X7_unit_X7 29 fh12 rfl 17 (by decide) ml_X7_unit_50 rfl rfl dX7_unit_98 ?_
          refine vg_aload_n X dX7_unit_101 0 rfl rfl ?_
          refine vg_get X in_X7_unit_X7 29 fh12 rfl 14 (by decide) ml_X7_unit_97 rfl rfl dX7_unit_102 ?_
          refine vg_iload_n X dX7_unit_105 3 rfl rfl ?_
          have fh13 : wz9[43]? = some ((aa 13), .inl (ay 0, 12, .inl f13)) := (vg_sn ez10 (by decide)).trans ((vg_sn ez5 (by decide)).trans (hh13))
          refine vg_iast X 43 fh13 rfl (by omega) (by decide) dX7_unit_106 (fun wz14 ez15 => ?_)
          have fh16 : wz14[43]? = some ((aa 13), .inl (ay 0, 12, .inl (upd f13 U (nI h7)))) := vg_se ez15 fh13
          refine vg_aload_n X dX7_unit_107 0 rfl rfl ?_
          have fh17 : wz14[29]? = some (am, .inr (10, [.int (nI 0), .int (nI n), .int (nI P), .ref (aa 0), .ref (aa 1), .ref (aa 2), .ref (aa 3), .ref (aa 4), .ref (aa 5), .ref (aa 6), .ref (aa 7), .ref (aa 8), .ref (aa 9), .ref (aa 10), .int (nI U), .ref (aa 11), .ref (aa 12), .ref (aa 13), .ref (aa 14), .ref (aa 15), .ref (aa 16), .ref (aa 17), .ref (aa 18), .ref (aa 19), .ref (aa 20), .ref (aa 21), .ref (aa 22), .ref (aa 23), .int (nI wl), .ref (aa 24)])) := (vg_sn ez15 (by decide)).trans (fh12)
          refine vg_get X in_X7_unit_X7 29 fh17 rfl 18 (by decide) ml_X7_unit_53 rfl rfl dX7_unit_108 ?_
          refine vg_aload_n X dX7_unit_111 0 rfl rfl ?_
          refine vg_get X in_X7_unit_X7 29 fh17 rfl 14 (by decide) ml_X7_unit_97 rfl rfl dX7_unit_112 ?_
          refine vg_iload X dX7_unit_115 4 rfl ?_
          have fh18 : wz14[44]? = some ((aa 14), .inl (ay 0, 12, .inl f14)) := (vg_sn ez15 (by decide)).trans ((vg_sn ez10 (by decide)).trans ((vg_sn ez5 (by decide)).trans (hh14)))
          refine vg_iast X 44 fh18 rfl (by omega) (by decide) dX7_unit_117 (fun wz19 ez20 => ?_)
          have fh21 : wz19[44]? = some ((aa 14), .inl (ay 0, 12, .inl (upd f14 U (nI p7)))) := vg_se ez20 fh18
          refine vg_aload_n X dX7_unit_118 0 rfl rfl ?_
          have fh22 : wz19[29]? = some (am, .inr (10, [.int (nI 0), .int (nI n), .int (nI P), .ref (aa 0), .ref (aa 1), .ref (aa 2), .ref (aa 3), .ref (aa 4), .ref (aa 5), .ref (aa 6), .ref (aa 7), .ref (aa 8), .ref (aa 9), .ref (aa 10), .int (nI U), .ref (aa 11), .ref (aa 12), .ref (aa 13), .ref (aa 14), .ref (aa 15), .ref (aa 16), .ref (aa 17), .ref (aa 18), .ref (aa 19), .ref (aa 20), .ref (aa 21), .ref (aa 22), .ref (aa 23), .int (nI wl), .ref (aa 24)])) := (vg_sn ez20 (by decide)).trans (fh17)
          refine vg_get X in_X7_unit_X7 29 fh22 rfl 19 (by decide) ml_X7_unit_56 rfl rfl dX7_unit_119 ?_
          refine vg_aload_n X dX7_unit_122 0 rfl rfl ?_
          refine vg_get X in_X7_unit_X7 29 fh22 rfl 14 (by decide) ml_X7_unit_97 rfl rfl dX7_unit_123 ?_
          refine vg_iload X dX7_unit_126 5 rfl ?_
          have fh23 : wz19[45]? = some ((aa 15), .inl (ay 0, 12, .inl f15)) := (vg_sn ez20 (by decide)).trans ((vg_sn ez15 (by decide)).trans ((vg_sn ez10 (by decide)).trans ((vg_sn ez5 (by decide)).trans (hh15))))
          refine vg_iast X 45 fh23 rfl (by omega) (by decide) dX7_unit_128 (fun wz24 ez25 => ?_)
          have fh26 : wz24[45]? = some ((aa 15), .inl (ay 0, 12, .inl (upd f15 U (nI q7)))) := vg_se ez25 fh23
          refine vg_aload_n X dX7_unit_129 0 rfl rfl ?_
          refine vg_dup X dX7_unit_130 rfl ?_
          have fh27 : wz24[29]? = some (am, .inr (10, [.int (nI 0), .int (nI n), .int (nI P), .ref (aa 0), .ref (aa 1), .ref (aa 2), .ref (aa 3), .ref (aa 4), .ref (aa 5), .ref (aa 6), .ref (aa 7), .ref (aa 8), .ref (aa 9), .ref (aa 10), .int (nI U), .ref (aa 11), .ref (aa 12), .ref (aa 13), .ref (aa 14), .ref (aa 15), .ref (aa 16), .ref (aa 17), .ref (aa 18), .ref (aa 19), .ref (aa 20), .ref (aa 21), .ref (aa 22), .ref (aa 23), .int (nI wl), .ref (aa 24)])) := (vg_sn ez25 (by decide)).trans (fh22)
          refine vg_get X in_X7_unit_X7 29 fh27 rfl 14 (by decide) ml_X7_unit_97 rfl rfl dX7_unit_131 ?_
          refine vg_iconst X (nI 1) dX7_unit_134 (by decide) ?_
          refine vg_iadd X (nI (U + 1)) dX7_unit_135 (nI_add _ _) ?_
          refine vg_put X in_X7_unit_X7 tyX7 tyX7_ok nmX7 29 fh27 rfl 14 (by decide) ml_X7_unit_97 rfl rfl rfl rfl (Nat.le_of_ble_eq_true rfl) dX7_unit_136 (fun wz28 ez29 => ?_)
          have fh30 : wz28[29]? = some (am, .inr (10, [.int (nI 0), .int (nI n), .int (nI P), .ref (aa 0), .ref (aa 1), .ref (aa 2), .ref (aa 3), .ref (aa 4), .ref (aa 5), .ref (aa 6), .ref (aa 7), .ref (aa 8), .ref (aa 9), .ref (aa 10), .int (nI (U + 1)), .ref (aa 11), .ref (aa 12), .ref (aa 13), .ref (aa 14), .ref (aa 15), .ref (aa 16), .ref (aa 17), .ref (aa 18), .ref (aa 19), .ref (aa 20), .ref (aa 21), .ref (aa 22), .ref (aa 23), .int (nI wl), .ref (aa 24)])) := vg_se ez29 fh27
          refine vg_aload_n X dX7_unit_139 0 rfl rfl ?_
          refine vg_get X in_X7_unit_X7 29 fh30 rfl 14 (by decide) ml_X7_unit_97 rfl rfl dX7_unit_140 ?_
          refine vg_iconst X (nI 1) dX7_unit_143 (by decide) ?_
          refine vg_isub X (nI U) dX7_unit_144 (pk_sub (by omega)) ?_
          have fh31 : wz28[30]? = some ((aa 0), .inl (ay 0, 150, .inl f0)) := (vg_sn ez29 (by decide)).trans ((vg_sn ez25 (by decide)).trans ((vg_sn ez20 (by decide)).trans ((vg_sn ez15 (by decide)).trans ((vg_sn ez10 (by decide)).trans ((vg_sn ez5 (by decide)).trans (hh0))))))
          have fh32 : wz28[31]? = some ((aa 1), .inl (ay 0, 150, .inl f1)) := (vg_sn ez29 (by decide)).trans ((vg_sn ez25 (by decide)).trans ((vg_sn ez20 (by decide)).trans ((vg_sn ez15 (by decide)).trans ((vg_sn ez10 (by decide)).trans ((vg_sn ez5 (by decide)).trans (hh1))))))
          have fh33 : wz28[32]? = some ((aa 2), .inl (ay 0, 150, .inl f2)) := (vg_sn ez29 (by decide)).trans ((vg_sn ez25 (by decide)).trans ((vg_sn ez20 (by decide)).trans ((vg_sn ez15 (by decide)).trans ((vg_sn ez10 (by decide)).trans ((vg_sn ez5 (by decide)).trans (hh2))))))
          have fh34 : wz28[33]? = some ((aa 3), .inl (ay 0, 150, .inl f3)) := (vg_sn ez29 (by decide)).trans ((vg_sn ez25 (by decide)).trans ((vg_sn ez20 (by decide)).trans ((vg_sn ez15 (by decide)).trans ((vg_sn ez10 (by decide)).trans ((vg_sn ez5 (by decide)).trans (hh3))))))
          have fh35 : wz28[34]? = some ((aa 4), .inl (ay 0, 150, .inl f4)) := (vg_sn ez29 (by decide)).trans ((vg_sn ez25 (by decide)).trans ((vg_sn ez20 (by decide)).trans ((vg_sn ez15 (by decide)).trans ((vg_sn ez10 (by decide)).trans ((vg_sn ez5 (by decide)).trans (hh4))))))
          have fh36 : wz28[35]? = some ((aa 5), .inl (ay 0, 150, .inl f5)) := (vg_sn ez29 (by decide)).trans ((vg_sn ez25 (by decide)).trans ((vg_sn ez20 (by decide)).trans ((vg_sn ez15 (by decide)).trans ((vg_sn ez10 (by decide)).trans ((vg_sn ez5 (by decide)).trans (hh5))))))
          have fh37 : wz28[36]? = some ((aa 6), .inl (ay 2, 150, .inl f6)) := (vg_sn ez29 (by decide)).trans ((vg_sn ez25 (by decide)).trans ((vg_sn ez20 (by decide)).trans ((vg_sn ez15 (by decide)).trans ((vg_sn ez10 (by decide)).trans ((vg_sn ez5 (by decide)).trans (hh6))))))
          have fh38 : wz28[37]? = some ((aa 7), .inl (ay 0, 150, .inl f7)) := (vg_sn ez29 (by decide)).trans ((vg_sn ez25 (by decide)).trans ((vg_sn ez20 (by decide)).trans ((vg_sn ez15 (by decide)).trans ((vg_sn ez10 (by decide)).trans ((vg_sn ez5 (by decide)).trans (hh7))))))
          have fh39 : wz28[38]? = some ((aa 8), .inl (ay 0, 450, .inl f8)) := (vg_sn ez29 (by decide)).trans ((vg_sn ez25 (by decide)).trans ((vg_sn ez20 (by decide)).trans ((vg_sn ez15 (by decide)).trans ((vg_sn ez10 (by decide)).trans ((vg_sn ez5 (by decide)).trans (hh8))))))
          have fh40 : wz28[39]? = some ((aa 9), .inl (ay 0, 450, .inl f9)) := (vg_sn ez29 (by decide)).trans ((vg_sn ez25 (by decide)).trans ((vg_sn ez20 (by decide)).trans ((vg_sn ez15 (by decide)).trans ((vg_sn ez10 (by decide)).trans ((vg_sn ez5 (by decide)).trans (hh9))))))
          have fh41 : wz28[40]? = some ((aa 10), .inl (ay 0, 450, .inl f10)) := (vg_sn ez29 (by decide)).trans ((vg_sn ez25 (by decide)).trans ((vg_sn ez20 (by decide)).trans ((vg_sn ez15 (by decide)).trans ((vg_sn ez10 (by decide)).trans ((vg_sn ez5 (by decide)).trans (hh10))))))
          have fh42 : wz28[41]? = some ((aa 11), .inl (ay 0, 12, .inl (upd f11 U (nI v1)))) := (vg_sn ez29 (by decide)).trans ((vg_sn ez25 (by decide)).trans ((vg_sn ez20 (by decide)).trans ((vg_sn ez15 (by decide)).trans ((vg_sn ez10 (by decide)).trans (fh6)))))
          have fh43 : wz28[42]? = some ((aa 12), .inl (ay 0, 12, .inl (upd f12 U (nI w7)))) := (vg_sn ez29 (by decide)).trans ((vg_sn ez25 (by decide)).trans ((vg_sn ez20 (by decide)).trans ((vg_sn ez15 (by decide)).trans (fh11))))
          have fh44 : wz28[43]? = some ((aa 13), .inl (ay 0, 12, .inl (upd f13 U (nI h7)))) := (vg_sn ez29 (by decide)).trans ((vg_sn ez25 (by decide)).trans ((vg_sn ez20 (by decide)).trans (fh16)))
          have fh45 : wz28[44]? = some ((aa 14), .inl (ay 0, 12, .inl (upd f14 U (nI p7)))) := (vg_sn ez29 (by decide)).trans ((vg_sn ez25 (by decide)).trans (fh21))
          have fh46 : wz28[45]? = some ((aa 15), .inl (ay 0, 12, .inl (upd f15 U (nI q7)))) := (vg_sn ez29 (by decide)).trans (fh26)
          have D2 : cm_D ay wz28 aa n P (U + 1) d fr to pe (va_up uv U (cu_new v1 w7 h7 p7 q7)) := ⟨f0, f1, f2, f3, f4, f5, f6, f7, f8, f9, f10, (upd f11 U (nI v1)), (upd f12 U (nI w7)), (upd f13 U (nI h7)), (upd f14 U (nI p7)), (upd f15 U (nI q7)), fh31, fh32, fh33, fh34, fh35, fh36, fh37, fh38, fh39, fh40, fh41, fh42, fh43, fh44, fh45, fh46, hp, fun j2 hj2 => by
      by_cases q9 : j2 = U
      · subst q9; rw [va_up_self, pk_us, pk_us, pk_us, pk_us, pk_us]; exact ⟨rfl, rfl, rfl, rfl, rfl⟩
      · rw [va_up_ne _ _ q9, pk_un q9, pk_un q9, pk_un q9, pk_un q9, pk_un q9]; exact hu j2 (by omega)⟩
          exact vg_iret X rfl (Or.inr (Or.inr (Or.inr (⟨v1, w7, h7, p7, q7, rfl, hv1, rfl, kw1, rfl, kh1, rfl, kp0, kp1, rfl, kq0, kq1, p2, ⟨_, _, _, _, fh30, D2, cm_T_fr gT (fun q h1 h2 => ((vg_sn (j := q) ez29 (by omega)).trans ((vg_sn (j := q) ez25 (by omega)).trans ((vg_sn (j := q) ez20 (by omega)).trans ((vg_sn (j := q) ez15 (by omega)).trans ((vg_sn (j := q) ez10 (by omega)).trans (vg_sn (j := q) ez5 (by omega)))))))), ((vg_sn (j := 51) ez29 (by decide)).trans ((vg_sn (j := 51) ez25 (by decide)).trans ((vg_sn (j := 51) ez20 (by decide)).trans ((vg_sn (j := 51) ez15 (by decide)).trans ((vg_sn (j := 51) ez10 (by decide)).trans (vg_sn (j := 51) ez5 (by decide))))))).trans g51, ((vg_sn (j := 52) ez29 (by decide)).trans ((vg_sn (j := 52) ez25 (by decide)).trans ((vg_sn (j := 52) ez20 (by decide)).trans ((vg_sn (j := 52) ez15 (by decide)).trans ((vg_sn (j := 52) ez10 (by decide)).trans (vg_sn (j := 52) ez5 (by decide))))))).trans g52, ((vg_sn (j := 53) ez29 (by decide)).trans ((vg_sn (j := 53) ez25 (by decide)).trans ((vg_sn (j := 53) ez20 (by decide)).trans ((vg_sn (j := 53) ez15 (by decide)).trans ((vg_sn (j := 53) ez10 (by decide)).trans (vg_sn (j := 53) ez5 (by decide))))))).trans g53, ((vg_sn (j := 54) ez29 (by decide)).trans ((vg_sn (j := 54) ez25 (by decide)).trans ((vg_sn (j := 54) ez20 (by decide)).trans ((vg_sn (j := 54) ez15 (by decide)).trans ((vg_sn (j := 54) ez10 (by decide)).trans (vg_sn (j := 54) ez5 (by decide))))))).trans g54, hwl, hwp⟩, cm_fr_tr gF (cm_fr_of (vg_fr_set (vg_fr_set (vg_fr_set (vg_fr_set (vg_fr_set (vg_fr_set (vg_fr_rf _ [29, 41, 42, 43, 44, 45]) ez5 (by decide)) ez10 (by decide)) ez15 (by decide)) ez20 (by decide)) ez25 (by decide)) ez29 (by decide)) (by decide)), rfl⟩)))) (Nat.le_refl _) (Nat.le_refl _) dX7_unit_145
        · skip
          have ng : go_c b6 b55 b69 ≠ 0 := fun q9 => by have := gy q9; rw [c72] at this; exact absurd this (by decide)
          by_cases p0 : cm_in v n
          · skip
            by_cases p1 : (nI 0 ≤ w ∧ w ≤ nI 1000) ∧ (nI 0 ≤ h ∧ h ≤ nI 1000) ∧ (nI 1 ≤ pf ∧ pf ≤ nI 20) ∧ (nI 1 ≤ qf ∧ qf ≤ nI 20)
            · skip
              by_cases p2 : U < 12
              · skip
                exact absurd (by unfold go_c; rw [if_neg (by rw [y6 p0]; decide), if_neg (by rw [y55 p1]; decide), if_neg (by rw [y69 p2]; decide)]) ng
              · skip
                have g9 : go_c b6 b55 b69 = 3 := by unfold go_c; rw [if_neg (by rw [y6 p0]; decide), if_neg (by rw [y55 p1]; decide), if_pos (n69 p2)]
                rw [g9] at gO
                refine vg_iconst X (nI 0) dX7_unit_75 (by decide) ?_
                exact vg_iret X rfl (Or.inr (Or.inr (Or.inl ⟨p0, p1, p2, ⟨_, _, _, _, gO, gD, gT, g51, g52, g53, g54, hwl, hwp⟩, gF⟩))) (Nat.le_refl _) (Nat.le_refl _) dX7_unit_76
            · skip
              have g9 : go_c b6 b55 b69 = 2 := by unfold go_c; rw [if_neg (by rw [y6 p0]; decide), if_pos (n55 p1)]
              rw [g9] at gO
              refine vg_iconst X (nI 0) dX7_unit_75 (by decide) ?_
              exact vg_iret X rfl (Or.inr (Or.inl ⟨p0, p1, ⟨_, _, _, _, gO, gD, gT, g51, g52, g53, g54, hwl, hwp⟩, gF⟩)) (Nat.le_refl _) (Nat.le_refl _) dX7_unit_76
          · skip
            have g9 : go_c b6 b55 b69 = 1 := by unfold go_c; rw [if_pos (n6 p0)]
            rw [g9] at gO
            refine vg_iconst X (nI 0) dX7_unit_75 (by decide) ?_
            exact vg_iret X rfl (Or.inl ⟨p0, ⟨_, _, _, _, gO, gD, gT, g51, g52, g53, g54, hwl, hwp⟩, gF⟩) (Nat.le_refl _) (Nat.le_refl _) dX7_unit_76
      refine vg_aload_n X dX7_unit_55 0 rfl rfl ?_
      refine vg_get X in_X7_unit_X7 29 hO3 rfl 14 (by decide) ml_X7_unit_97 rfl rfl dX7_unit_56 ?_
      refine vg_bipush X (nI 12) dX7_unit_59 (by decide) ?_
      refine vg_icmp_ge X 68 dX7_unit_61 (by decide) (fun c61 => ?_) (fun c61 => ?_)
      · have c61 : 12 ≤ U := (nI_leI (by omega) (by omega)).mp c61
        have k61 : ¬ (U < 12) := by omega
        refine vg_iconst X (nI 0) dX7_unit_68 (by decide) ?_
        exact j69 _ (fun q9 => absurd (q9) k61) (fun _ => by decide)
      · have c61 : ¬ 12 ≤ U := fun z => c61 ((nI_leI (by omega) (by omega)).mpr z)
        have k61 : U < 12 := by omega
        refine vg_iconst X (nI 1) dX7_unit_64 (by decide) ?_
        refine vg_goto X 69 dX7_unit_65 (by decide) ?_
        exact j69 _ (fun _ => by decide) (fun q9 => absurd (show U < 12 from (by assumption)) q9)
    refine vg_iload_n X dX7_unit_6 2 rfl rfl ?_
    refine vg_iconst X (nI 0) dX7_unit_7 (by decide) ?_
    refine vg_sipush X (nI 1000) dX7_unit_8 (by decide) ?_
    refine vg_calli (vg_runS X (c_X7_in l (x := w) (a := nI 0) (b := nI 1000)) (va_cwS 3 X.2.2.2.2.1 gX7_unit_X7_in rfl rfl rfl (by decide +kernel) ⟨Nat.le_of_ble_eq_true rfl, Nat.le_of_ble_eq_true rfl⟩) rfl rfl (Nat.le_of_ble_eq_true rfl) dX7_unit_11 ⟨Nat.zero_le _, Nat.zero_le _⟩) (fun rr49 wz47 PP48 => ?_)
    obtain ⟨hw9, yrr49, nrr49⟩ := PP48
    rw [hw9]
    skip
    refine vg_if_eq X 54 dX7_unit_14 (by decide) (fun c14 => ?_) (fun c14 => ?_)
    · have k14 : ¬ ((nI 0) ≤ w ∧ w ≤ (nI 1000)) := fun q9 => by have := yrr49 q9; rw [c14] at this; exact absurd this (by decide)
      refine vg_iconst X (nI 0) dX7_unit_54 (by decide) ?_
      exact j55 _ (fun q9 => absurd (q9.1) k14) (fun _ => by decide)
    · have k14 : (nI 0) ≤ w ∧ w ≤ (nI 1000) := Classical.byContradiction (fun q9 => c14 (nrr49 q9))
      refine vg_iload_n X dX7_unit_17 3 rfl rfl ?_
      refine vg_iconst X (nI 0) dX7_unit_18 (by decide) ?_
      refine vg_sipush X (nI 1000) dX7_unit_19 (by decide) ?_
      refine vg_calli (vg_runS X (c_X7_in l (x := h) (a := nI 0) (b := nI 1000)) (va_cwS 3 X.2.2.2.2.1 gX7_unit_X7_in rfl rfl rfl (by decide +kernel) ⟨Nat.le_of_ble_eq_true rfl, Nat.le_of_ble_eq_true rfl⟩) rfl rfl (Nat.le_of_ble_eq_true rfl) dX7_unit_22 ⟨Nat.zero_le _, Nat.zero_le _⟩) (fun rr52 wz50 PP51 => ?_)
      obtain ⟨hw9, yrr52, nrr52⟩ := PP51
      rw [hw9]
      skip
      refine vg_if_eq X 54 dX7_unit_25 (by decide) (fun c25 => ?_) (fun c25 => ?_)
      · have k25 : ¬ ((nI 0) ≤ h ∧ h ≤ (nI 1000)) := fun q9 => by have := yrr52 q9; rw [c25] at this; exact absurd this (by decide)
        refine vg_iconst X (nI 0) dX7_unit_54 (by decide) ?_
        exact j55 _ (fun q9 => absurd (q9.2.1) k25) (fun _ => by decide)
      · have k25 : (nI 0) ≤ h ∧ h ≤ (nI 1000) := Classical.byContradiction (fun q9 => c25 (nrr52 q9))
        refine vg_iload X dX7_unit_28 4 rfl ?_
        refine vg_iconst X (nI 1) dX7_unit_30 (by decide) ?_
        refine vg_bipush X (nI 20) dX7_unit_31 (by decide) ?_
        refine vg_calli (vg_runS X (c_X7_in l (x := pf) (a := nI 1) (b := nI 20)) (va_cwS 3 X.2.2.2.2.1 gX7_unit_X7_in rfl rfl rfl (by decide +kernel) ⟨Nat.le_of_ble_eq_true rfl, Nat.le_of_ble_eq_true rfl⟩) rfl rfl (Nat.le_of_ble_eq_true rfl) dX7_unit_33 ⟨Nat.zero_le _, Nat.zero_le _⟩) (fun rr55 wz53 PP54 => ?_)
        obtain ⟨hw9, yrr55, nrr55⟩ := PP54
        rw [hw9]
        skip
        refine vg_if_eq X 54 dX7_unit_36 (by decide) (fun c36 => ?_) (fun c36 => ?_)
        · have k36 : ¬ ((nI 1) ≤ pf ∧ pf ≤ (nI 20)) := fun q9 => by have := yrr55 q9; rw [c36] at this; exact absurd this (by decide)
          refine vg_iconst X (nI 0) dX7_unit_54 (by decide) ?_
          exact j55 _ (fun q9 => absurd (q9.2.2.1) k36) (fun _ => by decide)
        · have k36 : (nI 1) ≤ pf ∧ pf ≤ (nI 20) := Classical.byContradiction (fun q9 => c36 (nrr55 q9))
          refine vg_iload X dX7_unit_39 5 rfl ?_
          refine vg_iconst X (nI 1) dX7_unit_41 (by decide) ?_
          refine vg_bipush X (nI 20) dX7_unit_42 (by decide) ?_
          refine vg_calli (vg_runS X (c_X7_in l (x := qf) (a := nI 1) (b := nI 20)) (va_cwS 3 X.2.2.2.2.1 gX7_unit_X7_in rfl rfl rfl (by decide +kernel) ⟨Nat.le_of_ble_eq_true rfl, Nat.le_of_ble_eq_true rfl⟩) rfl rfl (Nat.le_of_ble_eq_true rfl) dX7_unit_44 ⟨Nat.zero_le _, Nat.zero_le _⟩) (fun rr58 wz56 PP57 => ?_)
          obtain ⟨hw9, yrr58, nrr58⟩ := PP57
          rw [hw9]
          skip
          refine vg_if_eq X 54 dX7_unit_47 (by decide) (fun c47 => ?_) (fun c47 => ?_)
          · have k47 : ¬ ((nI 1) ≤ qf ∧ qf ≤ (nI 20)) := fun q9 => by have := yrr58 q9; rw [c47] at this; exact absurd this (by decide)
            refine vg_iconst X (nI 0) dX7_unit_54 (by decide) ?_
            exact j55 _ (fun q9 => absurd (q9.2.2.2) k47) (fun _ => by decide)
          · have k47 : (nI 1) ≤ qf ∧ qf ≤ (nI 20) := Classical.byContradiction (fun q9 => c47 (nrr58 q9))
            refine vg_iconst X (nI 1) dX7_unit_50 (by decide) ?_
            refine vg_goto X 55 dX7_unit_51 (by decide) ?_
            exact j55 _ (fun _ => by decide) (fun q9 => absurd (show (nI 0 ≤ w ∧ w ≤ nI 1000) ∧ (nI 0 ≤ h ∧ h ≤ nI 1000) ∧ (nI 1 ≤ pf ∧ pf ≤ nI 20) ∧ (nI 1 ≤ qf ∧ qf ≤ nI 20) from ⟨by assumption, by assumption, by assumption, by assumption⟩) q9)
  refine vg_aload_n X dX7_unit_0 0 rfl rfl ?_
  refine vg_aload_n X dX7_unit_1 0 rfl rfl ?_
  refine vg_iload_n X dX7_unit_2 1 rfl rfl ?_
  refine vg_calli (vg_runV X (c_X7_isNode l hO (k := v) (by omega)) (cwV 1 X.2.2.2.2.1 gX7_unit_X7_isNode rfl rfl rfl (by decide +kernel) ⟨Nat.le_of_ble_eq_true rfl, Nat.le_of_ble_eq_true rfl⟩) 29 hO3 rfl rfl rfl (Nat.le_of_ble_eq_true rfl) dX7_unit_3 ⟨Nat.zero_le _, Nat.zero_le _⟩) (fun rr61 wz59 PP60 => ?_)
  obtain ⟨hw9, yrr61, nrr61⟩ := PP60
  rw [hw9]
  exact j6 _ yrr61 nrr61
set_option maxHeartbeats 4000000 in
set_option maxRecDepth 100000 in
/-- net(..) -/
theorem c_X7_net (l : Launch) {D : va_G} {ay : Nat → ClassId} {base : Nat} {Gx : State → Prop} {ws : va_W} {am : Nat} {aa : Nat → Nat} {n P U th wl : Nat} {d fr to pe uv : Nat → Nat → Nat} {ku ks kt wp : Nat → Nat} {sk : Nat → Nat → Nat} {x : Int32} (hS : cm_St ay ws am aa th n P U d fr to pe uv ku ks kt sk wl wp) (hR : cm_R n P U d fr to pe uv) : Met l yX7_net wsX7_net ({ frames := 0, cells := 0, slots := 0, locals := 0 } : Room) (va_Pc [.ref am, .int x] (vg_B D ay base Gx ws)) (va_Qv (fun u2 => (x < nI 0 ∧ cm_St ay u2 am aa 2 n P U d fr to pe uv ku ks kt sk wl wp ∧ cm_fr ws u2) ∨ (nI 0 ≤ x ∧ ¬ x ≤ nI 200 ∧ cm_St ay u2 am aa 1 n P U d fr to pe uv ku ks kt sk wl wp ∧ cm_fr ws u2) ∨ (∃ nx : Nat, x = nI nx ∧ nx ≤ 200 ∧ cm_St ay u2 am aa 0 nx 0 0 d fr to pe uv (fun _ => 0) ks kt sk 0 wp ∧ cm_fr ws u2)) (vg_B D ay base Gx) (vg_A base)) 0 0 (vg_A base) := by
  refine vg_met (cc := cX7_net) (maxL := 3) (ret := none) (own := RX7) (lv := [(0, .ref am), (1, .int x)]) (by decide) rfl rfl (Nat.le_of_ble_eq_true rfl) rfl ?_
  intro p e s m args below meth c X hinit
  obtain ⟨fl, fm, fn, fs, hO, hD, hT, h51, h52, h53, h54, hwl, hwp⟩ := id hS
  have hO3 := hO
  unfold cm_O at hO3
  obtain ⟨f0, f1, f2, f3, f4, f5, f6, f7, f8, f9, f10, f11, f12, f13, f14, f15, h0, h1, h2, h3, h4, h5, h6, h7, h8, h9, h10, h11, h12, h13, h14, h15, hp, hu⟩ := id hD
  obtain ⟨f16, f17, f18, f19, f20, h16, h17, h18, h19, h20, ht0⟩ := id hT
  refine vg_aload_n X dX7_net_0 0 rfl rfl ?_
  refine vg_iload_n X dX7_net_1 1 rfl rfl ?_
  refine vg_if_ge X 9 dX7_net_2 (by decide) (fun c2 => ?_) (fun c2 => ?_)
  · skip
    refine vg_iload_n X dX7_net_9 1 rfl rfl ?_
    refine vg_sipush X (nI 200) dX7_net_10 (by decide) ?_
    refine vg_icmp_le X 20 dX7_net_13 (by decide) (fun c13 => ?_) (fun c13 => ?_)
    · skip
      refine vg_iconst X (nI 0) dX7_net_20 (by decide) ?_
      refine vg_put X in_X7_net_X7 tyX7 tyX7_ok nmX7 29 hO3 rfl 0 (by decide) ml_X7_net_87 rfl rfl rfl rfl (Nat.le_of_ble_eq_true rfl) dX7_net_21 (fun wz1 ez2 => ?_)
      have fh3 : wz1[29]? = some (am, .inr (10, [.int (nI 0), .int (nI n), .int (nI P), .ref (aa 0), .ref (aa 1), .ref (aa 2), .ref (aa 3), .ref (aa 4), .ref (aa 5), .ref (aa 6), .ref (aa 7), .ref (aa 8), .ref (aa 9), .ref (aa 10), .int (nI U), .ref (aa 11), .ref (aa 12), .ref (aa 13), .ref (aa 14), .ref (aa 15), .ref (aa 16), .ref (aa 17), .ref (aa 18), .ref (aa 19), .ref (aa 20), .ref (aa 21), .ref (aa 22), .ref (aa 23), .int (nI wl), .ref (aa 24)])) := vg_se ez2 hO3
      refine vg_aload_n X dX7_net_24 0 rfl rfl ?_
      refine vg_get X in_X7_net_X7 29 fh3 rfl 0 (by decide) ml_X7_net_87 rfl rfl dX7_net_25 ?_
      refine vg_if_le X 32 dX7_net_28 (by decide) (fun c28 => ?_) (fun c28 => ?_)
      · have c28 : 0 ≤ 0 := (vg_le0 (by omega)).mp c28
        skip
        obtain ⟨x1, hx1, rfl⟩ := nI_of (x := x) (fun q9 => absurd c2 (Int32.not_le.mpr q9))
        have hx2 := (nI_leI hx1 (by decide)).mp c13
        refine vg_aload_n X dX7_net_32 0 rfl rfl ?_
        refine vg_iload_n X dX7_net_33 1 rfl rfl ?_
        refine vg_put X in_X7_net_X7 tyX7 tyX7_ok nmX7 29 fh3 rfl 1 (by decide) ml_X7_net_91 rfl rfl rfl rfl (Nat.le_of_ble_eq_true rfl) dX7_net_34 (fun wz4 ez5 => ?_)
        have fh6 : wz4[29]? = some (am, .inr (10, [.int (nI 0), .int (nI x1), .int (nI P), .ref (aa 0), .ref (aa 1), .ref (aa 2), .ref (aa 3), .ref (aa 4), .ref (aa 5), .ref (aa 6), .ref (aa 7), .ref (aa 8), .ref (aa 9), .ref (aa 10), .int (nI U), .ref (aa 11), .ref (aa 12), .ref (aa 13), .ref (aa 14), .ref (aa 15), .ref (aa 16), .ref (aa 17), .ref (aa 18), .ref (aa 19), .ref (aa 20), .ref (aa 21), .ref (aa 22), .ref (aa 23), .int (nI wl), .ref (aa 24)])) := vg_se ez5 fh3
        refine vg_aload_n X dX7_net_37 0 rfl rfl ?_
        refine vg_iconst X (nI 0) dX7_net_38 (by decide) ?_
        refine vg_put X in_X7_net_X7 tyX7 tyX7_ok nmX7 29 fh6 rfl 2 (by decide) ml_X7_net_94 rfl rfl rfl rfl (Nat.le_of_ble_eq_true rfl) dX7_net_39 (fun wz7 ez8 => ?_)
        have fh9 : wz7[29]? = some (am, .inr (10, [.int (nI 0), .int (nI x1), .int (nI 0), .ref (aa 0), .ref (aa 1), .ref (aa 2), .ref (aa 3), .ref (aa 4), .ref (aa 5), .ref (aa 6), .ref (aa 7), .ref (aa 8), .ref (aa 9), .ref (aa 10), .int (nI U), .ref (aa 11), .ref (aa 12), .ref (aa 13), .ref (aa 14), .ref (aa 15), .ref (aa 16), .ref (aa 17), .ref (aa 18), .ref (aa 19), .ref (aa 20), .ref (aa 21), .ref (aa 22), .ref (aa 23), .int (nI wl), .ref (aa 24)])) := vg_se ez8 fh6
        refine vg_aload_n X dX7_net_42 0 rfl rfl ?_
        refine vg_iconst X (nI 0) dX7_net_43 (by decide) ?_
        refine vg_put X in_X7_net_X7 tyX7 tyX7_ok nmX7 29 fh9 rfl 14 (by decide) ml_X7_net_97 rfl rfl rfl rfl (Nat.le_of_ble_eq_true rfl) dX7_net_44 (fun wz10 ez11 => ?_)
        have fh12 : wz10[29]? = some (am, .inr (10, [.int (nI 0), .int (nI x1), .int (nI 0), .ref (aa 0), .ref (aa 1), .ref (aa 2), .ref (aa 3), .ref (aa 4), .ref (aa 5), .ref (aa 6), .ref (aa 7), .ref (aa 8), .ref (aa 9), .ref (aa 10), .int (nI 0), .ref (aa 11), .ref (aa 12), .ref (aa 13), .ref (aa 14), .ref (aa 15), .ref (aa 16), .ref (aa 17), .ref (aa 18), .ref (aa 19), .ref (aa 20), .ref (aa 21), .ref (aa 22), .ref (aa 23), .int (nI wl), .ref (aa 24)])) := vg_se ez11 fh9
        refine vg_aload_n X dX7_net_47 0 rfl rfl ?_
        refine vg_iconst X (nI 0) dX7_net_48 (by decide) ?_
        refine vg_put X in_X7_net_X7 tyX7 tyX7_ok nmX7 29 fh12 rfl 28 (by decide) ml_X7_net_100 rfl rfl rfl rfl (Nat.le_of_ble_eq_true rfl) dX7_net_49 (fun wz13 ez14 => ?_)
        have fh15 : wz13[29]? = some (am, .inr (10, [.int (nI 0), .int (nI x1), .int (nI 0), .ref (aa 0), .ref (aa 1), .ref (aa 2), .ref (aa 3), .ref (aa 4), .ref (aa 5), .ref (aa 6), .ref (aa 7), .ref (aa 8), .ref (aa 9), .ref (aa 10), .int (nI 0), .ref (aa 11), .ref (aa 12), .ref (aa 13), .ref (aa 14), .ref (aa 15), .ref (aa 16), .ref (aa 17), .ref (aa 18), .ref (aa 19), .ref (aa 20), .ref (aa 21), .ref (aa 22), .ref (aa 23), .int (nI 0), .ref (aa 24)])) := vg_se ez14 fh12
        refine vg_iconst X (nI 0) dX7_net_52 (by decide) ?_
        refine vg_istore_n X [(2, .int (nI 0)), (0, .ref am), (1, .int (nI x1))] dX7_net_53 rfl (by decide) rfl ?_
        refine vg_locals [1, 2, 0] rfl ?_
        have fh16 : wz13[46]? = some ((aa 16), .inl (ay 2, 6, .inl f16)) := (vg_sn ez14 (by decide)).trans ((vg_sn ez11 (by decide)).trans ((vg_sn ez8 (by decide)).trans ((vg_sn ez5 (by decide)).trans ((vg_sn ez2 (by decide)).trans (h16)))))
        have F0 : vg_fr ws wz13 [29, 46] := (vg_fr_set (vg_fr_set (vg_fr_set (vg_fr_set (vg_fr_set (vg_fr_rf _ [29, 46]) ez2 (by decide)) ez5 (by decide)) ez8 (by decide)) ez11 (by decide)) ez14 (by decide))
        have loop : ∀ (k9 k : Nat) (g16 : Nat → Int32) (ws1 : va_W), k + k9 = 6 → ws1[29]? = some (am, .inr (10, [.int (nI 0), .int (nI x1), .int (nI 0), .ref (aa 0), .ref (aa 1), .ref (aa 2), .ref (aa 3), .ref (aa 4), .ref (aa 5), .ref (aa 6), .ref (aa 7), .ref (aa 8), .ref (aa 9), .ref (aa 10), .int (nI 0), .ref (aa 11), .ref (aa 12), .ref (aa 13), .ref (aa 14), .ref (aa 15), .ref (aa 16), .ref (aa 17), .ref (aa 18), .ref (aa 19), .ref (aa 20), .ref (aa 21), .ref (aa 22), .ref (aa 23), .int (nI 0), .ref (aa 24)])) → ws1[46]? = some ((aa 16), .inl (ay 2, 6, .inl g16)) → vg_fr ws ws1 [29, 46] → (∀ q, q < k → g16 q = nI 0) → vg_V D base p l e ({ frames := 0, cells := 0, slots := 0, locals := 0 } : Room) s m args below meth c 3 0 0 (MQ below (va_Qv (fun u2 => ((nI x1) < nI 0 ∧ cm_St ay u2 am aa 2 n P U d fr to pe uv ku ks kt sk wl wp ∧ cm_fr ws u2) ∨ (nI 0 ≤ (nI x1) ∧ ¬ (nI x1) ≤ nI 200 ∧ cm_St ay u2 am aa 1 n P U d fr to pe uv ku ks kt sk wl wp ∧ cm_fr ws u2) ∨ (∃ nx : Nat, (nI x1) = nI nx ∧ nx ≤ 200 ∧ cm_St ay u2 am aa 0 nx 0 0 d fr to pe uv (fun _ => 0) ks kt sk 0 wp ∧ cm_fr ws u2)) (vg_B D ay base Gx) (vg_A base)) args s 0 0 (vg_A base)) [(0, .ref am), (1, .int (nI x1)), (2, .int (nI k))] [] ws1 54 := by
          intro k9
          induction k9 using Nat.strongRecOn with
          | ind k9 ih =>
            intro k g16 ws1 hk g29 g46 gfr hz
            refine vg_iload_n X dX7_net_54 2 rfl rfl ?_
            refine vg_bipush X (nI 6) dX7_net_55 (by decide) ?_
            refine vg_icmp_ge X 73 dX7_net_57 (by decide) (fun c57 => ?_) (fun c57 => ?_)
            · have c57 : 6 ≤ k := (nI_leI (by omega) (by omega)).mp c57
              exact vg_vret X rfl (Or.inr (Or.inr ⟨x1, rfl, hx2, ⟨fl, fm, fn, fs, g29, ⟨f0, f1, f2, f3, f4, f5, f6, f7, f8, f9, f10, f11, f12, f13, f14, f15, (gfr.2 30 (by decide)).trans h0, (gfr.2 31 (by decide)).trans h1, (gfr.2 32 (by decide)).trans h2, (gfr.2 33 (by decide)).trans h3, (gfr.2 34 (by decide)).trans h4, (gfr.2 35 (by decide)).trans h5, (gfr.2 36 (by decide)).trans h6, (gfr.2 37 (by decide)).trans h7, (gfr.2 38 (by decide)).trans h8, (gfr.2 39 (by decide)).trans h9, (gfr.2 40 (by decide)).trans h10, (gfr.2 41 (by decide)).trans h11, (gfr.2 42 (by decide)).trans h12, (gfr.2 43 (by decide)).trans h13, (gfr.2 44 (by decide)).trans h14, (gfr.2 45 (by decide)).trans h15, fun i hi => absurd hi (Nat.not_lt_zero i), fun i hi => absurd hi (Nat.not_lt_zero i)⟩, ⟨g16, f17, f18, f19, f20, g46, (gfr.2 47 (by decide)).trans h17, (gfr.2 48 (by decide)).trans h18, (gfr.2 49 (by decide)).trans h19, (gfr.2 50 (by decide)).trans h20, fun q hq => ⟨fun _ => hz q (by omega), fun q9 => absurd rfl q9⟩⟩, (gfr.2 51 (by decide)).trans h51, (gfr.2 52 (by decide)).trans h52, (gfr.2 53 (by decide)).trans h53, (gfr.2 54 (by decide)).trans h54, Nat.zero_le _, fun q hq => absurd hq (Nat.not_lt_zero q)⟩, cm_fr_of gfr (by decide)⟩)) (Nat.le_refl _) (Nat.le_refl _) dX7_net_73
            · have c57 : ¬ 6 ≤ k := fun z => c57 ((nI_leI (by omega) (by omega)).mpr z)
              refine vg_aload_n X dX7_net_60 0 rfl rfl ?_
              refine vg_get X in_X7_net_X7 29 g29 rfl 20 (by decide) ml_X7_net_59 rfl rfl dX7_net_61 ?_
              refine vg_iload_n X dX7_net_64 2 rfl rfl ?_
              refine vg_iconst X (nI 0) dX7_net_65 (by decide) ?_
              refine vg_zast X 46 g46 rfl (by omega) (by decide) (by decide) dX7_net_66 (fun wz17 ez18 => ?_)
              have fh19 : wz17[46]? = some ((aa 16), .inl (ay 2, 6, .inl (upd g16 k (nI 0)))) := vg_se ez18 g46
              refine vg_iinc X (v := nI (k + 1)) [(2, .int (nI (k + 1))), (0, .ref am), (1, .int (nI x1))] dX7_net_67 2 rfl (by rw [show Int32.ofInt 1 = nI 1 by decide, nI_add]) (by decide) rfl ?_
              refine vg_goto X 54 dX7_net_70 (by decide) ?_
              refine vg_locals [1, 2, 0] rfl ?_
              have fh20 : wz17[29]? = some (am, .inr (10, [.int (nI 0), .int (nI x1), .int (nI 0), .ref (aa 0), .ref (aa 1), .ref (aa 2), .ref (aa 3), .ref (aa 4), .ref (aa 5), .ref (aa 6), .ref (aa 7), .ref (aa 8), .ref (aa 9), .ref (aa 10), .int (nI 0), .ref (aa 11), .ref (aa 12), .ref (aa 13), .ref (aa 14), .ref (aa 15), .ref (aa 16), .ref (aa 17), .ref (aa 18), .ref (aa 19), .ref (aa 20), .ref (aa 21), .ref (aa 22), .ref (aa 23), .int (nI 0), .ref (aa 24)])) := (vg_sn ez18 (by decide)).trans (g29)
              refine ih (k9 - 1) (by omega) (k + 1) _ _ (by omega) fh20 fh19 (vg_fr_set gfr ez18 (by decide)) (fun q hq => ?_)
              by_cases q9 : q = k
              · subst q9; exact pk_us
              · rw [pk_un q9]; exact hz q (by omega)
        exact loop 6 0 _ _ rfl fh15 fh16 F0 (fun q hq => absurd hq (Nat.not_lt_zero q))
      · have c28 : ¬ 0 ≤ 0 := fun z => c28 ((vg_le0 (by omega)).mpr z)
        exact absurd (Nat.le_refl 0) c28
    · skip
      refine vg_iconst X (nI 1) dX7_net_16 (by decide) ?_
      refine vg_goto X 21 dX7_net_17 (by decide) ?_
      refine vg_put X in_X7_net_X7 tyX7 tyX7_ok nmX7 29 hO3 rfl 0 (by decide) ml_X7_net_87 rfl rfl rfl rfl (Nat.le_of_ble_eq_true rfl) dX7_net_21 (fun wz21 ez22 => ?_)
      have fh23 : wz21[29]? = some (am, .inr (10, [.int (nI 1), .int (nI n), .int (nI P), .ref (aa 0), .ref (aa 1), .ref (aa 2), .ref (aa 3), .ref (aa 4), .ref (aa 5), .ref (aa 6), .ref (aa 7), .ref (aa 8), .ref (aa 9), .ref (aa 10), .int (nI U), .ref (aa 11), .ref (aa 12), .ref (aa 13), .ref (aa 14), .ref (aa 15), .ref (aa 16), .ref (aa 17), .ref (aa 18), .ref (aa 19), .ref (aa 20), .ref (aa 21), .ref (aa 22), .ref (aa 23), .int (nI wl), .ref (aa 24)])) := vg_se ez22 hO3
      refine vg_aload_n X dX7_net_24 0 rfl rfl ?_
      refine vg_get X in_X7_net_X7 29 fh23 rfl 0 (by decide) ml_X7_net_87 rfl rfl dX7_net_25 ?_
      refine vg_if_le X 32 dX7_net_28 (by decide) (fun c28 => ?_) (fun c28 => ?_)
      · have c28 : 1 ≤ 0 := (vg_le0 (by omega)).mp c28
        exact absurd c28 (by decide)
      · have c28 : ¬ 1 ≤ 0 := fun z => c28 ((vg_le0 (by omega)).mpr z)
        skip
        exact vg_vret X rfl (Or.inr (Or.inl ⟨c2, c13, ⟨_, _, _, _, fh23, cm_D_fr hD (fun q h1 h2 => vg_sn ez22 (by omega)), cm_T_fr hT (fun q h1 h2 => vg_sn ez22 (by omega)), (vg_sn (j := 51) ez22 (by decide)).trans h51, (vg_sn (j := 52) ez22 (by decide)).trans h52, (vg_sn (j := 53) ez22 (by decide)).trans h53, (vg_sn (j := 54) ez22 (by decide)).trans h54, hwl, hwp⟩, cm_fr_of (vg_fr_set (vg_fr_rf _ [29]) ez22 (by decide)) (by decide)⟩)) (Nat.le_refl _) (Nat.le_refl _) dX7_net_31
  · skip
    refine vg_iconst X (nI 2) dX7_net_5 (by decide) ?_
    refine vg_goto X 21 dX7_net_6 (by decide) ?_
    refine vg_put X in_X7_net_X7 tyX7 tyX7_ok nmX7 29 hO3 rfl 0 (by decide) ml_X7_net_87 rfl rfl rfl rfl (Nat.le_of_ble_eq_true rfl) dX7_net_21 (fun wz24 ez25 => ?_)
    have fh26 : wz24[29]? = some (am, .inr (10, [.int (nI 2), .int (nI n), .int (nI P), .ref (aa 0), .ref (aa 1), .ref (aa 2), .ref (aa 3), .ref (aa 4), .ref (aa 5), .ref (aa 6), .ref (aa 7), .ref (aa 8), .ref (aa 9), .ref (aa 10), .int (nI U), .ref (aa 11), .ref (aa 12), .ref (aa 13), .ref (aa 14), .ref (aa 15), .ref (aa 16), .ref (aa 17), .ref (aa 18), .ref (aa 19), .ref (aa 20), .ref (aa 21), .ref (aa 22), .ref (aa 23), .int (nI wl), .ref (aa 24)])) := vg_se ez25 hO3
    refine vg_aload_n X dX7_net_24 0 rfl rfl ?_
    refine vg_get X in_X7_net_X7 29 fh26 rfl 0 (by decide) ml_X7_net_87 rfl rfl dX7_net_25 ?_
    refine vg_if_le X 32 dX7_net_28 (by decide) (fun c28 => ?_) (fun c28 => ?_)
    · have c28 : 2 ≤ 0 := (vg_le0 (by omega)).mp c28
      exact absurd c28 (by decide)
    · have c28 : ¬ 2 ≤ 0 := fun z => c28 ((vg_le0 (by omega)).mpr z)
      skip
      exact vg_vret X rfl (Or.inl ⟨Int32.not_le.mp c2, ⟨_, _, _, _, fh26, cm_D_fr hD (fun q h1 h2 => vg_sn ez25 (by omega)), cm_T_fr hT (fun q h1 h2 => vg_sn ez25 (by omega)), (vg_sn (j := 51) ez25 (by decide)).trans h51, (vg_sn (j := 52) ez25 (by decide)).trans h52, (vg_sn (j := 53) ez25 (by decide)).trans h53, (vg_sn (j := 54) ez25 (by decide)).trans h54, hwl, hwp⟩, cm_fr_of (vg_fr_set (vg_fr_rf _ [29]) ez25 (by decide)) (by decide)⟩) (Nat.le_refl _) (Nat.le_refl _) dX7_net_31
