/-- the reference's whole state -/
def cm_St (ay : Nat → ClassId) (ws : va_W) (am : Nat) (aa : Nat → Nat) (th n P U : Nat) (d fr to pe uv : Nat → Nat → Nat) (ku ks kt : Nat → Nat) (sk : Nat → Nat → Nat) (wl : Nat) (wp : Nat → Nat) : Prop :=
  ∃ (fl fm fn : Nat → Int64) (fs : Nat → Int32), cm_O ws am aa (nI th) n P U (nI wl) ∧ cm_D ay ws aa n P U d fr to pe uv ∧ cm_T ay ws aa n ku ks kt sk ∧ ws[51]? = some ((aa 21), .inl (ay 1, 200, .inr (.inl fl))) ∧ ws[52]? = some ((aa 22), .inl (ay 1, 1200, .inr (.inl fm))) ∧ ws[53]? = some ((aa 23), .inl (ay 1, 1200, .inr (.inl fn))) ∧ ws[54]? = some ((aa 24), .inl (ay 0, 200, .inl fs)) ∧ wl ≤ 200 ∧ ∀ i, i < wl → fs i = nI (wp (wl - 1 - i))
/-- only the reference's own cells have changed -/
def cm_fr (ws u : va_W) : Prop := u.length = ws.length ∧ ∀ j, j < 29 ∨ 55 ≤ j → u[j]? = ws[j]?
theorem cm_fr_of {ws u : va_W} {L : List Nat} (h : vg_fr ws u L) (hL : L.all (fun j => decide (29 ≤ j) && decide (j < 55)) = true) : cm_fr ws u := ⟨h.1, fun j hj => h.2 j (fun z => by have := List.all_eq_true.mp hL j z; simp only [Bool.and_eq_true, decide_eq_true_eq] at this; omega)⟩
theorem cm_fr_tr {ws u v : va_W} (h : cm_fr ws u) (h2 : cm_fr u v) : cm_fr ws v := ⟨h2.1.trans h.1, fun j hj => (h2.2 j hj).trans (h.2 j hj)⟩
theorem cm_T_fr {ay : Nat → ClassId} {ws u : va_W} {aa : Nat → Nat} {n : Nat} {ku ks kt : Nat → Nat} {sk : Nat → Nat → Nat} (h : cm_T ay ws aa n ku ks kt sk) (e : ∀ j, 46 ≤ j → j < 51 → u[j]? = ws[j]?) : cm_T ay u aa n ku ks kt sk := by
  obtain ⟨f16, f17, f18, f19, f20, h16, h17, h18, h19, h20, ht⟩ := h
  exact ⟨f16, f17, f18, f19, f20, (e 46 (by decide) (by decide)).trans h16, (e 47 (by decide) (by decide)).trans h17, (e 48 (by decide) (by decide)).trans h18, (e 49 (by decide) (by decide)).trans h19, (e 50 (by decide) (by decide)).trans h20, ht⟩
theorem pt_own {x : Nat → Nat} (h1 : ∀ a b, a < b → b < 6 → x a ≤ x b) (h2 : ∀ j, j < 6 → x j ≤ ma_B) : pt_row x (fun y => ma_cnt x 6 y) := ⟨h1, h2, fun y _ => (Nat.min_eq_right (ma_cnt_le x 6 y)).symm⟩
/-- rows that are what they bring: the counts of walks -/
theorem ag_fix {n P : Nat} {ea eb w : Nat → Nat} {a : Nat} {mn : Nat → Nat → Nat} (hea : ∀ i, i < P → ea i < n) (heb : ∀ i, i < P → eb i < n) (h : ∀ v, v < n → pt_row (mn v) (fun y => ma_in P ea eb w a (fun u y => ma_cnt (mn u) 6 y) v y)) : ∀ v, v < n → pt_row (mn v) (ma_T P ea eb w a v) := by
  intro v hv
  have hu := ma_uniq (n := n) (P := P) (ea := ea) (eb := eb) (w := w) (a := a) 6 ma_B hea heb (fun u y => ma_cnt (mn u) 6 y) (fun u y hu hy => (h u hu).2.2 y hy)
  exact ⟨(h v hv).1, (h v hv).2.1, fun y hy => hu y v hv hy⟩
theorem in_X7_walk_X7 : ∀ w ∈ u_ws RX7 TX7 30, w ∈ wsX7_walk := by decide +kernel
theorem ml_X7_walk_78 : Cond.fieldLink RX7 78 "WayTimesModel" "many" "[J" ∈ wsX7_walk := by decide +kernel
theorem mk_X7_walk_113 : Jvm.Cond.constantLong RX7 113 (lN ma_B) ∈ wsX7_walk := by decide +kernel
theorem mk_X7_walk_146 : Jvm.Cond.constantLong RX7 146 (-1) ∈ wsX7_walk := by decide +kernel
theorem ml_X7_walk_91 : Cond.fieldLink RX7 91 "WayTimesModel" "nodes" "I" ∈ wsX7_walk := by decide +kernel
set_option maxHeartbeats 4000000 in
set_option maxRecDepth 100000 in
/-- walk(..) -/
theorem c_X7_walk (l : Launch) {D : va_G} {ay : Nat → ClassId} {base : Nat} {Gx : State → Prop} {ws : va_W} {am : Nat} {aa : Nat → Nat} {n P U th wl : Nat} {d fr to pe uv : Nat → Nat → Nat} {ku ks kt wp : Nat → Nat} {sk : Nat → Nat → Nat} {u a b t i9 : Int32} (hS : cm_St ay ws am aa th n P U d fr to pe uv ku ks kt sk wl wp) (hR : cm_R n P U d fr to pe uv) : Met l yX7_walk wsX7_walk ({ frames := 4, cells := 0, slots := 0, locals := 103 } : Room) (va_Pc [.ref am, .int u, .int a, .int b, .int t, .int i9] (vg_B D ay base Gx ws)) (va_Ql (fun r u2 => (¬ (cm_in u U ∧ cm_in a n ∧ cm_in b n) ∧ cm_St ay u2 am aa 1 n P U d fr to pe uv ku ks kt sk wl wp ∧ cm_fr ws u2) ∨ ((cm_in u U ∧ cm_in a n ∧ cm_in b n) ∧ ¬ (0 ≤ t ∧ (nI 1 ≤ i9 ∧ i9 ≤ nI 6)) ∧ cm_St ay u2 am aa 2 n P U d fr to pe uv ku ks kt sk wl wp ∧ cm_fr ws u2) ∨ (cm_St ay u2 am aa 0 n P U d fr to pe uv ku ks kt sk wl wp ∧ cm_fr ws u2 ∧ ∃ jx ax bx tx nx : Nat, u = nI jx ∧ jx < U ∧ a = nI ax ∧ ax < n ∧ b = nI bx ∧ bx < n ∧ t = nI tx ∧ tx < 2 ^ 31 ∧ i9 = nI nx ∧ 1 ≤ nx ∧ nx ≤ 6 ∧ r = vs_rep (ma_d (ma_T P (fun i => d i 0) (fun i => d i 1) (fun i => ps_w (d i) (fr i) (to i) (pe i) (uv jx) tx) ax bx) nx))) (vg_B D ay base Gx) (vg_A base)) 0 0 (vg_A base) := by
  refine vg_met (cc := cX7_walk) (maxL := 9) (ret := (some .long)) (own := RX7) (lv := [(0, .ref am), (1, .int u), (2, .int a), (3, .int b), (4, .int t), (5, .int i9)]) (by decide) rfl rfl (Nat.le_of_ble_eq_true rfl) rfl ?_
  intro p e s m args below meth c X hinit
  obtain ⟨fl, fm, fn, fs, hO, hD, hT, h51, h52, h53, h54, hwl, hwp⟩ := id hS
  have nn := hR.1
  have nP := hR.2.1
  have nU := hR.2.2.1
  have eB : ma_B = 2 ^ 60 := rfl
  have hO3 := hO
  unfold cm_O at hO3
  have j30 : ∀ b9 : Int32, ((cm_in u U ∧ cm_in a n ∧ cm_in b n) → b9 = 1) → (¬ (cm_in u U ∧ cm_in a n ∧ cm_in b n) → b9 = 0) → vg_V D base p l e ({ frames := 4, cells := 0, slots := 0, locals := 103 } : Room) s m args below meth c 9 0 0 (MQ below (va_Ql (fun r u2 => (¬ (cm_in u U ∧ cm_in a n ∧ cm_in b n) ∧ cm_St ay u2 am aa 1 n P U d fr to pe uv ku ks kt sk wl wp ∧ cm_fr ws u2) ∨ ((cm_in u U ∧ cm_in a n ∧ cm_in b n) ∧ ¬ (0 ≤ t ∧ (nI 1 ≤ i9 ∧ i9 ≤ nI 6)) ∧ cm_St ay u2 am aa 2 n P U d fr to pe uv ku ks kt sk wl wp ∧ cm_fr ws u2) ∨ (cm_St ay u2 am aa 0 n P U d fr to pe uv ku ks kt sk wl wp ∧ cm_fr ws u2 ∧ ∃ jx ax bx tx nx : Nat, u = nI jx ∧ jx < U ∧ a = nI ax ∧ ax < n ∧ b = nI bx ∧ bx < n ∧ t = nI tx ∧ tx < 2 ^ 31 ∧ i9 = nI nx ∧ 1 ≤ nx ∧ nx ≤ 6 ∧ r = vs_rep (ma_d (ma_T P (fun i => d i 0) (fun i => d i 1) (fun i => ps_w (d i) (fr i) (to i) (pe i) (uv jx) tx) ax bx) nx))) (vg_B D ay base Gx) (vg_A base)) args s 0 0 (vg_A base)) [(0, .ref am), (1, .int u), (2, .int a), (3, .int b), (4, .int t), (5, .int i9)] [.int b9, .ref am] ws 30 := by
    intro b30 y30 n30
    have j51 : ∀ b9 : Int32, ((0 ≤ t ∧ (nI 1 ≤ i9 ∧ i9 ≤ nI 6)) → b9 = 1) → (¬ (0 ≤ t ∧ (nI 1 ≤ i9 ∧ i9 ≤ nI 6)) → b9 = 0) → vg_V D base p l e ({ frames := 4, cells := 0, slots := 0, locals := 103 } : Room) s m args below meth c 9 0 0 (MQ below (va_Ql (fun r u2 => (¬ (cm_in u U ∧ cm_in a n ∧ cm_in b n) ∧ cm_St ay u2 am aa 1 n P U d fr to pe uv ku ks kt sk wl wp ∧ cm_fr ws u2) ∨ ((cm_in u U ∧ cm_in a n ∧ cm_in b n) ∧ ¬ (0 ≤ t ∧ (nI 1 ≤ i9 ∧ i9 ≤ nI 6)) ∧ cm_St ay u2 am aa 2 n P U d fr to pe uv ku ks kt sk wl wp ∧ cm_fr ws u2) ∨ (cm_St ay u2 am aa 0 n P U d fr to pe uv ku ks kt sk wl wp ∧ cm_fr ws u2 ∧ ∃ jx ax bx tx nx : Nat, u = nI jx ∧ jx < U ∧ a = nI ax ∧ ax < n ∧ b = nI bx ∧ bx < n ∧ t = nI tx ∧ tx < 2 ^ 31 ∧ i9 = nI nx ∧ 1 ≤ nx ∧ nx ≤ 6 ∧ r = vs_rep (ma_d (ma_T P (fun i => d i 0) (fun i => d i 1) (fun i => ps_w (d i) (fr i) (to i) (pe i) (uv jx) tx) ax bx) nx))) (vg_B D ay base Gx) (vg_A base)) args s 0 0 (vg_A base)) [(0, .ref am), (1, .int u), (2, .int a), (3, .int b), (4, .int t), (5, .int i9)] [.int b9, .int b30, .ref am] ws 51 := by
      intro b51 y51 n51
      refine vg_iconst X (nI 1) dX7_walk_51 (by decide) ?_
      refine vg_calli (vg_runV X (c_X7_goes l hO (b1 := b30) (b2 := b51) (b3 := nI 1)) (cwV 3 X.2.2.2.2.1 gX7_walk_X7_goes rfl rfl rfl (by decide +kernel) ⟨Nat.le_of_ble_eq_true rfl, Nat.le_of_ble_eq_true rfl⟩) 29 hO3 rfl rfl rfl (Nat.le_of_ble_eq_true rfl) dX7_walk_52 ⟨Nat.zero_le _, Nat.zero_le _⟩) (fun rr3 wz1 PP2 => ?_)
      obtain ⟨gO, gfr0, gy, gn⟩ := PP2
      have e0 : ∀ q, q ≠ 29 → wz1[q]? = ws[q]? := fun q hq => gfr0.2 q (by simpa using hq)
      have gD : cm_D ay wz1 aa n P U d fr to pe uv := cm_D_fr hD (fun q h1 h2 => e0 q (by omega))
      have gT : cm_T ay wz1 aa n ku ks kt sk := cm_T_fr hT (fun q h1 h2 => e0 q (by omega))
      have gF := cm_fr_of gfr0 (by decide)
      have g51 := (e0 51 (by decide)).trans h51
      have g52 := (e0 52 (by decide)).trans h52
      have g53 := (e0 53 (by decide)).trans h53
      have g54 := (e0 54 (by decide)).trans h54
      refine vg_if_ne X 60 dX7_walk_55 (by decide) (fun c55 => ?_) (fun c55 => ?_)
      · have g0 : go_c b30 b51 (nI 1) = 0 := Classical.byContradiction (fun q9 => c55 (gn q9))
        rw [g0] at gO
        have pA : cm_in u U ∧ cm_in a n ∧ cm_in b n := Classical.byContradiction (fun q9 => by have := n30 q9; unfold go_c at g0; rw [if_pos this] at g0; exact absurd g0 (by decide))
        have pB : 0 ≤ t ∧ (nI 1 ≤ i9 ∧ i9 ≤ nI 6) := Classical.byContradiction (fun q9 => by have := n51 q9; unfold go_c at g0; rw [if_neg (by rw [y30 pA]; decide), if_pos this] at g0; exact absurd g0 (by decide))
        have gO3 := gO
        unfold cm_O at gO3
        obtain ⟨⟨j, hj, rfl⟩, ⟨a1, ha, rfl⟩, ⟨b1, hb, rfl⟩⟩ := pA
        obtain ⟨pt, pi⟩ := pB
        obtain ⟨t1, ht, rfl⟩ := nI_of (x := t) (fun q9 => absurd pt (Int32.not_le.mpr q9))
        obtain ⟨i1, hi, rfl⟩ := nI_of (x := i9) (fun q9 => absurd pi.1 (fun q8 => absurd (Int32.lt_of_le_of_lt q8 q9) (by decide)))
        have hi1 := (nI_leI (by decide) hi).mp pi.1
        have hi6 := (nI_leI hi (by decide)).mp pi.2
        obtain ⟨w, ew⟩ : ∃ z : Nat → Nat, z = (fun i => ps_w (d i) (fr i) (to i) (pe i) (uv j) t1) := ⟨_, rfl⟩
        have hea : ∀ i, i < P → (fun i => d i 0) i < n := fun i hi => (hR.2.2.2.1 i hi).2.1
        have heb : ∀ i, i < P → (fun i => d i 1) i < n := fun i hi => (hR.2.2.2.1 i hi).2.2.1
        have fin : ∀ (fm1 fn1 : Nat → Int64) (mn : Nat → Nat → Nat) (ws1 : va_W), ws1[52]? = some ((aa 22), .inl (ay 1, 1200, .inr (.inl fm1))) → ws1[53]? = some ((aa 23), .inl (ay 1, 1200, .inr (.inl fn1))) → vg_fr wz1 ws1 [52, 53] → (∀ v, v < n → pt_row (mn v) (ma_T P (fun i => d i 0) (fun i => d i 1) w a1 v) ∧ ∀ q, q < 6 → fm1 (v * 6 + q) = lN (mn v q)) → vg_V D base p l e ({ frames := 4, cells := 0, slots := 0, locals := 103 } : Room) s m args below meth c 9 0 0 (MQ below (va_Ql (fun r u2 => (¬ (cm_in (nI j) U ∧ cm_in (nI a1) n ∧ cm_in (nI b1) n) ∧ cm_St ay u2 am aa 1 n P U d fr to pe uv ku ks kt sk wl wp ∧ cm_fr ws u2) ∨ ((cm_in (nI j) U ∧ cm_in (nI a1) n ∧ cm_in (nI b1) n) ∧ ¬ (0 ≤ (nI t1) ∧ (nI 1 ≤ (nI i1) ∧ (nI i1) ≤ nI 6)) ∧ cm_St ay u2 am aa 2 n P U d fr to pe uv ku ks kt sk wl wp ∧ cm_fr ws u2) ∨ (cm_St ay u2 am aa 0 n P U d fr to pe uv ku ks kt sk wl wp ∧ cm_fr ws u2 ∧ ∃ jx ax bx tx nx : Nat, (nI j) = nI jx ∧ jx < U ∧ (nI a1) = nI ax ∧ ax < n ∧ (nI b1) = nI bx ∧ bx < n ∧ (nI t1) = nI tx ∧ tx < 2 ^ 31 ∧ (nI i1) = nI nx ∧ 1 ≤ nx ∧ nx ≤ 6 ∧ r = vs_rep (ma_d (ma_T P (fun i => d i 0) (fun i => d i 1) (fun i => ps_w (d i) (fr i) (to i) (pe i) (uv jx) tx) ax bx) nx))) (vg_B D ay base Gx) (vg_A base)) args s 0 0 (vg_A base)) [(0, .ref am), (1, .int (nI j)), (2, .int (nI a1)), (3, .int (nI b1)), (4, .int (nI t1)), (5, .int (nI i1))] [] ws1 112 := by
          intro fm1 fn1 mn ws1 g52 g53 gfr grow
          have e1 : ∀ q, q ≠ 52 → q ≠ 53 → ws1[q]? = wz1[q]? := fun q h1 h2 => gfr.2 q (by simp only [List.mem_cons, List.not_mem_nil, or_false]; omega)
          have O1 : cm_O ws1 am aa (nI 0) n P U (nI wl) := (e1 29 (by decide) (by decide)).trans gO
          have D1 : cm_D ay ws1 aa n P U d fr to pe uv := cm_D_fr gD (fun q h1 h2 => e1 q (by omega) (by omega))
          have P1 := O1
          unfold cm_O at P1
          obtain ⟨gr1, gr2⟩ := grow b1 hb
          have gd := pt_nth gr1 (k := i1) (by omega) hi6
          have gle := gr1.2.1 (i1 - 1) (by omega)
          refine vg_aload_n X dX7_walk_112 0 rfl rfl ?_
          refine vg_get X in_X7_walk_X7 29 P1 rfl 26 (by decide) ml_X7_walk_78 rfl rfl dX7_walk_113 ?_
          refine vg_iload_n X dX7_walk_116 3 rfl rfl ?_
          refine vg_bipush X (nI 6) dX7_walk_117 (by decide) ?_
          refine vg_imul X (nI (b1 * 6)) dX7_walk_119 (pk_mul _ _) ?_
          refine vg_iload X dX7_walk_120 5 rfl ?_
          refine vg_iadd X (nI (b1 * 6 + i1)) dX7_walk_122 (nI_add _ _) ?_
          refine vg_iconst X (nI 1) dX7_walk_123 (by decide) ?_
          refine vg_isub X (nI (b1 * 6 + (i1 - 1))) dX7_walk_124 (by rw [pk_sub (by omega), show b1 * 6 + i1 - 1 = b1 * 6 + (i1 - 1) by omega]) ?_
          refine vg_lald X (lN (mn b1 (i1 - 1))) 52 g52 rfl (by omega) (by decide) (gr2 (i1 - 1) (by omega)) dX7_walk_125 ?_
          refine vg_lstore X [(7, .long (lN (mn b1 (i1 - 1)))), (0, .ref am), (1, .int (nI j)), (2, .int (nI a1)), (3, .int (nI b1)), (4, .int (nI t1)), (5, .int (nI i1))] dX7_walk_126 (by decide) rfl ?_
          refine vg_lload X dX7_walk_128 0 rfl ?_
          refine vg_ldc2 X (lN ma_B) dX7_walk_130 mk_X7_walk_113 ?_
          refine vg_lcmp_ge X 142 dX7_walk_133 dX7_walk_134 (by decide) (fun c133 => ?_) (fun c133 => ?_)
          · have c133 : ma_B ≤ mn b1 (i1 - 1) := (pk_lLE (by omega) (by omega)).mp c133
            refine vg_ldc2 X (-1) dX7_walk_142 mk_X7_walk_146 ?_
            refine vg_lret X rfl (Or.inr (Or.inr ⟨⟨_, fm1, fn1, _, O1, D1, cm_T_fr gT (fun q h1 h2 => e1 q (by omega) (by omega)), (e1 51 (by decide) (by decide)).trans g51, g52, g53, (e1 54 (by decide) (by decide)).trans g54, hwl, hwp⟩, cm_fr_tr gF (cm_fr_of gfr (by decide)), j, a1, b1, t1, i1, rfl, hj, rfl, ha, rfl, hb, rfl, ht, rfl, hi1, hi6, by rw [← ew, gd, show mn b1 (i1 - 1) = ma_B by omega, vs_rep_B]⟩)) (Nat.le_refl _) (Nat.le_refl _) dX7_walk_145
          · have c133 : ¬ ma_B ≤ mn b1 (i1 - 1) := fun z => c133 ((pk_lLE (by omega) (by omega)).mpr z)
            refine vg_lload X dX7_walk_137 0 rfl ?_
            refine vg_goto X 145 dX7_walk_139 (by decide) ?_
            refine vg_lret X rfl (Or.inr (Or.inr ⟨⟨_, fm1, fn1, _, O1, D1, cm_T_fr gT (fun q h1 h2 => e1 q (by omega) (by omega)), (e1 51 (by decide) (by decide)).trans g51, g52, g53, (e1 54 (by decide) (by decide)).trans g54, hwl, hwp⟩, cm_fr_tr gF (cm_fr_of gfr (by decide)), j, a1, b1, t1, i1, rfl, hj, rfl, ha, rfl, hb, rfl, ht, rfl, hi1, hi6, by rw [← ew, gd, vs_rep_lt (by omega)]⟩)) (Nat.le_refl _) (Nat.le_refl _) dX7_walk_145
        have loop : ∀ (S : Nat) (fm1 fn1 : Nat → Int64) (mn : Nat → Nat → Nat) (ws1 : va_W), ma_sum (fun q => mn (q / 6) (q % 6)) (n * 6) = S → ws1[52]? = some ((aa 22), .inl (ay 1, 1200, .inr (.inl fm1))) → ws1[53]? = some ((aa 23), .inl (ay 1, 1200, .inr (.inl fn1))) → vg_fr wz1 ws1 [52, 53] → (∀ v, v < n → pt_row (mn v) (fun y => ma_cnt (mn v) 6 y) ∧ (∀ y, y < ma_B → ma_cnt (mn v) 6 y ≤ ma_in P (fun i => d i 0) (fun i => d i 1) w a1 (fun u y => ma_cnt (mn u) 6 y) v y) ∧ ∀ q, q < 6 → fm1 (v * 6 + q) = lN (mn v q)) → vg_V D base p l e ({ frames := 4, cells := 0, slots := 0, locals := 103 } : Room) s m args below meth c 9 0 0 (MQ below (va_Ql (fun r u2 => (¬ (cm_in (nI j) U ∧ cm_in (nI a1) n ∧ cm_in (nI b1) n) ∧ cm_St ay u2 am aa 1 n P U d fr to pe uv ku ks kt sk wl wp ∧ cm_fr ws u2) ∨ ((cm_in (nI j) U ∧ cm_in (nI a1) n ∧ cm_in (nI b1) n) ∧ ¬ (0 ≤ (nI t1) ∧ (nI 1 ≤ (nI i1) ∧ (nI i1) ≤ nI 6)) ∧ cm_St ay u2 am aa 2 n P U d fr to pe uv ku ks kt sk wl wp ∧ cm_fr ws u2) ∨ (cm_St ay u2 am aa 0 n P U d fr to pe uv ku ks kt sk wl wp ∧ cm_fr ws u2 ∧ ∃ jx ax bx tx nx : Nat, (nI j) = nI jx ∧ jx < U ∧ (nI a1) = nI ax ∧ ax < n ∧ (nI b1) = nI bx ∧ bx < n ∧ (nI t1) = nI tx ∧ tx < 2 ^ 31 ∧ (nI i1) = nI nx ∧ 1 ≤ nx ∧ nx ≤ 6 ∧ r = vs_rep (ma_d (ma_T P (fun i => d i 0) (fun i => d i 1) (fun i => ps_w (d i) (fr i) (to i) (pe i) (uv jx) tx) ax bx) nx))) (vg_B D ay base Gx) (vg_A base)) args s 0 0 (vg_A base)) [(0, .ref am), (1, .int (nI j)), (2, .int (nI a1)), (3, .int (nI b1)), (4, .int (nI t1)), (5, .int (nI i1))] [] ws1 99 := by
          intro S
          induction S using Nat.strongRecOn with
          | ind S ih =>
            intro fm1 fn1 mn ws1 hS g52 g53 gfr grow
            have e1 : ∀ q, q ≠ 52 → q ≠ 53 → ws1[q]? = wz1[q]? := fun q h1 h2 => gfr.2 q (by simp only [List.mem_cons, List.not_mem_nil, or_false]; omega)
            have O1 : cm_O ws1 am aa (nI 0) n P U (nI wl) := (e1 29 (by decide) (by decide)).trans gO
            have D1 : cm_D ay ws1 aa n P U d fr to pe uv := cm_D_fr gD (fun q h1 h2 => e1 q (by omega) (by omega))
            have P1 := O1
            unfold cm_O at P1
            refine vg_aload_n X dX7_walk_99 0 rfl rfl ?_
            refine vg_iload_n X dX7_walk_100 1 rfl rfl ?_
            refine vg_iload_n X dX7_walk_101 2 rfl rfl ?_
            refine vg_iload X dX7_walk_102 4 rfl ?_
            refine vg_calli (vg_runV X (c_X7_again l O1 D1 hR g52 g53 (j := j) (a := a1) (t := t1) (mn := mn) hj ha ht (fun v hv q hq => ⟨(grow v hv).2.2 q hq, (grow v hv).1.2.1 q hq⟩)) (cwV 3 X.2.2.2.2.1 gX7_walk_X7_again rfl rfl rfl (by decide +kernel) ⟨Nat.le_of_ble_eq_true rfl, Nat.le_of_ble_eq_true rfl⟩) 29 P1 rfl rfl rfl (Nat.le_of_ble_eq_true rfl) dX7_walk_104 ⟨Nat.zero_le _, Nat.zero_le _⟩) (fun rr6 wz4 PP5 => ?_)
            rw [← ew] at PP5
            obtain ⟨fm2, fn2, nx, x1, x2, x3, x4, x5⟩ := PP5
            have le9 : ∀ v, v < n → ∀ q, q < 6 → nx v q ≤ mn v q := fun v hv => pt_less (grow v hv).1 (x3 v hv).1 (fun y hy => by have g2 := (grow v hv).2.1 y hy; exact (show min 6 (ma_cnt (mn v) 6 y) ≤ min 6 (ma_in P (fun i => d i 0) (fun i => d i 1) w a1 (fun u y => ma_cnt (mn u) 6 y) v y) by omega))
            have cnt9 : ∀ v, v < n → ∀ y, y < ma_B → ma_cnt (mn v) 6 y ≤ ma_cnt (nx v) 6 y := fun v hv y hy => by
              have g1 : ma_cnt (nx v) 6 y = min 6 (ma_in P (fun i => d i 0) (fun i => d i 1) w a1 (fun u y => ma_cnt (mn u) 6 y) v y) := (x3 v hv).1.2.2 y hy
              have g2 := (grow v hv).2.1 y hy
              have g3 := ma_cnt_le (mn v) 6 y
              omega
            rcases x5 with ⟨rfl, v9, q9, hv9, hq9, hne⟩ | ⟨rfl, heq⟩
            · skip
              refine vg_istore X [(6, .int 1), (0, .ref am), (1, .int (nI j)), (2, .int (nI a1)), (3, .int (nI b1)), (4, .int (nI t1)), (5, .int (nI i1))] dX7_walk_107 (by decide) rfl ?_
              refine vg_goto X 94 dX7_walk_109 (by decide) ?_
              refine vg_iload X dX7_walk_94 0 rfl ?_
              refine vg_if_eq X 112 dX7_walk_96 (by decide) (fun c96 => ?_) (fun c96 => ?_)
              · exact absurd c96 (by decide)
              · skip
                refine vg_locals [1, 2, 3, 4, 5, 6] rfl ?_
                refine ih _ ?_ fm2 fn2 nx wz4 rfl x1 x2 (vg_fr_trd gfr x4 (by decide)) (fun v hv => ⟨pt_own (x3 v hv).1.1 (x3 v hv).1.2.1, fun y hy => ?_, (x3 v hv).2⟩)
                · rw [← hS]
                  refine ma_sum_lt (fun q hq => le9 _ (by omega) _ (by omega)) ⟨v9 * 6 + q9, by omega, ?_⟩
                  show nx ((v9 * 6 + q9) / 6) ((v9 * 6 + q9) % 6) < mn ((v9 * 6 + q9) / 6) ((v9 * 6 + q9) % 6)
                  rw [show (v9 * 6 + q9) / 6 = v9 by omega, show (v9 * 6 + q9) % 6 = q9 by omega]
                  have := le9 v9 hv9 q9 hq9; omega
                · have g1 : ma_cnt (nx v) 6 y = min 6 (ma_in P (fun i => d i 0) (fun i => d i 1) w a1 (fun u y => ma_cnt (mn u) 6 y) v y) := (x3 v hv).1.2.2 y hy
                  have g2 : ma_in P (fun i => d i 0) (fun i => d i 1) w a1 (fun u y => ma_cnt (mn u) 6 y) v y ≤ ma_in P (fun i => d i 0) (fun i => d i 1) w a1 (fun u y => ma_cnt (nx u) 6 y) v y := ma_in_mono (fun i hi _ _ => ⟨cnt9 _ (hea i hi) _ (by omega), cnt9 _ (heb i hi) _ (by omega)⟩)
                  omega
            · skip
              refine vg_istore X [(6, .int 0), (0, .ref am), (1, .int (nI j)), (2, .int (nI a1)), (3, .int (nI b1)), (4, .int (nI t1)), (5, .int (nI i1))] dX7_walk_107 (by decide) rfl ?_
              refine vg_goto X 94 dX7_walk_109 (by decide) ?_
              refine vg_iload X dX7_walk_94 0 rfl ?_
              refine vg_if_eq X 112 dX7_walk_96 (by decide) (fun c96 => ?_) (fun c96 => ?_)
              · skip
                refine vg_locals [1, 2, 3, 4, 5, 6] rfl ?_
                refine fin fm2 fn2 nx wz4 x1 x2 (vg_fr_trd gfr x4 (by decide)) (fun v hv => ⟨?_, (x3 v hv).2⟩)
                refine ag_fix hea heb (fun v hv => pt_congr (x3 v hv).1 (fun y _ => ?_)) v hv
                exact ma_in_congr (fun i hi _ _ => ⟨ma_cnt_congr (fun q hq => heq _ _ (hea i hi) hq), ma_cnt_congr (fun q hq => heq _ _ (heb i hi) hq)⟩)
              · exact absurd rfl c96
        have fill : ∀ (k x : Nat) (fm1 : Nat → Int64) (ws1 : va_W), x + k = n * 6 → ws1[52]? = some ((aa 22), .inl (ay 1, 1200, .inr (.inl fm1))) → vg_fr wz1 ws1 [52] → (∀ q, q < x → fm1 q = lN ma_B) → vg_V D base p l e ({ frames := 4, cells := 0, slots := 0, locals := 103 } : Room) s m args below meth c 9 0 0 (MQ below (va_Ql (fun r u2 => (¬ (cm_in (nI j) U ∧ cm_in (nI a1) n ∧ cm_in (nI b1) n) ∧ cm_St ay u2 am aa 1 n P U d fr to pe uv ku ks kt sk wl wp ∧ cm_fr ws u2) ∨ ((cm_in (nI j) U ∧ cm_in (nI a1) n ∧ cm_in (nI b1) n) ∧ ¬ (0 ≤ (nI t1) ∧ (nI 1 ≤ (nI i1) ∧ (nI i1) ≤ nI 6)) ∧ cm_St ay u2 am aa 2 n P U d fr to pe uv ku ks kt sk wl wp ∧ cm_fr ws u2) ∨ (cm_St ay u2 am aa 0 n P U d fr to pe uv ku ks kt sk wl wp ∧ cm_fr ws u2 ∧ ∃ jx ax bx tx nx : Nat, (nI j) = nI jx ∧ jx < U ∧ (nI a1) = nI ax ∧ ax < n ∧ (nI b1) = nI bx ∧ bx < n ∧ (nI t1) = nI tx ∧ tx < 2 ^ 31 ∧ (nI i1) = nI nx ∧ 1 ≤ nx ∧ nx ≤ 6 ∧ r = vs_rep (ma_d (ma_T P (fun i => d i 0) (fun i => d i 1) (fun i => ps_w (d i) (fr i) (to i) (pe i) (uv jx) tx) ax bx) nx))) (vg_B D ay base Gx) (vg_A base)) args s 0 0 (vg_A base)) [(6, .int (nI x)), (0, .ref am), (1, .int (nI j)), (2, .int (nI a1)), (3, .int (nI b1)), (4, .int (nI t1)), (5, .int (nI i1))] [] ws1 63 := by
          intro k
          induction k using Nat.strongRecOn with
          | ind k ih =>
            intro x fm1 ws1 hk g52 gfr hfl
            have e1 : ∀ q, q ≠ 52 → q ≠ 53 → ws1[q]? = wz1[q]? := fun q h1 h2 => gfr.2 q (by simp only [List.mem_cons, List.not_mem_nil, or_false]; omega)
            have O1 : cm_O ws1 am aa (nI 0) n P U (nI wl) := (e1 29 (by decide) (by decide)).trans gO
            have D1 : cm_D ay ws1 aa n P U d fr to pe uv := cm_D_fr gD (fun q h1 h2 => e1 q (by omega) (by omega))
            have P1 := O1
            unfold cm_O at P1
            refine vg_iload X dX7_walk_63 0 rfl ?_
            refine vg_aload_n X dX7_walk_65 1 rfl rfl ?_
            refine vg_get X in_X7_walk_X7 29 P1 rfl 1 (by decide) ml_X7_walk_91 rfl rfl dX7_walk_66 ?_
            refine vg_bipush X (nI 6) dX7_walk_69 (by decide) ?_
            refine vg_imul X (nI (n * 6)) dX7_walk_71 (pk_mul _ _) ?_
            refine vg_icmp_ge X 91 dX7_walk_72 (by decide) (fun c72 => ?_) (fun c72 => ?_)
            · have c72 : n * 6 ≤ x := (nI_leI (by omega) (by omega)).mp c72
              refine vg_locals [1, 2, 3, 4, 5, 6] rfl ?_
              refine vg_iconst X (nI 1) dX7_walk_91 (by decide) ?_
              refine vg_istore X [(6, .int (nI 1)), (0, .ref am), (1, .int (nI j)), (2, .int (nI a1)), (3, .int (nI b1)), (4, .int (nI t1)), (5, .int (nI i1))] dX7_walk_92 (by decide) rfl ?_
              refine vg_iload X dX7_walk_94 0 rfl ?_
              refine vg_if_eq X 112 dX7_walk_96 (by decide) (fun c96 => absurd c96 (by decide)) (fun c96 => ?_)
              refine vg_locals [1, 2, 3, 4, 5, 6] rfl ?_
              refine loop _ fm1 fn (fun _ _ => ma_B) ws1 rfl g52 ((gfr.2 53 (by decide)).trans g53) (vg_fr_trd gfr (vg_fr_rf _ [52]) (by decide)) (fun v hv => ⟨pt_own (fun _ _ _ _ => Nat.le_refl _) (fun _ _ => Nat.le_refl _), fun y hy => by rw [ma_cnt_none (fun _ _ => hy)]; exact Nat.zero_le _, fun q hq => hfl _ (by omega)⟩)
            · have c72 : ¬ n * 6 ≤ x := fun z => c72 ((nI_leI (by omega) (by omega)).mpr z)
              refine vg_aload_n X dX7_walk_75 1 rfl rfl ?_
              refine vg_get X in_X7_walk_X7 29 P1 rfl 26 (by decide) ml_X7_walk_78 rfl rfl dX7_walk_76 ?_
              refine vg_iload X dX7_walk_79 0 rfl ?_
              refine vg_ldc2 X (lN ma_B) dX7_walk_81 mk_X7_walk_113 ?_
              refine vg_last X 52 g52 rfl (by omega) (by decide) dX7_walk_84 (fun wz7 ez8 => ?_)
              have fh9 : wz7[52]? = some ((aa 22), .inl (ay 1, 1200, .inr (.inl (vp_updL fm1 x (lN ma_B))))) := vg_se ez8 g52
              refine vg_iinc X (v := nI (x + 1)) [(6, .int (nI (x + 1))), (0, .ref am), (1, .int (nI j)), (2, .int (nI a1)), (3, .int (nI b1)), (4, .int (nI t1)), (5, .int (nI i1))] dX7_walk_85 0 rfl (by rw [show Int32.ofInt 1 = nI 1 by decide, nI_add]) (by decide) rfl ?_
              refine vg_goto X 63 dX7_walk_88 (by decide) ?_
              refine ih (k - 1) (by omega) (x + 1) _ _ (by omega) fh9 (vg_fr_set gfr ez8 (by decide)) (fun q hq => ?_)
              by_cases q9 : q = x
              · subst q9; exact pk_uLs
              · rw [pk_uLn q9]; exact hfl q (by omega)
        refine vg_iconst X (nI 0) dX7_walk_60 (by decide) ?_
        refine vg_istore X [(6, .int (nI 0)), (0, .ref am), (1, .int (nI j)), (2, .int (nI a1)), (3, .int (nI b1)), (4, .int (nI t1)), (5, .int (nI i1))] dX7_walk_61 (by decide) rfl ?_
        exact fill (n * 6) 0 fm wz1 (by omega) g52 (vg_fr_rf _ _) (fun q hq => absurd hq (by omega))
      · skip
        refine vg_lconst X (lN 0) dX7_walk_58 (by decide) ?_
        have ng : go_c b30 b51 (nI 1) ≠ 0 := fun q9 => by have := gy q9; rw [c55] at this; exact absurd this (by decide)
        by_cases pA : cm_in u U ∧ cm_in a n ∧ cm_in b n
        · by_cases pB : 0 ≤ t ∧ (nI 1 ≤ i9 ∧ i9 ≤ nI 6)
          · exact absurd (by unfold go_c; rw [if_neg (by rw [y30 pA]; decide), if_neg (by rw [y51 pB]; decide), if_neg (by decide)]) ng
          · have g2 : go_c b30 b51 (nI 1) = 2 := by unfold go_c; rw [if_neg (by rw [y30 pA]; decide), if_pos (n51 pB)]
            rw [g2] at gO
            exact vg_lret X rfl (Or.inr (Or.inl ⟨pA, pB, ⟨_, _, _, _, gO, gD, gT, g51, g52, g53, g54, hwl, hwp⟩, gF⟩)) (Nat.le_refl _) (Nat.le_refl _) dX7_walk_59
        · have g1 : go_c b30 b51 (nI 1) = 1 := by unfold go_c; rw [if_pos (n30 pA)]
          rw [g1] at gO
          exact vg_lret X rfl (Or.inl ⟨pA, ⟨_, _, _, _, gO, gD, gT, g51, g52, g53, g54, hwl, hwp⟩, gF⟩) (Nat.le_refl _) (Nat.le_refl _) dX7_walk_59
    refine vg_iload X dX7_walk_30 4 rfl ?_
    refine vg_if_lt X 50 dX7_walk_32 (by decide) (fun c32 => ?_) (fun c32 => ?_)
    · skip
      refine vg_iconst X (nI 0) dX7_walk_50 (by decide) ?_
      exact j51 _ (fun q9 => absurd c32 (Int32.not_lt.mpr q9.1)) (fun _ => by decide)
    · skip
      refine vg_iload X dX7_walk_35 5 rfl ?_
      refine vg_iconst X (nI 1) dX7_walk_37 (by decide) ?_
      refine vg_bipush X (nI 6) dX7_walk_38 (by decide) ?_
      refine vg_calli (vg_runS X (c_X7_in l (x := i9) (a := nI 1) (b := nI 6)) (va_cwS 3 X.2.2.2.2.1 gX7_walk_X7_in rfl rfl rfl (by decide +kernel) ⟨Nat.le_of_ble_eq_true rfl, Nat.le_of_ble_eq_true rfl⟩) rfl rfl (Nat.le_of_ble_eq_true rfl) dX7_walk_40 ⟨Nat.zero_le _, Nat.zero_le _⟩) (fun rr12 wz10 PP11 => ?_)
      obtain ⟨hw9, yrr12, nrr12⟩ := PP11
      rw [hw9]
      refine vg_if_eq X 50 dX7_walk_43 (by decide) (fun c43 => ?_) (fun c43 => ?_)
      · have k43 : ¬ (nI 1 ≤ i9 ∧ i9 ≤ nI 6) := fun q9 => by have := yrr12 q9; rw [c43] at this; exact absurd this (by decide)
        refine vg_iconst X (nI 0) dX7_walk_50 (by decide) ?_
        exact j51 _ (fun q9 => absurd q9.2 k43) (fun _ => by decide)
      · have k43 : nI 1 ≤ i9 ∧ i9 ≤ nI 6 := Classical.byContradiction (fun q9 => c43 (nrr12 q9))
        refine vg_iconst X (nI 1) dX7_walk_46 (by decide) ?_
        refine vg_goto X 51 dX7_walk_47 (by decide) ?_
        exact j51 _ (fun _ => by decide) (fun q9 => absurd ⟨Int32.not_lt.mp c32, k43⟩ q9)
  refine vg_aload_n X dX7_walk_0 0 rfl rfl ?_
  refine vg_aload_n X dX7_walk_1 0 rfl rfl ?_
  refine vg_iload_n X dX7_walk_2 1 rfl rfl ?_
  refine vg_calli (vg_runV X (c_X7_isUnit l hO (k := u) (by omega)) (cwV 1 X.2.2.2.2.1 gX7_walk_X7_isUnit rfl rfl rfl (by decide +kernel) ⟨Nat.le_of_ble_eq_true rfl, Nat.le_of_ble_eq_true rfl⟩) 29 hO3 rfl rfl rfl (Nat.le_of_ble_eq_true rfl) dX7_walk_3 ⟨Nat.zero_le _, Nat.zero_le _⟩) (fun rr15 wz13 PP14 => ?_)
  obtain ⟨hw9, yrr15, nrr15⟩ := PP14
  rw [hw9]
  refine vg_if_eq X 29 dX7_walk_6 (by decide) (fun c6 => ?_) (fun c6 => ?_)
  · have k6 : ¬ cm_in u U := fun q9 => by have := yrr15 q9; rw [c6] at this; exact absurd this (by decide)
    refine vg_iconst X (nI 0) dX7_walk_29 (by decide) ?_
    exact j30 _ (fun q9 => absurd q9.1 k6) (fun _ => by decide)
  · have k6 : cm_in u U := Classical.byContradiction (fun q9 => c6 (nrr15 q9))
    refine vg_aload_n X dX7_walk_9 0 rfl rfl ?_
    refine vg_iload_n X dX7_walk_10 2 rfl rfl ?_
    refine vg_calli (vg_runV X (c_X7_isNode l hO (k := a) (by omega)) (cwV 1 X.2.2.2.2.1 gX7_walk_X7_isNode rfl rfl rfl (by decide +kernel) ⟨Nat.le_of_ble_eq_true rfl, Nat.le_of_ble_eq_true rfl⟩) 29 hO3 rfl rfl rfl (Nat.le_of_ble_eq_true rfl) dX7_walk_11 ⟨Nat.zero_le _, Nat.zero_le _⟩) (fun rr18 wz16 PP17 => ?_)
    obtain ⟨hw9, yrr18, nrr18⟩ := PP17
    rw [hw9]
    refine vg_if_eq X 29 dX7_walk_14 (by decide) (fun c14 => ?_) (fun c14 => ?_)
    · have k14 : ¬ cm_in a n := fun q9 => by have := yrr18 q9; rw [c14] at this; exact absurd this (by decide)
      refine vg_iconst X (nI 0) dX7_walk_29 (by decide) ?_
      exact j30 _ (fun q9 => absurd q9.2.1 k14) (fun _ => by decide)
    · have k14 : cm_in a n := Classical.byContradiction (fun q9 => c14 (nrr18 q9))
      refine vg_aload_n X dX7_walk_17 0 rfl rfl ?_
      refine vg_iload_n X dX7_walk_18 3 rfl rfl ?_
      refine vg_calli (vg_runV X (c_X7_isNode l hO (k := b) (by omega)) (cwV 1 X.2.2.2.2.1 gX7_walk_X7_isNode rfl rfl rfl (by decide +kernel) ⟨Nat.le_of_ble_eq_true rfl, Nat.le_of_ble_eq_true rfl⟩) 29 hO3 rfl rfl rfl (Nat.le_of_ble_eq_true rfl) dX7_walk_19 ⟨Nat.zero_le _, Nat.zero_le _⟩) (fun rr21 wz19 PP20 => ?_)
      obtain ⟨hw9, yrr21, nrr21⟩ := PP20
      rw [hw9]
      refine vg_if_eq X 29 dX7_walk_22 (by decide) (fun c22 => ?_) (fun c22 => ?_)
      · have k22 : ¬ cm_in b n := fun q9 => by have := yrr21 q9; rw [c22] at this; exact absurd this (by decide)
        refine vg_iconst X (nI 0) dX7_walk_29 (by decide) ?_
        exact j30 _ (fun q9 => absurd q9.2.2 k22) (fun _ => by decide)
      · have k22 : cm_in b n := Classical.byContradiction (fun q9 => c22 (nrr21 q9))
        refine vg_iconst X (nI 1) dX7_walk_25 (by decide) ?_
        refine vg_goto X 30 dX7_walk_26 (by decide) ?_
        exact j30 _ (fun _ => by decide) (fun q9 => absurd ⟨k6, k14, k22⟩ q9)
