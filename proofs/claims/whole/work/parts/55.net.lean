theorem vu_s {α : Type} {f : Nat → α} {i : Nat} {v : α} : va_up f i v i = v := by unfold va_up; rw [if_pos rfl]
theorem vu_n {α : Type} {f : Nat → α} {i j : Nat} {v : α} (h : j ≠ i) : va_up f i v j = f j := by unfold va_up; rw [if_neg h]
theorem vg_ii {a b n k : Nat} {c0 c1 : ClassId} {g : Nat → Int32} {f : Nat → Option Nat} : ((a, .inl (c0, n, .inl g)) : Nat × va_E) ≠ (b, .inl (c1, k, .inr (.inr (.inr (.inr f))))) := fun z => by
  have h1 := (Prod.mk.inj z).2
  have h2 := (Prod.mk.inj (Sum.inl.inj h1)).2
  have h3 := (Prod.mk.inj h2).2
  cases h3
theorem cl_fr {ay : Nat → ClassId} {ws u : va_W} {q aE j : Nat} {y : Nat × va_E} (h : cl_gr ay ws u q aE) (hy : ws[j]? = some y) (hj : j ≠ q) (hn : ∀ (cap : Nat) (f : Nat → Option Nat), y ≠ (aE, .inl (ay 4, cap, .inr (.inr (.inr (.inr f)))))) : u[j]? = some y := (h.2 j (List.getElem?_eq_some_iff.mp hy).1 hj (fun cap f z => hn cap f (Option.some.inj (hy.symm.trans z)))).trans hy
theorem cl_fo {ay : Nat → ClassId} {ws u : va_W} {q aE j a ci : Nat} {gs : List Value} (h : cl_gr ay ws u q aE) (hy : ws[j]? = some (a, .inr (ci, gs))) (hj : j ≠ q) : u[j]? = some (a, .inr (ci, gs)) := cl_fr h hy hj (fun _ _ z => by cases z)
theorem cl_fi {ay : Nat → ClassId} {ws u : va_W} {q aE j a n : Nat} {c0 : ClassId} {g : Nat → Int32} (h : cl_gr ay ws u q aE) (hy : ws[j]? = some (a, .inl (c0, n, .inl g))) (hj : j ≠ q) : u[j]? = some (a, .inl (c0, n, .inl g)) := cl_fr h hy hj (fun _ _ z => vg_ii z)
theorem cp_P_cg {ay : Nat → ClassId} {ws u : va_W} {q q0 aE a : Nat} {d fr to pe : Nat → Nat} (h : cp_P ay ws q0 a d fr to pe) (hg : cl_gr ay ws u q aE) (hq : q < 56) (h0 : 56 ≤ q0) : cp_P ay u q0 a d fr to pe := by
  obtain ⟨af, at2, ag, ff, ft, fg, k0, k1, k2, k3, hr⟩ := h
  exact ⟨af, at2, ag, ff, ft, fg, cl_fo hg k0 (by omega), cl_fi hg k1 (by omega), cl_fi hg k2 (by omega), cl_fi hg k3 (by omega), hr⟩
/-- the two lists and what they hold -/
def cw_L (ay : Nat → ClassId) (ws : va_W) (tE n P U aP aU aE1 aE2 : Nat) (el qp ua uq : Nat → Nat) (d fr to pe uv : Nat → Nat → Nat) : Prop :=
  cl_at ay ws 2 aP tE aE1 P el ∧ cl_at ay ws 3 aU tE aE2 U ua ∧ (aE1 ≠ aE2 ∨ aE1 = tE) ∧ (∀ i, i < P → 56 ≤ qp i ∧ cp_P ay ws (qp i) (el i) (d i) (fr i) (to i) (pe i) ∧ cp_R (d i) (fr i) (to i) (pe i) ∧ d i 0 < n ∧ d i 1 < n ∧ d i 0 ≠ d i 1) ∧ (∀ j, j < U → 56 ≤ uq j ∧ cu_P ws (uq j) (ua j) (uv j) ∧ cu_R (uv j) ∧ uv j 4 < n) ∧ (∀ i j, i < j → j < P → qp i + 4 ≤ qp j) ∧ (∀ i j, i < j → j < U → uq i < uq j) ∧ n ≤ 200 ∧ P ≤ 150 ∧ U ≤ 12
/-- the chains of halves -/
def cw_H (n P : Nat) (d : Nat → Nat → Nat) (fh fo : Nat → Int32) : Prop := (∀ v, v < n → ch_prev (fun i => d i 0) (fun i => d i 1) v (2 * P) (fh v)) ∧ ∀ h, h < 2 * P → ch_prev (fun i => d i 0) (fun i => d i 1) (dj_hn (fun i => d i 0) (fun i => d i 1) h) h (fo h)
/-- the net, whole -/
def cw_N (ay : Nat → ClassId) (ws : va_W) (aN tE n P U : Nat) (el qp ua uq : Nat → Nat) (d fr to pe uv : Nat → Nat → Nat) : Prop :=
  ∃ (aP aU aH aO aE1 aE2 : Nat) (fh fo : Nat → Int32), ws[1]? = some (aN, .inr (3, [.ref aP, .ref aU, .ref aH, .ref aO, .int (nI n)])) ∧ ws[4]? = some (aH, .inl (ay 0, 200, .inl fh)) ∧ ws[5]? = some (aO, .inl (ay 0, 300, .inl fo)) ∧ cw_L ay ws tE n P U aP aU aE1 aE2 el qp ua uq d fr to pe uv ∧ cw_H n P d fh fo
theorem cw_N_n {ay : Nat → ClassId} {ws : va_W} {aN tE n P U : Nat} {el qp ua uq : Nat → Nat} {d fr to pe uv : Nat → Nat → Nat} (h : cw_N ay ws aN tE n P U el qp ua uq d fr to pe uv) : cn_N ay ws aN tE n P el qp d fr to pe := by
  obtain ⟨aP, aU, aH, aO, aE1, aE2, fh, fo, h1, h4, h5, ⟨l1, l2, l3, l4, l5, l6, l7, l8, l9, l10⟩, c1, c2⟩ := h
  exact ⟨aP, aU, aH, aO, fh, fo, h1, cl_at_L l1, h4, h5, l4, l8, l9, c1, c2⟩
theorem cw_N_u {ay : Nat → ClassId} {ws : va_W} {aN tE n P U : Nat} {el qp ua uq : Nat → Nat} {d fr to pe uv : Nat → Nat → Nat} (h : cw_N ay ws aN tE n P U el qp ua uq d fr to pe uv) : cu_U ay ws aN tE n U ua uq uv := by
  obtain ⟨aP, aU, aH, aO, aE1, aE2, fh, fo, h1, h4, h5, ⟨l1, l2, l3, l4, l5, l6, l7, l8, l9, l10⟩, c1, c2⟩ := h
  exact ⟨_, aU, _, _, _, h1, cl_at_L l2, l10, l5⟩
theorem cl_at_fr {ay : Nat → ClassId} {ws u : va_W} {q aL tE aE cnt : Nat} {el : Nat → Nat} (h : cl_at ay ws q aL tE aE cnt el) (h1 : u[q]? = ws[q]?) (h2 : ∀ j, 56 ≤ j → u[j]? = ws[j]?) : cl_at ay u q aL tE aE cnt el := by
  obtain ⟨⟨mo, g1⟩, g2⟩ := h
  exact ⟨⟨mo, h1.trans g1⟩, g2.imp id (fun ⟨qE, cap, f, k1, k2, k3⟩ => ⟨qE, cap, f, (h2 qE k2).trans k1, k2, k3⟩)⟩
theorem cw_L_fr {ay : Nat → ClassId} {ws u : va_W} {tE n P U aP aU aE1 aE2 : Nat} {el qp ua uq : Nat → Nat} {d fr to pe uv : Nat → Nat → Nat} (h : cw_L ay ws tE n P U aP aU aE1 aE2 el qp ua uq d fr to pe uv) (h2 : u[2]? = ws[2]?) (h3 : u[3]? = ws[3]?) (hd : ∀ j, 56 ≤ j → u[j]? = ws[j]?) : cw_L ay u tE n P U aP aU aE1 aE2 el qp ua uq d fr to pe uv := by
  obtain ⟨l1, l2, l3, l4, l5, l6⟩ := h
  exact ⟨cl_at_fr l1 h2 hd, cl_at_fr l2 h3 hd, l3, fun i hi => ⟨(l4 i hi).1, cp_P_fr (l4 i hi).2.1 (l4 i hi).1 hd, (l4 i hi).2.2⟩, fun j hj => ⟨(l5 j hj).1, (hd _ (l5 j hj).1).trans (l5 j hj).2.1, (l5 j hj).2.2⟩, l6⟩
theorem cw_N_fr {ay : Nat → ClassId} {ws u : va_W} {aN tE n P U : Nat} {el qp ua uq : Nat → Nat} {d fr to pe uv : Nat → Nat → Nat} (h : cw_N ay ws aN tE n P U el qp ua uq d fr to pe uv) (hs : ∀ j, 1 ≤ j → j ≤ 5 → u[j]? = ws[j]?) (hd : ∀ j, 56 ≤ j → u[j]? = ws[j]?) : cw_N ay u aN tE n P U el qp ua uq d fr to pe uv := by
  obtain ⟨aP, aU, aH, aO, aE1, aE2, fh, fo, h1, h4, h5, hL, c1⟩ := h
  exact ⟨aP, aU, aH, aO, aE1, aE2, fh, fo, (hs 1 (by omega) (by omega)).trans h1, (hs 4 (by omega) (by omega)).trans h4, (hs 5 (by omega) (by omega)).trans h5, cw_L_fr hL (hs 2 (by omega) (by omega)) (hs 3 (by omega) (by omega)) hd, c1⟩
theorem cl_ad_gr {ay : Nat → ClassId} {ws u : va_W} {q aL tE aE cnt x : Nat} {el : Nat → Nat} (h : cl_ad ay ws u q aL tE aE cnt el x) : cl_gr ay ws u q aE := by
  obtain ⟨_, _, _, _, _, _, _, _, _, _, _, _, _, g, _, _⟩ := h
  exact g
/-- a list's change leaves the first 56 places, but its object -/
theorem cl_low {ay : Nat → ClassId} {base : Nat} {ws u : va_W} {q tE aE cnt j N : Nat} {el : Nat → Nat} {f9 : Nat → Value} {ty : FieldType} {S9 : State} {H9 : Heap} (hD : va_D (vg_A base) ws) (hT : va_T ty tE N f9 (vg_A base) S9 H9) (halt : ((cnt = 0 ∧ aE = tE) ∨ ∃ (qE cap : Nat) (f : Nat → Option Nat), ws[qE]? = some (aE, .inl (ay 4, cap, .inr (.inr (.inr (.inr f))))) ∧ 56 ≤ qE ∧ cnt ≤ cap ∧ 10 ≤ cap ∧ cap ≤ 300 ∧ aE ≠ tE ∧ (∀ i, i < cnt → f i = some (el i)))) (hg : cl_gr ay ws u q aE) (hl : 56 ≤ ws.length) (hj : j < 56) (hq : j ≠ q) : u[j]? = ws[j]? := hg.2 j (by omega) hq (fun cap f z => by
  rcases halt with ⟨_, e9⟩ | ⟨qE, cap2, f2, k1, k2, _⟩
  · exact vg_away hD z hT e9
  · have := hD.1 j qE _ _ z k1 rfl
    omega)
/-- the other list of the two keeps its row -/
theorem cl_at_cg {ay : Nat → ClassId} {ws u : va_W} {q q2 aL tE aE aE2 cnt : Nat} {el : Nat → Nat} (h : cl_at ay ws q2 aL tE aE2 cnt el) (hg : cl_gr ay ws u q aE) (hq : q < 56) (hne : q2 ≠ q) (hap : aE2 ≠ tE → aE2 ≠ aE) : cl_at ay u q2 aL tE aE2 cnt el := by
  obtain ⟨⟨mo, h1⟩, h2⟩ := h
  refine ⟨⟨mo, cl_fo hg h1 hne⟩, h2.imp id (fun ⟨qE, cap, f, k1, k2, k3, k4, k5, k6, k7⟩ => ⟨qE, cap, f, cl_fr hg k1 (by omega) (fun cap f z => hap k6 (Prod.mk.inj z).1), k2, k3, k4, k5, k6, k7⟩)⟩
/-- the list itself, with an element more -/
theorem cl_at_ad {ay : Nat → ClassId} {ws u : va_W} {q aL tE aE aE2 cnt q2 aL2 cnt2 x : Nat} {el el2 : Nat → Nat} (ha : cl_ad ay ws u q aL tE aE cnt el x) (h2 : cl_at ay ws q2 aL2 tE aE2 cnt2 el2) (hap : aE ≠ tE → aE ≠ aE2) : ∃ aE3, cl_at ay u q aL tE aE3 (cnt + 1) (va_up el cnt x) ∧ aE3 ≠ aE2 ∧ aE3 ≠ tE ∧ cl_gr ay ws u q aE := by
  obtain ⟨mo2, aE3, qE3, cap3, f3, g1, g2, g3, g4, g5, g6, g7, g8, gf, gd, gt⟩ := ha
  refine ⟨aE3, ⟨⟨mo2, g1⟩, Or.inr ⟨qE3, cap3, f3, g2, g3, g4, g5, g6, gt, fun i hi => ?_⟩⟩, ?_, gt, gf⟩
  · by_cases c9 : i = cnt
    · subst c9; rw [vu_s]; exact g8
    · rw [vu_n c9]; exact g7 i (by omega)
  · rcases gd with e9 | hfr
    · rw [e9]; exact hap (by rw [← e9]; exact gt)
    · rcases h2.2 with ⟨_, e9⟩ | ⟨qE, cap, f, k1, k2⟩
      · rw [e9]; exact gt
      · exact fun z => hfr qE _ k1 z.symm
theorem cw_L_addP {ay : Nat → ClassId} {ws u : va_W} {tE n P U aP aU aE1 aE2 : Nat} {el qp ua uq : Nat → Nat} {d fr to pe uv : Nat → Nat → Nat} {q a : Nat} {dd : Nat → Nat} (h : cw_L ay ws tE n P U aP aU aE1 aE2 el qp ua uq d fr to pe uv) (ha : cl_ad ay ws u 2 aP tE aE1 P el a) (hq : 56 ≤ q) (hp : cp_P ay ws q a dd (fr P) (to P) (pe P)) (hr : cp_R dd (fr P) (to P) (pe P)) (h0 : dd 0 < n) (h1 : dd 1 < n) (h01 : dd 0 ≠ dd 1) (hP : P < 150) (hqs : ∀ i, i < P → qp i + 4 ≤ q) : ∃ aE3, cw_L ay u tE n (P + 1) U aP aU aE3 aE2 (va_up el P a) (va_up qp P q) ua uq (va_up d P dd) fr to pe uv := by
  obtain ⟨l1, l2, l3, l4, l5, l6, l7, l8, l9, l10⟩ := h
  obtain ⟨aE3, g1, g2, g3, gf⟩ := cl_at_ad ha l2 (fun z => l3.resolve_right z)
  refine ⟨aE3, g1, cl_at_cg l2 gf (by decide) (by decide) (fun z z2 => l3.elim (fun z3 => z3 z2.symm) (fun z3 => z (z2.trans z3))), Or.inl g2, fun i hi => ?_, fun j hj => ⟨(l5 j hj).1, cl_fo gf (l5 j hj).2.1 (by have := (l5 j hj).1; omega), (l5 j hj).2.2⟩, fun i j hij hj => ?_, l7, l8, by omega, l10⟩
  · by_cases c9 : i = P
    · subst c9
      simp only [vu_s]
      exact ⟨hq, cp_P_cg hp gf (by decide) hq, hr, h0, h1, h01⟩
    · simp only [vu_n c9]
      have k := l4 i (by omega)
      exact ⟨k.1, cp_P_cg k.2.1 gf (by decide) k.1, k.2.2⟩
  · rw [vu_n (f := qp) (show i ≠ P by omega)]
    by_cases c9 : j = P
    · subst c9; rw [vu_s]; exact hqs i hij
    · rw [vu_n c9]; exact l6 i j hij (by omega)
theorem cw_L_addU {ay : Nat → ClassId} {ws u : va_W} {tE n P U aP aU aE1 aE2 : Nat} {el qp ua uq : Nat → Nat} {d fr to pe uv : Nat → Nat → Nat} {q a : Nat} {vv : Nat → Nat} (h : cw_L ay ws tE n P U aP aU aE1 aE2 el qp ua uq d fr to pe uv) (ha : cl_ad ay ws u 3 aU tE aE2 U ua a) (hq : 56 ≤ q) (hp : cu_P ws q a vv) (hr : cu_R vv) (h4 : vv 4 < n) (hU : U < 12) (hqs : ∀ i, i < U → uq i < q) : ∃ aE3, cw_L ay u tE n P (U + 1) aP aU aE1 aE3 el qp (va_up ua U a) (va_up uq U q) d fr to pe (va_up uv U vv) := by
  obtain ⟨l1, l2, l3, l4, l5, l6, l7, l8, l9, l10⟩ := h
  obtain ⟨aE3, g1, g2, g3, gf⟩ := cl_at_ad ha l1 (fun z z2 => l3.elim (fun z3 => z3 z2.symm) (fun z3 => z (z2.trans z3)))
  refine ⟨aE3, cl_at_cg l1 gf (by decide) (by decide) (fun z => l3.resolve_right z), g1, Or.inl (fun z => g2 z.symm), fun i hi => ⟨(l4 i hi).1, cp_P_cg (l4 i hi).2.1 gf (by decide) (l4 i hi).1, (l4 i hi).2.2⟩, fun j hj => ?_, l6, fun i j hij hj => ?_, l8, l9, by omega⟩
  · by_cases c9 : j = U
    · subst c9
      simp only [vu_s]
      exact ⟨hq, cl_fo gf hp (by omega), hr, h4⟩
    · simp only [vu_n c9]
      have k := l5 j (by omega)
      exact ⟨k.1, cl_fo gf k.2.1 (by have := k.1; omega), k.2.2⟩
  · rw [vu_n (f := uq) (show i ≠ U by omega)]
    by_cases c9 : j = U
    · subst c9; rw [vu_s]; exact hqs i hij
    · rw [vu_n c9]; exact l7 i j hij (by omega)
theorem ch_congr {ea eb ea2 eb2 : Nat → Nat} {v b : Nat} {x : Int32} (h : ch_prev ea eb v b x) (he : ∀ j, j < b → dj_hn ea2 eb2 j = dj_hn ea eb j) : ch_prev ea2 eb2 v b x := by
  rcases h with ⟨h1, h2⟩ | ⟨k, h1, h2, h3, h4⟩
  · exact Or.inl ⟨h1, fun j hj => by rw [he j hj]; exact h2 j hj⟩
  · exact Or.inr ⟨k, h1, h2, by rw [he k h2]; exact h3, fun j q1 q2 => by rw [he j q2]; exact h4 j q1 q2⟩
theorem ch_hang {ea eb : Nat → Nat} {n b v9 : Nat} {fh : Nat → Int32} (h : ∀ v, v < n → ch_prev ea eb v b (fh v)) (hv : dj_hn ea eb b = v9) : ∀ v, v < n → ch_prev ea eb v (b + 1) (upd fh v9 (nI b) v) := fun v hn => by
  by_cases c9 : v = v9
  · subst c9
    rw [pk_us]
    exact Or.inr ⟨b, rfl, by omega, hv, fun j q1 q2 => absurd q1 (by omega)⟩
  · rw [pk_un c9]
    rcases h v hn with ⟨h1, h2⟩ | ⟨k, h1, h2, h3, h4⟩
    · refine Or.inl ⟨h1, fun j hj => ?_⟩
      by_cases c8 : j = b
      · rw [c8, hv]; exact fun z => c9 z.symm
      · exact h2 j (by omega)
    · refine Or.inr ⟨k, h1, by omega, h3, fun j q1 q2 => ?_⟩
      by_cases c8 : j = b
      · rw [c8, hv]; exact fun z => c9 z.symm
      · exact h4 j q1 (by omega)
theorem cw_H_add {n P : Nat} {d : Nat → Nat → Nat} {dd : Nat → Nat} {fh fo : Nat → Int32} (h : cw_H n P d fh fo) (h0 : dd 0 < n) (h1 : dd 1 < n) : cw_H n (P + 1) (va_up d P dd) (upd (upd fh (dd 0) (nI (2 * P))) (dd 1) (nI (2 * P + 1))) (upd (upd fo (2 * P) (fh (dd 0))) (2 * P + 1) (upd fh (dd 0) (nI (2 * P)) (dd 1))) := by
  have e0 : ∀ j, j < 2 * P → dj_hn (fun i => va_up d P dd i 0) (fun i => va_up d P dd i 1) j = dj_hn (fun i => d i 0) (fun i => d i 1) j := fun j hj => by
    unfold dj_hn
    dsimp only
    rw [vu_n (show j / 2 ≠ P by omega)]
  have e1 : dj_hn (fun i => va_up d P dd i 0) (fun i => va_up d P dd i 1) (2 * P) = dd 0 := by
    unfold dj_hn
    rw [show 2 * P / 2 = P by omega, if_pos (by omega)]
    show va_up d P dd P 0 = dd 0
    rw [vu_s]
  have e2 : dj_hn (fun i => va_up d P dd i 0) (fun i => va_up d P dd i 1) (2 * P + 1) = dd 1 := by
    unfold dj_hn
    rw [show (2 * P + 1) / 2 = P by omega, if_neg (by omega)]
    show va_up d P dd P 1 = dd 1
    rw [vu_s]
  have k0 : ∀ v, v < n → ch_prev (fun i => va_up d P dd i 0) (fun i => va_up d P dd i 1) v (2 * P) (fh v) := fun v hv => ch_congr (h.1 v hv) e0
  have k1 := ch_hang k0 e1
  have k2 := ch_hang k1 e2
  refine ⟨fun v hv => ?_, fun j hj => ?_⟩
  · rw [show 2 * (P + 1) = 2 * P + 1 + 1 by omega]; exact k2 v hv
  · by_cases c1 : j = 2 * P + 1
    · subst c1
      rw [pk_us, e2]; exact k1 _ h1
    · rw [pk_un c1]
      by_cases c2 : j = 2 * P
      · subst c2
        rw [pk_us, e1]; exact k0 _ h0
      · rw [pk_un c2, e0 j (by omega)]
        exact ch_congr (h.2 j (by omega)) (fun i hi => e0 i (by omega))
theorem vg_n45 {q : Nat} (h : 6 ≤ q) : q ∉ [4, 5] := fun z => by
  rcases List.mem_cons.mp z with z | z
  · omega
  · have := List.mem_singleton.mp z
    omega
theorem vg_n45s {q : Nat} (h : q < 4) : q ∉ [4, 5] := fun z => by
  rcases List.mem_cons.mp z with z | z
  · omega
  · have := List.mem_singleton.mp z
    omega
theorem in_X0_hang_X0 : ∀ w ∈ u_ws RX0 TX0 5, w ∈ wsX0_hang := by decide +kernel
theorem ml_X0_hang_25 : Cond.fieldLink RX0 25 "WayTimes$Net" "olderHalf" "[I" ∈ wsX0_hang := by decide +kernel
theorem ml_X0_hang_21 : Cond.fieldLink RX0 21 "WayTimes$Net" "newestHalf" "[I" ∈ wsX0_hang := by decide +kernel
theorem oi_X0_init : Cond.methodLink RX0 3 Lib.objectInit ∈ wsX0_init := by decide +kernel
theorem oj_X0_init : Cond.instanceMethod Lib.objectInit ∈ wsX0_init := by decide +kernel
theorem ok_X0_init : Cond.code Lib.objectInit ⟨#[0xb1]⟩ 1 none ∈ wsX0_init := by decide +kernel
theorem dfJx4a65c_X0_init : ∀ j, j < 3 → defaultValue (tyJx4a65c j) = vp_V [.int 0, .null, .int 0] j := fun j hj => by
  rcases (show j = 0 ∨ j = 1 ∨ j = 2 by omega) with rfl | rfl | rfl <;> rfl
theorem nc_X0_init_9 : Cond.classLink RX0 9 RJx4a65c ∈ wsX0_init := by decide +kernel
theorem ni_X0_init_Jx4a65c : Cond.instantiable RJx4a65c 3 ∈ wsX0_init := by decide +kernel
theorem nn_X0_init_Jx4a65c : Cond.initialized RJx4a65c ∈ wsX0_init := by decide +kernel
theorem in_X0_init_Jx4a65c : ∀ w ∈ u_ws RJx4a65c TJx4a65c 3, w ∈ wsX0_init := by decide +kernel
theorem ci_X0_init_Jx4a65c : Cond.initialized RJx4a65c ∈ wsX0_init := by decide +kernel
theorem cj_X0_init_Jx4a65c_init_da8c8 : Cond.instanceMethod yJx4a65c_init_da8c8 ∈ wsX0_init := by decide +kernel
theorem ck_X0_init_11 : Cond.methodLink RX0 11 yJx4a65c_init_da8c8 ∈ wsX0_init := by decide +kernel
theorem in_X0_init_X0 : ∀ w ∈ u_ws RX0 TX0 5, w ∈ wsX0_init := by decide +kernel
theorem ml_X0_init_12 : Cond.fieldLink RX0 12 "WayTimes$Net" "pieces" "Ljava/util/ArrayList;" ∈ wsX0_init := by decide +kernel
theorem ml_X0_init_18 : Cond.fieldLink RX0 18 "WayTimes$Net" "units" "Ljava/util/ArrayList;" ∈ wsX0_init := by decide +kernel
theorem na_X0_init_i : Cond.arrayClass .int ∈ wsX0_init := by decide +kernel
theorem ml_X0_init_21 : Cond.fieldLink RX0 21 "WayTimes$Net" "newestHalf" "[I" ∈ wsX0_init := by decide +kernel
theorem ml_X0_init_25 : Cond.fieldLink RX0 25 "WayTimes$Net" "olderHalf" "[I" ∈ wsX0_init := by decide +kernel
theorem in_X0_begin_X0 : ∀ w ∈ u_ws RX0 TX0 5, w ∈ wsX0_begin := by decide +kernel
theorem ml_X0_begin_34 : Cond.fieldLink RX0 34 "WayTimes$Net" "nodes" "I" ∈ wsX0_begin := by decide +kernel
theorem ml_X0_begin_12 : Cond.fieldLink RX0 12 "WayTimes$Net" "pieces" "Ljava/util/ArrayList;" ∈ wsX0_begin := by decide +kernel
theorem ml_X0_begin_18 : Cond.fieldLink RX0 18 "WayTimes$Net" "units" "Ljava/util/ArrayList;" ∈ wsX0_begin := by decide +kernel
theorem ml_X0_begin_21 : Cond.fieldLink RX0 21 "WayTimes$Net" "newestHalf" "[I" ∈ wsX0_begin := by decide +kernel
theorem in_X0_addPiece_X0 : ∀ w ∈ u_ws RX0 TX0 5, w ∈ wsX0_addPiece := by decide +kernel
theorem ml_X0_addPiece_12 : Cond.fieldLink RX0 12 "WayTimes$Net" "pieces" "Ljava/util/ArrayList;" ∈ wsX0_addPiece := by decide +kernel
theorem in_X0_addPiece_X2 : ∀ w ∈ u_ws RX2 TX2 11, w ∈ wsX0_addPiece := by decide +kernel
theorem ml_X0_addPiece_49 : Cond.fieldLink RX0 49 "WayTimes$Piece" "a" "I" ∈ wsX0_addPiece := by decide +kernel
theorem ml_X0_addPiece_58 : Cond.fieldLink RX0 58 "WayTimes$Piece" "b" "I" ∈ wsX0_addPiece := by decide +kernel
set_option maxHeartbeats 4000000 in
set_option maxRecDepth 100000 in
/-- hang(half, node) -/
theorem c_X0_hang (l : Launch) {D : va_G} {ay : Nat → ClassId} {base : Nat} {Gx : State → Prop} {ws : va_W} {aN aP aU aH aO n h v : Nat} {fh fo : Nat → Int32} (h1 : ws[1]? = some (aN, .inr (3, [.ref aP, .ref aU, .ref aH, .ref aO, .int (nI n)]))) (h4 : ws[4]? = some (aH, .inl (ay 0, 200, .inl fh))) (h5 : ws[5]? = some (aO, .inl (ay 0, 300, .inl fo))) (hh : h < 300) (hv : v < 200) : Met l yX0_hang wsX0_hang ({ frames := 0, cells := 0, slots := 0, locals := 0 } : Room) (va_Pc [.ref aN, .int (nI h), .int (nI v)] (vg_B D ay base Gx ws)) (va_Qv (fun u => u[4]? = some (aH, .inl (ay 0, 200, .inl (upd fh v (nI h)))) ∧ u[5]? = some (aO, .inl (ay 0, 300, .inl (upd fo h (fh v)))) ∧ vg_fr ws u [4, 5]) (vg_B D ay base Gx) (vg_A base)) 0 0 (vg_A base) := by
  refine vg_met (cc := cX0_hang) (maxL := 3) (ret := none) (own := RX0) (lv := [(0, .ref aN), (1, .int (nI h)), (2, .int (nI v))]) (by decide) rfl rfl (Nat.le_of_ble_eq_true rfl) rfl ?_
  intro p e s m args below meth c X hinit
  refine vg_aload_n X dX0_hang_0 0 rfl rfl ?_
  refine vg_get X in_X0_hang_X0 1 h1 rfl 3 (by decide) ml_X0_hang_25 rfl rfl dX0_hang_1 ?_
  refine vg_iload_n X dX0_hang_4 1 rfl rfl ?_
  refine vg_aload_n X dX0_hang_5 0 rfl rfl ?_
  refine vg_get X in_X0_hang_X0 1 h1 rfl 2 (by decide) ml_X0_hang_21 rfl rfl dX0_hang_6 ?_
  refine vg_iload_n X dX0_hang_9 2 rfl rfl ?_
  refine vg_iald X (fh v) 4 h4 rfl (by omega) (by decide) rfl dX0_hang_10 ?_
  refine vg_iast X 5 h5 rfl (by omega) (by decide) dX0_hang_11 (fun wz1 ez2 => ?_)
  have fh3 : wz1[5]? = some (aO, .inl (ay 0, 300, .inl (upd fo h (fh v)))) := vg_se ez2 h5
  refine vg_aload_n X dX0_hang_12 0 rfl rfl ?_
  have fh4 : wz1[1]? = some (aN, .inr (3, [.ref aP, .ref aU, .ref aH, .ref aO, .int (nI n)])) := (vg_sn ez2 (by decide)).trans (h1)
  refine vg_get X in_X0_hang_X0 1 fh4 rfl 2 (by decide) ml_X0_hang_21 rfl rfl dX0_hang_13 ?_
  refine vg_iload_n X dX0_hang_16 2 rfl rfl ?_
  refine vg_iload_n X dX0_hang_17 1 rfl rfl ?_
  have fh5 : wz1[4]? = some (aH, .inl (ay 0, 200, .inl fh)) := (vg_sn ez2 (by decide)).trans (h4)
  refine vg_iast X 4 fh5 rfl (by omega) (by decide) dX0_hang_18 (fun wz6 ez7 => ?_)
  have fh8 : wz6[4]? = some (aH, .inl (ay 0, 200, .inl (upd fh v (nI h)))) := vg_se ez7 fh5
  have fh9 : wz6[5]? = some (aO, .inl (ay 0, 300, .inl (upd fo h (fh v)))) := (vg_sn ez7 (by decide)).trans (fh3)
  exact vg_vret X rfl ⟨fh8, fh9, vg_fr_set (vg_fr_set (vg_fr_rf _ [4, 5]) ez2 (by decide)) ez7 (by decide)⟩ (Nat.le_refl _) (Nat.le_refl _) dX0_hang_19
set_option maxHeartbeats 4000000 in
set_option maxRecDepth 100000 in
/-- new Net() -/
theorem c_X0_init (l : Launch) {D : va_G} {ay : Nat → ClassId} {base : Nat} {Gx : State → Prop} {ws : va_W} {aN tE n P U : Nat} {el qp ua uq : Nat → Nat} {d fr to pe uv : Nat → Nat → Nat} {mi : Nat} (hq : ws[1]? = some (aN, .inr (3, [.null, .null, .null, .null, .int 0]))) (hlen : ws.length = 2) (hG : ∀ U, Gx U → vh_G base tE mi U) : Met l yX0_init wsX0_init ({ frames := 4, cells := 4, slots := 506, locals := 72 } : Room) (va_Pc [.ref aN] (vg_B D ay base Gx ws)) (va_Qv (fun u => cw_N ay u aN tE 0 0 0 el qp ua uq d fr to pe uv ∧ u.length = 6 ∧ vg_gr ws u [1]) (vg_B D ay base Gx) (vg_A base)) 4 506 (vg_A base) := by
  refine vg_met (cc := cX0_init) (maxL := 1) (ret := none) (own := RX0) (lv := [(0, .ref aN)]) (by decide) rfl rfl (Nat.le_of_ble_eq_true rfl) rfl ?_
  intro p e s m args below meth c X hinit
  refine vg_aload_n X dX0_init_0 0 rfl rfl ?_
  refine vg_objInit X oi_X0_init oj_X0_init ok_X0_init (Nat.le_of_ble_eq_true rfl) (Nat.le_of_ble_eq_true rfl) dX0_init_1 ?_
  refine vg_aload_n X dX0_init_4 0 rfl rfl ?_
  refine vg_new X (ci := 2) (C := RJx4a65c) (T := TJx4a65c) (N := 3) [.int 0, .null, .int 0] in_X0_init_Jx4a65c tyJx4a65c tyJx4a65c_ok nc_X0_init_9 ni_X0_init_Jx4a65c nn_X0_init_Jx4a65c rfl dfJx4a65c_X0_init (Nat.le_of_ble_eq_true rfl) (Nat.le_of_ble_eq_true rfl) dX0_init_5 (fun aq1 wz2 ez3 => ?_)
  have fh4 : wz2[2]? = some (aq1, .inr (2, [.int 0, .null, .int 0])) := (show wz2[2]? = wz2[ws.length]? by rw [hlen]).trans (vg_pl ez3)
  refine vg_dup X dX0_init_8 rfl ?_
  refine vg_callv (vg_runI X (c_Jx4a65c_init_da8c8 l fh4 hG) (cwI 0 X.2.2.2.2.1 gX0_init_Jx4a65c_init_da8c8 rfl rfl rfl (X.2.2.2.2.1 _ ci_X0_init_Jx4a65c) (X.2.2.2.2.1 _ ck_X0_init_11) (X.2.2.2.2.1 _ cj_X0_init_Jx4a65c_init_da8c8) rfl (by decide +kernel) ⟨(Nat.le_of_ble_eq_true rfl), (Nat.le_of_ble_eq_true rfl)⟩) rfl rfl (Nat.le_of_ble_eq_true rfl) dX0_init_9 ⟨(Nat.le_of_ble_eq_true rfl), (Nat.le_of_ble_eq_true rfl)⟩) (fun wz5 PP6 => ?_)
  obtain ⟨ga2, gb2⟩ := PP6
  have fh7 : wz5[1]? = some (aN, .inr (3, [.null, .null, .null, .null, .int 0])) := (gb2.2 1 (by decide)).trans (vg_pn ez3 (hq))
  refine vg_putF X in_X0_init_X0 tyX0 tyX0_ok nmX0 1 fh7 rfl 0 (by decide) ml_X0_init_12 rfl rfl hinit rfl rfl rfl (Nat.le_of_ble_eq_true rfl) dX0_init_12 (fun wz8 ez9 => ?_)
  have fh10 : wz8[1]? = some (aN, .inr (3, [.ref aq1, .null, .null, .null, .int 0])) := vg_se ez9 fh7
  refine vg_aload_n X dX0_init_15 0 rfl rfl ?_
  refine vg_new X (ci := 2) (C := RJx4a65c) (T := TJx4a65c) (N := 3) [.int 0, .null, .int 0] in_X0_init_Jx4a65c tyJx4a65c tyJx4a65c_ok nc_X0_init_9 ni_X0_init_Jx4a65c nn_X0_init_Jx4a65c rfl dfJx4a65c_X0_init (Nat.le_of_ble_eq_true rfl) (Nat.le_of_ble_eq_true rfl) dX0_init_16 (fun aq11 wz12 ez13 => ?_)
  have hl14 : wz8.length = 3 := (vg_sl ez9).trans ((gb2.1).trans ((vg_plen ez3).trans (congrArg (· + 1) (hlen))))
  have fh15 : wz12[3]? = some (aq11, .inr (2, [.int 0, .null, .int 0])) := (show wz12[3]? = wz12[wz8.length]? by rw [hl14]).trans (vg_pl ez13)
  refine vg_dup X dX0_init_19 rfl ?_
  refine vg_callv (vg_runI X (c_Jx4a65c_init_da8c8 l fh15 hG) (cwI 0 X.2.2.2.2.1 gX0_init_Jx4a65c_init_da8c8 rfl rfl rfl (X.2.2.2.2.1 _ ci_X0_init_Jx4a65c) (X.2.2.2.2.1 _ ck_X0_init_11) (X.2.2.2.2.1 _ cj_X0_init_Jx4a65c_init_da8c8) rfl (by decide +kernel) ⟨(Nat.le_of_ble_eq_true rfl), (Nat.le_of_ble_eq_true rfl)⟩) rfl rfl (Nat.le_of_ble_eq_true rfl) dX0_init_20 ⟨(Nat.le_of_ble_eq_true rfl), (Nat.le_of_ble_eq_true rfl)⟩) (fun wz16 PP17 => ?_)
  obtain ⟨ga3, gb3⟩ := PP17
  have fh18 : wz16[1]? = some (aN, .inr (3, [.ref aq1, .null, .null, .null, .int 0])) := (gb3.2 1 (by decide)).trans (vg_pn ez13 (fh10))
  refine vg_putF X in_X0_init_X0 tyX0 tyX0_ok nmX0 1 fh18 rfl 1 (by decide) ml_X0_init_18 rfl rfl hinit rfl rfl rfl (Nat.le_of_ble_eq_true rfl) dX0_init_23 (fun wz19 ez20 => ?_)
  have fh21 : wz19[1]? = some (aN, .inr (3, [.ref aq1, .ref aq11, .null, .null, .int 0])) := vg_se ez20 fh18
  refine vg_aload_n X dX0_init_26 0 rfl rfl ?_
  refine vg_sipush X (nI 200) dX0_init_27 (by decide) ?_
  refine vg_newI X 200 na_X0_init_i rfl (by decide) (Nat.le_of_ble_eq_true rfl) (Nat.le_of_ble_eq_true rfl) dX0_init_30 (fun aq22 wz23 ez24 => ?_)
  have hl25 : wz19.length = 4 := (vg_sl ez20).trans ((gb3.1).trans ((vg_plen ez13).trans (congrArg (· + 1) (hl14))))
  have fh26 : wz23[4]? = some (aq22, .inl (ay 0, 200, .inl (fun _ => 0))) := (show wz23[4]? = wz23[wz19.length]? by rw [hl25]).trans (vg_pl ez24)
  have fh27 : wz23[1]? = some (aN, .inr (3, [.ref aq1, .ref aq11, .null, .null, .int 0])) := vg_pn ez24 (fh21)
  refine vg_putF X in_X0_init_X0 tyX0 tyX0_ok nmX0 1 fh27 rfl 2 (by decide) ml_X0_init_21 rfl rfl hinit rfl rfl rfl (Nat.le_of_ble_eq_true rfl) dX0_init_32 (fun wz28 ez29 => ?_)
  have fh30 : wz28[1]? = some (aN, .inr (3, [.ref aq1, .ref aq11, .ref aq22, .null, .int 0])) := vg_se ez29 fh27
  refine vg_aload_n X dX0_init_35 0 rfl rfl ?_
  refine vg_sipush X (nI 300) dX0_init_36 (by decide) ?_
  refine vg_newI X 300 na_X0_init_i rfl (by decide) (Nat.le_of_ble_eq_true rfl) (Nat.le_of_ble_eq_true rfl) dX0_init_39 (fun aq31 wz32 ez33 => ?_)
  have hl34 : wz28.length = 5 := (vg_sl ez29).trans ((vg_plen ez24).trans (congrArg (· + 1) (hl25)))
  have fh35 : wz32[5]? = some (aq31, .inl (ay 0, 300, .inl (fun _ => 0))) := (show wz32[5]? = wz32[wz28.length]? by rw [hl34]).trans (vg_pl ez33)
  have fh36 : wz32[1]? = some (aN, .inr (3, [.ref aq1, .ref aq11, .ref aq22, .null, .int 0])) := vg_pn ez33 (fh30)
  refine vg_putF X in_X0_init_X0 tyX0 tyX0_ok nmX0 1 fh36 rfl 3 (by decide) ml_X0_init_25 rfl rfl hinit rfl rfl rfl (Nat.le_of_ble_eq_true rfl) dX0_init_41 (fun wz37 ez38 => ?_)
  have fh39 : wz37[1]? = some (aN, .inr (3, [.ref aq1, .ref aq11, .ref aq22, .ref aq31, .int 0])) := vg_se ez38 fh36
  refine vg_aload_n X dX0_init_44 0 rfl rfl ?_
  refine vg_get X in_X0_init_X0 1 fh39 rfl 2 (by decide) ml_X0_init_21 rfl rfl dX0_init_45 ?_
  refine vg_iconst X (-1) dX0_init_48 (by decide) ?_
  have fh40 : wz37[2]? = some (aq1, .inr (2, [.int (nI 0), .ref tE, .int 0])) := (vg_sn ez38 (by decide)).trans (vg_pn ez33 ((vg_sn ez29 (by decide)).trans (vg_pn ez24 ((vg_sn ez20 (by decide)).trans ((gb3.2 2 (by decide)).trans (vg_pn ez13 ((vg_sn ez9 (by decide)).trans (ga2))))))))
  have fh41 : wz37[3]? = some (aq11, .inr (2, [.int (nI 0), .ref tE, .int 0])) := (vg_sn ez38 (by decide)).trans (vg_pn ez33 ((vg_sn ez29 (by decide)).trans (vg_pn ez24 ((vg_sn ez20 (by decide)).trans (ga3)))))
  have fh42 : wz37[4]? = some (aq22, .inl (ay 0, 200, .inl (fun _ => 0))) := (vg_sn ez38 (by decide)).trans (vg_pn ez33 ((vg_sn ez29 (by decide)).trans (fh26)))
  have fh43 : wz37[5]? = some (aq31, .inl (ay 0, 300, .inl (fun _ => 0))) := (vg_sn ez38 (by decide)).trans (fh35)
  have hl44 : wz37.length = 6 := (vg_sl ez38).trans ((vg_plen ez33).trans (congrArg (· + 1) (hl34)))
  refine vg_callv (vg_runS X (c_J7_fill_53178 l fh42 (by decide) (x := -1)) (va_cwS 2 X.2.2.2.2.1 gX0_init_J7_fill_53178 rfl rfl rfl (by decide +kernel) ⟨Nat.le_of_ble_eq_true rfl, Nat.le_of_ble_eq_true rfl⟩) rfl rfl (Nat.le_of_ble_eq_true rfl) dX0_init_49 ⟨(Nat.le_of_ble_eq_true rfl), (Nat.le_of_ble_eq_true rfl)⟩) (fun wz45 PP46 => ?_)
  obtain ⟨g, g1, g2, g3⟩ := PP46
  exact vg_vret X rfl ⟨⟨_, _, _, _, tE, tE, g, _, (g3.2 1 (by decide)).trans fh39, g1, (g3.2 5 (by decide)).trans fh43, ⟨⟨⟨_, (g3.2 2 (by decide)).trans fh40⟩, Or.inl ⟨rfl, rfl⟩⟩, ⟨⟨_, (g3.2 3 (by decide)).trans fh41⟩, Or.inl ⟨rfl, rfl⟩⟩, Or.inr rfl, fun i hi => absurd hi (Nat.not_lt_zero i), fun i hi => absurd hi (Nat.not_lt_zero i), fun i j _ hi => absurd hi (Nat.not_lt_zero j), fun i j _ hi => absurd hi (Nat.not_lt_zero j), by decide, by decide, by decide⟩, fun i hi => absurd hi (Nat.not_lt_zero i), fun i hi => absurd hi (Nat.not_lt_zero i)⟩, g3.1.trans hl44, vg_gr_tr (vg_gr_set (vg_gr_app (vg_gr_set (vg_gr_app (vg_gr_set (vg_gr_tr (vg_gr_app (vg_gr_set (vg_gr_tr (vg_gr_app (vg_gr_rf _ [1]) ez3) (vg_gr_fr gb2) (fun j hj => Or.inr (by rw [hlen]; have := List.mem_singleton.mp hj; omega))) ez9 (Or.inl (by decide))) ez13) (vg_gr_fr gb3) (fun j hj => Or.inr (by rw [hlen]; have := List.mem_singleton.mp hj; omega))) ez20 (Or.inl (by decide))) ez24) ez29 (Or.inl (by decide))) ez33) ez38 (Or.inl (by decide))) (vg_gr_fr g3) (fun j hj => Or.inr (by rw [hlen]; have := List.mem_singleton.mp hj; omega))⟩ (Nat.le_of_ble_eq_true rfl) (Nat.le_of_ble_eq_true rfl) dX0_init_52
set_option maxHeartbeats 4000000 in
set_option maxRecDepth 100000 in
/-- begin(nodes) -/
theorem c_X0_begin (l : Launch) {D : va_G} {ay : Nat → ClassId} {base : Nat} {Gx : State → Prop} {ws : va_W} {aN tE n P U : Nat} {el qp ua uq : Nat → Nat} {d fr to pe uv : Nat → Nat → Nat} {mi n2 : Nat} {el2 qp2 ua2 uq2 : Nat → Nat} {d2 fr2 to2 pe2 uv2 : Nat → Nat → Nat} (hN : cw_N ay ws aN tE n P U el qp ua uq d fr to pe uv) (hn2 : n2 ≤ 200) (hG : ∀ U, Gx U → vh_G base tE mi U) (hl56 : 56 ≤ ws.length) : Met l yX0_begin wsX0_begin ({ frames := 1, cells := 0, slots := 0, locals := 24 } : Room) (va_Pc [.ref aN, .int (nI n2)] (vg_B D ay base Gx ws)) (va_Qv (fun u => cw_N ay u aN tE n2 0 0 el2 qp2 ua2 uq2 d2 fr2 to2 pe2 uv2 ∧ u.length = ws.length ∧ ∀ j, j = 0 ∨ (6 ≤ j ∧ j < 56) → u[j]? = ws[j]?) (vg_B D ay base Gx) (vg_A base)) 0 0 (vg_A base) := by
  refine vg_met (cc := cX0_begin) (maxL := 2) (ret := none) (own := RX0) (lv := [(0, .ref aN), (1, .int (nI n2))]) (by decide) rfl rfl (Nat.le_of_ble_eq_true rfl) rfl ?_
  intro p e s m args below meth c X hinit
  obtain ⟨hZ, ⟨ft, hTT⟩, hAO, hAO4, hMi, hDc, hc2, hc5⟩ := hG s X.2.2.2.2.2.2.2.2.2.2
  obtain ⟨aP, aU, aH, aO, aE1, aE2, fh, fo, h1, h4, h5, ⟨⟨⟨mo1, h2⟩, alt1⟩, ⟨⟨mo2, h3⟩, alt2⟩, hap, hp, hu, hqp, huq, hn, hP, hU⟩, hch⟩ := hN
  refine vg_aload_n X dX0_begin_0 0 rfl rfl ?_
  refine vg_iload_n X dX0_begin_1 1 rfl rfl ?_
  refine vg_put X in_X0_begin_X0 tyX0 tyX0_ok nmX0 1 h1 rfl 4 (by decide) ml_X0_begin_34 rfl rfl rfl rfl (Nat.le_of_ble_eq_true rfl) dX0_begin_2 (fun wz1 ez2 => ?_)
  have fh3 : wz1[1]? = some (aN, .inr (3, [.ref aP, .ref aU, .ref aH, .ref aO, .int (nI n2)])) := vg_se ez2 h1
  refine vg_aload_n X dX0_begin_5 0 rfl rfl ?_
  refine vg_get X in_X0_begin_X0 1 fh3 rfl 0 (by decide) ml_X0_begin_12 rfl rfl dX0_begin_6 ?_
  have fh4 : wz1[2]? = some (aP, .inr (2, [.int mo1, .ref aE1, .int (nI P)])) := (vg_sn ez2 (by decide)).trans (h2)
  have fh5 : wz1[3]? = some (aU, .inr (2, [.int mo2, .ref aE2, .int (nI U)])) := (vg_sn ez2 (by decide)).trans (h3)
  have fh6 : wz1[4]? = some (aH, .inl (ay 0, 200, .inl fh)) := (vg_sn ez2 (by decide)).trans (h4)
  have fh7 : wz1[5]? = some (aO, .inl (ay 0, 300, .inl fo)) := (vg_sn ez2 (by decide)).trans (h5)
  have alt1b : ((P = 0 ∧ aE1 = tE) ∨ ∃ (qE cap : Nat) (f : Nat → Option Nat), wz1[qE]? = some (aE1, .inl (ay 4, cap, .inr (.inr (.inr (.inr f))))) ∧ 56 ≤ qE ∧ P ≤ cap ∧ 10 ≤ cap ∧ cap ≤ 300 ∧ aE1 ≠ tE ∧ (∀ i, i < P → f i = some (el i))) := alt1.imp id (fun ⟨qE, cap, f, g1, g2, g3⟩ => ⟨qE, cap, f, (vg_sn ez2 (by omega)).trans g1, g2, g3⟩)
  have len0 : wz1.length = ws.length := vg_sl ez2
  refine vg_useD (fun hDA => ?_)
  refine vg_callv (vg_runV X (c_clear l fh4 alt1b) (cwV 0 X.2.2.2.2.1 gX0_begin_Jx4a65c_clear_da8c8 rfl rfl rfl (by decide +kernel) ⟨Nat.le_of_ble_eq_true rfl, Nat.le_of_ble_eq_true rfl⟩) 2 fh4 rfl rfl rfl (Nat.le_of_ble_eq_true rfl) dX0_begin_9 ⟨Nat.zero_le _, Nat.zero_le _⟩) (fun wz8 PP9 => ?_)
  obtain ⟨⟨moA, kA⟩, altA, lenA, frA⟩ := PP9
  have x1A := cl_fo frA fh3 (by decide)
  have x2A := cl_fo frA fh5 (by decide)
  have x4A := cl_fi frA fh6 (by decide)
  have x5A := cl_fi frA fh7 (by decide)
  have alt2b : ((U = 0 ∧ aE2 = tE) ∨ ∃ (qE cap : Nat) (f : Nat → Option Nat), wz8[qE]? = some (aE2, .inl (ay 4, cap, .inr (.inr (.inr (.inr f))))) ∧ 56 ≤ qE ∧ U ≤ cap ∧ 10 ≤ cap ∧ cap ≤ 300 ∧ aE2 ≠ tE ∧ (∀ i, i < U → f i = some (ua i))) := alt2.imp id (fun ⟨qE, cap, f, g1, g2, g3, g4, g5, g6, g7⟩ => ⟨qE, cap, f, cl_fr frA ((vg_sn ez2 (by omega)).trans g1) (by omega) (fun cap f z => hap.elim (fun z3 => z3 (Prod.mk.inj z).1.symm) (fun z3 => g6 ((Prod.mk.inj z).1.trans z3))), g2, g3, g4, g5, g6, g7⟩)
  have F0 : ∀ j, j = 0 ∨ (6 ≤ j ∧ j < 56) → wz8[j]? = ws[j]? := fun j hj => (cl_low hDA hTT alt1b frA (by omega) (by omega) (by omega)).trans (vg_sn ez2 (by omega))
  refine vg_aload_n X dX0_begin_12 0 rfl rfl ?_
  refine vg_get X in_X0_begin_X0 1 x1A rfl 1 (by decide) ml_X0_begin_18 rfl rfl dX0_begin_13 ?_
  refine vg_useD (fun hDB => ?_)
  refine vg_callv (vg_runV X (c_clear l x2A alt2b) (cwV 0 X.2.2.2.2.1 gX0_begin_Jx4a65c_clear_da8c8 rfl rfl rfl (by decide +kernel) ⟨Nat.le_of_ble_eq_true rfl, Nat.le_of_ble_eq_true rfl⟩) 3 x2A rfl rfl rfl (Nat.le_of_ble_eq_true rfl) dX0_begin_16 ⟨Nat.zero_le _, Nat.zero_le _⟩) (fun wz11 PP12 => ?_)
  obtain ⟨⟨moB, kB⟩, altB, lenB, frB⟩ := PP12
  have x1B := cl_fo frB x1A (by decide)
  have x2B := cl_fo frB kA (by decide)
  have x4B := cl_fi frB x4A (by decide)
  have x5B := cl_fi frB x5A (by decide)
  have F1 : ∀ j, j = 0 ∨ (6 ≤ j ∧ j < 56) → wz11[j]? = ws[j]? := fun j hj => (cl_low hDB hTT alt2b frB (by omega) (by omega) (by omega)).trans (F0 j hj)
  refine vg_aload_n X dX0_begin_19 0 rfl rfl ?_
  refine vg_get X in_X0_begin_X0 1 x1B rfl 2 (by decide) ml_X0_begin_21 rfl rfl dX0_begin_20 ?_
  refine vg_iconst X (-1) dX0_begin_23 (by decide) ?_
  refine vg_callv (vg_runS X (c_J7_fill_53178 l x4B (by decide) (x := -1)) (va_cwS 2 X.2.2.2.2.1 gX0_begin_J7_fill_53178 rfl rfl rfl (by decide +kernel) ⟨Nat.le_of_ble_eq_true rfl, Nat.le_of_ble_eq_true rfl⟩) rfl rfl (Nat.le_of_ble_eq_true rfl) dX0_begin_24 ⟨Nat.zero_le _, Nat.zero_le _⟩) (fun wz14 PP15 => ?_)
  obtain ⟨g, g1, g2, g3⟩ := PP15
  have alt1c : (((0 : Nat) = 0 ∧ aE1 = tE) ∨ ∃ (qE cap : Nat) (f : Nat → Option Nat), wz14[qE]? = some (aE1, .inl (ay 4, cap, .inr (.inr (.inr (.inr f))))) ∧ 56 ≤ qE ∧ 0 ≤ cap ∧ 10 ≤ cap ∧ cap ≤ 300 ∧ aE1 ≠ tE ∧ (∀ i, i < 0 → f i = some (el2 i))) := altA.imp id (fun ⟨qE, cap, f, q1, q2, q3, q4, q5, q6, q7⟩ => ⟨qE, cap, f, (g3.2 qE (fun z => by have := List.mem_singleton.mp z; omega)).trans (cl_fr frB q1 (by omega) (fun cap f z => hap.elim (fun z3 => z3 (Prod.mk.inj z).1) (fun z3 => q6 z3))), q2, q3, q4, q5, q6, fun i hi => absurd hi (Nat.not_lt_zero i)⟩)
  have alt2c : (((0 : Nat) = 0 ∧ aE2 = tE) ∨ ∃ (qE cap : Nat) (f : Nat → Option Nat), wz14[qE]? = some (aE2, .inl (ay 4, cap, .inr (.inr (.inr (.inr f))))) ∧ 56 ≤ qE ∧ 0 ≤ cap ∧ 10 ≤ cap ∧ cap ≤ 300 ∧ aE2 ≠ tE ∧ (∀ i, i < 0 → f i = some (ua2 i))) := altB.imp id (fun ⟨qE, cap, f, q1, q2, q3, q4, q5, q6, q7⟩ => ⟨qE, cap, f, (g3.2 qE (fun z => by have := List.mem_singleton.mp z; omega)).trans q1, q2, q3, q4, q5, q6, fun i hi => absurd hi (Nat.not_lt_zero i)⟩)
  exact vg_vret X rfl ⟨⟨aP, aU, aH, aO, aE1, aE2, g, fo, (g3.2 1 (by decide)).trans x1B, g1, (g3.2 5 (by decide)).trans x5B, ⟨⟨⟨_, (g3.2 2 (by decide)).trans x2B⟩, alt1c⟩, ⟨⟨_, (g3.2 3 (by decide)).trans kB⟩, alt2c⟩, hap, fun i hi => absurd hi (Nat.not_lt_zero i), fun i hi => absurd hi (Nat.not_lt_zero i), fun j i _ hi => absurd hi (Nat.not_lt_zero i), fun j i _ hi => absurd hi (Nat.not_lt_zero i), hn2, by decide, by decide⟩, fun v hv => Or.inl ⟨g2 v (by omega), fun i hi => absurd hi (by omega)⟩, fun i hi => absurd hi (by omega)⟩, g3.1.trans (lenB.trans (lenA.trans len0)), fun j hj => (g3.2 j (fun z => by have := List.mem_singleton.mp z; omega)).trans (F1 j hj)⟩ (Nat.le_refl _) (Nat.le_refl _) dX0_begin_27
set_option maxHeartbeats 4000000 in
set_option maxRecDepth 100000 in
/-- addPiece(piece) -/
theorem c_X0_addPiece (l : Launch) {D : va_G} {ay : Nat → ClassId} {base : Nat} {Gx : State → Prop} {ws : va_W} {aN tE n P U : Nat} {el qp ua uq : Nat → Nat} {d fr to pe uv : Nat → Nat → Nat} {mi q a : Nat} {dd : Nat → Nat} (hN : cw_N ay ws aN tE n P U el qp ua uq d fr to pe uv) (hq : 56 ≤ q) (hpp : cp_P ay ws q a dd (fr P) (to P) (pe P)) (hr : cp_R dd (fr P) (to P) (pe P)) (d0 : dd 0 < n) (d1 : dd 1 < n) (d01 : dd 0 ≠ dd 1) (hP9 : P < 150) (hqs : ∀ i, i < P → qp i + 4 ≤ q) (hG : ∀ U, Gx U → vh_G base tE mi U) (hl56 : 56 ≤ ws.length) : Met l yX0_addPiece wsX0_addPiece ({ frames := 7, cells := 1, slots := 300, locals := 178 } : Room) (va_Pc [.ref aN, .ref a] (vg_B D ay base Gx ws)) (va_Qv (fun u => cw_N ay u aN tE n (P + 1) U (va_up el P a) (va_up qp P q) ua uq (va_up d P dd) fr to pe uv ∧ ws.length ≤ u.length ∧ ∀ j, j = 0 ∨ j = 1 ∨ j = 3 ∨ (6 ≤ j ∧ j < 56) → u[j]? = ws[j]?) (vg_B D ay base Gx) (vg_A base)) 1 300 (vg_A base) := by
  refine vg_met (cc := cX0_addPiece) (maxL := 3) (ret := none) (own := RX0) (lv := [(0, .ref aN), (1, .ref a)]) (by decide) rfl rfl (Nat.le_of_ble_eq_true rfl) rfl ?_
  intro p e s m args below meth c X hinit
  obtain ⟨hZ, ⟨ft, hTT⟩, hAO, hAO4, hMi, hDc, hc2, hc5⟩ := hG s X.2.2.2.2.2.2.2.2.2.2
  obtain ⟨aP, aU, aH, aO, aE1, aE2, fh, fo, h1, h4, h5, hL, hch⟩ := hN
  have hL0 := hL
  obtain ⟨⟨⟨mo1, h2⟩, alt1⟩, ⟨⟨mo2, h3⟩, alt2⟩, hap, hp, hu, hqp, huq, hn, hP, hU⟩ := hL
  have hp0 := hpp
  obtain ⟨af, at2, ag, ff, ft, fg, k0, k1, k2, k3, hrw⟩ := hpp
  refine vg_iconst X (nI 2) dX0_addPiece_0 (by decide) ?_
  refine vg_aload_n X dX0_addPiece_1 0 rfl rfl ?_
  refine vg_get X in_X0_addPiece_X0 1 h1 rfl 0 (by decide) ml_X0_addPiece_12 rfl rfl dX0_addPiece_2 ?_
  refine vg_calli (vg_runV X (c_Jx4a65c_size_8abf5 l (cl_at_L hL0.1)) (cwV 0 X.2.2.2.2.1 gX0_addPiece_Jx4a65c_size_8abf5 rfl rfl rfl (by decide +kernel) ⟨Nat.le_of_ble_eq_true rfl, Nat.le_of_ble_eq_true rfl⟩) 2 h2 rfl rfl rfl (Nat.le_of_ble_eq_true rfl) dX0_addPiece_5 ⟨Nat.zero_le _, Nat.zero_le _⟩) (fun rr3 wz1 PP2 => ?_)
  obtain ⟨ew, er⟩ := PP2
  rw [ew, er]
  refine vg_imul X (nI (2 * P)) dX0_addPiece_8 (pk_mul _ _) ?_
  refine vg_istore_n X [(2, .int (nI (2 * P))), (0, .ref aN), (1, .ref a)] dX0_addPiece_9 rfl (by decide) rfl ?_
  refine vg_aload_n X dX0_addPiece_10 1 rfl rfl ?_
  refine vg_get X in_X0_addPiece_X0 1 h1 rfl 0 (by decide) ml_X0_addPiece_12 rfl rfl dX0_addPiece_11 ?_
  refine vg_aload_n X dX0_addPiece_14 2 rfl rfl ?_
  refine vg_useD (fun hD9 => ?_)
  refine vg_calli (vg_runV X (c_add l h2 alt1 (by omega) (fun i hi => by obtain ⟨_, _, _, _, _, _, g, _⟩ := (hp i hi).2.1; exact ⟨_, _, g⟩) (ci := 5) rfl (fun U9 hU9 => (hG U9 hU9).2.2.2.2.2.2.1) hG k0 hl56 (by decide)) (cwV 1 X.2.2.2.2.1 gX0_addPiece_Jx4a65c_add_9ea2d rfl rfl rfl (by decide +kernel) ⟨Nat.le_of_ble_eq_true rfl, Nat.le_of_ble_eq_true rfl⟩) 2 h2 rfl rfl rfl (Nat.le_of_ble_eq_true rfl) dX0_addPiece_15 ⟨(Nat.le_of_ble_eq_true rfl), (Nat.le_of_ble_eq_true rfl)⟩) (fun rr6 wz4 PP5 => ?_)
  obtain ⟨er2, had⟩ := PP5
  have gf := cl_ad_gr had
  obtain ⟨aE3, hL3⟩ := cw_L_addP hL0 had hq hp0 hr d0 d1 d01 hP9 hqs
  have F0 : ∀ j, j < 56 → j ≠ 2 → wz4[j]? = ws[j]? := fun j q1 q2 => cl_low hD9 hTT alt1 gf hl56 q1 q2
  have x1 := cl_fo gf h1 (by decide)
  have x4 := cl_fi gf h4 (by decide)
  have x5 := cl_fi gf h5 (by decide)
  have xq := cl_fo gf k0 (by omega)
  refine vg_pop X dX0_addPiece_18 rfl ?_
  refine vg_aload_n X dX0_addPiece_19 1 rfl rfl ?_
  refine vg_iload_n X dX0_addPiece_20 0 rfl rfl ?_
  refine vg_aload_n X dX0_addPiece_21 2 rfl rfl ?_
  refine vg_get X in_X0_addPiece_X2 q xq rfl 0 (by decide) ml_X0_addPiece_49 rfl rfl dX0_addPiece_22 ?_
  refine vg_callv (vg_runV X (c_X0_hang l x1 x4 x5 (h := 2 * P) (v := dd 0) (by omega) (by omega)) (cwV 2 X.2.2.2.2.1 gX0_addPiece_X0_hang rfl rfl rfl (by decide +kernel) ⟨Nat.le_of_ble_eq_true rfl, Nat.le_of_ble_eq_true rfl⟩) 1 x1 rfl rfl rfl (Nat.le_of_ble_eq_true rfl) dX0_addPiece_25 ⟨(Nat.le_of_ble_eq_true rfl), (Nat.le_of_ble_eq_true rfl)⟩) (fun wz7 PP8 => ?_)
  obtain ⟨y40, y50, yf0⟩ := PP8
  refine vg_aload_n X dX0_addPiece_28 1 rfl rfl ?_
  refine vg_iload_n X dX0_addPiece_29 0 rfl rfl ?_
  refine vg_iconst X (nI 1) dX0_addPiece_30 (by decide) ?_
  refine vg_iadd X (nI (2 * P + 1)) dX0_addPiece_31 (nI_add _ _) ?_
  refine vg_aload_n X dX0_addPiece_32 2 rfl rfl ?_
  have fh10 : wz7[q]? = some (a, .inr (5, [.int (nI (dd 0)), .int (nI (dd 1)), .int (nI (dd 2)), .int (nI (dd 3)), .int (nI (dd 4)), .int (nI (dd 5)), .int (nI (dd 6)), .int (nI (dd 7)), .ref af, .ref at2, .ref ag])) := (yf0.2 q (vg_n45 (by omega))).trans (xq)
  refine vg_get X in_X0_addPiece_X2 q fh10 rfl 1 (by decide) ml_X0_addPiece_58 rfl rfl dX0_addPiece_33 ?_
  have fh11 : wz7[1]? = some (aN, .inr (3, [.ref aP, .ref aU, .ref aH, .ref aO, .int (nI n)])) := (yf0.2 1 (by decide)).trans (x1)
  refine vg_callv (vg_runV X (c_X0_hang l fh11 y40 y50 (h := 2 * P + 1) (v := dd 1) (by omega) (by omega)) (cwV 2 X.2.2.2.2.1 gX0_addPiece_X0_hang rfl rfl rfl (by decide +kernel) ⟨Nat.le_of_ble_eq_true rfl, Nat.le_of_ble_eq_true rfl⟩) 1 fh11 rfl rfl rfl (Nat.le_of_ble_eq_true rfl) dX0_addPiece_36 ⟨(Nat.le_of_ble_eq_true rfl), (Nat.le_of_ble_eq_true rfl)⟩) (fun wz12 PP13 => ?_)
  obtain ⟨y41, y51, yf1⟩ := PP13
  have fh15 : wz12[1]? = some (aN, .inr (3, [.ref aP, .ref aU, .ref aH, .ref aO, .int (nI n)])) := (yf1.2 1 (by decide)).trans (fh11)
  have n45 : ∀ j, j = 0 ∨ j = 1 ∨ j = 3 ∨ (6 ≤ j ∧ j < 56) → j ∉ [4, 5] := fun j hj => by
    by_cases c9 : j < 4
    · exact vg_n45s c9
    · exact vg_n45 (by omega)
  exact vg_vret X rfl ⟨⟨aP, aU, aH, aO, aE3, aE2, _, _, fh15, y41, y51, cw_L_fr hL3 ((yf1.2 2 (by decide)).trans (yf0.2 2 (by decide))) ((yf1.2 3 (by decide)).trans (yf0.2 3 (by decide))) (fun j hj => (yf1.2 j (vg_n45 (by omega))).trans (yf0.2 j (vg_n45 (by omega)))), cw_H_add hch d0 d1⟩, by rw [yf1.1, yf0.1]; exact gf.1, fun j hj => ((yf1.2 j (n45 j hj)).trans (yf0.2 j (n45 j hj))).trans (F0 j (by omega) (by omega))⟩ (Nat.le_of_ble_eq_true rfl) (Nat.le_of_ble_eq_true rfl) dX0_addPiece_39
