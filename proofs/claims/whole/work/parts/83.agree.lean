/-- class and reference, side by side -/
def jo_S (ay : Nat → ClassId) (ws : va_W) (ax tE am : Nat) (aa : Nat → Nat) (th aO : Nat) (fO : Nat → Int64) : Prop :=
  ∃ (n P U : Nat) (d fr to pe uv : Nat → Nat → Nat) (ku ks kt : Nat → Nat) (sk : Nat → Nat → Nat) (wl : Nat) (wp : Nat → Nat), cw_St ay ws ax tE n P U d fr to pe uv ku ks kt sk wl wp ∧ cm_St ay ws am aa th n P U d fr to pe uv ku ks kt sk wl wp ∧ ws[55]? = some (aO, .inl (ay 1, 1, .inr (.inl fO)))
theorem cm_O_fr {ws u : va_W} {am : Nat} {aa : Nat → Nat} {th : Int32} {n P U : Nat} {sp : Int32} (h : cm_O ws am aa th n P U sp) (e : u[29]? = ws[29]?) : cm_O u am aa th n P U sp := e.trans h
theorem cw_St_wp {ay : Nat → ClassId} {ws : va_W} {ax tE : Nat} {n P U : Nat} {d fr to pe uv : Nat → Nat → Nat} {ku ks kt : Nat → Nat} {sk : Nat → Nat → Nat} {wl : Nat} {wp : Nat → Nat} {wp2 : Nat → Nat} (h : cw_St ay ws ax tE n P U d fr to pe uv ku ks kt sk wl wp) (e : ∀ j, j < wl → wp j = wp2 j) : cw_St ay ws ax tE n P U d fr to pe uv ku ks kt sk wl wp2 := by
  obtain ⟨aN, asr, aTs, aWB, el, qp, ua, uq, fb, h0, hI, hN, hT, hK, h16, hwl, hwp, h56⟩ := h
  exact ⟨aN, asr, aTs, aWB, el, qp, ua, uq, fb, h0, hI, hN, hT, hK, h16, hwl, fun j hj => (hwp j hj).trans (by rw [e j hj]), h56⟩
theorem cw_St_cm {ay : Nat → ClassId} {ws u : va_W} {ax tE : Nat} {n P U : Nat} {d fr to pe uv : Nat → Nat → Nat} {ku ks kt : Nat → Nat} {sk : Nat → Nat → Nat} {wl : Nat} {wp : Nat → Nat} (h : cw_St ay ws ax tE n P U d fr to pe uv ku ks kt sk wl wp) (hf : cm_fr ws u) : cw_St ay u ax tE n P U d fr to pe uv ku ks kt sk wl wp := cw_St_fr h (Nat.le_of_eq hf.1.symm) (fun j hj => hf.2 j (by omega))
theorem cw_St_55 {ay : Nat → ClassId} {ws u : va_W} {ax tE : Nat} {n P U : Nat} {d fr to pe uv : Nat → Nat → Nat} {ku ks kt : Nat → Nat} {sk : Nat → Nat → Nat} {wl : Nat} {wp : Nat → Nat} {y : Nat × va_E} (h : cw_St ay ws ax tE n P U d fr to pe uv ku ks kt sk wl wp) (e : u = ws.set 55 y) : cw_St ay u ax tE n P U d fr to pe uv ku ks kt sk wl wp := cw_St_fr h (Nat.le_of_eq (vg_sl e).symm) (fun j hj => vg_sn e (by omega))
theorem cw_fr_55 {ws u : va_W} {y : Nat × va_E} {x : Nat × va_E} (hf : cw_fr ws u) (h : ws[55]? = some x) : (u.set 55 y)[55]? = some y := vg_se rfl ((hf.2 55 (by decide) (by decide)).trans h)
theorem cm_fr_55 {ws u : va_W} {x : Nat × va_E} (hf : cm_fr ws u) (h : ws[55]? = some x) : u[55]? = some x := (hf.2 55 (by omega)).trans h
theorem cw_St_R {ay : Nat → ClassId} {ws : va_W} {ax tE : Nat} {n P U : Nat} {d fr to pe uv : Nat → Nat → Nat} {ku ks kt : Nat → Nat} {sk : Nat → Nat → Nat} {wl : Nat} {wp : Nat → Nat} (h : cw_St ay ws ax tE n P U d fr to pe uv ku ks kt sk wl wp) : cm_R n P U d fr to pe uv := by
  obtain ⟨aN, asr, aTs, aWB, el, qp, ua, uq, fb, h0, hI, hN, _⟩ := h
  exact cw_N_R hN
theorem cw_St_K {ay : Nat → ClassId} {ws : va_W} {ax tE : Nat} {n P U : Nat} {d fr to pe uv : Nat → Nat → Nat} {ku ks kt : Nat → Nat} {sk : Nat → Nat → Nat} {wl : Nat} {wp : Nat → Nat} (h : cw_St ay ws ax tE n P U d fr to pe uv ku ks kt sk wl wp) : ct_k n U ku ks kt := by
  obtain ⟨aN, asr, aTs, aWB, el, qp, ua, uq, fb, h0, hI, hN, hT, hK, _⟩ := h
  exact hK
theorem cm_St_fr {ay : Nat → ClassId} {ws u : va_W} {am : Nat} {aa : Nat → Nat} {th : Nat} {n P U : Nat} {d fr to pe uv : Nat → Nat → Nat} {ku ks kt : Nat → Nat} {sk : Nat → Nat → Nat} {wl : Nat} {wp : Nat → Nat} (h : cm_St ay ws am aa th n P U d fr to pe uv ku ks kt sk wl wp) (hf : ∀ j, 29 ≤ j → j < 55 → u[j]? = ws[j]?) : cm_St ay u am aa th n P U d fr to pe uv ku ks kt sk wl wp := by
  obtain ⟨fl, fm, fn, fs, hO, hD, hT, h51, h52, h53, h54, hw⟩ := h
  exact ⟨fl, fm, fn, fs, cm_O_fr hO (hf 29 (by omega) (by omega)), cm_D_fr hD (fun j q1 q2 => hf j (by omega) (by omega)), cm_T_fr hT (fun j q1 q2 => hf j (by omega) (by omega)), (hf 51 (by omega) (by omega)).trans h51, (hf 52 (by omega) (by omega)).trans h52, (hf 53 (by omega) (by omega)).trans h53, (hf 54 (by omega) (by omega)).trans h54, hw⟩
theorem af_piece {ay : Nat → ClassId} {ws w1 : va_W} {ax tE aO : Nat} {fO : Nat → Int64} {n P U : Nat} {d fr to pe uv : Nat → Nat → Nat} {ku ks kt : Nat → Nat} {sk : Nat → Nat → Nat} {wl : Nat} {wp : Nat → Nat} {a : Int32} {b : Int32} {mm : Int32} {sp : Int32} {r1 : Int32} (H1 : hp_piece ay ws ax tE aO fO n P U d fr to pe uv ku ks kt sk wl wp a b mm sp r1 w1) : ∀ j, 29 ≤ j → j < 55 → w1[j]? = ws[j]? := by
  unfold hp_piece at H1
  rcases H1 with ⟨_, rfl, _⟩ | ⟨_, rfl, _⟩ | ⟨_, rfl, _⟩ | ⟨_, rr, u1, ⟨ax, bx, mx, sx, Eax, Lax, Ebx, Lbx, N, Emx, M1, M2, Esx, S1, PP, S, F, R⟩, hw⟩
  · exact fun j _ _ => rfl
  · exact fun j _ _ => rfl
  · exact fun j _ _ => rfl
  · exact fun j h1 h2 => (vg_sn hw (by omega)).trans (F.2 j h1 (by omega))
set_option maxHeartbeats 1000000 in
theorem ag_piece {ay : Nat → ClassId} {ws w1 u2 : va_W} {ax tE am aO th : Nat} {aa : Nat → Nat} {fO : Nat → Int64} {n P U : Nat} {d fr to pe uv : Nat → Nat → Nat} {ku ks kt : Nat → Nat} {sk : Nat → Nat → Nat} {wl : Nat} {wp : Nat → Nat} {a : Int32} {b : Int32} {mm : Int32} {sp : Int32} {r1 : Int32} {r2 : Int32} (h0 : cw_St ay ws ax tE n P U d fr to pe uv ku ks kt sk wl wp) (h55 : ws[55]? = some (aO, .inl (ay 1, 1, .inr (.inl fO)))) (H1 : hp_piece ay ws ax tE aO fO n P U d fr to pe uv ku ks kt sk wl wp a b mm sp r1 w1) (H2 : hr_piece ay w1 am aa n P U d fr to pe uv ku ks kt sk wl wp a b mm sp r2 u2) : ∃ (k : Nat) (fO2 : Nat → Int64), r1 = nI k ∧ k < 4 ∧ jo_S ay u2 ax tE am aa k aO fO2 ∧ (k = 0 → fO2 0 = r2.toInt64) := by
  have hRR := cw_St_R h0
  have hn := hRR.1
  have hP := hRR.2.1
  have hU := hRR.2.2.1
  have hd2 : ∀ i, i < P → d i 2 ≤ 60000 := fun i hi => (hRR.2.2.2.1 i hi).1.2.2.2.1
  unfold hp_piece at H1
  unfold hr_piece at H2
  rcases H1 with ⟨e1, rfl, a1⟩ | ⟨e1, rfl, a1, a2⟩ | ⟨e1, rfl, a1, a2, a3⟩ | ⟨e1, rr, u1, ⟨ax, bx, mx, sx, Eax, Lax, Ebx, Lbx, N, Emx, M1, M2, Esx, S1, PP, S, F, R⟩, hw⟩
  · rcases H2 with ⟨b1, hs, hf⟩ | ⟨b1, b2, hs, hf⟩ | ⟨b1, b2, b3, hs, hf⟩ | ⟨axq, bxq, mxq, sxq, Eaxq, Laxq, Ebxq, Lbxq, Nq, Emxq, M1q, M2q, Esxq, S1q, PPq, Sq, Fq, Rq⟩
    · exact ⟨1, fO, e1, by decide, ⟨_, _, _, _, _, _, _, _, _, _, _, _, _, _, cw_St_cm h0 hf, hs, cm_fr_55 hf h55⟩, fun z => absurd z (by decide)⟩
    · exact absurd b1 a1
    · exact absurd b1 a1
    · subst Eaxq; subst Ebxq; subst Emxq; subst Esxq
      exact absurd (⟨⟨axq, Laxq, rfl⟩, ⟨bxq, Lbxq, rfl⟩, fun z => Nq ((nI_eq (by omega) (by omega)).mp z)⟩) a1
  · rcases H2 with ⟨b1, hs, hf⟩ | ⟨b1, b2, hs, hf⟩ | ⟨b1, b2, b3, hs, hf⟩ | ⟨axq, bxq, mxq, sxq, Eaxq, Laxq, Ebxq, Lbxq, Nq, Emxq, M1q, M2q, Esxq, S1q, PPq, Sq, Fq, Rq⟩
    · exact absurd a1 b1
    · exact ⟨2, fO, e1, by decide, ⟨_, _, _, _, _, _, _, _, _, _, _, _, _, _, cw_St_cm h0 hf, hs, cm_fr_55 hf h55⟩, fun z => absurd z (by decide)⟩
    · exact absurd b2 a2
    · subst Eaxq; subst Ebxq; subst Emxq; subst Esxq
      exact absurd (⟨⟨(nI_leI (by omega) (by omega)).mpr (by omega), (nI_leI (by omega) (by omega)).mpr (by omega)⟩, ⟨(nI_leI (by omega) (by omega)).mpr (by omega), (nI_leI (by omega) (by omega)).mpr (by omega)⟩⟩) a2
  · rcases H2 with ⟨b1, hs, hf⟩ | ⟨b1, b2, hs, hf⟩ | ⟨b1, b2, b3, hs, hf⟩ | ⟨axq, bxq, mxq, sxq, Eaxq, Laxq, Ebxq, Lbxq, Nq, Emxq, M1q, M2q, Esxq, S1q, PPq, Sq, Fq, Rq⟩
    · exact absurd a1 b1
    · exact absurd a2 b2
    · exact ⟨3, fO, e1, by decide, ⟨_, _, _, _, _, _, _, _, _, _, _, _, _, _, cw_St_cm h0 hf, hs, cm_fr_55 hf h55⟩, fun z => absurd z (by decide)⟩
    · subst Eaxq; subst Ebxq; subst Emxq; subst Esxq
      exact absurd PPq a3
  · subst Eax; subst Ebx; subst Emx; subst Esx
    rcases H2 with ⟨b1, hs, hf⟩ | ⟨b1, b2, hs, hf⟩ | ⟨b1, b2, b3, hs, hf⟩ | ⟨axq, bxq, mxq, sxq, Eaxq, Laxq, Ebxq, Lbxq, Nq, Emxq, M1q, M2q, Esxq, S1q, PPq, Sq, Fq, Rq⟩
    · exact absurd (⟨⟨ax, Lax, rfl⟩, ⟨bx, Lbx, rfl⟩, fun z => N ((nI_eq (by omega) (by omega)).mp z)⟩) b1
    · exact absurd (⟨⟨(nI_leI (by omega) (by omega)).mpr (by omega), (nI_leI (by omega) (by omega)).mpr (by omega)⟩, ⟨(nI_leI (by omega) (by omega)).mpr (by omega), (nI_leI (by omega) (by omega)).mpr (by omega)⟩⟩) b2
    · exact absurd PP b3
    · skip
      have e_ax := (nI_eq (by omega) (by omega)).mp Eaxq
      subst e_ax
      have e_bx := (nI_eq (by omega) (by omega)).mp Ebxq
      subst e_bx
      have e_mx := (nI_eq (by omega) (by omega)).mp Emxq
      subst e_mx
      have e_sx := (nI_eq (by omega) (by omega)).mp Esxq
      subst e_sx
      subst hw
      exact ⟨0, _, e1, by decide, ⟨_, _, _, _, _, _, _, _, _, _, _, _, _, _, cw_St_cm (cw_St_55 S rfl) Fq, Sq, cm_fr_55 Fq (cw_fr_55 F h55)⟩, fun _ => (by rw [pk_uLs, R, Rq])⟩
theorem af_limit {ay : Nat → ClassId} {ws w1 : va_W} {ax tE aO : Nat} {fO : Nat → Int64} {n P U : Nat} {d fr to pe uv : Nat → Nat → Nat} {ku ks kt : Nat → Nat} {sk : Nat → Nat → Nat} {wl : Nat} {wp : Nat → Nat} {x : Int32} {w : Int32} {h : Int32} {r1 : Int32} (H1 : hp_limit ay ws ax tE aO fO n P U d fr to pe uv ku ks kt sk wl wp x w h r1 w1) : ∀ j, 29 ≤ j → j < 55 → w1[j]? = ws[j]? := by
  unfold hp_limit at H1
  rcases H1 with ⟨_, rfl, _⟩ | ⟨_, rfl, _⟩ | ⟨_, rr, u1, ⟨ix, wx, hx, Eix, Lix, Ewx, L2, Ehx, L3, S, F, R⟩, hw⟩
  · exact fun j _ _ => rfl
  · exact fun j _ _ => rfl
  · exact fun j h1 h2 => (vg_sn hw (by omega)).trans (F.2 j h1 (by omega))
set_option maxHeartbeats 1000000 in
theorem ag_limit {ay : Nat → ClassId} {ws w1 u2 : va_W} {ax tE am aO th : Nat} {aa : Nat → Nat} {fO : Nat → Int64} {n P U : Nat} {d fr to pe uv : Nat → Nat → Nat} {ku ks kt : Nat → Nat} {sk : Nat → Nat → Nat} {wl : Nat} {wp : Nat → Nat} {x : Int32} {w : Int32} {h : Int32} {r1 : Int32} {r2 : Int32} (h0 : cw_St ay ws ax tE n P U d fr to pe uv ku ks kt sk wl wp) (h55 : ws[55]? = some (aO, .inl (ay 1, 1, .inr (.inl fO)))) (H1 : hp_limit ay ws ax tE aO fO n P U d fr to pe uv ku ks kt sk wl wp x w h r1 w1) (H2 : hr_limit ay w1 am aa n P U d fr to pe uv ku ks kt sk wl wp x w h r2 u2) : ∃ (k : Nat) (fO2 : Nat → Int64), r1 = nI k ∧ k < 4 ∧ jo_S ay u2 ax tE am aa k aO fO2 ∧ (k = 0 → fO2 0 = r2.toInt64) := by
  have hRR := cw_St_R h0
  have hn := hRR.1
  have hP := hRR.2.1
  have hU := hRR.2.2.1
  have hd2 : ∀ i, i < P → d i 2 ≤ 60000 := fun i hi => (hRR.2.2.2.1 i hi).1.2.2.2.1
  unfold hp_limit at H1
  unfold hr_limit at H2
  rcases H1 with ⟨e1, rfl, a1⟩ | ⟨e1, rfl, a1, a2⟩ | ⟨e1, rr, u1, ⟨ix, wx, hx, Eix, Lix, Ewx, L2, Ehx, L3, S, F, R⟩, hw⟩
  · rcases H2 with ⟨b1, hs, hf⟩ | ⟨b1, b2, hs, hf⟩ | ⟨ixq, wxq, hxq, Eixq, Lixq, Ewxq, L2q, Ehxq, L3q, Sq, Fq, Rq⟩
    · exact ⟨1, fO, e1, by decide, ⟨_, _, _, _, _, _, _, _, _, _, _, _, _, _, cw_St_cm h0 hf, hs, cm_fr_55 hf h55⟩, fun z => absurd z (by decide)⟩
    · exact absurd b1 a1
    · subst Eixq; subst Ewxq; subst Ehxq
      exact absurd (⟨ixq, Lixq, rfl⟩) a1
  · rcases H2 with ⟨b1, hs, hf⟩ | ⟨b1, b2, hs, hf⟩ | ⟨ixq, wxq, hxq, Eixq, Lixq, Ewxq, L2q, Ehxq, L3q, Sq, Fq, Rq⟩
    · exact absurd a1 b1
    · exact ⟨2, fO, e1, by decide, ⟨_, _, _, _, _, _, _, _, _, _, _, _, _, _, cw_St_cm h0 hf, hs, cm_fr_55 hf h55⟩, fun z => absurd z (by decide)⟩
    · subst Eixq; subst Ewxq; subst Ehxq
      exact absurd (⟨⟨(nI_leI (by omega) (by omega)).mpr (by omega), (nI_leI (by omega) (by omega)).mpr (by omega)⟩, ⟨(nI_leI (by omega) (by omega)).mpr (by omega), (nI_leI (by omega) (by omega)).mpr (by omega)⟩⟩) a2
  · subst Eix; subst Ewx; subst Ehx
    rcases H2 with ⟨b1, hs, hf⟩ | ⟨b1, b2, hs, hf⟩ | ⟨ixq, wxq, hxq, Eixq, Lixq, Ewxq, L2q, Ehxq, L3q, Sq, Fq, Rq⟩
    · exact absurd (⟨ix, Lix, rfl⟩) b1
    · exact absurd (⟨⟨(nI_leI (by omega) (by omega)).mpr (by omega), (nI_leI (by omega) (by omega)).mpr (by omega)⟩, ⟨(nI_leI (by omega) (by omega)).mpr (by omega), (nI_leI (by omega) (by omega)).mpr (by omega)⟩⟩) b2
    · skip
      have e_ix := (nI_eq (by omega) (by omega)).mp Eixq
      subst e_ix
      have e_wx := (nI_eq (by omega) (by omega)).mp Ewxq
      subst e_wx
      have e_hx := (nI_eq (by omega) (by omega)).mp Ehxq
      subst e_hx
      subst hw
      exact ⟨0, _, e1, by decide, ⟨_, _, _, _, _, _, _, _, _, _, _, _, _, _, cw_St_cm (cw_St_55 S rfl) Fq, Sq, cm_fr_55 Fq (cw_fr_55 F h55)⟩, fun _ => (by rw [pk_uLs, R, Rq])⟩
theorem af_slow {ay : Nat → ClassId} {ws w1 : va_W} {ax tE aO : Nat} {fO : Nat → Int64} {n P U : Nat} {d fr to pe uv : Nat → Nat → Nat} {ku ks kt : Nat → Nat} {sk : Nat → Nat → Nat} {wl : Nat} {wp : Nat → Nat} {x : Int32} {f : Int32} {t : Int32} {w : Int32} {r1 : Int32} (H1 : hp_slow ay ws ax tE aO fO n P U d fr to pe uv ku ks kt sk wl wp x f t w r1 w1) : ∀ j, 29 ≤ j → j < 55 → w1[j]? = ws[j]? := by
  unfold hp_slow at H1
  rcases H1 with ⟨_, rfl, _⟩ | ⟨_, rfl, _⟩ | ⟨_, rfl, _⟩ | ⟨_, rr, u1, ⟨ix, fx, tx, px, Eix, Lix, Efx, Lfx, Etx, T1, T2, Epx, P1, P2, D7, S, F, R⟩, hw⟩
  · exact fun j _ _ => rfl
  · exact fun j _ _ => rfl
  · exact fun j _ _ => rfl
  · exact fun j h1 h2 => (vg_sn hw (by omega)).trans (F.2 j h1 (by omega))
set_option maxHeartbeats 1000000 in
theorem ag_slow {ay : Nat → ClassId} {ws w1 u2 : va_W} {ax tE am aO th : Nat} {aa : Nat → Nat} {fO : Nat → Int64} {n P U : Nat} {d fr to pe uv : Nat → Nat → Nat} {ku ks kt : Nat → Nat} {sk : Nat → Nat → Nat} {wl : Nat} {wp : Nat → Nat} {x : Int32} {f : Int32} {t : Int32} {w : Int32} {r1 : Int32} {r2 : Int32} (h0 : cw_St ay ws ax tE n P U d fr to pe uv ku ks kt sk wl wp) (h55 : ws[55]? = some (aO, .inl (ay 1, 1, .inr (.inl fO)))) (H1 : hp_slow ay ws ax tE aO fO n P U d fr to pe uv ku ks kt sk wl wp x f t w r1 w1) (H2 : hr_slow ay w1 am aa n P U d fr to pe uv ku ks kt sk wl wp x f t w r2 u2) : ∃ (k : Nat) (fO2 : Nat → Int64), r1 = nI k ∧ k < 4 ∧ jo_S ay u2 ax tE am aa k aO fO2 ∧ (k = 0 → fO2 0 = r2.toInt64) := by
  have hRR := cw_St_R h0
  have hn := hRR.1
  have hP := hRR.2.1
  have hU := hRR.2.2.1
  have hd2 : ∀ i, i < P → d i 2 ≤ 60000 := fun i hi => (hRR.2.2.2.1 i hi).1.2.2.2.1
  unfold hp_slow at H1
  unfold hr_slow at H2
  rcases H1 with ⟨e1, rfl, a1⟩ | ⟨e1, rfl, a1, a2⟩ | ⟨e1, rfl, a1, a2, a3⟩ | ⟨e1, rr, u1, ⟨ix, fx, tx, px, Eix, Lix, Efx, Lfx, Etx, T1, T2, Epx, P1, P2, D7, S, F, R⟩, hw⟩
  · rcases H2 with ⟨b1, hs, hf⟩ | ⟨b1, b2, hs, hf⟩ | ⟨b1, b2, b3, hs, hf⟩ | ⟨ixq, fxq, txq, pxq, Eixq, Lixq, Efxq, Lfxq, Etxq, T1q, T2q, Epxq, P1q, P2q, D7q, Sq, Fq, Rq⟩
    · exact ⟨1, fO, e1, by decide, ⟨_, _, _, _, _, _, _, _, _, _, _, _, _, _, cw_St_cm h0 hf, hs, cm_fr_55 hf h55⟩, fun z => absurd z (by decide)⟩
    · exact absurd b1 a1
    · exact absurd b1 a1
    · subst Eixq; subst Efxq; subst Etxq; subst Epxq
      exact absurd (⟨ixq, Lixq, rfl⟩) a1
  · rcases H2 with ⟨b1, hs, hf⟩ | ⟨b1, b2, hs, hf⟩ | ⟨b1, b2, b3, hs, hf⟩ | ⟨ixq, fxq, txq, pxq, Eixq, Lixq, Efxq, Lfxq, Etxq, T1q, T2q, Epxq, P1q, P2q, D7q, Sq, Fq, Rq⟩
    · exact absurd a1 b1
    · exact ⟨2, fO, e1, by decide, ⟨_, _, _, _, _, _, _, _, _, _, _, _, _, _, cw_St_cm h0 hf, hs, cm_fr_55 hf h55⟩, fun z => absurd z (by decide)⟩
    · exact absurd b2 a2
    · subst Eixq; subst Efxq; subst Etxq; subst Epxq
      exact absurd (⟨⟨(nI_leI (by omega) (by omega)).mpr (by omega), (nI_leI (by omega) (by omega)).mpr (by omega)⟩, ⟨(nI_leI (by omega) (by omega)).mpr (by omega), (nI_leI (by omega) (by omega)).mpr (by omega)⟩, ⟨(nI_leI (by omega) (by omega)).mpr (by omega), (nI_leI (by omega) (by omega)).mpr (by omega)⟩⟩) a2
  · rcases H2 with ⟨b1, hs, hf⟩ | ⟨b1, b2, hs, hf⟩ | ⟨b1, b2, b3, hs, hf⟩ | ⟨ixq, fxq, txq, pxq, Eixq, Lixq, Efxq, Lfxq, Etxq, T1q, T2q, Epxq, P1q, P2q, D7q, Sq, Fq, Rq⟩
    · exact absurd a1 b1
    · exact absurd a2 b2
    · exact ⟨3, fO, e1, by decide, ⟨_, _, _, _, _, _, _, _, _, _, _, _, _, _, cw_St_cm h0 hf, hs, cm_fr_55 hf h55⟩, fun z => absurd z (by decide)⟩
    · subst Eixq; subst Efxq; subst Etxq; subst Epxq
      exact absurd (⟨⟨ixq, Lixq, rfl⟩, ixq, rfl, Lixq, D7q⟩) a3
  · subst Eix; subst Efx; subst Etx; subst Epx
    rcases H2 with ⟨b1, hs, hf⟩ | ⟨b1, b2, hs, hf⟩ | ⟨b1, b2, b3, hs, hf⟩ | ⟨ixq, fxq, txq, pxq, Eixq, Lixq, Efxq, Lfxq, Etxq, T1q, T2q, Epxq, P1q, P2q, D7q, Sq, Fq, Rq⟩
    · exact absurd (⟨ix, Lix, rfl⟩) b1
    · exact absurd (⟨⟨(nI_leI (by omega) (by omega)).mpr (by omega), (nI_leI (by omega) (by omega)).mpr (by omega)⟩, ⟨(nI_leI (by omega) (by omega)).mpr (by omega), (nI_leI (by omega) (by omega)).mpr (by omega)⟩, ⟨(nI_leI (by omega) (by omega)).mpr (by omega), (nI_leI (by omega) (by omega)).mpr (by omega)⟩⟩) b2
    · exact absurd (⟨⟨ix, Lix, rfl⟩, ix, rfl, Lix, D7⟩) b3
    · skip
      have e_ix := (nI_eq (by omega) (by omega)).mp Eixq
      subst e_ix
      have e_fx := (nI_eq (by omega) (by omega)).mp Efxq
      subst e_fx
      have e_tx := (nI_eq (by omega) (by omega)).mp Etxq
      subst e_tx
      have e_px := (nI_eq (by omega) (by omega)).mp Epxq
      subst e_px
      subst hw
      exact ⟨0, _, e1, by decide, ⟨_, _, _, _, _, _, _, _, _, _, _, _, _, _, cw_St_cm (cw_St_55 S rfl) Fq, Sq, cm_fr_55 Fq (cw_fr_55 F h55)⟩, fun _ => (by rw [pk_uLs, R, Rq])⟩
theorem af_close {ay : Nat → ClassId} {ws w1 : va_W} {ax tE aO : Nat} {fO : Nat → Int64} {n P U : Nat} {d fr to pe uv : Nat → Nat → Nat} {ku ks kt : Nat → Nat} {sk : Nat → Nat → Nat} {wl : Nat} {wp : Nat → Nat} {x : Int32} {on : Nat} {r1 : Int32} (H1 : hp_close ay ws ax tE aO fO n P U d fr to pe uv ku ks kt sk wl wp x on r1 w1) : ∀ j, 29 ≤ j → j < 55 → w1[j]? = ws[j]? := by
  unfold hp_close at H1
  rcases H1 with ⟨_, rfl, _⟩ | ⟨_, rfl, _⟩ | ⟨_, rr, u1, ⟨ix, Eix, Lix, N, S, F, R⟩, hw⟩
  · exact fun j _ _ => rfl
  · exact fun j _ _ => rfl
  · exact fun j h1 h2 => (vg_sn hw (by omega)).trans (F.2 j h1 (by omega))
set_option maxHeartbeats 1000000 in
theorem ag_close {ay : Nat → ClassId} {ws w1 u2 : va_W} {ax tE am aO th : Nat} {aa : Nat → Nat} {fO : Nat → Int64} {n P U : Nat} {d fr to pe uv : Nat → Nat → Nat} {ku ks kt : Nat → Nat} {sk : Nat → Nat → Nat} {wl : Nat} {wp : Nat → Nat} {x : Int32} {on : Nat} {r1 : Int32} {r2 : Int32} (h0 : cw_St ay ws ax tE n P U d fr to pe uv ku ks kt sk wl wp) (h55 : ws[55]? = some (aO, .inl (ay 1, 1, .inr (.inl fO)))) (H1 : hp_close ay ws ax tE aO fO n P U d fr to pe uv ku ks kt sk wl wp x on r1 w1) (H2 : hr_close ay w1 am aa n P U d fr to pe uv ku ks kt sk wl wp x on r2 u2) : ∃ (k : Nat) (fO2 : Nat → Int64), r1 = nI k ∧ k < 4 ∧ jo_S ay u2 ax tE am aa k aO fO2 ∧ (k = 0 → fO2 0 = r2.toInt64) := by
  have hRR := cw_St_R h0
  have hn := hRR.1
  have hP := hRR.2.1
  have hU := hRR.2.2.1
  have hd2 : ∀ i, i < P → d i 2 ≤ 60000 := fun i hi => (hRR.2.2.2.1 i hi).1.2.2.2.1
  unfold hp_close at H1
  unfold hr_close at H2
  rcases H1 with ⟨e1, rfl, a1⟩ | ⟨e1, rfl, a1, a2⟩ | ⟨e1, rr, u1, ⟨ix, Eix, Lix, N, S, F, R⟩, hw⟩
  · rcases H2 with ⟨b1, hs, hf⟩ | ⟨b1, b2, hs, hf⟩ | ⟨ixq, Eixq, Lixq, Nq, Sq, Fq, Rq⟩
    · exact ⟨1, fO, e1, by decide, ⟨_, _, _, _, _, _, _, _, _, _, _, _, _, _, cw_St_cm h0 hf, hs, cm_fr_55 hf h55⟩, fun z => absurd z (by decide)⟩
    · exact absurd b1 a1
    · subst Eixq
      exact absurd (⟨ixq, Lixq, rfl⟩) a1
  · rcases H2 with ⟨b1, hs, hf⟩ | ⟨b1, b2, hs, hf⟩ | ⟨ixq, Eixq, Lixq, Nq, Sq, Fq, Rq⟩
    · exact absurd a1 b1
    · exact ⟨2, fO, e1, by decide, ⟨_, _, _, _, _, _, _, _, _, _, _, _, _, _, cw_St_cm h0 hf, hs, cm_fr_55 hf h55⟩, fun z => absurd z (by decide)⟩
    · subst Eixq
      exact absurd (⟨⟨ixq, Lixq, rfl⟩, ixq, rfl, Lixq, Nq⟩) a2
  · subst Eix
    rcases H2 with ⟨b1, hs, hf⟩ | ⟨b1, b2, hs, hf⟩ | ⟨ixq, Eixq, Lixq, Nq, Sq, Fq, Rq⟩
    · exact absurd (⟨ix, Lix, rfl⟩) b1
    · exact absurd (⟨⟨ix, Lix, rfl⟩, ix, rfl, Lix, N⟩) b2
    · skip
      have e_ix := (nI_eq (by omega) (by omega)).mp Eixq
      subst e_ix
      subst hw
      exact ⟨0, _, e1, by decide, ⟨_, _, _, _, _, _, _, _, _, _, _, _, _, _, cw_St_cm (cw_St_55 S rfl) Fq, Sq, cm_fr_55 Fq (cw_fr_55 F h55)⟩, fun _ => (by rw [pk_uLs, R, Rq])⟩
theorem af_speed {ay : Nat → ClassId} {ws w1 : va_W} {ax tE aO : Nat} {fO : Nat → Int64} {n P U : Nat} {d fr to pe uv : Nat → Nat → Nat} {ku ks kt : Nat → Nat} {sk : Nat → Nat → Nat} {wl : Nat} {wp : Nat → Nat} {x : Int32} {w : Int32} {r1 : Int32} (H1 : hp_speed ay ws ax tE aO fO n P U d fr to pe uv ku ks kt sk wl wp x w r1 w1) : ∀ j, 29 ≤ j → j < 55 → w1[j]? = ws[j]? := by
  unfold hp_speed at H1
  rcases H1 with ⟨_, rfl, _⟩ | ⟨_, rfl, _⟩ | ⟨_, rr, u1, ⟨ix, wx, Eix, Lix, Ewx, L2, S, F, R⟩, hw⟩
  · exact fun j _ _ => rfl
  · exact fun j _ _ => rfl
  · exact fun j h1 h2 => (vg_sn hw (by omega)).trans (F.2 j h1 (by omega))
set_option maxHeartbeats 1000000 in
theorem ag_speed {ay : Nat → ClassId} {ws w1 u2 : va_W} {ax tE am aO th : Nat} {aa : Nat → Nat} {fO : Nat → Int64} {n P U : Nat} {d fr to pe uv : Nat → Nat → Nat} {ku ks kt : Nat → Nat} {sk : Nat → Nat → Nat} {wl : Nat} {wp : Nat → Nat} {x : Int32} {w : Int32} {r1 : Int32} {r2 : Int32} (h0 : cw_St ay ws ax tE n P U d fr to pe uv ku ks kt sk wl wp) (h55 : ws[55]? = some (aO, .inl (ay 1, 1, .inr (.inl fO)))) (H1 : hp_speed ay ws ax tE aO fO n P U d fr to pe uv ku ks kt sk wl wp x w r1 w1) (H2 : hr_speed ay w1 am aa n P U d fr to pe uv ku ks kt sk wl wp x w r2 u2) : ∃ (k : Nat) (fO2 : Nat → Int64), r1 = nI k ∧ k < 4 ∧ jo_S ay u2 ax tE am aa k aO fO2 ∧ (k = 0 → fO2 0 = r2.toInt64) := by
  have hRR := cw_St_R h0
  have hn := hRR.1
  have hP := hRR.2.1
  have hU := hRR.2.2.1
  have hd2 : ∀ i, i < P → d i 2 ≤ 60000 := fun i hi => (hRR.2.2.2.1 i hi).1.2.2.2.1
  unfold hp_speed at H1
  unfold hr_speed at H2
  rcases H1 with ⟨e1, rfl, a1⟩ | ⟨e1, rfl, a1, a2⟩ | ⟨e1, rr, u1, ⟨ix, wx, Eix, Lix, Ewx, L2, S, F, R⟩, hw⟩
  · rcases H2 with ⟨b1, hs, hf⟩ | ⟨b1, b2, hs, hf⟩ | ⟨ixq, wxq, Eixq, Lixq, Ewxq, L2q, Sq, Fq, Rq⟩
    · exact ⟨1, fO, e1, by decide, ⟨_, _, _, _, _, _, _, _, _, _, _, _, _, _, cw_St_cm h0 hf, hs, cm_fr_55 hf h55⟩, fun z => absurd z (by decide)⟩
    · exact absurd b1 a1
    · subst Eixq; subst Ewxq
      exact absurd (⟨ixq, Lixq, rfl⟩) a1
  · rcases H2 with ⟨b1, hs, hf⟩ | ⟨b1, b2, hs, hf⟩ | ⟨ixq, wxq, Eixq, Lixq, Ewxq, L2q, Sq, Fq, Rq⟩
    · exact absurd a1 b1
    · exact ⟨2, fO, e1, by decide, ⟨_, _, _, _, _, _, _, _, _, _, _, _, _, _, cw_St_cm h0 hf, hs, cm_fr_55 hf h55⟩, fun z => absurd z (by decide)⟩
    · subst Eixq; subst Ewxq
      exact absurd (⟨(nI_leI (by omega) (by omega)).mpr (by omega), (nI_leI (by omega) (by omega)).mpr (by omega)⟩) a2
  · subst Eix; subst Ewx
    rcases H2 with ⟨b1, hs, hf⟩ | ⟨b1, b2, hs, hf⟩ | ⟨ixq, wxq, Eixq, Lixq, Ewxq, L2q, Sq, Fq, Rq⟩
    · exact absurd (⟨ix, Lix, rfl⟩) b1
    · exact absurd (⟨(nI_leI (by omega) (by omega)).mpr (by omega), (nI_leI (by omega) (by omega)).mpr (by omega)⟩) b2
    · skip
      have e_ix := (nI_eq (by omega) (by omega)).mp Eixq
      subst e_ix
      have e_wx := (nI_eq (by omega) (by omega)).mp Ewxq
      subst e_wx
      subst hw
      exact ⟨0, _, e1, by decide, ⟨_, _, _, _, _, _, _, _, _, _, _, _, _, _, cw_St_cm (cw_St_55 S rfl) Fq, Sq, cm_fr_55 Fq (cw_fr_55 F h55)⟩, fun _ => (by rw [pk_uLs, R, Rq])⟩
theorem af_unit {ay : Nat → ClassId} {ws w1 : va_W} {ax tE aO : Nat} {fO : Nat → Int64} {n P U : Nat} {d fr to pe uv : Nat → Nat → Nat} {ku ks kt : Nat → Nat} {sk : Nat → Nat → Nat} {wl : Nat} {wp : Nat → Nat} {v : Int32} {w : Int32} {h : Int32} {pf : Int32} {qf : Int32} {r1 : Int32} (H1 : hp_unit ay ws ax tE aO fO n P U d fr to pe uv ku ks kt sk wl wp v w h pf qf r1 w1) : ∀ j, 29 ≤ j → j < 55 → w1[j]? = ws[j]? := by
  unfold hp_unit at H1
  rcases H1 with ⟨_, rfl, _⟩ | ⟨_, rfl, _⟩ | ⟨_, rfl, _⟩ | ⟨_, rr, u1, ⟨vx, wx, hx, px, qx, Evx, Lvx, Ewx, L2, Ehx, L3, Epx, P1, P2, Eqx, Q1, Q2, UU, S, F, R⟩, hw⟩
  · exact fun j _ _ => rfl
  · exact fun j _ _ => rfl
  · exact fun j _ _ => rfl
  · exact fun j h1 h2 => (vg_sn hw (by omega)).trans (F.2 j h1 (by omega))
set_option maxHeartbeats 1000000 in
theorem ag_unit {ay : Nat → ClassId} {ws w1 u2 : va_W} {ax tE am aO th : Nat} {aa : Nat → Nat} {fO : Nat → Int64} {n P U : Nat} {d fr to pe uv : Nat → Nat → Nat} {ku ks kt : Nat → Nat} {sk : Nat → Nat → Nat} {wl : Nat} {wp : Nat → Nat} {v : Int32} {w : Int32} {h : Int32} {pf : Int32} {qf : Int32} {r1 : Int32} {r2 : Int32} (h0 : cw_St ay ws ax tE n P U d fr to pe uv ku ks kt sk wl wp) (h55 : ws[55]? = some (aO, .inl (ay 1, 1, .inr (.inl fO)))) (H1 : hp_unit ay ws ax tE aO fO n P U d fr to pe uv ku ks kt sk wl wp v w h pf qf r1 w1) (H2 : hr_unit ay w1 am aa n P U d fr to pe uv ku ks kt sk wl wp v w h pf qf r2 u2) : ∃ (k : Nat) (fO2 : Nat → Int64), r1 = nI k ∧ k < 4 ∧ jo_S ay u2 ax tE am aa k aO fO2 ∧ (k = 0 → fO2 0 = r2.toInt64) := by
  have hRR := cw_St_R h0
  have hn := hRR.1
  have hP := hRR.2.1
  have hU := hRR.2.2.1
  have hd2 : ∀ i, i < P → d i 2 ≤ 60000 := fun i hi => (hRR.2.2.2.1 i hi).1.2.2.2.1
  unfold hp_unit at H1
  unfold hr_unit at H2
  rcases H1 with ⟨e1, rfl, a1⟩ | ⟨e1, rfl, a1, a2⟩ | ⟨e1, rfl, a1, a2, a3⟩ | ⟨e1, rr, u1, ⟨vx, wx, hx, px, qx, Evx, Lvx, Ewx, L2, Ehx, L3, Epx, P1, P2, Eqx, Q1, Q2, UU, S, F, R⟩, hw⟩
  · rcases H2 with ⟨b1, hs, hf⟩ | ⟨b1, b2, hs, hf⟩ | ⟨b1, b2, b3, hs, hf⟩ | ⟨vxq, wxq, hxq, pxq, qxq, Evxq, Lvxq, Ewxq, L2q, Ehxq, L3q, Epxq, P1q, P2q, Eqxq, Q1q, Q2q, UUq, Sq, Fq, Rq⟩
    · exact ⟨1, fO, e1, by decide, ⟨_, _, _, _, _, _, _, _, _, _, _, _, _, _, cw_St_cm h0 hf, hs, cm_fr_55 hf h55⟩, fun z => absurd z (by decide)⟩
    · exact absurd b1 a1
    · exact absurd b1 a1
    · subst Evxq; subst Ewxq; subst Ehxq; subst Epxq; subst Eqxq
      exact absurd (⟨vxq, Lvxq, rfl⟩) a1
  · rcases H2 with ⟨b1, hs, hf⟩ | ⟨b1, b2, hs, hf⟩ | ⟨b1, b2, b3, hs, hf⟩ | ⟨vxq, wxq, hxq, pxq, qxq, Evxq, Lvxq, Ewxq, L2q, Ehxq, L3q, Epxq, P1q, P2q, Eqxq, Q1q, Q2q, UUq, Sq, Fq, Rq⟩
    · exact absurd a1 b1
    · exact ⟨2, fO, e1, by decide, ⟨_, _, _, _, _, _, _, _, _, _, _, _, _, _, cw_St_cm h0 hf, hs, cm_fr_55 hf h55⟩, fun z => absurd z (by decide)⟩
    · exact absurd b2 a2
    · subst Evxq; subst Ewxq; subst Ehxq; subst Epxq; subst Eqxq
      exact absurd (⟨⟨(nI_leI (by omega) (by omega)).mpr (by omega), (nI_leI (by omega) (by omega)).mpr (by omega)⟩, ⟨(nI_leI (by omega) (by omega)).mpr (by omega), (nI_leI (by omega) (by omega)).mpr (by omega)⟩, ⟨(nI_leI (by omega) (by omega)).mpr (by omega), (nI_leI (by omega) (by omega)).mpr (by omega)⟩, ⟨(nI_leI (by omega) (by omega)).mpr (by omega), (nI_leI (by omega) (by omega)).mpr (by omega)⟩⟩) a2
  · rcases H2 with ⟨b1, hs, hf⟩ | ⟨b1, b2, hs, hf⟩ | ⟨b1, b2, b3, hs, hf⟩ | ⟨vxq, wxq, hxq, pxq, qxq, Evxq, Lvxq, Ewxq, L2q, Ehxq, L3q, Epxq, P1q, P2q, Eqxq, Q1q, Q2q, UUq, Sq, Fq, Rq⟩
    · exact absurd a1 b1
    · exact absurd a2 b2
    · exact ⟨3, fO, e1, by decide, ⟨_, _, _, _, _, _, _, _, _, _, _, _, _, _, cw_St_cm h0 hf, hs, cm_fr_55 hf h55⟩, fun z => absurd z (by decide)⟩
    · subst Evxq; subst Ewxq; subst Ehxq; subst Epxq; subst Eqxq
      exact absurd UUq a3
  · subst Evx; subst Ewx; subst Ehx; subst Epx; subst Eqx
    rcases H2 with ⟨b1, hs, hf⟩ | ⟨b1, b2, hs, hf⟩ | ⟨b1, b2, b3, hs, hf⟩ | ⟨vxq, wxq, hxq, pxq, qxq, Evxq, Lvxq, Ewxq, L2q, Ehxq, L3q, Epxq, P1q, P2q, Eqxq, Q1q, Q2q, UUq, Sq, Fq, Rq⟩
    · exact absurd (⟨vx, Lvx, rfl⟩) b1
    · exact absurd (⟨⟨(nI_leI (by omega) (by omega)).mpr (by omega), (nI_leI (by omega) (by omega)).mpr (by omega)⟩, ⟨(nI_leI (by omega) (by omega)).mpr (by omega), (nI_leI (by omega) (by omega)).mpr (by omega)⟩, ⟨(nI_leI (by omega) (by omega)).mpr (by omega), (nI_leI (by omega) (by omega)).mpr (by omega)⟩, ⟨(nI_leI (by omega) (by omega)).mpr (by omega), (nI_leI (by omega) (by omega)).mpr (by omega)⟩⟩) b2
    · exact absurd UU b3
    · skip
      have e_vx := (nI_eq (by omega) (by omega)).mp Evxq
      subst e_vx
      have e_wx := (nI_eq (by omega) (by omega)).mp Ewxq
      subst e_wx
      have e_hx := (nI_eq (by omega) (by omega)).mp Ehxq
      subst e_hx
      have e_px := (nI_eq (by omega) (by omega)).mp Epxq
      subst e_px
      have e_qx := (nI_eq (by omega) (by omega)).mp Eqxq
      subst e_qx
      subst hw
      exact ⟨0, _, e1, by decide, ⟨_, _, _, _, _, _, _, _, _, _, _, _, _, _, cw_St_cm (cw_St_55 S rfl) Fq, Sq, cm_fr_55 Fq (cw_fr_55 F h55)⟩, fun _ => (by rw [pk_uLs, R, Rq])⟩
theorem af_stand {ay : Nat → ClassId} {ws w1 : va_W} {ax tE aO : Nat} {fO : Nat → Int64} {n P U : Nat} {d fr to pe uv : Nat → Nat → Nat} {ku ks kt : Nat → Nat} {sk : Nat → Nat → Nat} {wl : Nat} {wp : Nat → Nat} {y : Int32} {x : Int32} {r1 : Int32} (H1 : hp_stand ay ws ax tE aO fO n P U d fr to pe uv ku ks kt sk wl wp y x r1 w1) : ∀ j, 29 ≤ j → j < 55 → w1[j]? = ws[j]? := by
  unfold hp_stand at H1
  rcases H1 with ⟨_, rfl, _⟩ | ⟨_, jx, vx, Ejx, Ljx, Evx, Lvx, S, F⟩
  · exact fun j _ _ => rfl
  · exact fun j h1 h2 => F.2 j h1 (by omega)
set_option maxHeartbeats 1000000 in
theorem ag_stand {ay : Nat → ClassId} {ws w1 u2 : va_W} {ax tE am aO th : Nat} {aa : Nat → Nat} {fO : Nat → Int64} {n P U : Nat} {d fr to pe uv : Nat → Nat → Nat} {ku ks kt : Nat → Nat} {sk : Nat → Nat → Nat} {wl : Nat} {wp : Nat → Nat} {y : Int32} {x : Int32} {r1 : Int32} (h0 : cw_St ay ws ax tE n P U d fr to pe uv ku ks kt sk wl wp) (h55 : ws[55]? = some (aO, .inl (ay 1, 1, .inr (.inl fO)))) (H1 : hp_stand ay ws ax tE aO fO n P U d fr to pe uv ku ks kt sk wl wp y x r1 w1) (H2 : hr_stand ay w1 am aa n P U d fr to pe uv ku ks kt sk wl wp y x u2) : ∃ (k : Nat) (fO2 : Nat → Int64), r1 = nI k ∧ k < 4 ∧ jo_S ay u2 ax tE am aa k aO fO2 := by
  have hRR := cw_St_R h0
  have hn := hRR.1
  have hP := hRR.2.1
  have hU := hRR.2.2.1
  have hd2 : ∀ i, i < P → d i 2 ≤ 60000 := fun i hi => (hRR.2.2.2.1 i hi).1.2.2.2.1
  unfold hp_stand at H1
  unfold hr_stand at H2
  rcases H1 with ⟨e1, rfl, a1⟩ | ⟨e1, jx, vx, Ejx, Ljx, Evx, Lvx, S, F⟩
  · rcases H2 with ⟨b1, hs, hf⟩ | ⟨jxq, vxq, Ejxq, Ljxq, Evxq, Lvxq, Sq, Fq⟩
    · exact ⟨1, fO, e1, by decide, ⟨_, _, _, _, _, _, _, _, _, _, _, _, _, _, cw_St_cm h0 hf, hs, cm_fr_55 hf h55⟩⟩
    · subst Ejxq; subst Evxq
      exact absurd (⟨⟨jxq, Ljxq, rfl⟩, ⟨vxq, Lvxq, rfl⟩⟩) a1
  · subst Ejx; subst Evx
    rcases H2 with ⟨b1, hs, hf⟩ | ⟨jxq, vxq, Ejxq, Ljxq, Evxq, Lvxq, Sq, Fq⟩
    · exact absurd (⟨⟨jx, Ljx, rfl⟩, ⟨vx, Lvx, rfl⟩⟩) b1
    · skip
      have e_jx := (nI_eq (by omega) (by omega)).mp Ejxq
      subst e_jx
      have e_vx := (nI_eq (by omega) (by omega)).mp Evxq
      subst e_vx
      exact ⟨0, fO, e1, by decide, ⟨_, _, _, _, _, _, _, _, _, _, _, _, _, _, cw_St_cm S Fq, Sq, cm_fr_55 Fq ((F.2 55 (by decide) (by decide)).trans h55)⟩⟩
theorem af_seconds {ay : Nat → ClassId} {ws w1 : va_W} {ax tE aO : Nat} {fO : Nat → Int64} {n P U : Nat} {d fr to pe uv : Nat → Nat → Nat} {ku ks kt : Nat → Nat} {sk : Nat → Nat → Nat} {wl : Nat} {wp : Nat → Nat} {y : Int32} {x : Int32} {t : Int32} {r1 : Int32} (H1 : hp_seconds ay ws ax tE aO fO n P U d fr to pe uv ku ks kt sk wl wp y x t r1 w1) : ∀ j, 29 ≤ j → j < 55 → w1[j]? = ws[j]? := by
  unfold hp_seconds at H1
  rcases H1 with ⟨_, rfl, _⟩ | ⟨_, rfl, _⟩ | ⟨_, rfl, _⟩ | ⟨_, rr, u1, ⟨U, jx, ix, tx, Ejx, Ljx, Eix, Lix, Etx, Ltx, D3, R⟩, hw⟩
  · exact fun j _ _ => rfl
  · exact fun j _ _ => rfl
  · exact fun j _ _ => rfl
  · subst U; exact fun j h1 h2 => vg_sn hw (by omega)
set_option maxHeartbeats 1000000 in
theorem ag_seconds {ay : Nat → ClassId} {ws w1 u2 : va_W} {ax tE am aO th : Nat} {aa : Nat → Nat} {fO : Nat → Int64} {n P U : Nat} {d fr to pe uv : Nat → Nat → Nat} {ku ks kt : Nat → Nat} {sk : Nat → Nat → Nat} {wl : Nat} {wp : Nat → Nat} {y : Int32} {x : Int32} {t : Int32} {r1 : Int32} {r2 : Int64} (h0 : cw_St ay ws ax tE n P U d fr to pe uv ku ks kt sk wl wp) (h55 : ws[55]? = some (aO, .inl (ay 1, 1, .inr (.inl fO)))) (H1 : hp_seconds ay ws ax tE aO fO n P U d fr to pe uv ku ks kt sk wl wp y x t r1 w1) (H2 : hr_seconds ay w1 am aa n P U d fr to pe uv ku ks kt sk wl wp y x t r2 u2) : ∃ (k : Nat) (fO2 : Nat → Int64), r1 = nI k ∧ k < 4 ∧ jo_S ay u2 ax tE am aa k aO fO2 ∧ (k = 0 → fO2 0 = r2) := by
  have hRR := cw_St_R h0
  have hn := hRR.1
  have hP := hRR.2.1
  have hU := hRR.2.2.1
  have hd2 : ∀ i, i < P → d i 2 ≤ 60000 := fun i hi => (hRR.2.2.2.1 i hi).1.2.2.2.1
  unfold hp_seconds at H1
  unfold hr_seconds at H2
  rcases H1 with ⟨e1, rfl, a1⟩ | ⟨e1, rfl, a1, a2⟩ | ⟨e1, rfl, a1, a2, a3⟩ | ⟨e1, rr, u1, ⟨U, jx, ix, tx, Ejx, Ljx, Eix, Lix, Etx, Ltx, D3, R⟩, hw⟩
  · rcases H2 with ⟨b1, hs, hf⟩ | ⟨b1, b2, hs, hf⟩ | ⟨b1, b2, b3, hs, hf⟩ | ⟨Sq, Fq, jxq, ixq, txq, Ejxq, Ljxq, Eixq, Lixq, Etxq, Ltxq, D3q, Rq⟩
    · exact ⟨1, fO, e1, by decide, ⟨_, _, _, _, _, _, _, _, _, _, _, _, _, _, cw_St_cm h0 hf, hs, cm_fr_55 hf h55⟩, fun z => absurd z (by decide)⟩
    · exact absurd b1 a1
    · exact absurd b1 a1
    · subst Ejxq; subst Eixq; subst Etxq
      exact absurd (⟨⟨jxq, Ljxq, rfl⟩, ⟨ixq, Lixq, rfl⟩⟩) a1
  · rcases H2 with ⟨b1, hs, hf⟩ | ⟨b1, b2, hs, hf⟩ | ⟨b1, b2, b3, hs, hf⟩ | ⟨Sq, Fq, jxq, ixq, txq, Ejxq, Ljxq, Eixq, Lixq, Etxq, Ltxq, D3q, Rq⟩
    · exact absurd a1 b1
    · exact ⟨2, fO, e1, by decide, ⟨_, _, _, _, _, _, _, _, _, _, _, _, _, _, cw_St_cm h0 hf, hs, cm_fr_55 hf h55⟩, fun z => absurd z (by decide)⟩
    · exact absurd b2 a2
    · subst Ejxq; subst Eixq; subst Etxq
      exact absurd ((nI_leI (a := 0) (by omega) (by omega)).mpr (Nat.zero_le _)) a2
  · rcases H2 with ⟨b1, hs, hf⟩ | ⟨b1, b2, hs, hf⟩ | ⟨b1, b2, b3, hs, hf⟩ | ⟨Sq, Fq, jxq, ixq, txq, Ejxq, Ljxq, Eixq, Lixq, Etxq, Ltxq, D3q, Rq⟩
    · exact absurd a1 b1
    · exact absurd a2 b2
    · exact ⟨3, fO, e1, by decide, ⟨_, _, _, _, _, _, _, _, _, _, _, _, _, _, cw_St_cm h0 hf, hs, cm_fr_55 hf h55⟩, fun z => absurd z (by decide)⟩
    · subst Ejxq; subst Eixq; subst Etxq
      exact absurd (⟨⟨ixq, Lixq, rfl⟩, ixq, rfl, Lixq, D3q⟩) a3
  · subst Ejx; subst Eix; subst Etx
    rcases H2 with ⟨b1, hs, hf⟩ | ⟨b1, b2, hs, hf⟩ | ⟨b1, b2, b3, hs, hf⟩ | ⟨Sq, Fq, jxq, ixq, txq, Ejxq, Ljxq, Eixq, Lixq, Etxq, Ltxq, D3q, Rq⟩
    · exact absurd (⟨⟨jx, Ljx, rfl⟩, ⟨ix, Lix, rfl⟩⟩) b1
    · exact absurd ((nI_leI (a := 0) (by omega) (by omega)).mpr (Nat.zero_le _)) b2
    · exact absurd (⟨⟨ix, Lix, rfl⟩, ix, rfl, Lix, D3⟩) b3
    · skip
      have e_jx := (nI_eq (by omega) (by omega)).mp Ejxq
      subst e_jx
      have e_ix := (nI_eq (by omega) (by omega)).mp Eixq
      subst e_ix
      have e_tx := (nI_eq (by omega) (by omega)).mp Etxq
      subst e_tx
      have S := h0
      subst U
      have F := cw_fr_rf u1
      subst hw
      exact ⟨0, _, e1, by decide, ⟨_, _, _, _, _, _, _, _, _, _, _, _, _, _, cw_St_cm (cw_St_55 S rfl) Fq, Sq, cm_fr_55 Fq (cw_fr_55 F h55)⟩, fun _ => (by rw [pk_uLs, R, Rq])⟩
theorem af_way {ay : Nat → ClassId} {ws w1 : va_W} {ax tE aO : Nat} {fO : Nat → Int64} {n P U : Nat} {d fr to pe uv : Nat → Nat → Nat} {ku ks kt : Nat → Nat} {sk : Nat → Nat → Nat} {wl : Nat} {wp : Nat → Nat} {y : Int32} {a : Int32} {b : Int32} {t : Int32} {r1 : Int32} (H1 : hp_way ay ws ax tE aO fO n P U d fr to pe uv ku ks kt sk wl wp y a b t r1 w1) : ∀ j, 29 ≤ j → j < 55 → w1[j]? = ws[j]? := by
  unfold hp_way at H1
  rcases H1 with ⟨_, rfl, _⟩ | ⟨_, rfl, _⟩ | ⟨_, rr, u1, ⟨jx, ax, bx, tx, wl2, wp2, nd, Ejx, Ljx, Eax, Lax, Ebx, Lbx, Etx, Ltx, S, F, G1, G2, R⟩, hw⟩
  · exact fun j _ _ => rfl
  · exact fun j _ _ => rfl
  · exact fun j h1 h2 => (vg_sn hw (by omega)).trans (F.2 j h1 (by omega))
set_option maxHeartbeats 1000000 in
theorem ag_way {ay : Nat → ClassId} {ws w1 u2 : va_W} {ax tE am aO th : Nat} {aa : Nat → Nat} {fO : Nat → Int64} {n P U : Nat} {d fr to pe uv : Nat → Nat → Nat} {ku ks kt : Nat → Nat} {sk : Nat → Nat → Nat} {wl : Nat} {wp : Nat → Nat} {y : Int32} {a : Int32} {b : Int32} {t : Int32} {r1 : Int32} {r2 : Int64} (h0 : cw_St ay ws ax tE n P U d fr to pe uv ku ks kt sk wl wp) (h55 : ws[55]? = some (aO, .inl (ay 1, 1, .inr (.inl fO)))) (H1 : hp_way ay ws ax tE aO fO n P U d fr to pe uv ku ks kt sk wl wp y a b t r1 w1) (H2 : hr_way ay w1 am aa n P U d fr to pe uv ku ks kt sk wl wp y a b t r2 u2) : ∃ (k : Nat) (fO2 : Nat → Int64), r1 = nI k ∧ k < 4 ∧ jo_S ay u2 ax tE am aa k aO fO2 ∧ (k = 0 → fO2 0 = r2) := by
  have hRR := cw_St_R h0
  have hn := hRR.1
  have hP := hRR.2.1
  have hU := hRR.2.2.1
  have hd2 : ∀ i, i < P → d i 2 ≤ 60000 := fun i hi => (hRR.2.2.2.1 i hi).1.2.2.2.1
  unfold hp_way at H1
  unfold hr_way at H2
  rcases H1 with ⟨e1, rfl, a1⟩ | ⟨e1, rfl, a1, a2⟩ | ⟨e1, rr, u1, ⟨jx, ax, bx, tx, wl2, wp2, nd, Ejx, Ljx, Eax, Lax, Ebx, Lbx, Etx, Ltx, S, F, G1, G2, R⟩, hw⟩
  · rcases H2 with ⟨b1, hs, hf⟩ | ⟨b1, b2, hs, hf⟩ | ⟨jxq, axq, bxq, txq, wl2q, wp2q, ndq, Ejxq, Ljxq, Eaxq, Laxq, Ebxq, Lbxq, Etxq, Ltxq, Sq, Fq, G1q, G2q, Rq⟩
    · exact ⟨1, fO, e1, by decide, ⟨_, _, _, _, _, _, _, _, _, _, _, _, _, _, cw_St_cm h0 hf, hs, cm_fr_55 hf h55⟩, fun z => absurd z (by decide)⟩
    · exact absurd b1 a1
    · subst Ejxq; subst Eaxq; subst Ebxq; subst Etxq
      exact absurd (⟨⟨jxq, Ljxq, rfl⟩, ⟨axq, Laxq, rfl⟩, ⟨bxq, Lbxq, rfl⟩⟩) a1
  · rcases H2 with ⟨b1, hs, hf⟩ | ⟨b1, b2, hs, hf⟩ | ⟨jxq, axq, bxq, txq, wl2q, wp2q, ndq, Ejxq, Ljxq, Eaxq, Laxq, Ebxq, Lbxq, Etxq, Ltxq, Sq, Fq, G1q, G2q, Rq⟩
    · exact absurd a1 b1
    · exact ⟨2, fO, e1, by decide, ⟨_, _, _, _, _, _, _, _, _, _, _, _, _, _, cw_St_cm h0 hf, hs, cm_fr_55 hf h55⟩, fun z => absurd z (by decide)⟩
    · subst Ejxq; subst Eaxq; subst Ebxq; subst Etxq
      exact absurd ((nI_leI (a := 0) (by omega) (by omega)).mpr (Nat.zero_le _)) a2
  · subst Ejx; subst Eax; subst Ebx; subst Etx
    rcases H2 with ⟨b1, hs, hf⟩ | ⟨b1, b2, hs, hf⟩ | ⟨jxq, axq, bxq, txq, wl2q, wp2q, ndq, Ejxq, Ljxq, Eaxq, Laxq, Ebxq, Lbxq, Etxq, Ltxq, Sq, Fq, G1q, G2q, Rq⟩
    · exact absurd (⟨⟨jx, Ljx, rfl⟩, ⟨ax, Lax, rfl⟩, ⟨bx, Lbx, rfl⟩⟩) b1
    · exact absurd ((nI_leI (a := 0) (by omega) (by omega)).mpr (Nat.zero_le _)) b2
    · skip
      have e_jx := (nI_eq (by omega) (by omega)).mp Ejxq
      subst e_jx
      have e_ax := (nI_eq (by omega) (by omega)).mp Eaxq
      subst e_ax
      have e_bx := (nI_eq (by omega) (by omega)).mp Ebxq
      subst e_bx
      have e_tx := (nI_eq (by omega) (by omega)).mp Etxq
      subst e_tx
      have ew : wl2 = wl2q ∧ ∀ j, j < wl2 → wp2 j = wp2q j := by
        by_cases c9 : ma_d (ma_T P (fun i => d i 0) (fun i => d i 1) (fun i => ps_w (d i) (fr i) (to i) (pe i) (uv jx) tx) ax bx) 1 < ma_B
        · exact wy_path_uniq (G1 c9).1 (G1q c9).1 (G1 c9).2 (G1q c9).2
        · have q1 := G2 c9; have q2 := G2q c9; subst q1; subst q2; exact ⟨rfl, fun j hj => absurd hj (Nat.not_lt_zero j)⟩
      obtain ⟨ew1, ew2⟩ := ew
      subst ew1
      have S := cw_St_wp S ew2
      subst hw
      exact ⟨0, _, e1, by decide, ⟨_, _, _, _, _, _, _, _, _, _, _, _, _, _, cw_St_cm (cw_St_55 S rfl) Fq, Sq, cm_fr_55 Fq (cw_fr_55 F h55)⟩, fun _ => (by rw [pk_uLs, R, Rq])⟩
theorem af_step {ay : Nat → ClassId} {ws w1 : va_W} {ax tE aO : Nat} {fO : Nat → Int64} {n P U : Nat} {d fr to pe uv : Nat → Nat → Nat} {ku ks kt : Nat → Nat} {sk : Nat → Nat → Nat} {wl : Nat} {wp : Nat → Nat} {x : Int32} {r1 : Int32} (H1 : hp_step ay ws ax tE aO fO n P U d fr to pe uv ku ks kt sk wl wp x r1 w1) : ∀ j, 29 ≤ j → j < 55 → w1[j]? = ws[j]? := by
  unfold hp_step at H1
  rcases H1 with ⟨_, rfl, _⟩ | ⟨_, rr, u1, ⟨U, ix, Eix, Lix, R1, R2⟩, hw⟩
  · exact fun j _ _ => rfl
  · subst U; exact fun j h1 h2 => vg_sn hw (by omega)
set_option maxHeartbeats 1000000 in
theorem ag_step {ay : Nat → ClassId} {ws w1 u2 : va_W} {ax tE am aO th : Nat} {aa : Nat → Nat} {fO : Nat → Int64} {n P U : Nat} {d fr to pe uv : Nat → Nat → Nat} {ku ks kt : Nat → Nat} {sk : Nat → Nat → Nat} {wl : Nat} {wp : Nat → Nat} {x : Int32} {r1 : Int32} {r2 : Int32} (h0 : cw_St ay ws ax tE n P U d fr to pe uv ku ks kt sk wl wp) (h55 : ws[55]? = some (aO, .inl (ay 1, 1, .inr (.inl fO)))) (H1 : hp_step ay ws ax tE aO fO n P U d fr to pe uv ku ks kt sk wl wp x r1 w1) (H2 : hr_step ay w1 am aa n P U d fr to pe uv ku ks kt sk wl wp x r2 u2) : ∃ (k : Nat) (fO2 : Nat → Int64), r1 = nI k ∧ k < 4 ∧ jo_S ay u2 ax tE am aa k aO fO2 ∧ (k = 0 → fO2 0 = r2.toInt64) := by
  have hRR := cw_St_R h0
  have hn := hRR.1
  have hP := hRR.2.1
  have hU := hRR.2.2.1
  have hd2 : ∀ i, i < P → d i 2 ≤ 60000 := fun i hi => (hRR.2.2.2.1 i hi).1.2.2.2.1
  unfold hp_step at H1
  unfold hr_step at H2
  rcases H1 with ⟨e1, rfl, a1⟩ | ⟨e1, rr, u1, ⟨U, ix, Eix, Lix, R1, R2⟩, hw⟩
  · rcases H2 with ⟨b1, hs, hf⟩ | ⟨Sq, Fq, ixq, Eixq, Lixq, R1q, R2q⟩
    · exact ⟨1, fO, e1, by decide, ⟨_, _, _, _, _, _, _, _, _, _, _, _, _, _, cw_St_cm h0 hf, hs, cm_fr_55 hf h55⟩, fun z => absurd z (by decide)⟩
    · subst Eixq
      exact absurd ((nI_leI (a := 0) (by omega) (by omega)).mpr (Nat.zero_le _)) a1
  · subst Eix
    rcases H2 with ⟨b1, hs, hf⟩ | ⟨Sq, Fq, ixq, Eixq, Lixq, R1q, R2q⟩
    · exact absurd ((nI_leI (a := 0) (by omega) (by omega)).mpr (Nat.zero_le _)) b1
    · skip
      have e_ix := (nI_eq (by omega) (by omega)).mp Eixq
      subst e_ix
      have S := h0
      subst U
      have F := cw_fr_rf u1
      have er : rr = r2 := by
        by_cases c9 : ix < wl
        · rw [R1 c9, R1q c9]
        · rw [R2 c9, R2q c9]
      subst hw
      exact ⟨0, _, e1, by decide, ⟨_, _, _, _, _, _, _, _, _, _, _, _, _, _, cw_St_cm (cw_St_55 S rfl) Fq, Sq, cm_fr_55 Fq (cw_fr_55 F h55)⟩, fun _ => (by rw [pk_uLs, er])⟩
theorem af_walk {ay : Nat → ClassId} {ws w1 : va_W} {ax tE aO : Nat} {fO : Nat → Int64} {n P U : Nat} {d fr to pe uv : Nat → Nat → Nat} {ku ks kt : Nat → Nat} {sk : Nat → Nat → Nat} {wl : Nat} {wp : Nat → Nat} {y : Int32} {a : Int32} {b : Int32} {t : Int32} {i9 : Int32} {r1 : Int32} (H1 : hp_walk ay ws ax tE aO fO n P U d fr to pe uv ku ks kt sk wl wp y a b t i9 r1 w1) : ∀ j, 29 ≤ j → j < 55 → w1[j]? = ws[j]? := by
  unfold hp_walk at H1
  rcases H1 with ⟨_, rfl, _⟩ | ⟨_, rfl, _⟩ | ⟨_, rr, u1, ⟨jx, ax, bx, tx, nx, Ejx, Ljx, Eax, Lax, Ebx, Lbx, Etx, Ltx, Enx, N1, N2, S, F, R⟩, hw⟩
  · exact fun j _ _ => rfl
  · exact fun j _ _ => rfl
  · exact fun j h1 h2 => (vg_sn hw (by omega)).trans (F.2 j h1 (by omega))
set_option maxHeartbeats 1000000 in
theorem ag_walk {ay : Nat → ClassId} {ws w1 u2 : va_W} {ax tE am aO th : Nat} {aa : Nat → Nat} {fO : Nat → Int64} {n P U : Nat} {d fr to pe uv : Nat → Nat → Nat} {ku ks kt : Nat → Nat} {sk : Nat → Nat → Nat} {wl : Nat} {wp : Nat → Nat} {y : Int32} {a : Int32} {b : Int32} {t : Int32} {i9 : Int32} {r1 : Int32} {r2 : Int64} (h0 : cw_St ay ws ax tE n P U d fr to pe uv ku ks kt sk wl wp) (h55 : ws[55]? = some (aO, .inl (ay 1, 1, .inr (.inl fO)))) (H1 : hp_walk ay ws ax tE aO fO n P U d fr to pe uv ku ks kt sk wl wp y a b t i9 r1 w1) (H2 : hr_walk ay w1 am aa n P U d fr to pe uv ku ks kt sk wl wp y a b t i9 r2 u2) : ∃ (k : Nat) (fO2 : Nat → Int64), r1 = nI k ∧ k < 4 ∧ jo_S ay u2 ax tE am aa k aO fO2 ∧ (k = 0 → fO2 0 = r2) := by
  have hRR := cw_St_R h0
  have hn := hRR.1
  have hP := hRR.2.1
  have hU := hRR.2.2.1
  have hd2 : ∀ i, i < P → d i 2 ≤ 60000 := fun i hi => (hRR.2.2.2.1 i hi).1.2.2.2.1
  unfold hp_walk at H1
  unfold hr_walk at H2
  rcases H1 with ⟨e1, rfl, a1⟩ | ⟨e1, rfl, a1, a2⟩ | ⟨e1, rr, u1, ⟨jx, ax, bx, tx, nx, Ejx, Ljx, Eax, Lax, Ebx, Lbx, Etx, Ltx, Enx, N1, N2, S, F, R⟩, hw⟩
  · rcases H2 with ⟨b1, hs, hf⟩ | ⟨b1, b2, hs, hf⟩ | ⟨Sq, Fq, jxq, axq, bxq, txq, nxq, Ejxq, Ljxq, Eaxq, Laxq, Ebxq, Lbxq, Etxq, Ltxq, Enxq, N1q, N2q, Rq⟩
    · exact ⟨1, fO, e1, by decide, ⟨_, _, _, _, _, _, _, _, _, _, _, _, _, _, cw_St_cm h0 hf, hs, cm_fr_55 hf h55⟩, fun z => absurd z (by decide)⟩
    · exact absurd b1 a1
    · subst Ejxq; subst Eaxq; subst Ebxq; subst Etxq; subst Enxq
      exact absurd (⟨⟨jxq, Ljxq, rfl⟩, ⟨axq, Laxq, rfl⟩, ⟨bxq, Lbxq, rfl⟩⟩) a1
  · rcases H2 with ⟨b1, hs, hf⟩ | ⟨b1, b2, hs, hf⟩ | ⟨Sq, Fq, jxq, axq, bxq, txq, nxq, Ejxq, Ljxq, Eaxq, Laxq, Ebxq, Lbxq, Etxq, Ltxq, Enxq, N1q, N2q, Rq⟩
    · exact absurd a1 b1
    · exact ⟨2, fO, e1, by decide, ⟨_, _, _, _, _, _, _, _, _, _, _, _, _, _, cw_St_cm h0 hf, hs, cm_fr_55 hf h55⟩, fun z => absurd z (by decide)⟩
    · subst Ejxq; subst Eaxq; subst Ebxq; subst Etxq; subst Enxq
      exact absurd (⟨((nI_leI (a := 0) (by omega) (by omega)).mpr (Nat.zero_le _)), ⟨(nI_leI (by omega) (by omega)).mpr (by omega), (nI_leI (by omega) (by omega)).mpr (by omega)⟩⟩) a2
  · subst Ejx; subst Eax; subst Ebx; subst Etx; subst Enx
    rcases H2 with ⟨b1, hs, hf⟩ | ⟨b1, b2, hs, hf⟩ | ⟨Sq, Fq, jxq, axq, bxq, txq, nxq, Ejxq, Ljxq, Eaxq, Laxq, Ebxq, Lbxq, Etxq, Ltxq, Enxq, N1q, N2q, Rq⟩
    · exact absurd (⟨⟨jx, Ljx, rfl⟩, ⟨ax, Lax, rfl⟩, ⟨bx, Lbx, rfl⟩⟩) b1
    · exact absurd (⟨((nI_leI (a := 0) (by omega) (by omega)).mpr (Nat.zero_le _)), ⟨(nI_leI (by omega) (by omega)).mpr (by omega), (nI_leI (by omega) (by omega)).mpr (by omega)⟩⟩) b2
    · skip
      have e_jx := (nI_eq (by omega) (by omega)).mp Ejxq
      subst e_jx
      have e_ax := (nI_eq (by omega) (by omega)).mp Eaxq
      subst e_ax
      have e_bx := (nI_eq (by omega) (by omega)).mp Ebxq
      subst e_bx
      have e_tx := (nI_eq (by omega) (by omega)).mp Etxq
      subst e_tx
      have e_nx := (nI_eq (by omega) (by omega)).mp Enxq
      subst e_nx
      subst hw
      exact ⟨0, _, e1, by decide, ⟨_, _, _, _, _, _, _, _, _, _, _, _, _, _, cw_St_cm (cw_St_55 S rfl) Fq, Sq, cm_fr_55 Fq (cw_fr_55 F h55)⟩, fun _ => (by rw [pk_uLs, R, Rq])⟩
theorem af_rest {ay : Nat → ClassId} {ws w1 : va_W} {ax tE aO : Nat} {fO : Nat → Int64} {n P U : Nat} {d fr to pe uv : Nat → Nat → Nat} {ku ks kt : Nat → Nat} {sk : Nat → Nat → Nat} {wl : Nat} {wp : Nat → Nat} {y : Int32} {x : Int32} {mm : Int32} {b : Int32} {t : Int32} {r1 : Int32} (H1 : hp_rest ay ws ax tE aO fO n P U d fr to pe uv ku ks kt sk wl wp y x mm b t r1 w1) : ∀ j, 29 ≤ j → j < 55 → w1[j]? = ws[j]? := by
  unfold hp_rest at H1
  rcases H1 with ⟨_, rfl, _⟩ | ⟨_, rfl, _⟩ | ⟨_, rr, u1, ⟨jx, ix, mx, bx, tx, Ejx, Ljx, Eix, Lix, Emx, Lmx, Ebx, Lbx, Etx, Ltx, S, F, R1, R2⟩, hw⟩
  · exact fun j _ _ => rfl
  · exact fun j _ _ => rfl
  · exact fun j h1 h2 => (vg_sn hw (by omega)).trans (F.2 j h1 (by omega))
set_option maxHeartbeats 1000000 in
theorem ag_rest {ay : Nat → ClassId} {ws w1 u2 : va_W} {ax tE am aO th : Nat} {aa : Nat → Nat} {fO : Nat → Int64} {n P U : Nat} {d fr to pe uv : Nat → Nat → Nat} {ku ks kt : Nat → Nat} {sk : Nat → Nat → Nat} {wl : Nat} {wp : Nat → Nat} {y : Int32} {x : Int32} {mm : Int32} {b : Int32} {t : Int32} {r1 : Int32} {r2 : Int64} (h0 : cw_St ay ws ax tE n P U d fr to pe uv ku ks kt sk wl wp) (h55 : ws[55]? = some (aO, .inl (ay 1, 1, .inr (.inl fO)))) (H1 : hp_rest ay ws ax tE aO fO n P U d fr to pe uv ku ks kt sk wl wp y x mm b t r1 w1) (H2 : hr_rest ay w1 am aa n P U d fr to pe uv ku ks kt sk wl wp y x mm b t r2 u2) : ∃ (k : Nat) (fO2 : Nat → Int64), r1 = nI k ∧ k < 4 ∧ jo_S ay u2 ax tE am aa k aO fO2 ∧ (k = 0 → fO2 0 = r2) := by
  have hRR := cw_St_R h0
  have hn := hRR.1
  have hP := hRR.2.1
  have hU := hRR.2.2.1
  have hd2 : ∀ i, i < P → d i 2 ≤ 60000 := fun i hi => (hRR.2.2.2.1 i hi).1.2.2.2.1
  unfold hp_rest at H1
  unfold hr_rest at H2
  rcases H1 with ⟨e1, rfl, a1⟩ | ⟨e1, rfl, a1, a2⟩ | ⟨e1, rr, u1, ⟨jx, ix, mx, bx, tx, Ejx, Ljx, Eix, Lix, Emx, Lmx, Ebx, Lbx, Etx, Ltx, S, F, R1, R2⟩, hw⟩
  · rcases H2 with ⟨b1, hs, hf⟩ | ⟨b1, b2, hs, hf⟩ | ⟨Sq, Fq, jxq, ixq, mxq, bxq, txq, Ejxq, Ljxq, Eixq, Lixq, Emxq, Lmxq, Ebxq, Lbxq, Etxq, Ltxq, R1q, R2q⟩
    · exact ⟨1, fO, e1, by decide, ⟨_, _, _, _, _, _, _, _, _, _, _, _, _, _, cw_St_cm h0 hf, hs, cm_fr_55 hf h55⟩, fun z => absurd z (by decide)⟩
    · exact absurd b1 a1
    · subst Ejxq; subst Eixq; subst Emxq; subst Ebxq; subst Etxq
      exact absurd (⟨⟨jxq, Ljxq, rfl⟩, ⟨ixq, Lixq, rfl⟩, ⟨bxq, Lbxq, rfl⟩⟩) a1
  · rcases H2 with ⟨b1, hs, hf⟩ | ⟨b1, b2, hs, hf⟩ | ⟨Sq, Fq, jxq, ixq, mxq, bxq, txq, Ejxq, Ljxq, Eixq, Lixq, Emxq, Lmxq, Ebxq, Lbxq, Etxq, Ltxq, R1q, R2q⟩
    · exact absurd a1 b1
    · exact ⟨2, fO, e1, by decide, ⟨_, _, _, _, _, _, _, _, _, _, _, _, _, _, cw_St_cm h0 hf, hs, cm_fr_55 hf h55⟩, fun z => absurd z (by decide)⟩
    · subst Ejxq; subst Eixq; subst Emxq; subst Ebxq; subst Etxq
      exact absurd (⟨((nI_leI (a := 0) (by omega) (by omega)).mpr (Nat.zero_le _)), d ixq 2, ⟨(nI_leI (by omega) (by have := hd2 ixq Lixq; omega)).mpr (by omega), (nI_leI (by have := hd2 ixq Lixq; omega) (by have := hd2 ixq Lixq; omega)).mpr Lmxq⟩, Or.inl ⟨ixq, rfl, Lixq, rfl⟩⟩) a2
  · subst Ejx; subst Eix; subst Emx; subst Ebx; subst Etx
    rcases H2 with ⟨b1, hs, hf⟩ | ⟨b1, b2, hs, hf⟩ | ⟨Sq, Fq, jxq, ixq, mxq, bxq, txq, Ejxq, Ljxq, Eixq, Lixq, Emxq, Lmxq, Ebxq, Lbxq, Etxq, Ltxq, R1q, R2q⟩
    · exact absurd (⟨⟨jx, Ljx, rfl⟩, ⟨ix, Lix, rfl⟩, ⟨bx, Lbx, rfl⟩⟩) b1
    · exact absurd (⟨((nI_leI (a := 0) (by omega) (by omega)).mpr (Nat.zero_le _)), d ix 2, ⟨(nI_leI (by omega) (by have := hd2 ix Lix; omega)).mpr (by omega), (nI_leI (by have := hd2 ix Lix; omega) (by have := hd2 ix Lix; omega)).mpr Lmx⟩, Or.inl ⟨ix, rfl, Lix, rfl⟩⟩) b2
    · skip
      have e_jx := (nI_eq (by omega) (by omega)).mp Ejxq
      subst e_jx
      have e_ix := (nI_eq (by omega) (by omega)).mp Eixq
      subst e_ix
      have e_mx := (nI_eq (by have := hd2 ix Lix; omega) (by have := hd2 _ Lixq; omega)).mp Emxq
      subst e_mx
      have e_bx := (nI_eq (by omega) (by omega)).mp Ebxq
      subst e_bx
      have e_tx := (nI_eq (by omega) (by omega)).mp Etxq
      subst e_tx
      have er : rr = r2 := by
        by_cases c9 : ps_ok (d ix) (uv jx)
        · rw [R2 c9, R2q c9]
        · rw [R1 c9, R1q c9]
      subst hw
      exact ⟨0, _, e1, by decide, ⟨_, _, _, _, _, _, _, _, _, _, _, _, _, _, cw_St_cm (cw_St_55 S rfl) Fq, Sq, cm_fr_55 Fq (cw_fr_55 F h55)⟩, fun _ => (by rw [pk_uLs, er])⟩
theorem af_nearest {ay : Nat → ClassId} {ws w1 : va_W} {ax tE aO : Nat} {fO : Nat → Int64} {n P U : Nat} {d fr to pe uv : Nat → Nat → Nat} {ku ks kt : Nat → Nat} {sk : Nat → Nat → Nat} {wl : Nat} {wp : Nat → Nat} {b : Int32} {t : Int32} {r1 : Int32} (H1 : hp_nearest ay ws ax tE aO fO n P U d fr to pe uv ku ks kt sk wl wp b t r1 w1) : ∀ j, 29 ≤ j → j < 55 → w1[j]? = ws[j]? := by
  unfold hp_nearest at H1
  rcases H1 with ⟨_, rfl, _⟩ | ⟨_, rfl, _⟩ | ⟨_, rr, u1, ⟨S, F, bx, tx, Ebx, Lbx, Etx, Ltx, R⟩, hw⟩
  · exact fun j _ _ => rfl
  · exact fun j _ _ => rfl
  · exact fun j h1 h2 => (vg_sn hw (by omega)).trans (F.2 j h1 (by omega))
set_option maxHeartbeats 1000000 in
theorem ag_nearest {ay : Nat → ClassId} {ws w1 u2 : va_W} {ax tE am aO th : Nat} {aa : Nat → Nat} {fO : Nat → Int64} {n P U : Nat} {d fr to pe uv : Nat → Nat → Nat} {ku ks kt : Nat → Nat} {sk : Nat → Nat → Nat} {wl : Nat} {wp : Nat → Nat} {b : Int32} {t : Int32} {r1 : Int32} {r2 : Int32} (h0 : cw_St ay ws ax tE n P U d fr to pe uv ku ks kt sk wl wp) (h55 : ws[55]? = some (aO, .inl (ay 1, 1, .inr (.inl fO)))) (H1 : hp_nearest ay ws ax tE aO fO n P U d fr to pe uv ku ks kt sk wl wp b t r1 w1) (H2 : hr_nearest ay w1 am aa n P U d fr to pe uv ku ks kt sk wl wp b t r2 u2) : ∃ (k : Nat) (fO2 : Nat → Int64), r1 = nI k ∧ k < 4 ∧ jo_S ay u2 ax tE am aa k aO fO2 ∧ (k = 0 → fO2 0 = r2.toInt64) := by
  have hRR := cw_St_R h0
  have hn := hRR.1
  have hP := hRR.2.1
  have hU := hRR.2.2.1
  have hd2 : ∀ i, i < P → d i 2 ≤ 60000 := fun i hi => (hRR.2.2.2.1 i hi).1.2.2.2.1
  unfold hp_nearest at H1
  unfold hr_nearest at H2
  rcases H1 with ⟨e1, rfl, a1⟩ | ⟨e1, rfl, a1, a2⟩ | ⟨e1, rr, u1, ⟨S, F, bx, tx, Ebx, Lbx, Etx, Ltx, R⟩, hw⟩
  · rcases H2 with ⟨b1, hs, hf⟩ | ⟨b1, b2, hs, hf⟩ | ⟨Sq, Fq, bxq, txq, Ebxq, Lbxq, Etxq, Ltxq, Rq⟩
    · exact ⟨1, fO, e1, by decide, ⟨_, _, _, _, _, _, _, _, _, _, _, _, _, _, cw_St_cm h0 hf, hs, cm_fr_55 hf h55⟩, fun z => absurd z (by decide)⟩
    · exact absurd b1 a1
    · subst Ebxq; subst Etxq
      exact absurd (⟨bxq, Lbxq, rfl⟩) a1
  · rcases H2 with ⟨b1, hs, hf⟩ | ⟨b1, b2, hs, hf⟩ | ⟨Sq, Fq, bxq, txq, Ebxq, Lbxq, Etxq, Ltxq, Rq⟩
    · exact absurd a1 b1
    · exact ⟨2, fO, e1, by decide, ⟨_, _, _, _, _, _, _, _, _, _, _, _, _, _, cw_St_cm h0 hf, hs, cm_fr_55 hf h55⟩, fun z => absurd z (by decide)⟩
    · subst Ebxq; subst Etxq
      exact absurd ((nI_leI (a := 0) (by omega) (by omega)).mpr (Nat.zero_le _)) a2
  · subst Ebx; subst Etx
    rcases H2 with ⟨b1, hs, hf⟩ | ⟨b1, b2, hs, hf⟩ | ⟨Sq, Fq, bxq, txq, Ebxq, Lbxq, Etxq, Ltxq, Rq⟩
    · exact absurd (⟨bx, Lbx, rfl⟩) b1
    · exact absurd ((nI_leI (a := 0) (by omega) (by omega)).mpr (Nat.zero_le _)) b2
    · skip
      have e_bx := (nI_eq (by omega) (by omega)).mp Ebxq
      subst e_bx
      have e_tx := (nI_eq (by omega) (by omega)).mp Etxq
      subst e_tx
      subst hw
      exact ⟨0, _, e1, by decide, ⟨_, _, _, _, _, _, _, _, _, _, _, _, _, _, cw_St_cm (cw_St_55 S rfl) Fq, Sq, cm_fr_55 Fq (cw_fr_55 F h55)⟩, fun _ => (by rw [pk_uLs, R, Rq])⟩
theorem af_keep {ay : Nat → ClassId} {ws w1 : va_W} {ax tE aO : Nat} {fO : Nat → Int64} {n P U : Nat} {d fr to pe uv : Nat → Nat → Nat} {ku ks kt : Nat → Nat} {sk : Nat → Nat → Nat} {wl : Nat} {wp : Nat → Nat} {k : Int32} {v : Int32} {y : Int32} {t : Int32} {r1 : Int32} (H1 : hp_keep ay ws ax tE aO fO n P U d fr to pe uv ku ks kt sk wl wp k v y t r1 w1) : ∀ j, 29 ≤ j → j < 55 → w1[j]? = ws[j]? := by
  unfold hp_keep at H1
  rcases H1 with ⟨_, rfl, _⟩ | ⟨_, rfl, _⟩ | ⟨_, kx, vx, jx, tx, Ekx, Lkx, Evx, Lvx, Ejx, Ljx, Etx, Ltx, S, F⟩
  · exact fun j _ _ => rfl
  · exact fun j _ _ => rfl
  · exact fun j h1 h2 => F.2 j h1 (by omega)
set_option maxHeartbeats 1000000 in
theorem ag_keep {ay : Nat → ClassId} {ws w1 u2 : va_W} {ax tE am aO th : Nat} {aa : Nat → Nat} {fO : Nat → Int64} {n P U : Nat} {d fr to pe uv : Nat → Nat → Nat} {ku ks kt : Nat → Nat} {sk : Nat → Nat → Nat} {wl : Nat} {wp : Nat → Nat} {k : Int32} {v : Int32} {y : Int32} {t : Int32} {r1 : Int32} (h0 : cw_St ay ws ax tE n P U d fr to pe uv ku ks kt sk wl wp) (h55 : ws[55]? = some (aO, .inl (ay 1, 1, .inr (.inl fO)))) (H1 : hp_keep ay ws ax tE aO fO n P U d fr to pe uv ku ks kt sk wl wp k v y t r1 w1) (H2 : hr_keep ay w1 am aa n P U d fr to pe uv ku ks kt sk wl wp k v y t u2) : ∃ (k : Nat) (fO2 : Nat → Int64), r1 = nI k ∧ k < 4 ∧ jo_S ay u2 ax tE am aa k aO fO2 := by
  have hRR := cw_St_R h0
  have hn := hRR.1
  have hP := hRR.2.1
  have hU := hRR.2.2.1
  have hd2 : ∀ i, i < P → d i 2 ≤ 60000 := fun i hi => (hRR.2.2.2.1 i hi).1.2.2.2.1
  unfold hp_keep at H1
  unfold hr_keep at H2
  rcases H1 with ⟨e1, rfl, a1⟩ | ⟨e1, rfl, a1, a2⟩ | ⟨e1, kx, vx, jx, tx, Ekx, Lkx, Evx, Lvx, Ejx, Ljx, Etx, Ltx, S, F⟩
  · rcases H2 with ⟨b1, hs, hf⟩ | ⟨b1, b2, hs, hf⟩ | ⟨kxq, vxq, jxq, txq, Ekxq, Lkxq, Evxq, Lvxq, Ejxq, Ljxq, Etxq, Ltxq, Sq, Fq⟩
    · exact ⟨1, fO, e1, by decide, ⟨_, _, _, _, _, _, _, _, _, _, _, _, _, _, cw_St_cm h0 hf, hs, cm_fr_55 hf h55⟩⟩
    · exact absurd b1 a1
    · subst Ekxq; subst Evxq; subst Ejxq; subst Etxq
      exact absurd (⟨⟨(nI_leI (by omega) (by omega)).mpr (by omega), (nI_leI (by omega) (by omega)).mpr (by omega)⟩, ⟨vxq, Lvxq, rfl⟩, ⟨jxq, Ljxq, rfl⟩⟩) a1
  · rcases H2 with ⟨b1, hs, hf⟩ | ⟨b1, b2, hs, hf⟩ | ⟨kxq, vxq, jxq, txq, Ekxq, Lkxq, Evxq, Lvxq, Ejxq, Ljxq, Etxq, Ltxq, Sq, Fq⟩
    · exact absurd a1 b1
    · exact ⟨2, fO, e1, by decide, ⟨_, _, _, _, _, _, _, _, _, _, _, _, _, _, cw_St_cm h0 hf, hs, cm_fr_55 hf h55⟩⟩
    · subst Ekxq; subst Evxq; subst Ejxq; subst Etxq
      exact absurd ((nI_leI (a := 0) (by omega) (by omega)).mpr (Nat.zero_le _)) a2
  · subst Ekx; subst Evx; subst Ejx; subst Etx
    rcases H2 with ⟨b1, hs, hf⟩ | ⟨b1, b2, hs, hf⟩ | ⟨kxq, vxq, jxq, txq, Ekxq, Lkxq, Evxq, Lvxq, Ejxq, Ljxq, Etxq, Ltxq, Sq, Fq⟩
    · exact absurd (⟨⟨(nI_leI (by omega) (by omega)).mpr (by omega), (nI_leI (by omega) (by omega)).mpr (by omega)⟩, ⟨vx, Lvx, rfl⟩, ⟨jx, Ljx, rfl⟩⟩) b1
    · exact absurd ((nI_leI (a := 0) (by omega) (by omega)).mpr (Nat.zero_le _)) b2
    · skip
      have e_kx := (nI_eq (by omega) (by omega)).mp Ekxq
      subst e_kx
      have e_vx := (nI_eq (by omega) (by omega)).mp Evxq
      subst e_vx
      have e_jx := (nI_eq (by omega) (by omega)).mp Ejxq
      subst e_jx
      have e_tx := (nI_eq (by omega) (by omega)).mp Etxq
      subst e_tx
      exact ⟨0, fO, e1, by decide, ⟨_, _, _, _, _, _, _, _, _, _, _, _, _, _, cw_St_cm S Fq, Sq, cm_fr_55 Fq ((F.2 55 (by decide) (by decide)).trans h55)⟩⟩
theorem af_kept {ay : Nat → ClassId} {ws w1 : va_W} {ax tE aO : Nat} {fO : Nat → Int64} {n P U : Nat} {d fr to pe uv : Nat → Nat → Nat} {ku ks kt : Nat → Nat} {sk : Nat → Nat → Nat} {wl : Nat} {wp : Nat → Nat} {k : Int32} {v : Int32} {r1 : Int32} (H1 : hp_kept ay ws ax tE aO fO n P U d fr to pe uv ku ks kt sk wl wp k v r1 w1) : ∀ j, 29 ≤ j → j < 55 → w1[j]? = ws[j]? := by
  unfold hp_kept at H1
  rcases H1 with ⟨_, rfl, _⟩ | ⟨_, rfl, _⟩ | ⟨_, rr, u1, ⟨U, kx, vx, Ekx, Lkx, N, Evx, Lvx, R⟩, hw⟩
  · exact fun j _ _ => rfl
  · exact fun j _ _ => rfl
  · subst U; exact fun j h1 h2 => vg_sn hw (by omega)
set_option maxHeartbeats 1000000 in
theorem ag_kept {ay : Nat → ClassId} {ws w1 u2 : va_W} {ax tE am aO th : Nat} {aa : Nat → Nat} {fO : Nat → Int64} {n P U : Nat} {d fr to pe uv : Nat → Nat → Nat} {ku ks kt : Nat → Nat} {sk : Nat → Nat → Nat} {wl : Nat} {wp : Nat → Nat} {k : Int32} {v : Int32} {r1 : Int32} {r2 : Int64} (h0 : cw_St ay ws ax tE n P U d fr to pe uv ku ks kt sk wl wp) (h55 : ws[55]? = some (aO, .inl (ay 1, 1, .inr (.inl fO)))) (H1 : hp_kept ay ws ax tE aO fO n P U d fr to pe uv ku ks kt sk wl wp k v r1 w1) (H2 : hr_kept ay w1 am aa n P U d fr to pe uv ku ks kt sk wl wp k v r2 u2) : ∃ (k : Nat) (fO2 : Nat → Int64), r1 = nI k ∧ k < 4 ∧ jo_S ay u2 ax tE am aa k aO fO2 ∧ (k = 0 → fO2 0 = r2) := by
  have hRR := cw_St_R h0
  have hn := hRR.1
  have hP := hRR.2.1
  have hU := hRR.2.2.1
  have hd2 : ∀ i, i < P → d i 2 ≤ 60000 := fun i hi => (hRR.2.2.2.1 i hi).1.2.2.2.1
  unfold hp_kept at H1
  unfold hr_kept at H2
  rcases H1 with ⟨e1, rfl, a1⟩ | ⟨e1, rfl, a1, a2⟩ | ⟨e1, rr, u1, ⟨U, kx, vx, Ekx, Lkx, N, Evx, Lvx, R⟩, hw⟩
  · rcases H2 with ⟨b1, hs, hf⟩ | ⟨b1, b2, hs, hf⟩ | ⟨Sq, Fq, kxq, vxq, Ekxq, Lkxq, Nq, Evxq, Lvxq, Rq⟩
    · exact ⟨1, fO, e1, by decide, ⟨_, _, _, _, _, _, _, _, _, _, _, _, _, _, cw_St_cm h0 hf, hs, cm_fr_55 hf h55⟩, fun z => absurd z (by decide)⟩
    · exact absurd b1 a1
    · subst Ekxq; subst Evxq
      exact absurd (⟨⟨(nI_leI (by omega) (by omega)).mpr (by omega), (nI_leI (by omega) (by omega)).mpr (by omega)⟩, kxq, Lkxq, rfl, Nq⟩) a1
  · rcases H2 with ⟨b1, hs, hf⟩ | ⟨b1, b2, hs, hf⟩ | ⟨Sq, Fq, kxq, vxq, Ekxq, Lkxq, Nq, Evxq, Lvxq, Rq⟩
    · exact absurd a1 b1
    · exact ⟨2, fO, e1, by decide, ⟨_, _, _, _, _, _, _, _, _, _, _, _, _, _, cw_St_cm h0 hf, hs, cm_fr_55 hf h55⟩, fun z => absurd z (by decide)⟩
    · subst Ekxq; subst Evxq
      exact absurd (⟨vxq, Lvxq, rfl⟩) a2
  · subst Ekx; subst Evx
    rcases H2 with ⟨b1, hs, hf⟩ | ⟨b1, b2, hs, hf⟩ | ⟨Sq, Fq, kxq, vxq, Ekxq, Lkxq, Nq, Evxq, Lvxq, Rq⟩
    · exact absurd (⟨⟨(nI_leI (by omega) (by omega)).mpr (by omega), (nI_leI (by omega) (by omega)).mpr (by omega)⟩, kx, Lkx, rfl, N⟩) b1
    · exact absurd (⟨vx, Lvx, rfl⟩) b2
    · skip
      have e_kx := (nI_eq (by omega) (by omega)).mp Ekxq
      subst e_kx
      have e_vx := (nI_eq (by omega) (by omega)).mp Evxq
      subst e_vx
      have S := h0
      subst U
      have F := cw_fr_rf u1
      subst hw
      exact ⟨0, _, e1, by decide, ⟨_, _, _, _, _, _, _, _, _, _, _, _, _, _, cw_St_cm (cw_St_55 S rfl) Fq, Sq, cm_fr_55 Fq (cw_fr_55 F h55)⟩, fun _ => (by rw [pk_uLs, R, Rq])⟩
theorem af_net {ay : Nat → ClassId} {ws w1 : va_W} {ax tE aO : Nat} {fO : Nat → Int64} {n P U : Nat} {d fr to pe uv : Nat → Nat → Nat} {ku ks kt : Nat → Nat} {sk : Nat → Nat → Nat} {wl : Nat} {wp : Nat → Nat} {x : Int32} {r1 : Int32} (H1 : hp_net ay ws ax tE aO fO n P U d fr to pe uv ku ks kt sk wl wp x r1 w1) : ∀ j, 29 ≤ j → j < 55 → w1[j]? = ws[j]? := by
  unfold hp_net at H1
  rcases H1 with ⟨_, rfl, _⟩ | ⟨_, rfl, _⟩ | ⟨_, nx, Enx, Lnx, S, F⟩
  · exact fun j _ _ => rfl
  · exact fun j _ _ => rfl
  · exact fun j h1 h2 => F.2 j h1 (by omega)
set_option maxHeartbeats 1000000 in
theorem ag_net {ay : Nat → ClassId} {ws w1 u2 : va_W} {ax tE am aO th : Nat} {aa : Nat → Nat} {fO : Nat → Int64} {n P U : Nat} {d fr to pe uv : Nat → Nat → Nat} {ku ks kt : Nat → Nat} {sk : Nat → Nat → Nat} {wl : Nat} {wp : Nat → Nat} {x : Int32} {r1 : Int32} (h0 : cw_St ay ws ax tE n P U d fr to pe uv ku ks kt sk wl wp) (h55 : ws[55]? = some (aO, .inl (ay 1, 1, .inr (.inl fO)))) (H1 : hp_net ay ws ax tE aO fO n P U d fr to pe uv ku ks kt sk wl wp x r1 w1) (H2 : hr_net ay w1 am aa n P U d fr to pe uv ku ks kt sk wl wp x u2) : ∃ (k : Nat) (fO2 : Nat → Int64), r1 = nI k ∧ k < 4 ∧ jo_S ay u2 ax tE am aa k aO fO2 := by
  have hRR := cw_St_R h0
  have hn := hRR.1
  have hP := hRR.2.1
  have hU := hRR.2.2.1
  have hd2 : ∀ i, i < P → d i 2 ≤ 60000 := fun i hi => (hRR.2.2.2.1 i hi).1.2.2.2.1
  unfold hp_net at H1
  unfold hr_net at H2
  rcases H1 with ⟨e1, rfl, a1⟩ | ⟨e1, rfl, a1⟩ | ⟨e1, nx, Enx, Lnx, S, F⟩
  · rcases H2 with ⟨b1, hs, hf⟩ | ⟨b1, b2, hs, hf⟩ | ⟨nxq, Enxq, Lnxq, Sq, Fq⟩
    · exact absurd (Int32.le_trans (Int32.le_of_lt b1) (by decide)) a1
    · exact ⟨1, fO, e1, by decide, _, _, _, _, _, _, _, _, _, _, _, _, _, _, cw_St_cm h0 hf, hs, cm_fr_55 hf h55⟩
    · subst Enxq
      exact absurd ((nI_leI (by omega) (by omega)).mpr Lnxq) a1
  · rcases H2 with ⟨b1, hs, hf⟩ | ⟨b1, b2, hs, hf⟩ | ⟨nxq, Enxq, Lnxq, Sq, Fq⟩
    · exact ⟨2, fO, e1, by decide, _, _, _, _, _, _, _, _, _, _, _, _, _, _, cw_St_cm h0 hf, hs, cm_fr_55 hf h55⟩
    · exact absurd b1 (Int32.not_le.mpr a1)
    · subst Enxq
      exact absurd ((nI_ltI (by omega) (by omega)).mp a1) (by omega)
  · subst Enx
    rcases H2 with ⟨b1, hs, hf⟩ | ⟨b1, b2, hs, hf⟩ | ⟨nxq, Enxq, Lnxq, Sq, Fq⟩
    · exact absurd ((nI_ltI (by omega) (by omega)).mp b1) (by omega)
    · exact absurd ((nI_leI (by omega) (by omega)).mpr Lnx) b2
    · have e9 := (nI_eq (by omega) (by omega)).mp Enxq
      subst e9
      exact ⟨0, fO, e1, by decide, _, _, _, _, _, _, _, _, _, _, _, _, _, _, cw_St_cm S Fq, Sq, cm_fr_55 Fq ((F.2 55 (by decide) (by decide)).trans h55)⟩
