theorem no_in {P : Nat} {x : Int32} {q : Nat → Prop} (hP : P ≤ 150) (h : ∃ i, x = nI i ∧ i < P ∧ ¬ q i) : ¬ (cm_in x P ∧ ∃ i, x = nI i ∧ i < P ∧ q i) := fun z => by
  obtain ⟨i, h1, h2, h3⟩ := h
  obtain ⟨j, g1, g2, g3⟩ := z.2
  have e := (nI_eq (by omega) (by omega)).mp (h1.symm.trans g1)
  subst e
  exact h3 g3
def hp_piece (ay : Nat → ClassId) (ws : va_W) (ax tE aO : Nat) (fO : Nat → Int64) (n P U : Nat) (d fr to pe uv : Nat → Nat → Nat) (ku ks kt : Nat → Nat) (sk : Nat → Nat → Nat) (wl : Nat) (wp : Nat → Nat) (a : Int32) (b : Int32) (mm : Int32) (sp : Int32) (r : Int32) (u : va_W) : Prop :=
  (r = nI 1 ∧ u = ws ∧ ¬ (cm_in a n ∧ cm_in b n ∧ a ≠ b)) ∨ (r = nI 2 ∧ u = ws ∧ (cm_in a n ∧ cm_in b n ∧ a ≠ b) ∧ ¬ ((nI 1 ≤ mm ∧ mm ≤ nI 60000) ∧ (nI 0 ≤ sp ∧ sp ≤ nI 200))) ∨ (r = nI 3 ∧ u = ws ∧ (cm_in a n ∧ cm_in b n ∧ a ≠ b) ∧ ((nI 1 ≤ mm ∧ mm ≤ nI 60000) ∧ (nI 0 ≤ sp ∧ sp ≤ nI 200)) ∧ ¬ (P < 150)) ∨ (r = nI 0 ∧ ∃ (rr : Int32) (u1 : va_W), (fun r u => ∃ ax9 bx mx sx : Nat, a = nI ax9 ∧ ax9 < n ∧ b = nI bx ∧ bx < n ∧ ax9 ≠ bx ∧ mm = nI mx ∧ 1 ≤ mx ∧ mx ≤ 60000 ∧ sp = nI sx ∧ sx ≤ 200 ∧ P < 150 ∧ cw_St ay u ax tE n (P + 1) U (va_up d P (cp_new ax9 bx mx sx)) fr to pe uv ku ks kt (ct_new (P + 1) (va_up d P (cp_new ax9 bx mx sx)) fr to pe uv ku ks kt) wl wp ∧ cw_fr ws u ∧ r = nI P) rr u1 ∧ u = u1.set 55 (aO, .inl (ay 1, 1, .inr (.inl (vp_updL fO 0 rr.toInt64)))))
def hr_piece (ay : Nat → ClassId) (ws : va_W) (am : Nat) (aa : Nat → Nat) (n P U : Nat) (d fr to pe uv : Nat → Nat → Nat) (ku ks kt : Nat → Nat) (sk : Nat → Nat → Nat) (wl : Nat) (wp : Nat → Nat) (a : Int32) (b : Int32) (mm : Int32) (sp : Int32) (r : Int32) (u2 : va_W) : Prop :=
  (¬ (cm_in a n ∧ cm_in b n ∧ a ≠ b) ∧ cm_St ay u2 am aa 1 n P U d fr to pe uv ku ks kt sk wl wp ∧ cm_fr ws u2) ∨ ((cm_in a n ∧ cm_in b n ∧ a ≠ b) ∧ ¬ ((nI 1 ≤ mm ∧ mm ≤ nI 60000) ∧ (nI 0 ≤ sp ∧ sp ≤ nI 200)) ∧ cm_St ay u2 am aa 2 n P U d fr to pe uv ku ks kt sk wl wp ∧ cm_fr ws u2) ∨ ((cm_in a n ∧ cm_in b n ∧ a ≠ b) ∧ ((nI 1 ≤ mm ∧ mm ≤ nI 60000) ∧ (nI 0 ≤ sp ∧ sp ≤ nI 200)) ∧ ¬ (P < 150) ∧ cm_St ay u2 am aa 3 n P U d fr to pe uv ku ks kt sk wl wp ∧ cm_fr ws u2) ∨ (∃ ax bx mx sx : Nat, a = nI ax ∧ ax < n ∧ b = nI bx ∧ bx < n ∧ ax ≠ bx ∧ mm = nI mx ∧ 1 ≤ mx ∧ mx ≤ 60000 ∧ sp = nI sx ∧ sx ≤ 200 ∧ P < 150 ∧ cm_St ay u2 am aa 0 n (P + 1) U (va_up d P (cp_new ax bx mx sx)) fr to pe uv ku ks kt (ct_new (P + 1) (va_up d P (cp_new ax bx mx sx)) fr to pe uv ku ks kt) wl wp ∧ cm_fr ws u2 ∧ r = nI P)
def hp_limit (ay : Nat → ClassId) (ws : va_W) (ax tE aO : Nat) (fO : Nat → Int64) (n P U : Nat) (d fr to pe uv : Nat → Nat → Nat) (ku ks kt : Nat → Nat) (sk : Nat → Nat → Nat) (wl : Nat) (wp : Nat → Nat) (x : Int32) (w : Int32) (h : Int32) (r : Int32) (u : va_W) : Prop :=
  (r = nI 1 ∧ u = ws ∧ ¬ (cm_in x P)) ∨ (r = nI 2 ∧ u = ws ∧ (cm_in x P) ∧ ¬ ((nI 0 ≤ w ∧ w ≤ nI 1000) ∧ (nI 0 ≤ h ∧ h ≤ nI 1000))) ∨ (r = nI 0 ∧ ∃ (rr : Int32) (u1 : va_W), (fun r u => ∃ ix wx hx : Nat, x = nI ix ∧ ix < P ∧ w = nI wx ∧ wx ≤ 1000 ∧ h = nI hx ∧ hx ≤ 1000 ∧ cw_St ay u ax tE n P U (va_up d ix (va_up (va_up (d ix) 4 wx) 5 hx)) fr to pe uv ku ks kt (ct_new P (va_up d ix (va_up (va_up (d ix) 4 wx) 5 hx)) fr to pe uv ku ks kt) wl wp ∧ cw_fr ws u ∧ r = nI (ct_cnt n ku sk (ct_new P (va_up d ix (va_up (va_up (d ix) 4 wx) 5 hx)) fr to pe uv ku ks kt) 6)) rr u1 ∧ u = u1.set 55 (aO, .inl (ay 1, 1, .inr (.inl (vp_updL fO 0 rr.toInt64)))))
def hr_limit (ay : Nat → ClassId) (ws : va_W) (am : Nat) (aa : Nat → Nat) (n P U : Nat) (d fr to pe uv : Nat → Nat → Nat) (ku ks kt : Nat → Nat) (sk : Nat → Nat → Nat) (wl : Nat) (wp : Nat → Nat) (x : Int32) (w : Int32) (h : Int32) (r : Int32) (u2 : va_W) : Prop :=
  (¬ (cm_in x P) ∧ cm_St ay u2 am aa 1 n P U d fr to pe uv ku ks kt sk wl wp ∧ cm_fr ws u2) ∨ ((cm_in x P) ∧ ¬ ((nI 0 ≤ w ∧ w ≤ nI 1000) ∧ (nI 0 ≤ h ∧ h ≤ nI 1000)) ∧ cm_St ay u2 am aa 2 n P U d fr to pe uv ku ks kt sk wl wp ∧ cm_fr ws u2) ∨ (∃ ix wx hx : Nat, x = nI ix ∧ ix < P ∧ w = nI wx ∧ wx ≤ 1000 ∧ h = nI hx ∧ hx ≤ 1000 ∧ cm_St ay u2 am aa 0 n P U (va_up d ix (va_up (va_up (d ix) 4 wx) 5 hx)) fr to pe uv ku ks kt (ct_new P (va_up d ix (va_up (va_up (d ix) 4 wx) 5 hx)) fr to pe uv ku ks kt) wl wp ∧ cm_fr ws u2 ∧ r = nI (ct_cnt n ku sk (ct_new P (va_up d ix (va_up (va_up (d ix) 4 wx) 5 hx)) fr to pe uv ku ks kt) 6))
def hp_slow (ay : Nat → ClassId) (ws : va_W) (ax tE aO : Nat) (fO : Nat → Int64) (n P U : Nat) (d fr to pe uv : Nat → Nat → Nat) (ku ks kt : Nat → Nat) (sk : Nat → Nat → Nat) (wl : Nat) (wp : Nat → Nat) (x : Int32) (f : Int32) (t : Int32) (w : Int32) (r : Int32) (u : va_W) : Prop :=
  (r = nI 1 ∧ u = ws ∧ ¬ (cm_in x P)) ∨ (r = nI 2 ∧ u = ws ∧ (cm_in x P) ∧ ¬ ((nI 0 ≤ f ∧ f ≤ nI 23) ∧ (f ≤ t ∧ t ≤ nI 23) ∧ (nI 1 ≤ w ∧ w ≤ nI 100))) ∨ (r = nI 3 ∧ u = ws ∧ (cm_in x P) ∧ ((nI 0 ≤ f ∧ f ≤ nI 23) ∧ (f ≤ t ∧ t ≤ nI 23) ∧ (nI 1 ≤ w ∧ w ≤ nI 100)) ∧ ¬ (cm_in x P ∧ (∃ i, x = nI i ∧ i < P ∧ d i 7 < 3))) ∨ (r = nI 0 ∧ ∃ (rr : Int32) (u1 : va_W), (fun r u => ∃ ix fx tx px : Nat, x = nI ix ∧ ix < P ∧ f = nI fx ∧ fx ≤ 23 ∧ t = nI tx ∧ fx ≤ tx ∧ tx ≤ 23 ∧ w = nI px ∧ 1 ≤ px ∧ px ≤ 100 ∧ d ix 7 < 3 ∧ cw_St ay u ax tE n P U (va_up d ix (va_up (d ix) 7 (d ix 7 + 1))) (va_up fr ix (va_up (fr ix) (d ix 7) fx)) (va_up to ix (va_up (to ix) (d ix 7) tx)) (va_up pe ix (va_up (pe ix) (d ix 7) px)) uv ku ks kt (ct_new P (va_up d ix (va_up (d ix) 7 (d ix 7 + 1))) (va_up fr ix (va_up (fr ix) (d ix 7) fx)) (va_up to ix (va_up (to ix) (d ix 7) tx)) (va_up pe ix (va_up (pe ix) (d ix 7) px)) uv ku ks kt) wl wp ∧ cw_fr ws u ∧ r = nI (ct_cnt n ku sk (ct_new P (va_up d ix (va_up (d ix) 7 (d ix 7 + 1))) (va_up fr ix (va_up (fr ix) (d ix 7) fx)) (va_up to ix (va_up (to ix) (d ix 7) tx)) (va_up pe ix (va_up (pe ix) (d ix 7) px)) uv ku ks kt) 6)) rr u1 ∧ u = u1.set 55 (aO, .inl (ay 1, 1, .inr (.inl (vp_updL fO 0 rr.toInt64)))))
def hr_slow (ay : Nat → ClassId) (ws : va_W) (am : Nat) (aa : Nat → Nat) (n P U : Nat) (d fr to pe uv : Nat → Nat → Nat) (ku ks kt : Nat → Nat) (sk : Nat → Nat → Nat) (wl : Nat) (wp : Nat → Nat) (x : Int32) (f : Int32) (t : Int32) (w : Int32) (r : Int32) (u2 : va_W) : Prop :=
  (¬ (cm_in x P) ∧ cm_St ay u2 am aa 1 n P U d fr to pe uv ku ks kt sk wl wp ∧ cm_fr ws u2) ∨ ((cm_in x P) ∧ ¬ ((nI 0 ≤ f ∧ f ≤ nI 23) ∧ (f ≤ t ∧ t ≤ nI 23) ∧ (nI 1 ≤ w ∧ w ≤ nI 100)) ∧ cm_St ay u2 am aa 2 n P U d fr to pe uv ku ks kt sk wl wp ∧ cm_fr ws u2) ∨ ((cm_in x P) ∧ ((nI 0 ≤ f ∧ f ≤ nI 23) ∧ (f ≤ t ∧ t ≤ nI 23) ∧ (nI 1 ≤ w ∧ w ≤ nI 100)) ∧ ¬ (cm_in x P ∧ (∃ i, x = nI i ∧ i < P ∧ d i 7 < 3)) ∧ cm_St ay u2 am aa 3 n P U d fr to pe uv ku ks kt sk wl wp ∧ cm_fr ws u2) ∨ (∃ ix fx tx px : Nat, x = nI ix ∧ ix < P ∧ f = nI fx ∧ fx ≤ 23 ∧ t = nI tx ∧ fx ≤ tx ∧ tx ≤ 23 ∧ w = nI px ∧ 1 ≤ px ∧ px ≤ 100 ∧ d ix 7 < 3 ∧ cm_St ay u2 am aa 0 n P U (va_up d ix (va_up (d ix) 7 (d ix 7 + 1))) (va_up fr ix (va_up (fr ix) (d ix 7) fx)) (va_up to ix (va_up (to ix) (d ix 7) tx)) (va_up pe ix (va_up (pe ix) (d ix 7) px)) uv ku ks kt (ct_new P (va_up d ix (va_up (d ix) 7 (d ix 7 + 1))) (va_up fr ix (va_up (fr ix) (d ix 7) fx)) (va_up to ix (va_up (to ix) (d ix 7) tx)) (va_up pe ix (va_up (pe ix) (d ix 7) px)) uv ku ks kt) wl wp ∧ cm_fr ws u2 ∧ r = nI (ct_cnt n ku sk (ct_new P (va_up d ix (va_up (d ix) 7 (d ix 7 + 1))) (va_up fr ix (va_up (fr ix) (d ix 7) fx)) (va_up to ix (va_up (to ix) (d ix 7) tx)) (va_up pe ix (va_up (pe ix) (d ix 7) px)) uv ku ks kt) 6))
def hp_close (ay : Nat → ClassId) (ws : va_W) (ax tE aO : Nat) (fO : Nat → Int64) (n P U : Nat) (d fr to pe uv : Nat → Nat → Nat) (ku ks kt : Nat → Nat) (sk : Nat → Nat → Nat) (wl : Nat) (wp : Nat → Nat) (x : Int32) (on : Nat) (r : Int32) (u : va_W) : Prop :=
  (r = nI 1 ∧ u = ws ∧ ¬ (cm_in x P)) ∨ (r = nI 2 ∧ u = ws ∧ (cm_in x P) ∧ ¬ (cm_in x P ∧ (∃ i, x = nI i ∧ i < P ∧ d i 6 ≠ on))) ∨ (r = nI 0 ∧ ∃ (rr : Int32) (u1 : va_W), (fun r u => ∃ ix : Nat, x = nI ix ∧ ix < P ∧ d ix 6 ≠ on ∧ cw_St ay u ax tE n P U (va_up d ix (va_up (d ix) 6 on)) fr to pe uv ku ks kt (ct_new P (va_up d ix (va_up (d ix) 6 on)) fr to pe uv ku ks kt) wl wp ∧ cw_fr ws u ∧ r = nI (ct_cnt n ku sk (ct_new P (va_up d ix (va_up (d ix) 6 on)) fr to pe uv ku ks kt) 6)) rr u1 ∧ u = u1.set 55 (aO, .inl (ay 1, 1, .inr (.inl (vp_updL fO 0 rr.toInt64)))))
def hr_close (ay : Nat → ClassId) (ws : va_W) (am : Nat) (aa : Nat → Nat) (n P U : Nat) (d fr to pe uv : Nat → Nat → Nat) (ku ks kt : Nat → Nat) (sk : Nat → Nat → Nat) (wl : Nat) (wp : Nat → Nat) (x : Int32) (on : Nat) (r : Int32) (u2 : va_W) : Prop :=
  (¬ (cm_in x P) ∧ cm_St ay u2 am aa 1 n P U d fr to pe uv ku ks kt sk wl wp ∧ cm_fr ws u2) ∨ ((cm_in x P) ∧ ¬ (cm_in x P ∧ (∃ i, x = nI i ∧ i < P ∧ d i 6 ≠ on)) ∧ cm_St ay u2 am aa 2 n P U d fr to pe uv ku ks kt sk wl wp ∧ cm_fr ws u2) ∨ (∃ ix : Nat, x = nI ix ∧ ix < P ∧ d ix 6 ≠ on ∧ cm_St ay u2 am aa 0 n P U (va_up d ix (va_up (d ix) 6 on)) fr to pe uv ku ks kt (ct_new P (va_up d ix (va_up (d ix) 6 on)) fr to pe uv ku ks kt) wl wp ∧ cm_fr ws u2 ∧ r = nI (ct_cnt n ku sk (ct_new P (va_up d ix (va_up (d ix) 6 on)) fr to pe uv ku ks kt) 6))
def hp_speed (ay : Nat → ClassId) (ws : va_W) (ax tE aO : Nat) (fO : Nat → Int64) (n P U : Nat) (d fr to pe uv : Nat → Nat → Nat) (ku ks kt : Nat → Nat) (sk : Nat → Nat → Nat) (wl : Nat) (wp : Nat → Nat) (x : Int32) (w : Int32) (r : Int32) (u : va_W) : Prop :=
  (r = nI 1 ∧ u = ws ∧ ¬ (cm_in x P)) ∨ (r = nI 2 ∧ u = ws ∧ (cm_in x P) ∧ ¬ (nI 0 ≤ w ∧ w ≤ nI 200)) ∨ (r = nI 0 ∧ ∃ (rr : Int32) (u1 : va_W), (fun r u => ∃ ix wx : Nat, x = nI ix ∧ ix < P ∧ w = nI wx ∧ wx ≤ 200 ∧ cw_St ay u ax tE n P U (va_up d ix (va_up (d ix) 3 wx)) fr to pe uv ku ks kt (ct_new P (va_up d ix (va_up (d ix) 3 wx)) fr to pe uv ku ks kt) wl wp ∧ cw_fr ws u ∧ r = nI (ct_cnt n ku sk (ct_new P (va_up d ix (va_up (d ix) 3 wx)) fr to pe uv ku ks kt) 6)) rr u1 ∧ u = u1.set 55 (aO, .inl (ay 1, 1, .inr (.inl (vp_updL fO 0 rr.toInt64)))))
def hr_speed (ay : Nat → ClassId) (ws : va_W) (am : Nat) (aa : Nat → Nat) (n P U : Nat) (d fr to pe uv : Nat → Nat → Nat) (ku ks kt : Nat → Nat) (sk : Nat → Nat → Nat) (wl : Nat) (wp : Nat → Nat) (x : Int32) (w : Int32) (r : Int32) (u2 : va_W) : Prop :=
  (¬ (cm_in x P) ∧ cm_St ay u2 am aa 1 n P U d fr to pe uv ku ks kt sk wl wp ∧ cm_fr ws u2) ∨ ((cm_in x P) ∧ ¬ (nI 0 ≤ w ∧ w ≤ nI 200) ∧ cm_St ay u2 am aa 2 n P U d fr to pe uv ku ks kt sk wl wp ∧ cm_fr ws u2) ∨ (∃ ix wx : Nat, x = nI ix ∧ ix < P ∧ w = nI wx ∧ wx ≤ 200 ∧ cm_St ay u2 am aa 0 n P U (va_up d ix (va_up (d ix) 3 wx)) fr to pe uv ku ks kt (ct_new P (va_up d ix (va_up (d ix) 3 wx)) fr to pe uv ku ks kt) wl wp ∧ cm_fr ws u2 ∧ r = nI (ct_cnt n ku sk (ct_new P (va_up d ix (va_up (d ix) 3 wx)) fr to pe uv ku ks kt) 6))
def hp_unit (ay : Nat → ClassId) (ws : va_W) (ax tE aO : Nat) (fO : Nat → Int64) (n P U : Nat) (d fr to pe uv : Nat → Nat → Nat) (ku ks kt : Nat → Nat) (sk : Nat → Nat → Nat) (wl : Nat) (wp : Nat → Nat) (v : Int32) (w : Int32) (h : Int32) (pf : Int32) (qf : Int32) (r : Int32) (u : va_W) : Prop :=
  (r = nI 1 ∧ u = ws ∧ ¬ (cm_in v n)) ∨ (r = nI 2 ∧ u = ws ∧ (cm_in v n) ∧ ¬ ((nI 0 ≤ w ∧ w ≤ nI 1000) ∧ (nI 0 ≤ h ∧ h ≤ nI 1000) ∧ (nI 1 ≤ pf ∧ pf ≤ nI 20) ∧ (nI 1 ≤ qf ∧ qf ≤ nI 20))) ∨ (r = nI 3 ∧ u = ws ∧ (cm_in v n) ∧ ((nI 0 ≤ w ∧ w ≤ nI 1000) ∧ (nI 0 ≤ h ∧ h ≤ nI 1000) ∧ (nI 1 ≤ pf ∧ pf ≤ nI 20) ∧ (nI 1 ≤ qf ∧ qf ≤ nI 20)) ∧ ¬ (U < 12)) ∨ (r = nI 0 ∧ ∃ (rr : Int32) (u1 : va_W), (fun r u => ∃ vx wx hx px qx : Nat, v = nI vx ∧ vx < n ∧ w = nI wx ∧ wx ≤ 1000 ∧ h = nI hx ∧ hx ≤ 1000 ∧ pf = nI px ∧ 1 ≤ px ∧ px ≤ 20 ∧ qf = nI qx ∧ 1 ≤ qx ∧ qx ≤ 20 ∧ U < 12 ∧ cw_St ay u ax tE n P (U + 1) d fr to pe (va_up uv U (cu_new vx wx hx px qx)) ku ks kt sk wl wp ∧ cw_fr ws u ∧ r = nI U) rr u1 ∧ u = u1.set 55 (aO, .inl (ay 1, 1, .inr (.inl (vp_updL fO 0 rr.toInt64)))))
def hr_unit (ay : Nat → ClassId) (ws : va_W) (am : Nat) (aa : Nat → Nat) (n P U : Nat) (d fr to pe uv : Nat → Nat → Nat) (ku ks kt : Nat → Nat) (sk : Nat → Nat → Nat) (wl : Nat) (wp : Nat → Nat) (v : Int32) (w : Int32) (h : Int32) (pf : Int32) (qf : Int32) (r : Int32) (u2 : va_W) : Prop :=
  (¬ (cm_in v n) ∧ cm_St ay u2 am aa 1 n P U d fr to pe uv ku ks kt sk wl wp ∧ cm_fr ws u2) ∨ ((cm_in v n) ∧ ¬ ((nI 0 ≤ w ∧ w ≤ nI 1000) ∧ (nI 0 ≤ h ∧ h ≤ nI 1000) ∧ (nI 1 ≤ pf ∧ pf ≤ nI 20) ∧ (nI 1 ≤ qf ∧ qf ≤ nI 20)) ∧ cm_St ay u2 am aa 2 n P U d fr to pe uv ku ks kt sk wl wp ∧ cm_fr ws u2) ∨ ((cm_in v n) ∧ ((nI 0 ≤ w ∧ w ≤ nI 1000) ∧ (nI 0 ≤ h ∧ h ≤ nI 1000) ∧ (nI 1 ≤ pf ∧ pf ≤ nI 20) ∧ (nI 1 ≤ qf ∧ qf ≤ nI 20)) ∧ ¬ (U < 12) ∧ cm_St ay u2 am aa 3 n P U d fr to pe uv ku ks kt sk wl wp ∧ cm_fr ws u2) ∨ (∃ vx wx hx px qx : Nat, v = nI vx ∧ vx < n ∧ w = nI wx ∧ wx ≤ 1000 ∧ h = nI hx ∧ hx ≤ 1000 ∧ pf = nI px ∧ 1 ≤ px ∧ px ≤ 20 ∧ qf = nI qx ∧ 1 ≤ qx ∧ qx ≤ 20 ∧ U < 12 ∧ cm_St ay u2 am aa 0 n P (U + 1) d fr to pe (va_up uv U (cu_new vx wx hx px qx)) ku ks kt sk wl wp ∧ cm_fr ws u2 ∧ r = nI U)
def hp_stand (ay : Nat → ClassId) (ws : va_W) (ax tE aO : Nat) (fO : Nat → Int64) (n P U : Nat) (d fr to pe uv : Nat → Nat → Nat) (ku ks kt : Nat → Nat) (sk : Nat → Nat → Nat) (wl : Nat) (wp : Nat → Nat) (y : Int32) (x : Int32) (r : Int32) (u : va_W) : Prop :=
  (r = nI 1 ∧ u = ws ∧ ¬ (cm_in y U ∧ cm_in x n)) ∨ (r = nI 0 ∧ (fun u => ∃ jx vx : Nat, y = nI jx ∧ jx < U ∧ x = nI vx ∧ vx < n ∧ cw_St ay u ax tE n P U d fr to pe (va_up uv jx (va_up (uv jx) 4 vx)) ku ks kt sk wl wp ∧ cw_fr ws u) u)
def hr_stand (ay : Nat → ClassId) (ws : va_W) (am : Nat) (aa : Nat → Nat) (n P U : Nat) (d fr to pe uv : Nat → Nat → Nat) (ku ks kt : Nat → Nat) (sk : Nat → Nat → Nat) (wl : Nat) (wp : Nat → Nat) (y : Int32) (x : Int32) (u2 : va_W) : Prop :=
  (¬ (cm_in y U ∧ cm_in x n) ∧ cm_St ay u2 am aa 1 n P U d fr to pe uv ku ks kt sk wl wp ∧ cm_fr ws u2) ∨ (∃ jx vx : Nat, y = nI jx ∧ jx < U ∧ x = nI vx ∧ vx < n ∧ cm_St ay u2 am aa 0 n P U d fr to pe (va_up uv jx (va_up (uv jx) 4 vx)) ku ks kt sk wl wp ∧ cm_fr ws u2)
def hp_seconds (ay : Nat → ClassId) (ws : va_W) (ax tE aO : Nat) (fO : Nat → Int64) (n P U : Nat) (d fr to pe uv : Nat → Nat → Nat) (ku ks kt : Nat → Nat) (sk : Nat → Nat → Nat) (wl : Nat) (wp : Nat → Nat) (y : Int32) (x : Int32) (t : Int32) (r : Int32) (u : va_W) : Prop :=
  (r = nI 1 ∧ u = ws ∧ ¬ (cm_in y U ∧ cm_in x P)) ∨ (r = nI 2 ∧ u = ws ∧ (cm_in y U ∧ cm_in x P) ∧ ¬ (0 ≤ t)) ∨ (r = nI 3 ∧ u = ws ∧ (cm_in y U ∧ cm_in x P) ∧ (0 ≤ t) ∧ ¬ (cm_in x P ∧ (∃ i, x = nI i ∧ i < P ∧ 0 < d i 3))) ∨ (r = nI 0 ∧ ∃ (rr : Int64) (u1 : va_W), (fun r u => u = ws ∧ ∃ jx ix tx : Nat, y = nI jx ∧ jx < U ∧ x = nI ix ∧ ix < P ∧ t = nI tx ∧ tx < 2 ^ 31 ∧ 0 < d ix 3 ∧ r = lN (ps_sec (d ix 3) (ps_per (fr ix) (to ix) (pe ix) (tx / 3600 % 24) (d ix 7) 0) (uv jx 2) (uv jx 3) (d ix 2))) rr u1 ∧ u = u1.set 55 (aO, .inl (ay 1, 1, .inr (.inl (vp_updL fO 0 rr)))))
def hr_seconds (ay : Nat → ClassId) (ws : va_W) (am : Nat) (aa : Nat → Nat) (n P U : Nat) (d fr to pe uv : Nat → Nat → Nat) (ku ks kt : Nat → Nat) (sk : Nat → Nat → Nat) (wl : Nat) (wp : Nat → Nat) (y : Int32) (x : Int32) (t : Int32) (r : Int64) (u2 : va_W) : Prop :=
  (¬ (cm_in y U ∧ cm_in x P) ∧ cm_St ay u2 am aa 1 n P U d fr to pe uv ku ks kt sk wl wp ∧ cm_fr ws u2) ∨ ((cm_in y U ∧ cm_in x P) ∧ ¬ (0 ≤ t) ∧ cm_St ay u2 am aa 2 n P U d fr to pe uv ku ks kt sk wl wp ∧ cm_fr ws u2) ∨ ((cm_in y U ∧ cm_in x P) ∧ (0 ≤ t) ∧ ¬ (cm_in x P ∧ (∃ i, x = nI i ∧ i < P ∧ 0 < d i 3)) ∧ cm_St ay u2 am aa 3 n P U d fr to pe uv ku ks kt sk wl wp ∧ cm_fr ws u2) ∨ (cm_St ay u2 am aa 0 n P U d fr to pe uv ku ks kt sk wl wp ∧ cm_fr ws u2 ∧ ∃ jx ix tx : Nat, y = nI jx ∧ jx < U ∧ x = nI ix ∧ ix < P ∧ t = nI tx ∧ tx < 2 ^ 31 ∧ 0 < d ix 3 ∧ r = lN (ps_sec (d ix 3) (ps_per (fr ix) (to ix) (pe ix) (tx / 3600 % 24) (d ix 7) 0) (uv jx 2) (uv jx 3) (d ix 2)))
def hp_way (ay : Nat → ClassId) (ws : va_W) (ax tE aO : Nat) (fO : Nat → Int64) (n P U : Nat) (d fr to pe uv : Nat → Nat → Nat) (ku ks kt : Nat → Nat) (sk : Nat → Nat → Nat) (wl : Nat) (wp : Nat → Nat) (y : Int32) (a : Int32) (b : Int32) (t : Int32) (r : Int32) (u : va_W) : Prop :=
  (r = nI 1 ∧ u = ws ∧ ¬ (cm_in y U ∧ cm_in a n ∧ cm_in b n)) ∨ (r = nI 2 ∧ u = ws ∧ (cm_in y U ∧ cm_in a n ∧ cm_in b n) ∧ ¬ (0 ≤ t)) ∨ (r = nI 0 ∧ ∃ (rr : Int64) (u1 : va_W), (fun r u => ∃ (jx ax9 bx tx wl2 : Nat) (wp2 nd : Nat → Nat), y = nI jx ∧ jx < U ∧ a = nI ax9 ∧ ax9 < n ∧ b = nI bx ∧ bx < n ∧ t = nI tx ∧ tx < 2 ^ 31 ∧ cw_St ay u ax tE n P U d fr to pe uv ku ks kt sk wl2 wp2 ∧ cw_fr ws u ∧ (ma_d (ma_T P (fun i => d i 0) (fun i => d i 1) (fun i => ps_w (d i) (fr i) (to i) (pe i) (uv jx) tx) ax9 bx) 1 < ma_B → wy_path P (fun i => d i 0) (fun i => d i 1) (fun i => ps_w (d i) (fr i) (to i) (pe i) (uv jx) tx) (fun x => ma_d (ma_T P (fun i => d i 0) (fun i => d i 1) (fun i => ps_w (d i) (fr i) (to i) (pe i) (uv jx) tx) ax9 x) 1) ax9 bx wl2 wp2 nd ∧ nd wl2 = ax9) ∧ (¬ ma_d (ma_T P (fun i => d i 0) (fun i => d i 1) (fun i => ps_w (d i) (fr i) (to i) (pe i) (uv jx) tx) ax9 bx) 1 < ma_B → wl2 = 0) ∧ r = vs_rep (ma_d (ma_T P (fun i => d i 0) (fun i => d i 1) (fun i => ps_w (d i) (fr i) (to i) (pe i) (uv jx) tx) ax9 bx) 1)) rr u1 ∧ u = u1.set 55 (aO, .inl (ay 1, 1, .inr (.inl (vp_updL fO 0 rr)))))
def hr_way (ay : Nat → ClassId) (ws : va_W) (am : Nat) (aa : Nat → Nat) (n P U : Nat) (d fr to pe uv : Nat → Nat → Nat) (ku ks kt : Nat → Nat) (sk : Nat → Nat → Nat) (wl : Nat) (wp : Nat → Nat) (y : Int32) (a : Int32) (b : Int32) (t : Int32) (r : Int64) (u2 : va_W) : Prop :=
  (¬ (cm_in y U ∧ cm_in a n ∧ cm_in b n) ∧ cm_St ay u2 am aa 1 n P U d fr to pe uv ku ks kt sk wl wp ∧ cm_fr ws u2) ∨ ((cm_in y U ∧ cm_in a n ∧ cm_in b n) ∧ ¬ (0 ≤ t) ∧ cm_St ay u2 am aa 2 n P U d fr to pe uv ku ks kt sk wl wp ∧ cm_fr ws u2) ∨ (∃ (jx ax bx tx wl2 : Nat) (wp2 nd : Nat → Nat), y = nI jx ∧ jx < U ∧ a = nI ax ∧ ax < n ∧ b = nI bx ∧ bx < n ∧ t = nI tx ∧ tx < 2 ^ 31 ∧ cm_St ay u2 am aa 0 n P U d fr to pe uv ku ks kt sk wl2 wp2 ∧ cm_fr ws u2 ∧ (ma_d (ma_T P (fun i => d i 0) (fun i => d i 1) (fun i => ps_w (d i) (fr i) (to i) (pe i) (uv jx) tx) ax bx) 1 < ma_B → wy_path P (fun i => d i 0) (fun i => d i 1) (fun i => ps_w (d i) (fr i) (to i) (pe i) (uv jx) tx) (fun x => ma_d (ma_T P (fun i => d i 0) (fun i => d i 1) (fun i => ps_w (d i) (fr i) (to i) (pe i) (uv jx) tx) ax x) 1) ax bx wl2 wp2 nd ∧ nd wl2 = ax) ∧ (¬ ma_d (ma_T P (fun i => d i 0) (fun i => d i 1) (fun i => ps_w (d i) (fr i) (to i) (pe i) (uv jx) tx) ax bx) 1 < ma_B → wl2 = 0) ∧ r = vs_rep (ma_d (ma_T P (fun i => d i 0) (fun i => d i 1) (fun i => ps_w (d i) (fr i) (to i) (pe i) (uv jx) tx) ax bx) 1))
def hp_step (ay : Nat → ClassId) (ws : va_W) (ax tE aO : Nat) (fO : Nat → Int64) (n P U : Nat) (d fr to pe uv : Nat → Nat → Nat) (ku ks kt : Nat → Nat) (sk : Nat → Nat → Nat) (wl : Nat) (wp : Nat → Nat) (x : Int32) (r : Int32) (u : va_W) : Prop :=
  (r = nI 1 ∧ u = ws ∧ ¬ (0 ≤ x)) ∨ (r = nI 0 ∧ ∃ (rr : Int32) (u1 : va_W), (fun r u => u = ws ∧ ∃ ix : Nat, x = nI ix ∧ ix < 2 ^ 31 ∧ (ix < wl → r = nI (wp (wl - 1 - ix))) ∧ (¬ ix < wl → r = -1)) rr u1 ∧ u = u1.set 55 (aO, .inl (ay 1, 1, .inr (.inl (vp_updL fO 0 rr.toInt64)))))
def hr_step (ay : Nat → ClassId) (ws : va_W) (am : Nat) (aa : Nat → Nat) (n P U : Nat) (d fr to pe uv : Nat → Nat → Nat) (ku ks kt : Nat → Nat) (sk : Nat → Nat → Nat) (wl : Nat) (wp : Nat → Nat) (x : Int32) (r : Int32) (u2 : va_W) : Prop :=
  (¬ (0 ≤ x) ∧ cm_St ay u2 am aa 1 n P U d fr to pe uv ku ks kt sk wl wp ∧ cm_fr ws u2) ∨ (cm_St ay u2 am aa 0 n P U d fr to pe uv ku ks kt sk wl wp ∧ cm_fr ws u2 ∧ ∃ ix : Nat, x = nI ix ∧ ix < 2 ^ 31 ∧ (ix < wl → r = nI (wp (wl - 1 - ix))) ∧ (¬ ix < wl → r = -1))
def hp_walk (ay : Nat → ClassId) (ws : va_W) (ax tE aO : Nat) (fO : Nat → Int64) (n P U : Nat) (d fr to pe uv : Nat → Nat → Nat) (ku ks kt : Nat → Nat) (sk : Nat → Nat → Nat) (wl : Nat) (wp : Nat → Nat) (y : Int32) (a : Int32) (b : Int32) (t : Int32) (i9 : Int32) (r : Int32) (u : va_W) : Prop :=
  (r = nI 1 ∧ u = ws ∧ ¬ (cm_in y U ∧ cm_in a n ∧ cm_in b n)) ∨ (r = nI 2 ∧ u = ws ∧ (cm_in y U ∧ cm_in a n ∧ cm_in b n) ∧ ¬ (0 ≤ t ∧ (nI 1 ≤ i9 ∧ i9 ≤ nI 6))) ∨ (r = nI 0 ∧ ∃ (rr : Int64) (u1 : va_W), (fun r u => ∃ jx ax9 bx tx nx : Nat, y = nI jx ∧ jx < U ∧ a = nI ax9 ∧ ax9 < n ∧ b = nI bx ∧ bx < n ∧ t = nI tx ∧ tx < 2 ^ 31 ∧ i9 = nI nx ∧ 1 ≤ nx ∧ nx ≤ 6 ∧ cw_St ay u ax tE n P U d fr to pe uv ku ks kt sk wl wp ∧ cw_fr ws u ∧ r = vs_rep (ma_d (ma_T P (fun i => d i 0) (fun i => d i 1) (fun i => ps_w (d i) (fr i) (to i) (pe i) (uv jx) tx) ax9 bx) nx)) rr u1 ∧ u = u1.set 55 (aO, .inl (ay 1, 1, .inr (.inl (vp_updL fO 0 rr)))))
def hr_walk (ay : Nat → ClassId) (ws : va_W) (am : Nat) (aa : Nat → Nat) (n P U : Nat) (d fr to pe uv : Nat → Nat → Nat) (ku ks kt : Nat → Nat) (sk : Nat → Nat → Nat) (wl : Nat) (wp : Nat → Nat) (y : Int32) (a : Int32) (b : Int32) (t : Int32) (i9 : Int32) (r : Int64) (u2 : va_W) : Prop :=
  (¬ (cm_in y U ∧ cm_in a n ∧ cm_in b n) ∧ cm_St ay u2 am aa 1 n P U d fr to pe uv ku ks kt sk wl wp ∧ cm_fr ws u2) ∨ ((cm_in y U ∧ cm_in a n ∧ cm_in b n) ∧ ¬ (0 ≤ t ∧ (nI 1 ≤ i9 ∧ i9 ≤ nI 6)) ∧ cm_St ay u2 am aa 2 n P U d fr to pe uv ku ks kt sk wl wp ∧ cm_fr ws u2) ∨ (cm_St ay u2 am aa 0 n P U d fr to pe uv ku ks kt sk wl wp ∧ cm_fr ws u2 ∧ ∃ jx ax bx tx nx : Nat, y = nI jx ∧ jx < U ∧ a = nI ax ∧ ax < n ∧ b = nI bx ∧ bx < n ∧ t = nI tx ∧ tx < 2 ^ 31 ∧ i9 = nI nx ∧ 1 ≤ nx ∧ nx ≤ 6 ∧ r = vs_rep (ma_d (ma_T P (fun i => d i 0) (fun i => d i 1) (fun i => ps_w (d i) (fr i) (to i) (pe i) (uv jx) tx) ax bx) nx))
def hp_rest (ay : Nat → ClassId) (ws : va_W) (ax tE aO : Nat) (fO : Nat → Int64) (n P U : Nat) (d fr to pe uv : Nat → Nat → Nat) (ku ks kt : Nat → Nat) (sk : Nat → Nat → Nat) (wl : Nat) (wp : Nat → Nat) (y : Int32) (x : Int32) (mm : Int32) (b : Int32) (t : Int32) (r : Int32) (u : va_W) : Prop :=
  (r = nI 1 ∧ u = ws ∧ ¬ (cm_in y U ∧ cm_in x P ∧ cm_in b n)) ∨ (r = nI 2 ∧ u = ws ∧ (cm_in y U ∧ cm_in x P ∧ cm_in b n) ∧ ¬ (0 ≤ t ∧ (∃ k, (nI 0 ≤ mm ∧ mm ≤ nI k) ∧ ((∃ i, x = nI i ∧ i < P ∧ k = d i 2) ∨ (¬ cm_in x P ∧ k = 0))))) ∨ (r = nI 0 ∧ ∃ (rr : Int64) (u1 : va_W), (fun r u => ∃ jx ix mx bx tx : Nat, y = nI jx ∧ jx < U ∧ x = nI ix ∧ ix < P ∧ mm = nI mx ∧ mx ≤ d ix 2 ∧ b = nI bx ∧ bx < n ∧ t = nI tx ∧ tx < 2 ^ 31 ∧ cw_St ay u ax tE n P U d fr to pe uv ku ks kt sk wl wp ∧ cw_fr ws u ∧ (¬ ps_ok (d ix) (uv jx) → r = -1) ∧ (ps_ok (d ix) (uv jx) → r = vs_rep (min (ma_d (ma_T P (fun i => d i 0) (fun i => d i 1) (fun i => ps_w (d i) (fr i) (to i) (pe i) (uv jx) tx) bx (d ix 0)) 1 + ps_sec (d ix 3) (ps_per (fr ix) (to ix) (pe ix) (tx / 3600 % 24) (d ix 7) 0) (uv jx 2) (uv jx 3) mx) (ma_d (ma_T P (fun i => d i 0) (fun i => d i 1) (fun i => ps_w (d i) (fr i) (to i) (pe i) (uv jx) tx) bx (d ix 1)) 1 + ps_sec (d ix 3) (ps_per (fr ix) (to ix) (pe ix) (tx / 3600 % 24) (d ix 7) 0) (uv jx 2) (uv jx 3) (d ix 2 - mx))))) rr u1 ∧ u = u1.set 55 (aO, .inl (ay 1, 1, .inr (.inl (vp_updL fO 0 rr)))))
def hr_rest (ay : Nat → ClassId) (ws : va_W) (am : Nat) (aa : Nat → Nat) (n P U : Nat) (d fr to pe uv : Nat → Nat → Nat) (ku ks kt : Nat → Nat) (sk : Nat → Nat → Nat) (wl : Nat) (wp : Nat → Nat) (y : Int32) (x : Int32) (mm : Int32) (b : Int32) (t : Int32) (r : Int64) (u2 : va_W) : Prop :=
  (¬ (cm_in y U ∧ cm_in x P ∧ cm_in b n) ∧ cm_St ay u2 am aa 1 n P U d fr to pe uv ku ks kt sk wl wp ∧ cm_fr ws u2) ∨ ((cm_in y U ∧ cm_in x P ∧ cm_in b n) ∧ ¬ (0 ≤ t ∧ (∃ k, (nI 0 ≤ mm ∧ mm ≤ nI k) ∧ ((∃ i, x = nI i ∧ i < P ∧ k = d i 2) ∨ (¬ cm_in x P ∧ k = 0)))) ∧ cm_St ay u2 am aa 2 n P U d fr to pe uv ku ks kt sk wl wp ∧ cm_fr ws u2) ∨ (cm_St ay u2 am aa 0 n P U d fr to pe uv ku ks kt sk wl wp ∧ cm_fr ws u2 ∧ ∃ jx ix mx bx tx : Nat, y = nI jx ∧ jx < U ∧ x = nI ix ∧ ix < P ∧ mm = nI mx ∧ mx ≤ d ix 2 ∧ b = nI bx ∧ bx < n ∧ t = nI tx ∧ tx < 2 ^ 31 ∧ (¬ ps_ok (d ix) (uv jx) → r = -1) ∧ (ps_ok (d ix) (uv jx) → r = vs_rep (min (ma_d (ma_T P (fun i => d i 0) (fun i => d i 1) (fun i => ps_w (d i) (fr i) (to i) (pe i) (uv jx) tx) bx (d ix 0)) 1 + ps_sec (d ix 3) (ps_per (fr ix) (to ix) (pe ix) (tx / 3600 % 24) (d ix 7) 0) (uv jx 2) (uv jx 3) mx) (ma_d (ma_T P (fun i => d i 0) (fun i => d i 1) (fun i => ps_w (d i) (fr i) (to i) (pe i) (uv jx) tx) bx (d ix 1)) 1 + ps_sec (d ix 3) (ps_per (fr ix) (to ix) (pe ix) (tx / 3600 % 24) (d ix 7) 0) (uv jx 2) (uv jx 3) (d ix 2 - mx)))))
def hp_nearest (ay : Nat → ClassId) (ws : va_W) (ax tE aO : Nat) (fO : Nat → Int64) (n P U : Nat) (d fr to pe uv : Nat → Nat → Nat) (ku ks kt : Nat → Nat) (sk : Nat → Nat → Nat) (wl : Nat) (wp : Nat → Nat) (b : Int32) (t : Int32) (r : Int32) (u : va_W) : Prop :=
  (r = nI 1 ∧ u = ws ∧ ¬ (cm_in b n)) ∨ (r = nI 2 ∧ u = ws ∧ (cm_in b n) ∧ ¬ (0 ≤ t)) ∨ (r = nI 0 ∧ ∃ (rr : Int32) (u1 : va_W), (fun r u => cw_St ay u ax tE n P U d fr to pe uv ku ks kt sk wl wp ∧ cw_fr ws u ∧ ∃ bx tx : Nat, b = nI bx ∧ bx < n ∧ t = nI tx ∧ tx < 2 ^ 31 ∧ r = nr_i (nr_b (fun q => ma_d (ma_T P (fun i => d i 0) (fun i => d i 1) (fun i => ps_w (d i) (fr i) (to i) (pe i) (uv q) tx) bx (uv q 4)) 1) U).1) rr u1 ∧ u = u1.set 55 (aO, .inl (ay 1, 1, .inr (.inl (vp_updL fO 0 rr.toInt64)))))
def hr_nearest (ay : Nat → ClassId) (ws : va_W) (am : Nat) (aa : Nat → Nat) (n P U : Nat) (d fr to pe uv : Nat → Nat → Nat) (ku ks kt : Nat → Nat) (sk : Nat → Nat → Nat) (wl : Nat) (wp : Nat → Nat) (b : Int32) (t : Int32) (r : Int32) (u2 : va_W) : Prop :=
  (¬ (cm_in b n) ∧ cm_St ay u2 am aa 1 n P U d fr to pe uv ku ks kt sk wl wp ∧ cm_fr ws u2) ∨ ((cm_in b n) ∧ ¬ (0 ≤ t) ∧ cm_St ay u2 am aa 2 n P U d fr to pe uv ku ks kt sk wl wp ∧ cm_fr ws u2) ∨ (cm_St ay u2 am aa 0 n P U d fr to pe uv ku ks kt sk wl wp ∧ cm_fr ws u2 ∧ ∃ bx tx : Nat, b = nI bx ∧ bx < n ∧ t = nI tx ∧ tx < 2 ^ 31 ∧ r = nr_i (nr_b (fun q => ma_d (ma_T P (fun i => d i 0) (fun i => d i 1) (fun i => ps_w (d i) (fr i) (to i) (pe i) (uv q) tx) bx (uv q 4)) 1) U).1)
def hp_keep (ay : Nat → ClassId) (ws : va_W) (ax tE aO : Nat) (fO : Nat → Int64) (n P U : Nat) (d fr to pe uv : Nat → Nat → Nat) (ku ks kt : Nat → Nat) (sk : Nat → Nat → Nat) (wl : Nat) (wp : Nat → Nat) (k : Int32) (v : Int32) (y : Int32) (t : Int32) (r : Int32) (u : va_W) : Prop :=
  (r = nI 1 ∧ u = ws ∧ ¬ ((nI 0 ≤ k ∧ k ≤ nI 5) ∧ cm_in v n ∧ cm_in y U)) ∨ (r = nI 2 ∧ u = ws ∧ ((nI 0 ≤ k ∧ k ≤ nI 5) ∧ cm_in v n ∧ cm_in y U) ∧ ¬ (0 ≤ t)) ∨ (r = nI 0 ∧ (fun u => ∃ kx vx jx tx : Nat, k = nI kx ∧ kx < 6 ∧ v = nI vx ∧ vx < n ∧ y = nI jx ∧ jx < U ∧ t = nI tx ∧ tx < 2 ^ 31 ∧ cw_St ay u ax tE n P U d fr to pe uv (va_up ku kx (jx + 1)) (va_up ks kx vx) (va_up kt kx tx) (va_up sk kx (fun x => ma_d (ma_T P (fun i => d i 0) (fun i => d i 1) (fun i => ps_w (d i) (fr i) (to i) (pe i) (uv jx) tx) vx x) 1)) wl wp ∧ cw_fr ws u) u)
def hr_keep (ay : Nat → ClassId) (ws : va_W) (am : Nat) (aa : Nat → Nat) (n P U : Nat) (d fr to pe uv : Nat → Nat → Nat) (ku ks kt : Nat → Nat) (sk : Nat → Nat → Nat) (wl : Nat) (wp : Nat → Nat) (k : Int32) (v : Int32) (y : Int32) (t : Int32) (u2 : va_W) : Prop :=
  (¬ ((nI 0 ≤ k ∧ k ≤ nI 5) ∧ cm_in v n ∧ cm_in y U) ∧ cm_St ay u2 am aa 1 n P U d fr to pe uv ku ks kt sk wl wp ∧ cm_fr ws u2) ∨ (((nI 0 ≤ k ∧ k ≤ nI 5) ∧ cm_in v n ∧ cm_in y U) ∧ ¬ (0 ≤ t) ∧ cm_St ay u2 am aa 2 n P U d fr to pe uv ku ks kt sk wl wp ∧ cm_fr ws u2) ∨ (∃ kx vx jx tx : Nat, k = nI kx ∧ kx < 6 ∧ v = nI vx ∧ vx < n ∧ y = nI jx ∧ jx < U ∧ t = nI tx ∧ tx < 2 ^ 31 ∧ cm_St ay u2 am aa 0 n P U d fr to pe uv (va_up ku kx (jx + 1)) (va_up ks kx vx) (va_up kt kx tx) (va_up sk kx (fun x => ma_d (ma_T P (fun i => d i 0) (fun i => d i 1) (fun i => ps_w (d i) (fr i) (to i) (pe i) (uv jx) tx) vx x) 1)) wl wp ∧ cm_fr ws u2)
def hp_kept (ay : Nat → ClassId) (ws : va_W) (ax tE aO : Nat) (fO : Nat → Int64) (n P U : Nat) (d fr to pe uv : Nat → Nat → Nat) (ku ks kt : Nat → Nat) (sk : Nat → Nat → Nat) (wl : Nat) (wp : Nat → Nat) (k : Int32) (v : Int32) (r : Int32) (u : va_W) : Prop :=
  (r = nI 1 ∧ u = ws ∧ ¬ ((nI 0 ≤ k ∧ k ≤ nI 5) ∧ (∃ i, i < 6 ∧ k = nI i ∧ ku i ≠ 0))) ∨ (r = nI 2 ∧ u = ws ∧ ((nI 0 ≤ k ∧ k ≤ nI 5) ∧ (∃ i, i < 6 ∧ k = nI i ∧ ku i ≠ 0)) ∧ ¬ (cm_in v n)) ∨ (r = nI 0 ∧ ∃ (rr : Int64) (u1 : va_W), (fun r u => u = ws ∧ ∃ kx vx : Nat, k = nI kx ∧ kx < 6 ∧ ku kx ≠ 0 ∧ v = nI vx ∧ vx < n ∧ r = vs_rep (sk kx vx)) rr u1 ∧ u = u1.set 55 (aO, .inl (ay 1, 1, .inr (.inl (vp_updL fO 0 rr)))))
def hr_kept (ay : Nat → ClassId) (ws : va_W) (am : Nat) (aa : Nat → Nat) (n P U : Nat) (d fr to pe uv : Nat → Nat → Nat) (ku ks kt : Nat → Nat) (sk : Nat → Nat → Nat) (wl : Nat) (wp : Nat → Nat) (k : Int32) (v : Int32) (r : Int64) (u2 : va_W) : Prop :=
  (¬ ((nI 0 ≤ k ∧ k ≤ nI 5) ∧ (∃ i, i < 6 ∧ k = nI i ∧ ku i ≠ 0)) ∧ cm_St ay u2 am aa 1 n P U d fr to pe uv ku ks kt sk wl wp ∧ cm_fr ws u2) ∨ (((nI 0 ≤ k ∧ k ≤ nI 5) ∧ (∃ i, i < 6 ∧ k = nI i ∧ ku i ≠ 0)) ∧ ¬ (cm_in v n) ∧ cm_St ay u2 am aa 2 n P U d fr to pe uv ku ks kt sk wl wp ∧ cm_fr ws u2) ∨ (cm_St ay u2 am aa 0 n P U d fr to pe uv ku ks kt sk wl wp ∧ cm_fr ws u2 ∧ ∃ kx vx : Nat, k = nI kx ∧ kx < 6 ∧ ku kx ≠ 0 ∧ v = nI vx ∧ vx < n ∧ r = vs_rep (sk kx vx))
def hp_net (ay : Nat → ClassId) (ws : va_W) (ax tE aO : Nat) (fO : Nat → Int64) (n P U : Nat) (d fr to pe uv : Nat → Nat → Nat) (ku ks kt : Nat → Nat) (sk : Nat → Nat → Nat) (wl : Nat) (wp : Nat → Nat) (x : Int32) (r : Int32) (u : va_W) : Prop :=
  (r = nI 1 ∧ u = ws ∧ ¬ x ≤ nI 200) ∨ (r = nI 2 ∧ u = ws ∧ x < nI 0) ∨ (r = nI 0 ∧ (fun u => ∃ nx : Nat, x = nI nx ∧ nx ≤ 200 ∧ cw_St ay u ax tE nx 0 0 d fr to pe uv (fun _ => 0) ks kt sk 0 wp ∧ cw_fr ws u) u)
def hr_net (ay : Nat → ClassId) (ws : va_W) (am : Nat) (aa : Nat → Nat) (n P U : Nat) (d fr to pe uv : Nat → Nat → Nat) (ku ks kt : Nat → Nat) (sk : Nat → Nat → Nat) (wl : Nat) (wp : Nat → Nat) (x : Int32) (u2 : va_W) : Prop :=
  (x < nI 0 ∧ cm_St ay u2 am aa 2 n P U d fr to pe uv ku ks kt sk wl wp ∧ cm_fr ws u2) ∨ (nI 0 ≤ x ∧ ¬ x ≤ nI 200 ∧ cm_St ay u2 am aa 1 n P U d fr to pe uv ku ks kt sk wl wp ∧ cm_fr ws u2) ∨ (∃ nx : Nat, x = nI nx ∧ nx ≤ 200 ∧ cm_St ay u2 am aa 0 nx 0 0 d fr to pe uv (fun _ => 0) ks kt sk 0 wp ∧ cm_fr ws u2)
theorem hl_L_piece_13 : Cond.classLink RL 13 "java/lang/IllegalArgumentException" ∈ wsL_piece := by decide +kernel
theorem hl_L_piece_21 : Cond.classLink RL 21 "java/lang/IndexOutOfBoundsException" ∈ wsL_piece := by decide +kernel
theorem hl_L_piece_23 : Cond.classLink RL 23 "java/lang/UnsupportedOperationException" ∈ wsL_piece := by decide +kernel
theorem hl_L_limit_13 : Cond.classLink RL 13 "java/lang/IllegalArgumentException" ∈ wsL_limit := by decide +kernel
theorem hl_L_limit_21 : Cond.classLink RL 21 "java/lang/IndexOutOfBoundsException" ∈ wsL_limit := by decide +kernel
theorem hl_L_slow_13 : Cond.classLink RL 13 "java/lang/IllegalArgumentException" ∈ wsL_slow := by decide +kernel
theorem hl_L_slow_21 : Cond.classLink RL 21 "java/lang/IndexOutOfBoundsException" ∈ wsL_slow := by decide +kernel
theorem hl_L_slow_23 : Cond.classLink RL 23 "java/lang/UnsupportedOperationException" ∈ wsL_slow := by decide +kernel
theorem hl_L_close_13 : Cond.classLink RL 13 "java/lang/IllegalArgumentException" ∈ wsL_close := by decide +kernel
theorem hl_L_close_36 : Cond.classLink RL 36 "java/lang/IllegalStateException" ∈ wsL_close := by decide +kernel
theorem hl_L_speed_13 : Cond.classLink RL 13 "java/lang/IllegalArgumentException" ∈ wsL_speed := by decide +kernel
theorem hl_L_speed_21 : Cond.classLink RL 21 "java/lang/IndexOutOfBoundsException" ∈ wsL_speed := by decide +kernel
theorem hl_L_unit_13 : Cond.classLink RL 13 "java/lang/IllegalArgumentException" ∈ wsL_unit := by decide +kernel
theorem hl_L_unit_21 : Cond.classLink RL 21 "java/lang/IndexOutOfBoundsException" ∈ wsL_unit := by decide +kernel
theorem hl_L_unit_23 : Cond.classLink RL 23 "java/lang/UnsupportedOperationException" ∈ wsL_unit := by decide +kernel
theorem hl_L_stand_13 : Cond.classLink RL 13 "java/lang/IllegalArgumentException" ∈ wsL_stand := by decide +kernel
theorem hl_L_seconds_13 : Cond.classLink RL 13 "java/lang/IllegalArgumentException" ∈ wsL_seconds := by decide +kernel
theorem hl_L_seconds_21 : Cond.classLink RL 21 "java/lang/IndexOutOfBoundsException" ∈ wsL_seconds := by decide +kernel
theorem hl_L_seconds_54 : Cond.classLink RL 54 "java/lang/ArithmeticException" ∈ wsL_seconds := by decide +kernel
theorem hl_L_way_13 : Cond.classLink RL 13 "java/lang/IllegalArgumentException" ∈ wsL_way := by decide +kernel
theorem hl_L_way_21 : Cond.classLink RL 21 "java/lang/IndexOutOfBoundsException" ∈ wsL_way := by decide +kernel
theorem hl_L_step_21 : Cond.classLink RL 21 "java/lang/IndexOutOfBoundsException" ∈ wsL_step := by decide +kernel
theorem hl_L_walk_13 : Cond.classLink RL 13 "java/lang/IllegalArgumentException" ∈ wsL_walk := by decide +kernel
theorem hl_L_walk_21 : Cond.classLink RL 21 "java/lang/IndexOutOfBoundsException" ∈ wsL_walk := by decide +kernel
theorem hl_L_rest_13 : Cond.classLink RL 13 "java/lang/IllegalArgumentException" ∈ wsL_rest := by decide +kernel
theorem hl_L_rest_21 : Cond.classLink RL 21 "java/lang/IndexOutOfBoundsException" ∈ wsL_rest := by decide +kernel
theorem hl_L_nearest_13 : Cond.classLink RL 13 "java/lang/IllegalArgumentException" ∈ wsL_nearest := by decide +kernel
theorem hl_L_nearest_21 : Cond.classLink RL 21 "java/lang/IndexOutOfBoundsException" ∈ wsL_nearest := by decide +kernel
theorem hl_L_keep_13 : Cond.classLink RL 13 "java/lang/IllegalArgumentException" ∈ wsL_keep := by decide +kernel
theorem hl_L_keep_21 : Cond.classLink RL 21 "java/lang/IndexOutOfBoundsException" ∈ wsL_keep := by decide +kernel
theorem hl_L_kept_13 : Cond.classLink RL 13 "java/lang/IllegalArgumentException" ∈ wsL_kept := by decide +kernel
theorem hl_L_net_13 : Cond.classLink RL 13 "java/lang/IllegalArgumentException" ∈ wsL_net := by decide +kernel
set_option maxHeartbeats 4000000 in
set_option maxRecDepth 100000 in
/-- the law: piece -/
theorem c_L_piece (l : Launch) {D : va_G} {ay : Nat → ClassId} {base : Nat} {Gx : State → Prop} {tE mi : Nat} {ws : va_W} {ax aO : Nat} {fO : Nat → Int64} {n P U : Nat} {d fr to pe uv : Nat → Nat → Nat} {ku ks kt : Nat → Nat} {sk : Nat → Nat → Nat} {wl : Nat} {wp : Nat → Nat} {a : Int32} {b : Int32} {mm : Int32} {sp : Int32} (hl9 : l.stackTraces = false) (hG2 : ∀ U, Gx U → vh_G2 base tE mi U) (hG3 : ∀ U, Gx U → vh_X U) (hS : cw_St ay ws ax tE n P U d fr to pe uv ku ks kt sk wl wp) (h55 : ws[55]? = some (aO, .inl (ay 1, 1, .inr (.inl fO)))) : Met l yL_piece wsL_piece ({ frames := 9, cells := 10, slots := 400, locals := 245 } : Room) (fun a9 s9 => va_Pc [.ref ax, .int a, .int b, .int mm, .int sp, .ref aO] (vg_B D ay base Gx ws) a9 s9 ∧ vs_W s9) (va_Qi (fun r u => hp_piece ay ws ax tE aO fO n P U d fr to pe uv ku ks kt sk wl wp a b mm sp r u) (vg_B D ay base Gx) (vg_A base)) 10 400 (vg_A base) := by
  refine vg_metH (cc := cL_piece) (maxL := 7) (ret := (some .int)) (hh := [(0, 14, 17, 13), (0, 14, 21, 21), (0, 14, 25, 23)]) (own := RL) (lv := [(0, .ref ax), (1, .int a), (2, .int b), (3, .int mm), (4, .int sp), (5, .ref aO)]) (by decide) rfl rfl (Nat.le_of_ble_eq_true rfl) rfl ?_
  intro p e s m args below meth c X hTb hWm9
  obtain ⟨aN, asr, aTs, aWB, el, qp, ua, uq, fb, hSS⟩ := id hS
  have h0 := hSS.1
  have hB := cw_N_b hSS.2.2.1
  refine vg_aload X dL_piece_0 5 rfl ?_
  refine vg_iconst X (nI 0) dL_piece_2 (by decide) ?_
  refine vg_aload_n X dL_piece_3 0 rfl rfl ?_
  refine vg_iload_n X dL_piece_4 1 rfl rfl ?_
  refine vg_iload_n X dL_piece_5 2 rfl rfl ?_
  refine vg_iload_n X dL_piece_6 3 rfl rfl ?_
  refine vg_iload X dL_piece_7 4 rfl ?_
  refine vg_calliC X (vg_runVX X vs_st hWm9 (c_X6_piece l hl9 hG2 hS (a := a) (b := b) (mm := mm) (sp := sp)) (cwV 4 X.2.2.2.2.1 gL_piece_X6_piece rfl rfl rfl (by decide +kernel) ⟨(Nat.le_of_ble_eq_true rfl), (Nat.le_of_ble_eq_true rfl)⟩) 0 h0 rfl rfl rfl (Nat.le_of_ble_eq_true rfl) dL_piece_9 ⟨(Nat.le_of_ble_eq_true rfl), (Nat.le_of_ble_eq_true rfl)⟩) ?_ (fun rr3 wz1 PP2 => ?_)
  · intro E hE
    rcases hE with ⟨rfl, hc⟩ | ⟨rfl, hc⟩ | ⟨rfl, hc⟩
    · skip
      refine ⟨[], ⟨0, 14, 17, 13⟩, [⟨0, 14, 21, 21⟩, ⟨0, 14, 25, 23⟩], "java/lang/IllegalArgumentException", hTb.trans rfl, fun z hz => absurd hz List.not_mem_nil, by decide, by decide, X.2.2.2.2.1 _ hl_L_piece_13, va_Nw.use rfl ((hG3 s X.2.2.2.2.2.2.2.2.2.2).2 _ (by decide +kernel)), fun q9 => ?_⟩
      refine vg_astore X [(6, .ref q9), (0, .ref ax), (1, .int a), (2, .int b), (3, .int mm), (4, .int sp), (5, .ref aO)] dL_piece_17 (by decide) rfl ?_
      refine vg_iconst X (nI 1) dL_piece_19 (by decide) ?_
      exact vg_iret X rfl (Or.inl ⟨rfl, rfl, hc⟩) (Nat.le_of_ble_eq_true rfl) (Nat.le_of_ble_eq_true rfl) dL_piece_20
    · skip
      refine ⟨[⟨0, 14, 17, 13⟩], ⟨0, 14, 21, 21⟩, [⟨0, 14, 25, 23⟩], "java/lang/IndexOutOfBoundsException", hTb.trans rfl, fun z hz => by rw [List.mem_singleton.mp hz]; exact Or.inr ⟨by decide, "java/lang/IllegalArgumentException", X.2.2.2.2.1 _ hl_L_piece_13, (hG3 s X.2.2.2.2.2.2.2.2.2.2).1 ("java/lang/IndexOutOfBoundsException", "java/lang/IllegalArgumentException") (by decide +kernel)⟩, by decide, by decide, X.2.2.2.2.1 _ hl_L_piece_21, va_Nw.use rfl ((hG3 s X.2.2.2.2.2.2.2.2.2.2).2 _ (by decide +kernel)), fun q9 => ?_⟩
      refine vg_astore X [(6, .ref q9), (0, .ref ax), (1, .int a), (2, .int b), (3, .int mm), (4, .int sp), (5, .ref aO)] dL_piece_21 (by decide) rfl ?_
      refine vg_iconst X (nI 2) dL_piece_23 (by decide) ?_
      exact vg_iret X rfl (Or.inr (Or.inl ⟨rfl, rfl, hc⟩)) (Nat.le_of_ble_eq_true rfl) (Nat.le_of_ble_eq_true rfl) dL_piece_24
    · skip
      refine ⟨[⟨0, 14, 17, 13⟩, ⟨0, 14, 21, 21⟩], ⟨0, 14, 25, 23⟩, [], "java/lang/UnsupportedOperationException", hTb.trans rfl, fun z hz => (List.mem_cons.mp hz).elim (fun e9 => by rw [e9]; exact Or.inr ⟨by decide, "java/lang/IllegalArgumentException", X.2.2.2.2.1 _ hl_L_piece_13, (hG3 s X.2.2.2.2.2.2.2.2.2.2).1 ("java/lang/UnsupportedOperationException", "java/lang/IllegalArgumentException") (by decide +kernel)⟩) (fun e8 => by rw [List.mem_singleton.mp e8]; exact Or.inr ⟨by decide, "java/lang/IndexOutOfBoundsException", X.2.2.2.2.1 _ hl_L_piece_21, (hG3 s X.2.2.2.2.2.2.2.2.2.2).1 ("java/lang/UnsupportedOperationException", "java/lang/IndexOutOfBoundsException") (by decide +kernel)⟩), by decide, by decide, X.2.2.2.2.1 _ hl_L_piece_23, va_Nw.use rfl ((hG3 s X.2.2.2.2.2.2.2.2.2.2).2 _ (by decide +kernel)), fun q9 => ?_⟩
      refine vg_astore X [(6, .ref q9), (0, .ref ax), (1, .int a), (2, .int b), (3, .int mm), (4, .int sp), (5, .ref aO)] dL_piece_25 (by decide) rfl ?_
      refine vg_iconst X (nI 3) dL_piece_27 (by decide) ?_
      exact vg_iret X rfl (Or.inr (Or.inr (Or.inl ⟨rfl, rfl, hc⟩))) (Nat.le_of_ble_eq_true rfl) (Nat.le_of_ble_eq_true rfl) dL_piece_28
  · skip
    have hF : cw_fr ws wz1 := by obtain ⟨ax, bx, mx, sx, Eax, Lax, Ebx, Lbx, N, Emx, M1, M2, Esx, S1, PP, S, F, _⟩ := PP2; exact F
    have h551 := (hF.2 55 (by decide) (by decide)).trans h55
    refine vg_i2l X ((rr3).toInt64) dL_piece_12 rfl ?_
    refine vg_last X 55 h551 rfl (by decide) (by decide) dL_piece_13 (fun wz4 ez5 => ?_)
    have fh6 : wz4[55]? = some (aO, .inl (ay 1, 1, .inr (.inl (vp_updL fO 0 ((rr3).toInt64))))) := vg_se ez5 h551
    refine vg_goto X 29 dL_piece_14 (by decide) ?_
    refine vg_iconst X (nI 0) dL_piece_29 (by decide) ?_
    exact vg_iret X rfl (Or.inr (Or.inr (Or.inr ⟨rfl, rr3, wz1, PP2, ez5⟩))) (Nat.le_of_ble_eq_true rfl) (Nat.le_of_ble_eq_true rfl) dL_piece_30
set_option maxHeartbeats 4000000 in
set_option maxRecDepth 100000 in
/-- the law: limit -/
theorem c_L_limit (l : Launch) {D : va_G} {ay : Nat → ClassId} {base : Nat} {Gx : State → Prop} {tE mi : Nat} {ws : va_W} {ax aO : Nat} {fO : Nat → Int64} {n P U : Nat} {d fr to pe uv : Nat → Nat → Nat} {ku ks kt : Nat → Nat} {sk : Nat → Nat → Nat} {wl : Nat} {wp : Nat → Nat} {x : Int32} {w : Int32} {h : Int32} (hl9 : l.stackTraces = false) (hG2 : ∀ U, Gx U → vh_G2 base tE mi U) (hG3 : ∀ U, Gx U → vh_X U) (hS : cw_St ay ws ax tE n P U d fr to pe uv ku ks kt sk wl wp) (h55 : ws[55]? = some (aO, .inl (ay 1, 1, .inr (.inl fO)))) : Met l yL_limit wsL_limit ({ frames := 9, cells := 10, slots := 400, locals := 245 } : Room) (fun a9 s9 => va_Pc [.ref ax, .int x, .int w, .int h, .ref aO] (vg_B D ay base Gx ws) a9 s9 ∧ vs_W s9) (va_Qi (fun r u => hp_limit ay ws ax tE aO fO n P U d fr to pe uv ku ks kt sk wl wp x w h r u) (vg_B D ay base Gx) (vg_A base)) 10 400 (vg_A base) := by
  refine vg_metH (cc := cL_limit) (maxL := 6) (ret := (some .int)) (hh := [(0, 12, 15, 13), (0, 12, 19, 21)]) (own := RL) (lv := [(0, .ref ax), (1, .int x), (2, .int w), (3, .int h), (4, .ref aO)]) (by decide) rfl rfl (Nat.le_of_ble_eq_true rfl) rfl ?_
  intro p e s m args below meth c X hTb hWm9
  obtain ⟨aN, asr, aTs, aWB, el, qp, ua, uq, fb, hSS⟩ := id hS
  have h0 := hSS.1
  have hB := cw_N_b hSS.2.2.1
  refine vg_aload X dL_limit_0 4 rfl ?_
  refine vg_iconst X (nI 0) dL_limit_2 (by decide) ?_
  refine vg_aload_n X dL_limit_3 0 rfl rfl ?_
  refine vg_iload_n X dL_limit_4 1 rfl rfl ?_
  refine vg_iload_n X dL_limit_5 2 rfl rfl ?_
  refine vg_iload_n X dL_limit_6 3 rfl rfl ?_
  refine vg_calliC X (vg_runVX X vs_st hWm9 (c_X6_limit l hl9 hG2 hS (x := x) (w := w) (h := h)) (cwV 3 X.2.2.2.2.1 gL_limit_X6_limit rfl rfl rfl (by decide +kernel) ⟨(Nat.le_of_ble_eq_true rfl), (Nat.le_of_ble_eq_true rfl)⟩) 0 h0 rfl rfl rfl (Nat.le_of_ble_eq_true rfl) dL_limit_7 ⟨(Nat.le_of_ble_eq_true rfl), (Nat.le_of_ble_eq_true rfl)⟩) ?_ (fun rr3 wz1 PP2 => ?_)
  · intro E hE
    rcases hE with ⟨rfl, hc⟩ | ⟨rfl, hc⟩
    · skip
      refine ⟨[], ⟨0, 12, 15, 13⟩, [⟨0, 12, 19, 21⟩], "java/lang/IllegalArgumentException", hTb.trans rfl, fun z hz => absurd hz List.not_mem_nil, by decide, by decide, X.2.2.2.2.1 _ hl_L_limit_13, va_Nw.use rfl ((hG3 s X.2.2.2.2.2.2.2.2.2.2).2 _ (by decide +kernel)), fun q9 => ?_⟩
      refine vg_astore X [(5, .ref q9), (0, .ref ax), (1, .int x), (2, .int w), (3, .int h), (4, .ref aO)] dL_limit_15 (by decide) rfl ?_
      refine vg_iconst X (nI 1) dL_limit_17 (by decide) ?_
      exact vg_iret X rfl (Or.inl ⟨rfl, rfl, hc⟩) (Nat.le_of_ble_eq_true rfl) (Nat.le_of_ble_eq_true rfl) dL_limit_18
    · skip
      refine ⟨[⟨0, 12, 15, 13⟩], ⟨0, 12, 19, 21⟩, [], "java/lang/IndexOutOfBoundsException", hTb.trans rfl, fun z hz => by rw [List.mem_singleton.mp hz]; exact Or.inr ⟨by decide, "java/lang/IllegalArgumentException", X.2.2.2.2.1 _ hl_L_limit_13, (hG3 s X.2.2.2.2.2.2.2.2.2.2).1 ("java/lang/IndexOutOfBoundsException", "java/lang/IllegalArgumentException") (by decide +kernel)⟩, by decide, by decide, X.2.2.2.2.1 _ hl_L_limit_21, va_Nw.use rfl ((hG3 s X.2.2.2.2.2.2.2.2.2.2).2 _ (by decide +kernel)), fun q9 => ?_⟩
      refine vg_astore X [(5, .ref q9), (0, .ref ax), (1, .int x), (2, .int w), (3, .int h), (4, .ref aO)] dL_limit_19 (by decide) rfl ?_
      refine vg_iconst X (nI 2) dL_limit_21 (by decide) ?_
      exact vg_iret X rfl (Or.inr (Or.inl ⟨rfl, rfl, hc⟩)) (Nat.le_of_ble_eq_true rfl) (Nat.le_of_ble_eq_true rfl) dL_limit_22
  · skip
    have hF : cw_fr ws wz1 := by obtain ⟨ix, wx, hx, Eix, Lix, Ewx, L2, Ehx, L3, S, F, _⟩ := PP2; exact F
    have h551 := (hF.2 55 (by decide) (by decide)).trans h55
    refine vg_i2l X ((rr3).toInt64) dL_limit_10 rfl ?_
    refine vg_last X 55 h551 rfl (by decide) (by decide) dL_limit_11 (fun wz4 ez5 => ?_)
    have fh6 : wz4[55]? = some (aO, .inl (ay 1, 1, .inr (.inl (vp_updL fO 0 ((rr3).toInt64))))) := vg_se ez5 h551
    refine vg_goto X 23 dL_limit_12 (by decide) ?_
    refine vg_iconst X (nI 0) dL_limit_23 (by decide) ?_
    exact vg_iret X rfl (Or.inr (Or.inr ⟨rfl, rr3, wz1, PP2, ez5⟩)) (Nat.le_of_ble_eq_true rfl) (Nat.le_of_ble_eq_true rfl) dL_limit_24
set_option maxHeartbeats 4000000 in
set_option maxRecDepth 100000 in
/-- the law: slow -/
theorem c_L_slow (l : Launch) {D : va_G} {ay : Nat → ClassId} {base : Nat} {Gx : State → Prop} {tE mi : Nat} {ws : va_W} {ax aO : Nat} {fO : Nat → Int64} {n P U : Nat} {d fr to pe uv : Nat → Nat → Nat} {ku ks kt : Nat → Nat} {sk : Nat → Nat → Nat} {wl : Nat} {wp : Nat → Nat} {x : Int32} {f : Int32} {t : Int32} {w : Int32} (hl9 : l.stackTraces = false) (hG2 : ∀ U, Gx U → vh_G2 base tE mi U) (hG3 : ∀ U, Gx U → vh_X U) (hS : cw_St ay ws ax tE n P U d fr to pe uv ku ks kt sk wl wp) (h55 : ws[55]? = some (aO, .inl (ay 1, 1, .inr (.inl fO)))) : Met l yL_slow wsL_slow ({ frames := 9, cells := 10, slots := 400, locals := 245 } : Room) (fun a9 s9 => va_Pc [.ref ax, .int x, .int f, .int t, .int w, .ref aO] (vg_B D ay base Gx ws) a9 s9 ∧ vs_W s9) (va_Qi (fun r u => hp_slow ay ws ax tE aO fO n P U d fr to pe uv ku ks kt sk wl wp x f t w r u) (vg_B D ay base Gx) (vg_A base)) 10 400 (vg_A base) := by
  refine vg_metH (cc := cL_slow) (maxL := 7) (ret := (some .int)) (hh := [(0, 14, 17, 13), (0, 14, 21, 21), (0, 14, 25, 23)]) (own := RL) (lv := [(0, .ref ax), (1, .int x), (2, .int f), (3, .int t), (4, .int w), (5, .ref aO)]) (by decide) rfl rfl (Nat.le_of_ble_eq_true rfl) rfl ?_
  intro p e s m args below meth c X hTb hWm9
  obtain ⟨aN, asr, aTs, aWB, el, qp, ua, uq, fb, hSS⟩ := id hS
  have h0 := hSS.1
  have hB := cw_N_b hSS.2.2.1
  refine vg_aload X dL_slow_0 5 rfl ?_
  refine vg_iconst X (nI 0) dL_slow_2 (by decide) ?_
  refine vg_aload_n X dL_slow_3 0 rfl rfl ?_
  refine vg_iload_n X dL_slow_4 1 rfl rfl ?_
  refine vg_iload_n X dL_slow_5 2 rfl rfl ?_
  refine vg_iload_n X dL_slow_6 3 rfl rfl ?_
  refine vg_iload X dL_slow_7 4 rfl ?_
  refine vg_calliC X (vg_runVX X vs_st hWm9 (c_X6_slow l hl9 hG2 hS (x := x) (f := f) (t := t) (w := w)) (cwV 4 X.2.2.2.2.1 gL_slow_X6_slow rfl rfl rfl (by decide +kernel) ⟨(Nat.le_of_ble_eq_true rfl), (Nat.le_of_ble_eq_true rfl)⟩) 0 h0 rfl rfl rfl (Nat.le_of_ble_eq_true rfl) dL_slow_9 ⟨(Nat.le_of_ble_eq_true rfl), (Nat.le_of_ble_eq_true rfl)⟩) ?_ (fun rr3 wz1 PP2 => ?_)
  · intro E hE
    rcases hE with ⟨rfl, hc⟩ | ⟨rfl, hc⟩ | ⟨rfl, hc⟩
    · skip
      refine ⟨[], ⟨0, 14, 17, 13⟩, [⟨0, 14, 21, 21⟩, ⟨0, 14, 25, 23⟩], "java/lang/IllegalArgumentException", hTb.trans rfl, fun z hz => absurd hz List.not_mem_nil, by decide, by decide, X.2.2.2.2.1 _ hl_L_slow_13, va_Nw.use rfl ((hG3 s X.2.2.2.2.2.2.2.2.2.2).2 _ (by decide +kernel)), fun q9 => ?_⟩
      refine vg_astore X [(6, .ref q9), (0, .ref ax), (1, .int x), (2, .int f), (3, .int t), (4, .int w), (5, .ref aO)] dL_slow_17 (by decide) rfl ?_
      refine vg_iconst X (nI 1) dL_slow_19 (by decide) ?_
      exact vg_iret X rfl (Or.inl ⟨rfl, rfl, hc⟩) (Nat.le_of_ble_eq_true rfl) (Nat.le_of_ble_eq_true rfl) dL_slow_20
    · skip
      refine ⟨[⟨0, 14, 17, 13⟩], ⟨0, 14, 21, 21⟩, [⟨0, 14, 25, 23⟩], "java/lang/IndexOutOfBoundsException", hTb.trans rfl, fun z hz => by rw [List.mem_singleton.mp hz]; exact Or.inr ⟨by decide, "java/lang/IllegalArgumentException", X.2.2.2.2.1 _ hl_L_slow_13, (hG3 s X.2.2.2.2.2.2.2.2.2.2).1 ("java/lang/IndexOutOfBoundsException", "java/lang/IllegalArgumentException") (by decide +kernel)⟩, by decide, by decide, X.2.2.2.2.1 _ hl_L_slow_21, va_Nw.use rfl ((hG3 s X.2.2.2.2.2.2.2.2.2.2).2 _ (by decide +kernel)), fun q9 => ?_⟩
      refine vg_astore X [(6, .ref q9), (0, .ref ax), (1, .int x), (2, .int f), (3, .int t), (4, .int w), (5, .ref aO)] dL_slow_21 (by decide) rfl ?_
      refine vg_iconst X (nI 2) dL_slow_23 (by decide) ?_
      exact vg_iret X rfl (Or.inr (Or.inl ⟨rfl, rfl, hc⟩)) (Nat.le_of_ble_eq_true rfl) (Nat.le_of_ble_eq_true rfl) dL_slow_24
    · skip
      refine ⟨[⟨0, 14, 17, 13⟩, ⟨0, 14, 21, 21⟩], ⟨0, 14, 25, 23⟩, [], "java/lang/UnsupportedOperationException", hTb.trans rfl, fun z hz => (List.mem_cons.mp hz).elim (fun e9 => by rw [e9]; exact Or.inr ⟨by decide, "java/lang/IllegalArgumentException", X.2.2.2.2.1 _ hl_L_slow_13, (hG3 s X.2.2.2.2.2.2.2.2.2.2).1 ("java/lang/UnsupportedOperationException", "java/lang/IllegalArgumentException") (by decide +kernel)⟩) (fun e8 => by rw [List.mem_singleton.mp e8]; exact Or.inr ⟨by decide, "java/lang/IndexOutOfBoundsException", X.2.2.2.2.1 _ hl_L_slow_21, (hG3 s X.2.2.2.2.2.2.2.2.2.2).1 ("java/lang/UnsupportedOperationException", "java/lang/IndexOutOfBoundsException") (by decide +kernel)⟩), by decide, by decide, X.2.2.2.2.1 _ hl_L_slow_23, va_Nw.use rfl ((hG3 s X.2.2.2.2.2.2.2.2.2.2).2 _ (by decide +kernel)), fun q9 => ?_⟩
      refine vg_astore X [(6, .ref q9), (0, .ref ax), (1, .int x), (2, .int f), (3, .int t), (4, .int w), (5, .ref aO)] dL_slow_25 (by decide) rfl ?_
      refine vg_iconst X (nI 3) dL_slow_27 (by decide) ?_
      exact vg_iret X rfl (Or.inr (Or.inr (Or.inl ⟨rfl, rfl, ⟨hc.1, hc.2.1, no_in hB.2.1 hc.2.2⟩⟩))) (Nat.le_of_ble_eq_true rfl) (Nat.le_of_ble_eq_true rfl) dL_slow_28
  · skip
    have hF : cw_fr ws wz1 := by obtain ⟨ix, fx, tx, px, Eix, Lix, Efx, Lfx, Etx, T1, T2, Epx, P1, P2, D7, S, F, _⟩ := PP2; exact F
    have h551 := (hF.2 55 (by decide) (by decide)).trans h55
    refine vg_i2l X ((rr3).toInt64) dL_slow_12 rfl ?_
    refine vg_last X 55 h551 rfl (by decide) (by decide) dL_slow_13 (fun wz4 ez5 => ?_)
    have fh6 : wz4[55]? = some (aO, .inl (ay 1, 1, .inr (.inl (vp_updL fO 0 ((rr3).toInt64))))) := vg_se ez5 h551
    refine vg_goto X 29 dL_slow_14 (by decide) ?_
    refine vg_iconst X (nI 0) dL_slow_29 (by decide) ?_
    exact vg_iret X rfl (Or.inr (Or.inr (Or.inr ⟨rfl, rr3, wz1, PP2, ez5⟩))) (Nat.le_of_ble_eq_true rfl) (Nat.le_of_ble_eq_true rfl) dL_slow_30
set_option maxHeartbeats 4000000 in
set_option maxRecDepth 100000 in
/-- the law: close -/
theorem c_L_close (l : Launch) {D : va_G} {ay : Nat → ClassId} {base : Nat} {Gx : State → Prop} {tE mi : Nat} {ws : va_W} {ax aO : Nat} {fO : Nat → Int64} {n P U : Nat} {d fr to pe uv : Nat → Nat → Nat} {ku ks kt : Nat → Nat} {sk : Nat → Nat → Nat} {wl : Nat} {wp : Nat → Nat} {x : Int32} {on : Nat} (hl9 : l.stackTraces = false) (hG2 : ∀ U, Gx U → vh_G2 base tE mi U) (hG3 : ∀ U, Gx U → vh_X U) (hS : cw_St ay ws ax tE n P U d fr to pe uv ku ks kt sk wl wp) (h55 : ws[55]? = some (aO, .inl (ay 1, 1, .inr (.inl fO)))) (hon : on ≤ 1) : Met l yL_close wsL_close ({ frames := 9, cells := 10, slots := 400, locals := 245 } : Room) (fun a9 s9 => va_Pc [.ref ax, .int x, .int (nI on), .ref aO] (vg_B D ay base Gx ws) a9 s9 ∧ vs_W s9) (va_Qi (fun r u => hp_close ay ws ax tE aO fO n P U d fr to pe uv ku ks kt sk wl wp x on r u) (vg_B D ay base Gx) (vg_A base)) 10 400 (vg_A base) := by
  refine vg_metH (cc := cL_close) (maxL := 5) (ret := (some .int)) (hh := [(0, 10, 13, 13), (0, 10, 17, 36)]) (own := RL) (lv := [(0, .ref ax), (1, .int x), (2, .int (nI on)), (3, .ref aO)]) (by decide) rfl rfl (Nat.le_of_ble_eq_true rfl) rfl ?_
  intro p e s m args below meth c X hTb hWm9
  obtain ⟨aN, asr, aTs, aWB, el, qp, ua, uq, fb, hSS⟩ := id hS
  have h0 := hSS.1
  have hB := cw_N_b hSS.2.2.1
  refine vg_aload_n X dL_close_0 3 rfl rfl ?_
  refine vg_iconst X (nI 0) dL_close_1 (by decide) ?_
  refine vg_aload_n X dL_close_2 0 rfl rfl ?_
  refine vg_iload_n X dL_close_3 1 rfl rfl ?_
  refine vg_iload_n X dL_close_4 2 rfl rfl ?_
  refine vg_calliC X (vg_runVX X vs_st hWm9 (c_X6_close l (on := on) (x := x) hon hl9 hG2 hS) (cwV 2 X.2.2.2.2.1 gL_close_X6_close rfl rfl rfl (by decide +kernel) ⟨(Nat.le_of_ble_eq_true rfl), (Nat.le_of_ble_eq_true rfl)⟩) 0 h0 rfl rfl rfl (Nat.le_of_ble_eq_true rfl) dL_close_5 ⟨(Nat.le_of_ble_eq_true rfl), (Nat.le_of_ble_eq_true rfl)⟩) ?_ (fun rr3 wz1 PP2 => ?_)
  · intro E hE
    rcases hE with ⟨rfl, hc⟩ | ⟨rfl, hc⟩
    · skip
      refine ⟨[], ⟨0, 10, 13, 13⟩, [⟨0, 10, 17, 36⟩], "java/lang/IllegalArgumentException", hTb.trans rfl, fun z hz => absurd hz List.not_mem_nil, by decide, by decide, X.2.2.2.2.1 _ hl_L_close_13, va_Nw.use rfl ((hG3 s X.2.2.2.2.2.2.2.2.2.2).2 _ (by decide +kernel)), fun q9 => ?_⟩
      refine vg_astore X [(4, .ref q9), (0, .ref ax), (1, .int x), (2, .int (nI on)), (3, .ref aO)] dL_close_13 (by decide) rfl ?_
      refine vg_iconst X (nI 1) dL_close_15 (by decide) ?_
      exact vg_iret X rfl (Or.inl ⟨rfl, rfl, hc⟩) (Nat.le_of_ble_eq_true rfl) (Nat.le_of_ble_eq_true rfl) dL_close_16
    · skip
      refine ⟨[⟨0, 10, 13, 13⟩], ⟨0, 10, 17, 36⟩, [], "java/lang/IllegalStateException", hTb.trans rfl, fun z hz => by rw [List.mem_singleton.mp hz]; exact Or.inr ⟨by decide, "java/lang/IllegalArgumentException", X.2.2.2.2.1 _ hl_L_close_13, (hG3 s X.2.2.2.2.2.2.2.2.2.2).1 ("java/lang/IllegalStateException", "java/lang/IllegalArgumentException") (by decide +kernel)⟩, by decide, by decide, X.2.2.2.2.1 _ hl_L_close_36, va_Nw.use rfl ((hG3 s X.2.2.2.2.2.2.2.2.2.2).2 _ (by decide +kernel)), fun q9 => ?_⟩
      refine vg_astore X [(4, .ref q9), (0, .ref ax), (1, .int x), (2, .int (nI on)), (3, .ref aO)] dL_close_17 (by decide) rfl ?_
      refine vg_iconst X (nI 2) dL_close_19 (by decide) ?_
      exact vg_iret X rfl (Or.inr (Or.inl ⟨rfl, rfl, ⟨(hc.imp (fun i h => ⟨h.2.1, h.1⟩)), no_in hB.2.1 (hc.imp (fun i h => ⟨h.1, h.2.1, fun z => z h.2.2⟩))⟩⟩)) (Nat.le_of_ble_eq_true rfl) (Nat.le_of_ble_eq_true rfl) dL_close_20
  · skip
    have hF : cw_fr ws wz1 := by obtain ⟨ix, Eix, Lix, N, S, F, _⟩ := PP2; exact F
    have h551 := (hF.2 55 (by decide) (by decide)).trans h55
    refine vg_i2l X ((rr3).toInt64) dL_close_8 rfl ?_
    refine vg_last X 55 h551 rfl (by decide) (by decide) dL_close_9 (fun wz4 ez5 => ?_)
    have fh6 : wz4[55]? = some (aO, .inl (ay 1, 1, .inr (.inl (vp_updL fO 0 ((rr3).toInt64))))) := vg_se ez5 h551
    refine vg_goto X 21 dL_close_10 (by decide) ?_
    refine vg_iconst X (nI 0) dL_close_21 (by decide) ?_
    exact vg_iret X rfl (Or.inr (Or.inr ⟨rfl, rr3, wz1, PP2, ez5⟩)) (Nat.le_of_ble_eq_true rfl) (Nat.le_of_ble_eq_true rfl) dL_close_22
set_option maxHeartbeats 4000000 in
set_option maxRecDepth 100000 in
/-- the law: speed -/
theorem c_L_speed (l : Launch) {D : va_G} {ay : Nat → ClassId} {base : Nat} {Gx : State → Prop} {tE mi : Nat} {ws : va_W} {ax aO : Nat} {fO : Nat → Int64} {n P U : Nat} {d fr to pe uv : Nat → Nat → Nat} {ku ks kt : Nat → Nat} {sk : Nat → Nat → Nat} {wl : Nat} {wp : Nat → Nat} {x : Int32} {w : Int32} (hl9 : l.stackTraces = false) (hG2 : ∀ U, Gx U → vh_G2 base tE mi U) (hG3 : ∀ U, Gx U → vh_X U) (hS : cw_St ay ws ax tE n P U d fr to pe uv ku ks kt sk wl wp) (h55 : ws[55]? = some (aO, .inl (ay 1, 1, .inr (.inl fO)))) : Met l yL_speed wsL_speed ({ frames := 9, cells := 10, slots := 400, locals := 245 } : Room) (fun a9 s9 => va_Pc [.ref ax, .int x, .int w, .ref aO] (vg_B D ay base Gx ws) a9 s9 ∧ vs_W s9) (va_Qi (fun r u => hp_speed ay ws ax tE aO fO n P U d fr to pe uv ku ks kt sk wl wp x w r u) (vg_B D ay base Gx) (vg_A base)) 10 400 (vg_A base) := by
  refine vg_metH (cc := cL_speed) (maxL := 5) (ret := (some .int)) (hh := [(0, 10, 13, 13), (0, 10, 17, 21)]) (own := RL) (lv := [(0, .ref ax), (1, .int x), (2, .int w), (3, .ref aO)]) (by decide) rfl rfl (Nat.le_of_ble_eq_true rfl) rfl ?_
  intro p e s m args below meth c X hTb hWm9
  obtain ⟨aN, asr, aTs, aWB, el, qp, ua, uq, fb, hSS⟩ := id hS
  have h0 := hSS.1
  have hB := cw_N_b hSS.2.2.1
  refine vg_aload_n X dL_speed_0 3 rfl rfl ?_
  refine vg_iconst X (nI 0) dL_speed_1 (by decide) ?_
  refine vg_aload_n X dL_speed_2 0 rfl rfl ?_
  refine vg_iload_n X dL_speed_3 1 rfl rfl ?_
  refine vg_iload_n X dL_speed_4 2 rfl rfl ?_
  refine vg_calliC X (vg_runVX X vs_st hWm9 (c_X6_speed l hl9 hG2 hS (x := x) (w := w)) (cwV 2 X.2.2.2.2.1 gL_speed_X6_speed rfl rfl rfl (by decide +kernel) ⟨(Nat.le_of_ble_eq_true rfl), (Nat.le_of_ble_eq_true rfl)⟩) 0 h0 rfl rfl rfl (Nat.le_of_ble_eq_true rfl) dL_speed_5 ⟨(Nat.le_of_ble_eq_true rfl), (Nat.le_of_ble_eq_true rfl)⟩) ?_ (fun rr3 wz1 PP2 => ?_)
  · intro E hE
    rcases hE with ⟨rfl, hc⟩ | ⟨rfl, hc⟩
    · skip
      refine ⟨[], ⟨0, 10, 13, 13⟩, [⟨0, 10, 17, 21⟩], "java/lang/IllegalArgumentException", hTb.trans rfl, fun z hz => absurd hz List.not_mem_nil, by decide, by decide, X.2.2.2.2.1 _ hl_L_speed_13, va_Nw.use rfl ((hG3 s X.2.2.2.2.2.2.2.2.2.2).2 _ (by decide +kernel)), fun q9 => ?_⟩
      refine vg_astore X [(4, .ref q9), (0, .ref ax), (1, .int x), (2, .int w), (3, .ref aO)] dL_speed_13 (by decide) rfl ?_
      refine vg_iconst X (nI 1) dL_speed_15 (by decide) ?_
      exact vg_iret X rfl (Or.inl ⟨rfl, rfl, hc⟩) (Nat.le_of_ble_eq_true rfl) (Nat.le_of_ble_eq_true rfl) dL_speed_16
    · skip
      refine ⟨[⟨0, 10, 13, 13⟩], ⟨0, 10, 17, 21⟩, [], "java/lang/IndexOutOfBoundsException", hTb.trans rfl, fun z hz => by rw [List.mem_singleton.mp hz]; exact Or.inr ⟨by decide, "java/lang/IllegalArgumentException", X.2.2.2.2.1 _ hl_L_speed_13, (hG3 s X.2.2.2.2.2.2.2.2.2.2).1 ("java/lang/IndexOutOfBoundsException", "java/lang/IllegalArgumentException") (by decide +kernel)⟩, by decide, by decide, X.2.2.2.2.1 _ hl_L_speed_21, va_Nw.use rfl ((hG3 s X.2.2.2.2.2.2.2.2.2.2).2 _ (by decide +kernel)), fun q9 => ?_⟩
      refine vg_astore X [(4, .ref q9), (0, .ref ax), (1, .int x), (2, .int w), (3, .ref aO)] dL_speed_17 (by decide) rfl ?_
      refine vg_iconst X (nI 2) dL_speed_19 (by decide) ?_
      exact vg_iret X rfl (Or.inr (Or.inl ⟨rfl, rfl, hc⟩)) (Nat.le_of_ble_eq_true rfl) (Nat.le_of_ble_eq_true rfl) dL_speed_20
  · skip
    have hF : cw_fr ws wz1 := by obtain ⟨ix, wx, Eix, Lix, Ewx, L2, S, F, _⟩ := PP2; exact F
    have h551 := (hF.2 55 (by decide) (by decide)).trans h55
    refine vg_i2l X ((rr3).toInt64) dL_speed_8 rfl ?_
    refine vg_last X 55 h551 rfl (by decide) (by decide) dL_speed_9 (fun wz4 ez5 => ?_)
    have fh6 : wz4[55]? = some (aO, .inl (ay 1, 1, .inr (.inl (vp_updL fO 0 ((rr3).toInt64))))) := vg_se ez5 h551
    refine vg_goto X 21 dL_speed_10 (by decide) ?_
    refine vg_iconst X (nI 0) dL_speed_21 (by decide) ?_
    exact vg_iret X rfl (Or.inr (Or.inr ⟨rfl, rr3, wz1, PP2, ez5⟩)) (Nat.le_of_ble_eq_true rfl) (Nat.le_of_ble_eq_true rfl) dL_speed_22
set_option maxHeartbeats 4000000 in
set_option maxRecDepth 100000 in
/-- the law: unit -/
theorem c_L_unit (l : Launch) {D : va_G} {ay : Nat → ClassId} {base : Nat} {Gx : State → Prop} {tE mi : Nat} {ws : va_W} {ax aO : Nat} {fO : Nat → Int64} {n P U : Nat} {d fr to pe uv : Nat → Nat → Nat} {ku ks kt : Nat → Nat} {sk : Nat → Nat → Nat} {wl : Nat} {wp : Nat → Nat} {v : Int32} {w : Int32} {h : Int32} {pf : Int32} {qf : Int32} (hl9 : l.stackTraces = false) (hG2 : ∀ U, Gx U → vh_G2 base tE mi U) (hG3 : ∀ U, Gx U → vh_X U) (hS : cw_St ay ws ax tE n P U d fr to pe uv ku ks kt sk wl wp) (h55 : ws[55]? = some (aO, .inl (ay 1, 1, .inr (.inl fO)))) : Met l yL_unit wsL_unit ({ frames := 9, cells := 10, slots := 400, locals := 245 } : Room) (fun a9 s9 => va_Pc [.ref ax, .int v, .int w, .int h, .int pf, .int qf, .ref aO] (vg_B D ay base Gx ws) a9 s9 ∧ vs_W s9) (va_Qi (fun r u => hp_unit ay ws ax tE aO fO n P U d fr to pe uv ku ks kt sk wl wp v w h pf qf r u) (vg_B D ay base Gx) (vg_A base)) 10 400 (vg_A base) := by
  refine vg_metH (cc := cL_unit) (maxL := 8) (ret := (some .int)) (hh := [(0, 16, 19, 13), (0, 16, 23, 21), (0, 16, 27, 23)]) (own := RL) (lv := [(0, .ref ax), (1, .int v), (2, .int w), (3, .int h), (4, .int pf), (5, .int qf), (6, .ref aO)]) (by decide) rfl rfl (Nat.le_of_ble_eq_true rfl) rfl ?_
  intro p e s m args below meth c X hTb hWm9
  obtain ⟨aN, asr, aTs, aWB, el, qp, ua, uq, fb, hSS⟩ := id hS
  have h0 := hSS.1
  have hB := cw_N_b hSS.2.2.1
  refine vg_aload X dL_unit_0 6 rfl ?_
  refine vg_iconst X (nI 0) dL_unit_2 (by decide) ?_
  refine vg_aload_n X dL_unit_3 0 rfl rfl ?_
  refine vg_iload_n X dL_unit_4 1 rfl rfl ?_
  refine vg_iload_n X dL_unit_5 2 rfl rfl ?_
  refine vg_iload_n X dL_unit_6 3 rfl rfl ?_
  refine vg_iload X dL_unit_7 4 rfl ?_
  refine vg_iload X dL_unit_9 5 rfl ?_
  refine vg_calliC X (vg_runVX X vs_st hWm9 (c_X6_unit l hl9 hG2 hS (v := v) (w := w) (h := h) (pf := pf) (qf := qf)) (cwV 5 X.2.2.2.2.1 gL_unit_X6_unit rfl rfl rfl (by decide +kernel) ⟨(Nat.le_of_ble_eq_true rfl), (Nat.le_of_ble_eq_true rfl)⟩) 0 h0 rfl rfl rfl (Nat.le_of_ble_eq_true rfl) dL_unit_11 ⟨(Nat.le_of_ble_eq_true rfl), (Nat.le_of_ble_eq_true rfl)⟩) ?_ (fun rr3 wz1 PP2 => ?_)
  · intro E hE
    rcases hE with ⟨rfl, hc⟩ | ⟨rfl, hc⟩ | ⟨rfl, hc⟩
    · skip
      refine ⟨[], ⟨0, 16, 19, 13⟩, [⟨0, 16, 23, 21⟩, ⟨0, 16, 27, 23⟩], "java/lang/IllegalArgumentException", hTb.trans rfl, fun z hz => absurd hz List.not_mem_nil, by decide, by decide, X.2.2.2.2.1 _ hl_L_unit_13, va_Nw.use rfl ((hG3 s X.2.2.2.2.2.2.2.2.2.2).2 _ (by decide +kernel)), fun q9 => ?_⟩
      refine vg_astore X [(7, .ref q9), (0, .ref ax), (1, .int v), (2, .int w), (3, .int h), (4, .int pf), (5, .int qf), (6, .ref aO)] dL_unit_19 (by decide) rfl ?_
      refine vg_iconst X (nI 1) dL_unit_21 (by decide) ?_
      exact vg_iret X rfl (Or.inl ⟨rfl, rfl, hc⟩) (Nat.le_of_ble_eq_true rfl) (Nat.le_of_ble_eq_true rfl) dL_unit_22
    · skip
      refine ⟨[⟨0, 16, 19, 13⟩], ⟨0, 16, 23, 21⟩, [⟨0, 16, 27, 23⟩], "java/lang/IndexOutOfBoundsException", hTb.trans rfl, fun z hz => by rw [List.mem_singleton.mp hz]; exact Or.inr ⟨by decide, "java/lang/IllegalArgumentException", X.2.2.2.2.1 _ hl_L_unit_13, (hG3 s X.2.2.2.2.2.2.2.2.2.2).1 ("java/lang/IndexOutOfBoundsException", "java/lang/IllegalArgumentException") (by decide +kernel)⟩, by decide, by decide, X.2.2.2.2.1 _ hl_L_unit_21, va_Nw.use rfl ((hG3 s X.2.2.2.2.2.2.2.2.2.2).2 _ (by decide +kernel)), fun q9 => ?_⟩
      refine vg_astore X [(7, .ref q9), (0, .ref ax), (1, .int v), (2, .int w), (3, .int h), (4, .int pf), (5, .int qf), (6, .ref aO)] dL_unit_23 (by decide) rfl ?_
      refine vg_iconst X (nI 2) dL_unit_25 (by decide) ?_
      exact vg_iret X rfl (Or.inr (Or.inl ⟨rfl, rfl, hc⟩)) (Nat.le_of_ble_eq_true rfl) (Nat.le_of_ble_eq_true rfl) dL_unit_26
    · skip
      refine ⟨[⟨0, 16, 19, 13⟩, ⟨0, 16, 23, 21⟩], ⟨0, 16, 27, 23⟩, [], "java/lang/UnsupportedOperationException", hTb.trans rfl, fun z hz => (List.mem_cons.mp hz).elim (fun e9 => by rw [e9]; exact Or.inr ⟨by decide, "java/lang/IllegalArgumentException", X.2.2.2.2.1 _ hl_L_unit_13, (hG3 s X.2.2.2.2.2.2.2.2.2.2).1 ("java/lang/UnsupportedOperationException", "java/lang/IllegalArgumentException") (by decide +kernel)⟩) (fun e8 => by rw [List.mem_singleton.mp e8]; exact Or.inr ⟨by decide, "java/lang/IndexOutOfBoundsException", X.2.2.2.2.1 _ hl_L_unit_21, (hG3 s X.2.2.2.2.2.2.2.2.2.2).1 ("java/lang/UnsupportedOperationException", "java/lang/IndexOutOfBoundsException") (by decide +kernel)⟩), by decide, by decide, X.2.2.2.2.1 _ hl_L_unit_23, va_Nw.use rfl ((hG3 s X.2.2.2.2.2.2.2.2.2.2).2 _ (by decide +kernel)), fun q9 => ?_⟩
      refine vg_astore X [(7, .ref q9), (0, .ref ax), (1, .int v), (2, .int w), (3, .int h), (4, .int pf), (5, .int qf), (6, .ref aO)] dL_unit_27 (by decide) rfl ?_
      refine vg_iconst X (nI 3) dL_unit_29 (by decide) ?_
      exact vg_iret X rfl (Or.inr (Or.inr (Or.inl ⟨rfl, rfl, hc⟩))) (Nat.le_of_ble_eq_true rfl) (Nat.le_of_ble_eq_true rfl) dL_unit_30
  · skip
    have hF : cw_fr ws wz1 := by obtain ⟨vx, wx, hx, px, qx, Evx, Lvx, Ewx, L2, Ehx, L3, Epx, P1, P2, Eqx, Q1, Q2, UU, S, F, _⟩ := PP2; exact F
    have h551 := (hF.2 55 (by decide) (by decide)).trans h55
    refine vg_i2l X ((rr3).toInt64) dL_unit_14 rfl ?_
    refine vg_last X 55 h551 rfl (by decide) (by decide) dL_unit_15 (fun wz4 ez5 => ?_)
    have fh6 : wz4[55]? = some (aO, .inl (ay 1, 1, .inr (.inl (vp_updL fO 0 ((rr3).toInt64))))) := vg_se ez5 h551
    refine vg_goto X 31 dL_unit_16 (by decide) ?_
    refine vg_iconst X (nI 0) dL_unit_31 (by decide) ?_
    exact vg_iret X rfl (Or.inr (Or.inr (Or.inr ⟨rfl, rr3, wz1, PP2, ez5⟩))) (Nat.le_of_ble_eq_true rfl) (Nat.le_of_ble_eq_true rfl) dL_unit_32
set_option maxHeartbeats 4000000 in
set_option maxRecDepth 100000 in
/-- the law: stand -/
theorem c_L_stand (l : Launch) {D : va_G} {ay : Nat → ClassId} {base : Nat} {Gx : State → Prop} {tE mi : Nat} {ws : va_W} {ax aO : Nat} {fO : Nat → Int64} {n P U : Nat} {d fr to pe uv : Nat → Nat → Nat} {ku ks kt : Nat → Nat} {sk : Nat → Nat → Nat} {wl : Nat} {wp : Nat → Nat} {y : Int32} {x : Int32} (hl9 : l.stackTraces = false) (hG2 : ∀ U, Gx U → vh_G2 base tE mi U) (hG3 : ∀ U, Gx U → vh_X U) (hS : cw_St ay ws ax tE n P U d fr to pe uv ku ks kt sk wl wp) (h55 : ws[55]? = some (aO, .inl (ay 1, 1, .inr (.inl fO)))) : Met l yL_stand wsL_stand ({ frames := 9, cells := 10, slots := 400, locals := 245 } : Room) (fun a9 s9 => va_Pc [.ref ax, .int y, .int x] (vg_B D ay base Gx ws) a9 s9 ∧ vs_W s9) (va_Qi (fun r u => hp_stand ay ws ax tE aO fO n P U d fr to pe uv ku ks kt sk wl wp y x r u) (vg_B D ay base Gx) (vg_A base)) 10 400 (vg_A base) := by
  refine vg_metH (cc := cL_stand) (maxL := 4) (ret := (some .int)) (hh := [(0, 6, 9, 13)]) (own := RL) (lv := [(0, .ref ax), (1, .int y), (2, .int x)]) (by decide) rfl rfl (Nat.le_of_ble_eq_true rfl) rfl ?_
  intro p e s m args below meth c X hTb hWm9
  obtain ⟨aN, asr, aTs, aWB, el, qp, ua, uq, fb, hSS⟩ := id hS
  have h0 := hSS.1
  have hB := cw_N_b hSS.2.2.1
  refine vg_aload_n X dL_stand_0 0 rfl rfl ?_
  refine vg_iload_n X dL_stand_1 1 rfl rfl ?_
  refine vg_iload_n X dL_stand_2 2 rfl rfl ?_
  refine vg_callvC X (vg_runVX X vs_st hWm9 (c_X6_stand l hl9 hG2 hS (y := y) (x := x)) (cwV 2 X.2.2.2.2.1 gL_stand_X6_stand rfl rfl rfl (by decide +kernel) ⟨(Nat.le_of_ble_eq_true rfl), (Nat.le_of_ble_eq_true rfl)⟩) 0 h0 rfl rfl rfl (Nat.le_of_ble_eq_true rfl) dL_stand_3 ⟨(Nat.le_of_ble_eq_true rfl), (Nat.le_of_ble_eq_true rfl)⟩) ?_ (fun wz1 PP2 => ?_)
  · intro E hE
    obtain ⟨rfl, hc⟩ := hE
    refine ⟨[], ⟨0, 6, 9, 13⟩, [], "java/lang/IllegalArgumentException", hTb.trans rfl, fun z hz => absurd hz List.not_mem_nil, by decide, by decide, X.2.2.2.2.1 _ hl_L_stand_13, va_Nw.use rfl ((hG3 s X.2.2.2.2.2.2.2.2.2.2).2 _ (by decide +kernel)), fun q9 => ?_⟩
    refine vg_astore_n X [(3, .ref q9), (0, .ref ax), (1, .int y), (2, .int x)] dL_stand_9 rfl (by decide) rfl ?_
    refine vg_iconst X (nI 1) dL_stand_10 (by decide) ?_
    exact vg_iret X rfl (Or.inl ⟨rfl, rfl, hc⟩) (Nat.le_of_ble_eq_true rfl) (Nat.le_of_ble_eq_true rfl) dL_stand_11
  · skip
    refine vg_goto X 12 dL_stand_6 (by decide) ?_
    refine vg_iconst X (nI 0) dL_stand_12 (by decide) ?_
    exact vg_iret X rfl (Or.inr ⟨rfl, PP2⟩) (Nat.le_of_ble_eq_true rfl) (Nat.le_of_ble_eq_true rfl) dL_stand_13
set_option maxHeartbeats 4000000 in
set_option maxRecDepth 100000 in
/-- the law: seconds -/
theorem c_L_seconds (l : Launch) {D : va_G} {ay : Nat → ClassId} {base : Nat} {Gx : State → Prop} {tE mi : Nat} {ws : va_W} {ax aO : Nat} {fO : Nat → Int64} {n P U : Nat} {d fr to pe uv : Nat → Nat → Nat} {ku ks kt : Nat → Nat} {sk : Nat → Nat → Nat} {wl : Nat} {wp : Nat → Nat} {y : Int32} {x : Int32} {t : Int32} (hl9 : l.stackTraces = false) (hG2 : ∀ U, Gx U → vh_G2 base tE mi U) (hG3 : ∀ U, Gx U → vh_X U) (hS : cw_St ay ws ax tE n P U d fr to pe uv ku ks kt sk wl wp) (h55 : ws[55]? = some (aO, .inl (ay 1, 1, .inr (.inl fO)))) : Met l yL_seconds wsL_seconds ({ frames := 9, cells := 10, slots := 400, locals := 245 } : Room) (fun a9 s9 => va_Pc [.ref ax, .int y, .int x, .int t, .ref aO] (vg_B D ay base Gx ws) a9 s9 ∧ vs_W s9) (va_Qi (fun r u => hp_seconds ay ws ax tE aO fO n P U d fr to pe uv ku ks kt sk wl wp y x t r u) (vg_B D ay base Gx) (vg_A base)) 10 400 (vg_A base) := by
  refine vg_metH (cc := cL_seconds) (maxL := 6) (ret := (some .int)) (hh := [(0, 11, 14, 13), (0, 11, 18, 21), (0, 11, 22, 54)]) (own := RL) (lv := [(0, .ref ax), (1, .int y), (2, .int x), (3, .int t), (4, .ref aO)]) (by decide) rfl rfl (Nat.le_of_ble_eq_true rfl) rfl ?_
  intro p e s m args below meth c X hTb hWm9
  obtain ⟨aN, asr, aTs, aWB, el, qp, ua, uq, fb, hSS⟩ := id hS
  have h0 := hSS.1
  have hB := cw_N_b hSS.2.2.1
  refine vg_aload X dL_seconds_0 4 rfl ?_
  refine vg_iconst X (nI 0) dL_seconds_2 (by decide) ?_
  refine vg_aload_n X dL_seconds_3 0 rfl rfl ?_
  refine vg_iload_n X dL_seconds_4 1 rfl rfl ?_
  refine vg_iload_n X dL_seconds_5 2 rfl rfl ?_
  refine vg_iload_n X dL_seconds_6 3 rfl rfl ?_
  refine vg_calllC X (vg_runVX X vs_st hWm9 (c_X6_seconds l hl9 hG2 hS (y := y) (x := x) (t := t)) (cwV 3 X.2.2.2.2.1 gL_seconds_X6_seconds rfl rfl rfl (by decide +kernel) ⟨(Nat.le_of_ble_eq_true rfl), (Nat.le_of_ble_eq_true rfl)⟩) 0 h0 rfl rfl rfl (Nat.le_of_ble_eq_true rfl) dL_seconds_7 ⟨(Nat.le_of_ble_eq_true rfl), (Nat.le_of_ble_eq_true rfl)⟩) ?_ (fun rr3 wz1 PP2 => ?_)
  · intro E hE
    rcases hE with ⟨rfl, hc⟩ | ⟨rfl, hc⟩ | ⟨rfl, hc⟩
    · skip
      refine ⟨[], ⟨0, 11, 14, 13⟩, [⟨0, 11, 18, 21⟩, ⟨0, 11, 22, 54⟩], "java/lang/IllegalArgumentException", hTb.trans rfl, fun z hz => absurd hz List.not_mem_nil, by decide, by decide, X.2.2.2.2.1 _ hl_L_seconds_13, va_Nw.use rfl ((hG3 s X.2.2.2.2.2.2.2.2.2.2).2 _ (by decide +kernel)), fun q9 => ?_⟩
      refine vg_astore X [(5, .ref q9), (0, .ref ax), (1, .int y), (2, .int x), (3, .int t), (4, .ref aO)] dL_seconds_14 (by decide) rfl ?_
      refine vg_iconst X (nI 1) dL_seconds_16 (by decide) ?_
      exact vg_iret X rfl (Or.inl ⟨rfl, rfl, hc⟩) (Nat.le_of_ble_eq_true rfl) (Nat.le_of_ble_eq_true rfl) dL_seconds_17
    · skip
      refine ⟨[⟨0, 11, 14, 13⟩], ⟨0, 11, 18, 21⟩, [⟨0, 11, 22, 54⟩], "java/lang/IndexOutOfBoundsException", hTb.trans rfl, fun z hz => by rw [List.mem_singleton.mp hz]; exact Or.inr ⟨by decide, "java/lang/IllegalArgumentException", X.2.2.2.2.1 _ hl_L_seconds_13, (hG3 s X.2.2.2.2.2.2.2.2.2.2).1 ("java/lang/IndexOutOfBoundsException", "java/lang/IllegalArgumentException") (by decide +kernel)⟩, by decide, by decide, X.2.2.2.2.1 _ hl_L_seconds_21, va_Nw.use rfl ((hG3 s X.2.2.2.2.2.2.2.2.2.2).2 _ (by decide +kernel)), fun q9 => ?_⟩
      refine vg_astore X [(5, .ref q9), (0, .ref ax), (1, .int y), (2, .int x), (3, .int t), (4, .ref aO)] dL_seconds_18 (by decide) rfl ?_
      refine vg_iconst X (nI 2) dL_seconds_20 (by decide) ?_
      exact vg_iret X rfl (Or.inr (Or.inl ⟨rfl, rfl, hc⟩)) (Nat.le_of_ble_eq_true rfl) (Nat.le_of_ble_eq_true rfl) dL_seconds_21
    · skip
      refine ⟨[⟨0, 11, 14, 13⟩, ⟨0, 11, 18, 21⟩], ⟨0, 11, 22, 54⟩, [], "java/lang/ArithmeticException", hTb.trans rfl, fun z hz => (List.mem_cons.mp hz).elim (fun e9 => by rw [e9]; exact Or.inr ⟨by decide, "java/lang/IllegalArgumentException", X.2.2.2.2.1 _ hl_L_seconds_13, (hG3 s X.2.2.2.2.2.2.2.2.2.2).1 ("java/lang/ArithmeticException", "java/lang/IllegalArgumentException") (by decide +kernel)⟩) (fun e8 => by rw [List.mem_singleton.mp e8]; exact Or.inr ⟨by decide, "java/lang/IndexOutOfBoundsException", X.2.2.2.2.1 _ hl_L_seconds_21, (hG3 s X.2.2.2.2.2.2.2.2.2.2).1 ("java/lang/ArithmeticException", "java/lang/IndexOutOfBoundsException") (by decide +kernel)⟩), by decide, by decide, X.2.2.2.2.1 _ hl_L_seconds_54, va_Nw.use rfl ((hG3 s X.2.2.2.2.2.2.2.2.2.2).2 _ (by decide +kernel)), fun q9 => ?_⟩
      refine vg_astore X [(5, .ref q9), (0, .ref ax), (1, .int y), (2, .int x), (3, .int t), (4, .ref aO)] dL_seconds_22 (by decide) rfl ?_
      refine vg_iconst X (nI 3) dL_seconds_24 (by decide) ?_
      exact vg_iret X rfl (Or.inr (Or.inr (Or.inl ⟨rfl, rfl, ⟨hc.1, hc.2.1, no_in hB.2.1 hc.2.2⟩⟩))) (Nat.le_of_ble_eq_true rfl) (Nat.le_of_ble_eq_true rfl) dL_seconds_25
  · skip
    have hF : cw_fr ws wz1 := by rw [PP2.1]; exact cw_fr_rf ws
    have h551 := (hF.2 55 (by decide) (by decide)).trans h55
    refine vg_last X 55 h551 rfl (by decide) (by decide) dL_seconds_10 (fun wz4 ez5 => ?_)
    have fh6 : wz4[55]? = some (aO, .inl (ay 1, 1, .inr (.inl (vp_updL fO 0 rr3)))) := vg_se ez5 h551
    refine vg_goto X 26 dL_seconds_11 (by decide) ?_
    refine vg_iconst X (nI 0) dL_seconds_26 (by decide) ?_
    exact vg_iret X rfl (Or.inr (Or.inr (Or.inr ⟨rfl, rr3, wz1, PP2, ez5⟩))) (Nat.le_of_ble_eq_true rfl) (Nat.le_of_ble_eq_true rfl) dL_seconds_27
set_option maxHeartbeats 4000000 in
set_option maxRecDepth 100000 in
/-- the law: way -/
theorem c_L_way (l : Launch) {D : va_G} {ay : Nat → ClassId} {base : Nat} {Gx : State → Prop} {tE mi : Nat} {ws : va_W} {ax aO : Nat} {fO : Nat → Int64} {n P U : Nat} {d fr to pe uv : Nat → Nat → Nat} {ku ks kt : Nat → Nat} {sk : Nat → Nat → Nat} {wl : Nat} {wp : Nat → Nat} {y : Int32} {a : Int32} {b : Int32} {t : Int32} (hl9 : l.stackTraces = false) (hG2 : ∀ U, Gx U → vh_G2 base tE mi U) (hG3 : ∀ U, Gx U → vh_X U) (hS : cw_St ay ws ax tE n P U d fr to pe uv ku ks kt sk wl wp) (h55 : ws[55]? = some (aO, .inl (ay 1, 1, .inr (.inl fO)))) : Met l yL_way wsL_way ({ frames := 9, cells := 10, slots := 400, locals := 245 } : Room) (fun a9 s9 => va_Pc [.ref ax, .int y, .int a, .int b, .int t, .ref aO] (vg_B D ay base Gx ws) a9 s9 ∧ vs_W s9) (va_Qi (fun r u => hp_way ay ws ax tE aO fO n P U d fr to pe uv ku ks kt sk wl wp y a b t r u) (vg_B D ay base Gx) (vg_A base)) 10 400 (vg_A base) := by
  refine vg_metH (cc := cL_way) (maxL := 7) (ret := (some .int)) (hh := [(0, 13, 16, 13), (0, 13, 20, 21)]) (own := RL) (lv := [(0, .ref ax), (1, .int y), (2, .int a), (3, .int b), (4, .int t), (5, .ref aO)]) (by decide) rfl rfl (Nat.le_of_ble_eq_true rfl) rfl ?_
  intro p e s m args below meth c X hTb hWm9
  obtain ⟨aN, asr, aTs, aWB, el, qp, ua, uq, fb, hSS⟩ := id hS
  have h0 := hSS.1
  have hB := cw_N_b hSS.2.2.1
  refine vg_aload X dL_way_0 5 rfl ?_
  refine vg_iconst X (nI 0) dL_way_2 (by decide) ?_
  refine vg_aload_n X dL_way_3 0 rfl rfl ?_
  refine vg_iload_n X dL_way_4 1 rfl rfl ?_
  refine vg_iload_n X dL_way_5 2 rfl rfl ?_
  refine vg_iload_n X dL_way_6 3 rfl rfl ?_
  refine vg_iload X dL_way_7 4 rfl ?_
  refine vg_calllC X (vg_runVX X vs_st hWm9 (c_X6_way l hl9 hG2 hS (y := y) (a := a) (b := b) (t := t)) (cwV 4 X.2.2.2.2.1 gL_way_X6_way rfl rfl rfl (by decide +kernel) ⟨(Nat.le_of_ble_eq_true rfl), (Nat.le_of_ble_eq_true rfl)⟩) 0 h0 rfl rfl rfl (Nat.le_of_ble_eq_true rfl) dL_way_9 ⟨(Nat.le_of_ble_eq_true rfl), (Nat.le_of_ble_eq_true rfl)⟩) ?_ (fun rr3 wz1 PP2 => ?_)
  · intro E hE
    rcases hE with ⟨rfl, hc⟩ | ⟨rfl, hc⟩
    · skip
      refine ⟨[], ⟨0, 13, 16, 13⟩, [⟨0, 13, 20, 21⟩], "java/lang/IllegalArgumentException", hTb.trans rfl, fun z hz => absurd hz List.not_mem_nil, by decide, by decide, X.2.2.2.2.1 _ hl_L_way_13, va_Nw.use rfl ((hG3 s X.2.2.2.2.2.2.2.2.2.2).2 _ (by decide +kernel)), fun q9 => ?_⟩
      refine vg_astore X [(6, .ref q9), (0, .ref ax), (1, .int y), (2, .int a), (3, .int b), (4, .int t), (5, .ref aO)] dL_way_16 (by decide) rfl ?_
      refine vg_iconst X (nI 1) dL_way_18 (by decide) ?_
      exact vg_iret X rfl (Or.inl ⟨rfl, rfl, hc⟩) (Nat.le_of_ble_eq_true rfl) (Nat.le_of_ble_eq_true rfl) dL_way_19
    · skip
      refine ⟨[⟨0, 13, 16, 13⟩], ⟨0, 13, 20, 21⟩, [], "java/lang/IndexOutOfBoundsException", hTb.trans rfl, fun z hz => by rw [List.mem_singleton.mp hz]; exact Or.inr ⟨by decide, "java/lang/IllegalArgumentException", X.2.2.2.2.1 _ hl_L_way_13, (hG3 s X.2.2.2.2.2.2.2.2.2.2).1 ("java/lang/IndexOutOfBoundsException", "java/lang/IllegalArgumentException") (by decide +kernel)⟩, by decide, by decide, X.2.2.2.2.1 _ hl_L_way_21, va_Nw.use rfl ((hG3 s X.2.2.2.2.2.2.2.2.2.2).2 _ (by decide +kernel)), fun q9 => ?_⟩
      refine vg_astore X [(6, .ref q9), (0, .ref ax), (1, .int y), (2, .int a), (3, .int b), (4, .int t), (5, .ref aO)] dL_way_20 (by decide) rfl ?_
      refine vg_iconst X (nI 2) dL_way_22 (by decide) ?_
      exact vg_iret X rfl (Or.inr (Or.inl ⟨rfl, rfl, hc⟩)) (Nat.le_of_ble_eq_true rfl) (Nat.le_of_ble_eq_true rfl) dL_way_23
  · skip
    have hF : cw_fr ws wz1 := by obtain ⟨jx, ax, bx, tx, wl2, wp2, nd, Ejx, Ljx, Eax, Lax, Ebx, Lbx, Etx, Ltx, S, F, _⟩ := PP2; exact F
    have h551 := (hF.2 55 (by decide) (by decide)).trans h55
    refine vg_last X 55 h551 rfl (by decide) (by decide) dL_way_12 (fun wz4 ez5 => ?_)
    have fh6 : wz4[55]? = some (aO, .inl (ay 1, 1, .inr (.inl (vp_updL fO 0 rr3)))) := vg_se ez5 h551
    refine vg_goto X 24 dL_way_13 (by decide) ?_
    refine vg_iconst X (nI 0) dL_way_24 (by decide) ?_
    exact vg_iret X rfl (Or.inr (Or.inr ⟨rfl, rr3, wz1, PP2, ez5⟩)) (Nat.le_of_ble_eq_true rfl) (Nat.le_of_ble_eq_true rfl) dL_way_25
set_option maxHeartbeats 4000000 in
set_option maxRecDepth 100000 in
/-- the law: step -/
theorem c_L_step (l : Launch) {D : va_G} {ay : Nat → ClassId} {base : Nat} {Gx : State → Prop} {tE mi : Nat} {ws : va_W} {ax aO : Nat} {fO : Nat → Int64} {n P U : Nat} {d fr to pe uv : Nat → Nat → Nat} {ku ks kt : Nat → Nat} {sk : Nat → Nat → Nat} {wl : Nat} {wp : Nat → Nat} {x : Int32} (hl9 : l.stackTraces = false) (hG2 : ∀ U, Gx U → vh_G2 base tE mi U) (hG3 : ∀ U, Gx U → vh_X U) (hS : cw_St ay ws ax tE n P U d fr to pe uv ku ks kt sk wl wp) (h55 : ws[55]? = some (aO, .inl (ay 1, 1, .inr (.inl fO)))) : Met l yL_step wsL_step ({ frames := 9, cells := 10, slots := 400, locals := 245 } : Room) (fun a9 s9 => va_Pc [.ref ax, .int x, .ref aO] (vg_B D ay base Gx ws) a9 s9 ∧ vs_W s9) (va_Qi (fun r u => hp_step ay ws ax tE aO fO n P U d fr to pe uv ku ks kt sk wl wp x r u) (vg_B D ay base Gx) (vg_A base)) 10 400 (vg_A base) := by
  refine vg_metH (cc := cL_step) (maxL := 4) (ret := (some .int)) (hh := [(0, 9, 12, 21)]) (own := RL) (lv := [(0, .ref ax), (1, .int x), (2, .ref aO)]) (by decide) rfl rfl (Nat.le_of_ble_eq_true rfl) rfl ?_
  intro p e s m args below meth c X hTb hWm9
  obtain ⟨aN, asr, aTs, aWB, el, qp, ua, uq, fb, hSS⟩ := id hS
  have h0 := hSS.1
  have hB := cw_N_b hSS.2.2.1
  refine vg_aload_n X dL_step_0 2 rfl rfl ?_
  refine vg_iconst X (nI 0) dL_step_1 (by decide) ?_
  refine vg_aload_n X dL_step_2 0 rfl rfl ?_
  refine vg_iload_n X dL_step_3 1 rfl rfl ?_
  refine vg_calliC X (vg_runVX X vs_st hWm9 (c_X6_step l hl9 hG2 hS (x := x)) (cwV 1 X.2.2.2.2.1 gL_step_X6_step rfl rfl rfl (by decide +kernel) ⟨(Nat.le_of_ble_eq_true rfl), (Nat.le_of_ble_eq_true rfl)⟩) 0 h0 rfl rfl rfl (Nat.le_of_ble_eq_true rfl) dL_step_4 ⟨(Nat.le_of_ble_eq_true rfl), (Nat.le_of_ble_eq_true rfl)⟩) ?_ (fun rr3 wz1 PP2 => ?_)
  · intro E hE
    obtain ⟨rfl, hc⟩ := hE
    refine ⟨[], ⟨0, 9, 12, 21⟩, [], "java/lang/IndexOutOfBoundsException", hTb.trans rfl, fun z hz => absurd hz List.not_mem_nil, by decide, by decide, X.2.2.2.2.1 _ hl_L_step_21, va_Nw.use rfl ((hG3 s X.2.2.2.2.2.2.2.2.2.2).2 _ (by decide +kernel)), fun q9 => ?_⟩
    refine vg_astore_n X [(3, .ref q9), (0, .ref ax), (1, .int x), (2, .ref aO)] dL_step_12 rfl (by decide) rfl ?_
    refine vg_iconst X (nI 1) dL_step_13 (by decide) ?_
    exact vg_iret X rfl (Or.inl ⟨rfl, rfl, hc⟩) (Nat.le_of_ble_eq_true rfl) (Nat.le_of_ble_eq_true rfl) dL_step_14
  · skip
    have hF : cw_fr ws wz1 := by rw [PP2.1]; exact cw_fr_rf ws
    have h551 := (hF.2 55 (by decide) (by decide)).trans h55
    refine vg_i2l X ((rr3).toInt64) dL_step_7 rfl ?_
    refine vg_last X 55 h551 rfl (by decide) (by decide) dL_step_8 (fun wz4 ez5 => ?_)
    have fh6 : wz4[55]? = some (aO, .inl (ay 1, 1, .inr (.inl (vp_updL fO 0 ((rr3).toInt64))))) := vg_se ez5 h551
    refine vg_goto X 15 dL_step_9 (by decide) ?_
    refine vg_iconst X (nI 0) dL_step_15 (by decide) ?_
    exact vg_iret X rfl (Or.inr ⟨rfl, rr3, wz1, PP2, ez5⟩) (Nat.le_of_ble_eq_true rfl) (Nat.le_of_ble_eq_true rfl) dL_step_16
set_option maxHeartbeats 4000000 in
set_option maxRecDepth 100000 in
/-- the law: walk -/
theorem c_L_walk (l : Launch) {D : va_G} {ay : Nat → ClassId} {base : Nat} {Gx : State → Prop} {tE mi : Nat} {ws : va_W} {ax aO : Nat} {fO : Nat → Int64} {n P U : Nat} {d fr to pe uv : Nat → Nat → Nat} {ku ks kt : Nat → Nat} {sk : Nat → Nat → Nat} {wl : Nat} {wp : Nat → Nat} {y : Int32} {a : Int32} {b : Int32} {t : Int32} {i9 : Int32} (hl9 : l.stackTraces = false) (hG2 : ∀ U, Gx U → vh_G2 base tE mi U) (hG3 : ∀ U, Gx U → vh_X U) (hS : cw_St ay ws ax tE n P U d fr to pe uv ku ks kt sk wl wp) (h55 : ws[55]? = some (aO, .inl (ay 1, 1, .inr (.inl fO)))) : Met l yL_walk wsL_walk ({ frames := 9, cells := 10, slots := 400, locals := 245 } : Room) (fun a9 s9 => va_Pc [.ref ax, .int y, .int a, .int b, .int t, .int i9, .ref aO] (vg_B D ay base Gx ws) a9 s9 ∧ vs_W s9) (va_Qi (fun r u => hp_walk ay ws ax tE aO fO n P U d fr to pe uv ku ks kt sk wl wp y a b t i9 r u) (vg_B D ay base Gx) (vg_A base)) 10 400 (vg_A base) := by
  refine vg_metH (cc := cL_walk) (maxL := 8) (ret := (some .int)) (hh := [(0, 15, 18, 13), (0, 15, 22, 21)]) (own := RL) (lv := [(0, .ref ax), (1, .int y), (2, .int a), (3, .int b), (4, .int t), (5, .int i9), (6, .ref aO)]) (by decide) rfl rfl (Nat.le_of_ble_eq_true rfl) rfl ?_
  intro p e s m args below meth c X hTb hWm9
  obtain ⟨aN, asr, aTs, aWB, el, qp, ua, uq, fb, hSS⟩ := id hS
  have h0 := hSS.1
  have hB := cw_N_b hSS.2.2.1
  refine vg_aload X dL_walk_0 6 rfl ?_
  refine vg_iconst X (nI 0) dL_walk_2 (by decide) ?_
  refine vg_aload_n X dL_walk_3 0 rfl rfl ?_
  refine vg_iload_n X dL_walk_4 1 rfl rfl ?_
  refine vg_iload_n X dL_walk_5 2 rfl rfl ?_
  refine vg_iload_n X dL_walk_6 3 rfl rfl ?_
  refine vg_iload X dL_walk_7 4 rfl ?_
  refine vg_iload X dL_walk_9 5 rfl ?_
  refine vg_calllC X (vg_runVX X vs_st hWm9 (c_X6_walk l hl9 hG2 hS (y := y) (a := a) (b := b) (t := t) (i9 := i9)) (cwV 5 X.2.2.2.2.1 gL_walk_X6_walk rfl rfl rfl (by decide +kernel) ⟨(Nat.le_of_ble_eq_true rfl), (Nat.le_of_ble_eq_true rfl)⟩) 0 h0 rfl rfl rfl (Nat.le_of_ble_eq_true rfl) dL_walk_11 ⟨(Nat.le_of_ble_eq_true rfl), (Nat.le_of_ble_eq_true rfl)⟩) ?_ (fun rr3 wz1 PP2 => ?_)
  · intro E hE
    rcases hE with ⟨rfl, hc⟩ | ⟨rfl, hc⟩
    · skip
      refine ⟨[], ⟨0, 15, 18, 13⟩, [⟨0, 15, 22, 21⟩], "java/lang/IllegalArgumentException", hTb.trans rfl, fun z hz => absurd hz List.not_mem_nil, by decide, by decide, X.2.2.2.2.1 _ hl_L_walk_13, va_Nw.use rfl ((hG3 s X.2.2.2.2.2.2.2.2.2.2).2 _ (by decide +kernel)), fun q9 => ?_⟩
      refine vg_astore X [(7, .ref q9), (0, .ref ax), (1, .int y), (2, .int a), (3, .int b), (4, .int t), (5, .int i9), (6, .ref aO)] dL_walk_18 (by decide) rfl ?_
      refine vg_iconst X (nI 1) dL_walk_20 (by decide) ?_
      exact vg_iret X rfl (Or.inl ⟨rfl, rfl, hc⟩) (Nat.le_of_ble_eq_true rfl) (Nat.le_of_ble_eq_true rfl) dL_walk_21
    · skip
      refine ⟨[⟨0, 15, 18, 13⟩], ⟨0, 15, 22, 21⟩, [], "java/lang/IndexOutOfBoundsException", hTb.trans rfl, fun z hz => by rw [List.mem_singleton.mp hz]; exact Or.inr ⟨by decide, "java/lang/IllegalArgumentException", X.2.2.2.2.1 _ hl_L_walk_13, (hG3 s X.2.2.2.2.2.2.2.2.2.2).1 ("java/lang/IndexOutOfBoundsException", "java/lang/IllegalArgumentException") (by decide +kernel)⟩, by decide, by decide, X.2.2.2.2.1 _ hl_L_walk_21, va_Nw.use rfl ((hG3 s X.2.2.2.2.2.2.2.2.2.2).2 _ (by decide +kernel)), fun q9 => ?_⟩
      refine vg_astore X [(7, .ref q9), (0, .ref ax), (1, .int y), (2, .int a), (3, .int b), (4, .int t), (5, .int i9), (6, .ref aO)] dL_walk_22 (by decide) rfl ?_
      refine vg_iconst X (nI 2) dL_walk_24 (by decide) ?_
      exact vg_iret X rfl (Or.inr (Or.inl ⟨rfl, rfl, hc⟩)) (Nat.le_of_ble_eq_true rfl) (Nat.le_of_ble_eq_true rfl) dL_walk_25
  · skip
    have hF : cw_fr ws wz1 := by obtain ⟨jx, ax, bx, tx, nx, Ejx, Ljx, Eax, Lax, Ebx, Lbx, Etx, Ltx, Enx, N1, N2, S, F, _⟩ := PP2; exact F
    have h551 := (hF.2 55 (by decide) (by decide)).trans h55
    refine vg_last X 55 h551 rfl (by decide) (by decide) dL_walk_14 (fun wz4 ez5 => ?_)
    have fh6 : wz4[55]? = some (aO, .inl (ay 1, 1, .inr (.inl (vp_updL fO 0 rr3)))) := vg_se ez5 h551
    refine vg_goto X 26 dL_walk_15 (by decide) ?_
    refine vg_iconst X (nI 0) dL_walk_26 (by decide) ?_
    exact vg_iret X rfl (Or.inr (Or.inr ⟨rfl, rr3, wz1, PP2, ez5⟩)) (Nat.le_of_ble_eq_true rfl) (Nat.le_of_ble_eq_true rfl) dL_walk_27
set_option maxHeartbeats 4000000 in
set_option maxRecDepth 100000 in
/-- the law: rest -/
theorem c_L_rest (l : Launch) {D : va_G} {ay : Nat → ClassId} {base : Nat} {Gx : State → Prop} {tE mi : Nat} {ws : va_W} {ax aO : Nat} {fO : Nat → Int64} {n P U : Nat} {d fr to pe uv : Nat → Nat → Nat} {ku ks kt : Nat → Nat} {sk : Nat → Nat → Nat} {wl : Nat} {wp : Nat → Nat} {y : Int32} {x : Int32} {mm : Int32} {b : Int32} {t : Int32} (hl9 : l.stackTraces = false) (hG2 : ∀ U, Gx U → vh_G2 base tE mi U) (hG3 : ∀ U, Gx U → vh_X U) (hS : cw_St ay ws ax tE n P U d fr to pe uv ku ks kt sk wl wp) (h55 : ws[55]? = some (aO, .inl (ay 1, 1, .inr (.inl fO)))) : Met l yL_rest wsL_rest ({ frames := 9, cells := 10, slots := 400, locals := 245 } : Room) (fun a9 s9 => va_Pc [.ref ax, .int y, .int x, .int mm, .int b, .int t, .ref aO] (vg_B D ay base Gx ws) a9 s9 ∧ vs_W s9) (va_Qi (fun r u => hp_rest ay ws ax tE aO fO n P U d fr to pe uv ku ks kt sk wl wp y x mm b t r u) (vg_B D ay base Gx) (vg_A base)) 10 400 (vg_A base) := by
  refine vg_metH (cc := cL_rest) (maxL := 8) (ret := (some .int)) (hh := [(0, 15, 18, 13), (0, 15, 22, 21)]) (own := RL) (lv := [(0, .ref ax), (1, .int y), (2, .int x), (3, .int mm), (4, .int b), (5, .int t), (6, .ref aO)]) (by decide) rfl rfl (Nat.le_of_ble_eq_true rfl) rfl ?_
  intro p e s m args below meth c X hTb hWm9
  obtain ⟨aN, asr, aTs, aWB, el, qp, ua, uq, fb, hSS⟩ := id hS
  have h0 := hSS.1
  have hB := cw_N_b hSS.2.2.1
  refine vg_aload X dL_rest_0 6 rfl ?_
  refine vg_iconst X (nI 0) dL_rest_2 (by decide) ?_
  refine vg_aload_n X dL_rest_3 0 rfl rfl ?_
  refine vg_iload_n X dL_rest_4 1 rfl rfl ?_
  refine vg_iload_n X dL_rest_5 2 rfl rfl ?_
  refine vg_iload_n X dL_rest_6 3 rfl rfl ?_
  refine vg_iload X dL_rest_7 4 rfl ?_
  refine vg_iload X dL_rest_9 5 rfl ?_
  refine vg_calllC X (vg_runVX X vs_st hWm9 (c_X6_rest l hl9 hG2 hS (y := y) (x := x) (mm := mm) (b := b) (t := t)) (cwV 5 X.2.2.2.2.1 gL_rest_X6_rest rfl rfl rfl (by decide +kernel) ⟨(Nat.le_of_ble_eq_true rfl), (Nat.le_of_ble_eq_true rfl)⟩) 0 h0 rfl rfl rfl (Nat.le_of_ble_eq_true rfl) dL_rest_11 ⟨(Nat.le_of_ble_eq_true rfl), (Nat.le_of_ble_eq_true rfl)⟩) ?_ (fun rr3 wz1 PP2 => ?_)
  · intro E hE
    rcases hE with ⟨rfl, hc⟩ | ⟨rfl, hc⟩
    · skip
      refine ⟨[], ⟨0, 15, 18, 13⟩, [⟨0, 15, 22, 21⟩], "java/lang/IllegalArgumentException", hTb.trans rfl, fun z hz => absurd hz List.not_mem_nil, by decide, by decide, X.2.2.2.2.1 _ hl_L_rest_13, va_Nw.use rfl ((hG3 s X.2.2.2.2.2.2.2.2.2.2).2 _ (by decide +kernel)), fun q9 => ?_⟩
      refine vg_astore X [(7, .ref q9), (0, .ref ax), (1, .int y), (2, .int x), (3, .int mm), (4, .int b), (5, .int t), (6, .ref aO)] dL_rest_18 (by decide) rfl ?_
      refine vg_iconst X (nI 1) dL_rest_20 (by decide) ?_
      exact vg_iret X rfl (Or.inl ⟨rfl, rfl, hc⟩) (Nat.le_of_ble_eq_true rfl) (Nat.le_of_ble_eq_true rfl) dL_rest_21
    · skip
      refine ⟨[⟨0, 15, 18, 13⟩], ⟨0, 15, 22, 21⟩, [], "java/lang/IndexOutOfBoundsException", hTb.trans rfl, fun z hz => by rw [List.mem_singleton.mp hz]; exact Or.inr ⟨by decide, "java/lang/IllegalArgumentException", X.2.2.2.2.1 _ hl_L_rest_13, (hG3 s X.2.2.2.2.2.2.2.2.2.2).1 ("java/lang/IndexOutOfBoundsException", "java/lang/IllegalArgumentException") (by decide +kernel)⟩, by decide, by decide, X.2.2.2.2.1 _ hl_L_rest_21, va_Nw.use rfl ((hG3 s X.2.2.2.2.2.2.2.2.2.2).2 _ (by decide +kernel)), fun q9 => ?_⟩
      refine vg_astore X [(7, .ref q9), (0, .ref ax), (1, .int y), (2, .int x), (3, .int mm), (4, .int b), (5, .int t), (6, .ref aO)] dL_rest_22 (by decide) rfl ?_
      refine vg_iconst X (nI 2) dL_rest_24 (by decide) ?_
      exact vg_iret X rfl (Or.inr (Or.inl ⟨rfl, rfl, hc⟩)) (Nat.le_of_ble_eq_true rfl) (Nat.le_of_ble_eq_true rfl) dL_rest_25
  · skip
    have hF : cw_fr ws wz1 := by obtain ⟨jx, ix, mx, bx, tx, Ejx, Ljx, Eix, Lix, Emx, Lmx, Ebx, Lbx, Etx, Ltx, S, F, _⟩ := PP2; exact F
    have h551 := (hF.2 55 (by decide) (by decide)).trans h55
    refine vg_last X 55 h551 rfl (by decide) (by decide) dL_rest_14 (fun wz4 ez5 => ?_)
    have fh6 : wz4[55]? = some (aO, .inl (ay 1, 1, .inr (.inl (vp_updL fO 0 rr3)))) := vg_se ez5 h551
    refine vg_goto X 26 dL_rest_15 (by decide) ?_
    refine vg_iconst X (nI 0) dL_rest_26 (by decide) ?_
    exact vg_iret X rfl (Or.inr (Or.inr ⟨rfl, rr3, wz1, PP2, ez5⟩)) (Nat.le_of_ble_eq_true rfl) (Nat.le_of_ble_eq_true rfl) dL_rest_27
set_option maxHeartbeats 4000000 in
set_option maxRecDepth 100000 in
/-- the law: nearest -/
theorem c_L_nearest (l : Launch) {D : va_G} {ay : Nat → ClassId} {base : Nat} {Gx : State → Prop} {tE mi : Nat} {ws : va_W} {ax aO : Nat} {fO : Nat → Int64} {n P U : Nat} {d fr to pe uv : Nat → Nat → Nat} {ku ks kt : Nat → Nat} {sk : Nat → Nat → Nat} {wl : Nat} {wp : Nat → Nat} {b : Int32} {t : Int32} (hl9 : l.stackTraces = false) (hG2 : ∀ U, Gx U → vh_G2 base tE mi U) (hG3 : ∀ U, Gx U → vh_X U) (hS : cw_St ay ws ax tE n P U d fr to pe uv ku ks kt sk wl wp) (h55 : ws[55]? = some (aO, .inl (ay 1, 1, .inr (.inl fO)))) : Met l yL_nearest wsL_nearest ({ frames := 9, cells := 10, slots := 400, locals := 245 } : Room) (fun a9 s9 => va_Pc [.ref ax, .int b, .int t, .ref aO] (vg_B D ay base Gx ws) a9 s9 ∧ vs_W s9) (va_Qi (fun r u => hp_nearest ay ws ax tE aO fO n P U d fr to pe uv ku ks kt sk wl wp b t r u) (vg_B D ay base Gx) (vg_A base)) 10 400 (vg_A base) := by
  refine vg_metH (cc := cL_nearest) (maxL := 5) (ret := (some .int)) (hh := [(0, 10, 13, 13), (0, 10, 17, 21)]) (own := RL) (lv := [(0, .ref ax), (1, .int b), (2, .int t), (3, .ref aO)]) (by decide) rfl rfl (Nat.le_of_ble_eq_true rfl) rfl ?_
  intro p e s m args below meth c X hTb hWm9
  obtain ⟨aN, asr, aTs, aWB, el, qp, ua, uq, fb, hSS⟩ := id hS
  have h0 := hSS.1
  have hB := cw_N_b hSS.2.2.1
  refine vg_aload_n X dL_nearest_0 3 rfl rfl ?_
  refine vg_iconst X (nI 0) dL_nearest_1 (by decide) ?_
  refine vg_aload_n X dL_nearest_2 0 rfl rfl ?_
  refine vg_iload_n X dL_nearest_3 1 rfl rfl ?_
  refine vg_iload_n X dL_nearest_4 2 rfl rfl ?_
  refine vg_calliC X (vg_runVX X vs_st hWm9 (c_X6_nearest l hl9 hG2 hS (b := b) (t := t)) (cwV 2 X.2.2.2.2.1 gL_nearest_X6_nearest rfl rfl rfl (by decide +kernel) ⟨(Nat.le_of_ble_eq_true rfl), (Nat.le_of_ble_eq_true rfl)⟩) 0 h0 rfl rfl rfl (Nat.le_of_ble_eq_true rfl) dL_nearest_5 ⟨(Nat.le_of_ble_eq_true rfl), (Nat.le_of_ble_eq_true rfl)⟩) ?_ (fun rr3 wz1 PP2 => ?_)
  · intro E hE
    rcases hE with ⟨rfl, hc⟩ | ⟨rfl, hc⟩
    · skip
      refine ⟨[], ⟨0, 10, 13, 13⟩, [⟨0, 10, 17, 21⟩], "java/lang/IllegalArgumentException", hTb.trans rfl, fun z hz => absurd hz List.not_mem_nil, by decide, by decide, X.2.2.2.2.1 _ hl_L_nearest_13, va_Nw.use rfl ((hG3 s X.2.2.2.2.2.2.2.2.2.2).2 _ (by decide +kernel)), fun q9 => ?_⟩
      refine vg_astore X [(4, .ref q9), (0, .ref ax), (1, .int b), (2, .int t), (3, .ref aO)] dL_nearest_13 (by decide) rfl ?_
      refine vg_iconst X (nI 1) dL_nearest_15 (by decide) ?_
      exact vg_iret X rfl (Or.inl ⟨rfl, rfl, hc⟩) (Nat.le_of_ble_eq_true rfl) (Nat.le_of_ble_eq_true rfl) dL_nearest_16
    · skip
      refine ⟨[⟨0, 10, 13, 13⟩], ⟨0, 10, 17, 21⟩, [], "java/lang/IndexOutOfBoundsException", hTb.trans rfl, fun z hz => by rw [List.mem_singleton.mp hz]; exact Or.inr ⟨by decide, "java/lang/IllegalArgumentException", X.2.2.2.2.1 _ hl_L_nearest_13, (hG3 s X.2.2.2.2.2.2.2.2.2.2).1 ("java/lang/IndexOutOfBoundsException", "java/lang/IllegalArgumentException") (by decide +kernel)⟩, by decide, by decide, X.2.2.2.2.1 _ hl_L_nearest_21, va_Nw.use rfl ((hG3 s X.2.2.2.2.2.2.2.2.2.2).2 _ (by decide +kernel)), fun q9 => ?_⟩
      refine vg_astore X [(4, .ref q9), (0, .ref ax), (1, .int b), (2, .int t), (3, .ref aO)] dL_nearest_17 (by decide) rfl ?_
      refine vg_iconst X (nI 2) dL_nearest_19 (by decide) ?_
      exact vg_iret X rfl (Or.inr (Or.inl ⟨rfl, rfl, hc⟩)) (Nat.le_of_ble_eq_true rfl) (Nat.le_of_ble_eq_true rfl) dL_nearest_20
  · skip
    have hF : cw_fr ws wz1 := PP2.2.1
    have h551 := (hF.2 55 (by decide) (by decide)).trans h55
    refine vg_i2l X ((rr3).toInt64) dL_nearest_8 rfl ?_
    refine vg_last X 55 h551 rfl (by decide) (by decide) dL_nearest_9 (fun wz4 ez5 => ?_)
    have fh6 : wz4[55]? = some (aO, .inl (ay 1, 1, .inr (.inl (vp_updL fO 0 ((rr3).toInt64))))) := vg_se ez5 h551
    refine vg_goto X 21 dL_nearest_10 (by decide) ?_
    refine vg_iconst X (nI 0) dL_nearest_21 (by decide) ?_
    exact vg_iret X rfl (Or.inr (Or.inr ⟨rfl, rr3, wz1, PP2, ez5⟩)) (Nat.le_of_ble_eq_true rfl) (Nat.le_of_ble_eq_true rfl) dL_nearest_22
set_option maxHeartbeats 4000000 in
set_option maxRecDepth 100000 in
/-- the law: keep -/
theorem c_L_keep (l : Launch) {D : va_G} {ay : Nat → ClassId} {base : Nat} {Gx : State → Prop} {tE mi : Nat} {ws : va_W} {ax aO : Nat} {fO : Nat → Int64} {n P U : Nat} {d fr to pe uv : Nat → Nat → Nat} {ku ks kt : Nat → Nat} {sk : Nat → Nat → Nat} {wl : Nat} {wp : Nat → Nat} {k : Int32} {v : Int32} {y : Int32} {t : Int32} (hl9 : l.stackTraces = false) (hG2 : ∀ U, Gx U → vh_G2 base tE mi U) (hG3 : ∀ U, Gx U → vh_X U) (hS : cw_St ay ws ax tE n P U d fr to pe uv ku ks kt sk wl wp) (h55 : ws[55]? = some (aO, .inl (ay 1, 1, .inr (.inl fO)))) : Met l yL_keep wsL_keep ({ frames := 9, cells := 10, slots := 400, locals := 245 } : Room) (fun a9 s9 => va_Pc [.ref ax, .int k, .int v, .int y, .int t] (vg_B D ay base Gx ws) a9 s9 ∧ vs_W s9) (va_Qi (fun r u => hp_keep ay ws ax tE aO fO n P U d fr to pe uv ku ks kt sk wl wp k v y t r u) (vg_B D ay base Gx) (vg_A base)) 10 400 (vg_A base) := by
  refine vg_metH (cc := cL_keep) (maxL := 6) (ret := (some .int)) (hh := [(0, 9, 12, 13), (0, 9, 16, 21)]) (own := RL) (lv := [(0, .ref ax), (1, .int k), (2, .int v), (3, .int y), (4, .int t)]) (by decide) rfl rfl (Nat.le_of_ble_eq_true rfl) rfl ?_
  intro p e s m args below meth c X hTb hWm9
  obtain ⟨aN, asr, aTs, aWB, el, qp, ua, uq, fb, hSS⟩ := id hS
  have h0 := hSS.1
  have hB := cw_N_b hSS.2.2.1
  refine vg_aload_n X dL_keep_0 0 rfl rfl ?_
  refine vg_iload_n X dL_keep_1 1 rfl rfl ?_
  refine vg_iload_n X dL_keep_2 2 rfl rfl ?_
  refine vg_iload_n X dL_keep_3 3 rfl rfl ?_
  refine vg_iload X dL_keep_4 4 rfl ?_
  refine vg_callvC X (vg_runVX X vs_st hWm9 (c_X6_keep l hl9 hG2 hS (k := k) (v := v) (y := y) (t := t)) (cwV 4 X.2.2.2.2.1 gL_keep_X6_keep rfl rfl rfl (by decide +kernel) ⟨(Nat.le_of_ble_eq_true rfl), (Nat.le_of_ble_eq_true rfl)⟩) 0 h0 rfl rfl rfl (Nat.le_of_ble_eq_true rfl) dL_keep_6 ⟨(Nat.le_of_ble_eq_true rfl), (Nat.le_of_ble_eq_true rfl)⟩) ?_ (fun wz1 PP2 => ?_)
  · intro E hE
    rcases hE with ⟨rfl, hc⟩ | ⟨rfl, hc⟩
    · skip
      refine ⟨[], ⟨0, 9, 12, 13⟩, [⟨0, 9, 16, 21⟩], "java/lang/IllegalArgumentException", hTb.trans rfl, fun z hz => absurd hz List.not_mem_nil, by decide, by decide, X.2.2.2.2.1 _ hl_L_keep_13, va_Nw.use rfl ((hG3 s X.2.2.2.2.2.2.2.2.2.2).2 _ (by decide +kernel)), fun q9 => ?_⟩
      refine vg_astore X [(5, .ref q9), (0, .ref ax), (1, .int k), (2, .int v), (3, .int y), (4, .int t)] dL_keep_12 (by decide) rfl ?_
      refine vg_iconst X (nI 1) dL_keep_14 (by decide) ?_
      exact vg_iret X rfl (Or.inl ⟨rfl, rfl, hc⟩) (Nat.le_of_ble_eq_true rfl) (Nat.le_of_ble_eq_true rfl) dL_keep_15
    · skip
      refine ⟨[⟨0, 9, 12, 13⟩], ⟨0, 9, 16, 21⟩, [], "java/lang/IndexOutOfBoundsException", hTb.trans rfl, fun z hz => by rw [List.mem_singleton.mp hz]; exact Or.inr ⟨by decide, "java/lang/IllegalArgumentException", X.2.2.2.2.1 _ hl_L_keep_13, (hG3 s X.2.2.2.2.2.2.2.2.2.2).1 ("java/lang/IndexOutOfBoundsException", "java/lang/IllegalArgumentException") (by decide +kernel)⟩, by decide, by decide, X.2.2.2.2.1 _ hl_L_keep_21, va_Nw.use rfl ((hG3 s X.2.2.2.2.2.2.2.2.2.2).2 _ (by decide +kernel)), fun q9 => ?_⟩
      refine vg_astore X [(5, .ref q9), (0, .ref ax), (1, .int k), (2, .int v), (3, .int y), (4, .int t)] dL_keep_16 (by decide) rfl ?_
      refine vg_iconst X (nI 2) dL_keep_18 (by decide) ?_
      exact vg_iret X rfl (Or.inr (Or.inl ⟨rfl, rfl, hc⟩)) (Nat.le_of_ble_eq_true rfl) (Nat.le_of_ble_eq_true rfl) dL_keep_19
  · skip
    refine vg_goto X 20 dL_keep_9 (by decide) ?_
    refine vg_iconst X (nI 0) dL_keep_20 (by decide) ?_
    exact vg_iret X rfl (Or.inr (Or.inr ⟨rfl, PP2⟩)) (Nat.le_of_ble_eq_true rfl) (Nat.le_of_ble_eq_true rfl) dL_keep_21
set_option maxHeartbeats 4000000 in
set_option maxRecDepth 100000 in
/-- the law: kept -/
theorem c_L_kept (l : Launch) {D : va_G} {ay : Nat → ClassId} {base : Nat} {Gx : State → Prop} {tE mi : Nat} {ws : va_W} {ax aO : Nat} {fO : Nat → Int64} {n P U : Nat} {d fr to pe uv : Nat → Nat → Nat} {ku ks kt : Nat → Nat} {sk : Nat → Nat → Nat} {wl : Nat} {wp : Nat → Nat} {k : Int32} {v : Int32} (hl9 : l.stackTraces = false) (hG2 : ∀ U, Gx U → vh_G2 base tE mi U) (hG3 : ∀ U, Gx U → vh_X U) (hS : cw_St ay ws ax tE n P U d fr to pe uv ku ks kt sk wl wp) (h55 : ws[55]? = some (aO, .inl (ay 1, 1, .inr (.inl fO)))) : Met l yL_kept wsL_kept ({ frames := 9, cells := 10, slots := 400, locals := 245 } : Room) (fun a9 s9 => va_Pc [.ref ax, .int k, .int v, .ref aO] (vg_B D ay base Gx ws) a9 s9 ∧ vs_W s9) (va_Qi (fun r u => hp_kept ay ws ax tE aO fO n P U d fr to pe uv ku ks kt sk wl wp k v r u) (vg_B D ay base Gx) (vg_A base)) 10 400 (vg_A base) := by
  refine vg_metH (cc := cL_kept) (maxL := 5) (ret := (some .int)) (hh := [(0, 9, 12, 13), (0, 9, 16, 82)]) (own := RL) (lv := [(0, .ref ax), (1, .int k), (2, .int v), (3, .ref aO)]) (by decide) rfl rfl (Nat.le_of_ble_eq_true rfl) rfl ?_
  intro p e s m args below meth c X hTb hWm9
  obtain ⟨aN, asr, aTs, aWB, el, qp, ua, uq, fb, hSS⟩ := id hS
  have h0 := hSS.1
  have hB := cw_N_b hSS.2.2.1
  refine vg_aload_n X dL_kept_0 3 rfl rfl ?_
  refine vg_iconst X (nI 0) dL_kept_1 (by decide) ?_
  refine vg_aload_n X dL_kept_2 0 rfl rfl ?_
  refine vg_iload_n X dL_kept_3 1 rfl rfl ?_
  refine vg_iload_n X dL_kept_4 2 rfl rfl ?_
  refine vg_calllC X (vg_runVX X vs_st hWm9 (c_X6_kept l hl9 hG2 hS (k := k) (v := v)) (cwV 2 X.2.2.2.2.1 gL_kept_X6_kept rfl rfl rfl (by decide +kernel) ⟨(Nat.le_of_ble_eq_true rfl), (Nat.le_of_ble_eq_true rfl)⟩) 0 h0 rfl rfl rfl (Nat.le_of_ble_eq_true rfl) dL_kept_5 ⟨(Nat.le_of_ble_eq_true rfl), (Nat.le_of_ble_eq_true rfl)⟩) ?_ (fun rr3 wz1 PP2 => ?_)
  · intro E hE
    rcases hE with ⟨rfl, hc⟩ | ⟨rfl, hc⟩
    · skip
      refine ⟨[], ⟨0, 9, 12, 13⟩, [⟨0, 9, 16, 82⟩], "java/lang/IllegalArgumentException", hTb.trans rfl, fun z hz => absurd hz List.not_mem_nil, by decide, by decide, X.2.2.2.2.1 _ hl_L_kept_13, va_Nw.use rfl ((hG3 s X.2.2.2.2.2.2.2.2.2.2).2 _ (by decide +kernel)), fun q9 => ?_⟩
      refine vg_astore X [(4, .ref q9), (0, .ref ax), (1, .int k), (2, .int v), (3, .ref aO)] dL_kept_12 (by decide) rfl ?_
      refine vg_iconst X (nI 1) dL_kept_14 (by decide) ?_
      exact vg_iret X rfl (Or.inl ⟨rfl, rfl, hc⟩) (Nat.le_of_ble_eq_true rfl) (Nat.le_of_ble_eq_true rfl) dL_kept_15
    · skip
      refine ⟨[⟨0, 9, 12, 13⟩], ⟨0, 9, 16, 82⟩, [], "java/lang/ArrayIndexOutOfBoundsException", hTb.trans rfl, fun z hz => by rw [List.mem_singleton.mp hz]; exact Or.inr ⟨by decide, "java/lang/IllegalArgumentException", X.2.2.2.2.1 _ hl_L_kept_13, (hG3 s X.2.2.2.2.2.2.2.2.2.2).1 ("java/lang/ArrayIndexOutOfBoundsException", "java/lang/IllegalArgumentException") (by decide +kernel)⟩, by decide, by decide, va_Nw.use rfl (hWm9.2.2 _ (by decide +kernel)), va_Nw.use rfl ((hG3 s X.2.2.2.2.2.2.2.2.2.2).2 _ (by decide +kernel)), fun q9 => ?_⟩
      refine vg_astore X [(4, .ref q9), (0, .ref ax), (1, .int k), (2, .int v), (3, .ref aO)] dL_kept_16 (by decide) rfl ?_
      refine vg_iconst X (nI 2) dL_kept_18 (by decide) ?_
      exact vg_iret X rfl (Or.inr (Or.inl ⟨rfl, rfl, hc⟩)) (Nat.le_of_ble_eq_true rfl) (Nat.le_of_ble_eq_true rfl) dL_kept_19
  · skip
    have hF : cw_fr ws wz1 := by rw [PP2.1]; exact cw_fr_rf ws
    have h551 := (hF.2 55 (by decide) (by decide)).trans h55
    refine vg_last X 55 h551 rfl (by decide) (by decide) dL_kept_8 (fun wz4 ez5 => ?_)
    have fh6 : wz4[55]? = some (aO, .inl (ay 1, 1, .inr (.inl (vp_updL fO 0 rr3)))) := vg_se ez5 h551
    refine vg_goto X 20 dL_kept_9 (by decide) ?_
    refine vg_iconst X (nI 0) dL_kept_20 (by decide) ?_
    exact vg_iret X rfl (Or.inr (Or.inr ⟨rfl, rr3, wz1, PP2, ez5⟩)) (Nat.le_of_ble_eq_true rfl) (Nat.le_of_ble_eq_true rfl) dL_kept_21
set_option maxHeartbeats 4000000 in
set_option maxRecDepth 100000 in
/-- the law: net -/
theorem c_L_net (l : Launch) {D : va_G} {ay : Nat → ClassId} {base : Nat} {Gx : State → Prop} {tE mi : Nat} {ws : va_W} {ax aO : Nat} {fO : Nat → Int64} {n P U : Nat} {d fr to pe uv : Nat → Nat → Nat} {ku ks kt : Nat → Nat} {sk : Nat → Nat → Nat} {wl : Nat} {wp : Nat → Nat} {x : Int32} (hl9 : l.stackTraces = false) (hG2 : ∀ U, Gx U → vh_G2 base tE mi U) (hG3 : ∀ U, Gx U → vh_X U) (hS : cw_St ay ws ax tE n P U d fr to pe uv ku ks kt sk wl wp) (h55 : ws[55]? = some (aO, .inl (ay 1, 1, .inr (.inl fO)))) : Met l yL_net wsL_net ({ frames := 9, cells := 10, slots := 400, locals := 245 } : Room) (fun a9 s9 => va_Pc [.ref ax, .int x] (vg_B D ay base Gx ws) a9 s9 ∧ vs_W s9) (va_Qi (fun r u => hp_net ay ws ax tE aO fO n P U d fr to pe uv ku ks kt sk wl wp x r u) (vg_B D ay base Gx) (vg_A base)) 10 400 (vg_A base) := by
  refine vg_metH (cc := cL_net) (maxL := 3) (ret := (some .int)) (hh := [(0, 5, 8, 13), (0, 5, 11, 15)]) (own := RL) (lv := [(0, .ref ax), (1, .int x)]) (by decide) rfl rfl (Nat.le_of_ble_eq_true rfl) rfl ?_
  intro p e s m args below meth c X hTb hWm9
  obtain ⟨aN, asr, aTs, aWB, el, qp, ua, uq, fb, hSS⟩ := id hS
  have h0 := hSS.1
  have hB := cw_N_b hSS.2.2.1
  refine vg_aload_n X dL_net_0 0 rfl rfl ?_
  refine vg_iload_n X dL_net_1 1 rfl rfl ?_
  refine vg_callvC X (vg_runVX X vs_st hWm9 (c_X6_net l hl9 hG2 hS (x := x)) (cwV 1 X.2.2.2.2.1 gL_net_X6_net rfl rfl rfl (by decide +kernel) ⟨(Nat.le_of_ble_eq_true rfl), (Nat.le_of_ble_eq_true rfl)⟩) 0 h0 rfl rfl rfl (Nat.le_of_ble_eq_true rfl) dL_net_2 ⟨(Nat.le_of_ble_eq_true rfl), (Nat.le_of_ble_eq_true rfl)⟩) ?_ (fun wz1 PP2 => ?_)
  · intro E hE
    rcases hE with ⟨rfl, hc⟩ | ⟨rfl, hc⟩
    · skip
      refine ⟨[], ⟨0, 5, 8, 13⟩, [⟨0, 5, 11, 15⟩], "java/lang/IllegalArgumentException", hTb.trans rfl, fun z hz => absurd hz List.not_mem_nil, by decide, by decide, X.2.2.2.2.1 _ hl_L_net_13, va_Nw.use rfl ((hG3 s X.2.2.2.2.2.2.2.2.2.2).2 _ (by decide +kernel)), fun q9 => ?_⟩
      refine vg_astore_n X [(2, .ref q9), (0, .ref ax), (1, .int x)] dL_net_8 rfl (by decide) rfl ?_
      refine vg_iconst X (nI 1) dL_net_9 (by decide) ?_
      exact vg_iret X rfl (Or.inl ⟨rfl, rfl, hc⟩) (Nat.le_of_ble_eq_true rfl) (Nat.le_of_ble_eq_true rfl) dL_net_10
    · skip
      refine ⟨[⟨0, 5, 8, 13⟩], ⟨0, 5, 11, 15⟩, [], "java/lang/NegativeArraySizeException", hTb.trans rfl, fun z hz => by rw [List.mem_singleton.mp hz]; exact Or.inr ⟨by decide, "java/lang/IllegalArgumentException", X.2.2.2.2.1 _ hl_L_net_13, (hG3 s X.2.2.2.2.2.2.2.2.2.2).1 ("java/lang/NegativeArraySizeException", "java/lang/IllegalArgumentException") (by decide +kernel)⟩, by decide, by decide, va_Nw.use rfl (hWm9.2.2 _ (by decide +kernel)), va_Nw.use rfl ((hG3 s X.2.2.2.2.2.2.2.2.2.2).2 _ (by decide +kernel)), fun q9 => ?_⟩
      refine vg_astore_n X [(2, .ref q9), (0, .ref ax), (1, .int x)] dL_net_11 rfl (by decide) rfl ?_
      refine vg_iconst X (nI 2) dL_net_12 (by decide) ?_
      exact vg_iret X rfl (Or.inr (Or.inl ⟨rfl, rfl, hc⟩)) (Nat.le_of_ble_eq_true rfl) (Nat.le_of_ble_eq_true rfl) dL_net_13
  · skip
    refine vg_goto X 14 dL_net_5 (by decide) ?_
    refine vg_iconst X (nI 0) dL_net_14 (by decide) ?_
    exact vg_iret X rfl (Or.inr (Or.inr ⟨rfl, PP2⟩)) (Nat.le_of_ble_eq_true rfl) (Nat.le_of_ble_eq_true rfl) dL_net_15
