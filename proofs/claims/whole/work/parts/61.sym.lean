/-- a walk that begins with the piece i -/
theorem sy_pre {P : Nat} {ea eb w : Nat → Nat} {u v i : Nat} (hi : i < P) (hw : w i ≠ 0) (he : (ea i = u ∧ eb i = v) ∨ (ea i = v ∧ eb i = u)) : ∀ (c x : Nat), 0 < ma_T P ea eb w u x c → 0 < ma_T P ea eb w v x (c + w i) := by
  intro c
  induction c using Nat.strongRecOn with
  | ind c ih =>
    intro x h
    by_cases hx : x = u
    · subst hx
      rcases he with ⟨h1, h2⟩ | ⟨h1, h2⟩
      · rw [← h1]; exact ma_T_stepB hi hw (by rw [h2]; exact ma_T_start _ _ _ _ _ _)
      · rw [← h2]; exact ma_T_stepA hi hw (by rw [h1]; exact ma_T_start _ _ _ _ _ _)
    · obtain ⟨j, hj, hwj, hjc, h2 | h2⟩ := ma_T_from hx h
      · have g := ma_T_stepA hj hwj (ih (c - w j) (by omega) _ h2.2)
        rw [h2.1, show c - w j + w i + w j = c + w i by omega] at g
        exact g
      · have g := ma_T_stepB hj hwj (ih (c - w j) (by omega) _ h2.2)
        rw [h2.1, show c - w j + w i + w j = c + w i by omega] at g
        exact g
/-- pieces take the same both ways -/
theorem sy_T {P : Nat} {ea eb w : Nat → Nat} {a : Nat} : ∀ (c v : Nat), 0 < ma_T P ea eb w a v c → 0 < ma_T P ea eb w v a c := by
  intro c
  induction c using Nat.strongRecOn with
  | ind c ih =>
    intro v h
    by_cases hx : v = a
    · subst hx; exact ma_T_start _ _ _ _ _ _
    · obtain ⟨j, hj, hwj, hjc, h2 | h2⟩ := ma_T_from hx h
      · have g := sy_pre (v := v) hj hwj (Or.inl ⟨rfl, h2.1⟩) _ _ (ih (c - w j) (by omega) _ h2.2)
        rw [show c - w j + w j = c by omega] at g
        exact g
      · have g := sy_pre (v := v) hj hwj (Or.inr ⟨h2.1, rfl⟩) _ _ (ih (c - w j) (by omega) _ h2.2)
        rw [show c - w j + w j = c by omega] at g
        exact g
theorem sy_d (P : Nat) (ea eb w : Nat → Nat) (a b : Nat) : ma_d (ma_T P ea eb w a b) 1 = ma_d (ma_T P ea eb w b a) 1 := by
  obtain ⟨h1, h2, h3⟩ := ma_d_is (ma_T P ea eb w b a) 1
  refine ma_d_of ⟨h1, fun c hc => ?_, fun hc => sy_T _ _ (h3 hc)⟩
  rcases Nat.eq_zero_or_pos (ma_T P ea eb w a b c) with g | g
  · omega
  · have := sy_T _ _ g
    have := h2 c hc
    omega
/-- -1 stands for ma_B and all above -/
theorem vs_rep_ge {x : Nat} (h : ma_B ≤ x) : vs_rep x = -1 := if_neg (by omega)
theorem vs_rep_m1 {x : Nat} (h : vs_rep x = -1) : ma_B ≤ x := by
  have eB : ma_B = 2 ^ 60 := rfl
  rcases Nat.lt_or_ge x ma_B with g | g
  · rw [vs_rep_lt g] at h; exact absurd h (lN_nm1 (by omega))
  · exact g
theorem vs_rep_nm1 {x : Nat} (h : ¬ vs_rep x = -1) : x < ma_B := by
  rcases Nat.lt_or_ge x ma_B with g | g
  · exact g
  · exact absurd (vs_rep_ge g) h
theorem vs_min_l {x y : Nat} (h : ma_B ≤ x) : vs_rep (min x y) = vs_rep y := by
  rcases Nat.lt_or_ge y ma_B with g | g
  · rw [show min x y = y by omega]
  · rw [vs_rep_ge (show ma_B ≤ min x y by omega), vs_rep_ge g]
theorem vs_min_r {x y : Nat} (h : ma_B ≤ y) : vs_rep (min x y) = vs_rep x := by
  rw [Nat.min_comm]; exact vs_min_l h
theorem vs_min_b {x y : Nat} (hx : x < ma_B) (hy : y < ma_B) : (if vs_rep y < vs_rep x then vs_rep y else vs_rep x) = vs_rep (min x y) := by
  have eB : ma_B = 2 ^ 60 := rfl
  rw [vs_rep_lt hx, vs_rep_lt hy]
  by_cases g : y < x
  · rw [if_pos ((pk_lLT (by omega) (by omega)).mpr g), show min x y = y by omega, vs_rep_lt hy]
  · rw [if_neg (fun z => g ((pk_lLT (by omega) (by omega)).mp z)), show min x y = x by omega, vs_rep_lt hx]
theorem cs_dB {n : Nat} {kn : Nat → Nat} {wk T : Nat → Nat → Nat} (h : cs_res n 1 kn wk T) {v : Nat} (hv : v < n) : ma_d (T v) 1 < 2 ^ 59 ∨ ma_d (T v) 1 = ma_B := by
  have g := (h v hv).2 1 (by omega) (by omega)
  by_cases q : 1 ≤ kn v
  · left; rw [(g.1 q).1]; exact (g.1 q).2
  · right; exact g.2 q
