/-! A way told by last pieces, back from its end. d: the least seconds to each node. -/
def wy_fit (P : Nat) (ea eb w d : Nat → Nat) (v i : Nat) : Prop := i < P ∧ w i ≠ 0 ∧ d v < ma_B ∧ ((ea i = v ∧ d (eb i) + w i = d v) ∨ (eb i = v ∧ d (ea i) + w i = d v))
def wy_low (P : Nat) (ea eb w d : Nat → Nat) (v i : Nat) : Prop := wy_fit P ea eb w d v i ∧ ∀ j, j < i → ¬ wy_fit P ea eb w d v j
def wy_oth (ea eb : Nat → Nat) (i v : Nat) : Nat := if ea i = v then eb i else ea i
theorem wy_low_uniq {P : Nat} {ea eb w d : Nat → Nat} {v i j : Nat} (h : wy_low P ea eb w d v i) (h' : wy_low P ea eb w d v j) : i = j := by
  rcases Nat.lt_trichotomy i j with q | q | q
  · exact absurd h.1 (h'.2 i q)
  · exact q
  · exact absurd h'.1 (h.2 j q)
theorem wy_fit_oth {P : Nat} {ea eb w d : Nat → Nat} {v i : Nat} (h : wy_fit P ea eb w d v i) (hne : ea i ≠ eb i) : d (wy_oth ea eb i v) + w i = d v := by
  obtain ⟨_, h2, _, ⟨e, q⟩ | ⟨e, q⟩⟩ := h
  · unfold wy_oth; rw [if_pos e]; exact q
  · unfold wy_oth; rw [if_neg (by rw [← e]; exact hne)]; exact q
/-- from each node that is reached, but the start, a last piece goes back -/
theorem wy_ex {n P : Nat} {ea eb w d : Nat → Nat} {a v : Nat} (hd : ∀ v, v < n → ma_d (ma_T P ea eb w a v) 1 = d v) (hea : ∀ i, i < P → ea i < n) (heb : ∀ i, i < P → eb i < n) (hv : v < n) (hne : v ≠ a) (hr : d v < ma_B) : ∃ i, wy_low P ea eb w d v i := by
  have hle : ∀ u c, u < n → 0 < ma_T P ea eb w a u c → d u ≤ c := fun u c hu h => by rw [← hd u hu]; exact ma_d_le h
  have hat : ∀ u, u < n → d u < ma_B → 0 < ma_T P ea eb w a u (d u) := fun u hu h => by
    rw [← hd u hu] at h ⊢
    exact ma_d_at h
  have hfit : ∃ i, wy_fit P ea eb w d v i := by
    obtain ⟨i, hi, hw, hwc, ⟨e, q⟩ | ⟨e, q⟩⟩ := ma_T_from hne (hat v hv hr)
    · have g1 := hle (ea i) _ (hea i hi) q
      have g2 := hle (eb i) _ (heb i hi) (ma_T_stepA hi hw (hat (ea i) (hea i hi) (by omega)))
      rw [e] at g2
      exact ⟨i, hi, hw, hr, Or.inr ⟨e, by omega⟩⟩
    · have g1 := hle (eb i) _ (heb i hi) q
      have g2 := hle (ea i) _ (hea i hi) (ma_T_stepB hi hw (hat (eb i) (heb i hi) (by omega)))
      rw [e] at g2
      exact ⟨i, hi, hw, hr, Or.inl ⟨e, by omega⟩⟩
  obtain ⟨i, h1, h2⟩ := pk_least _ hfit
  exact ⟨i, h1, h2⟩
/-- so many pieces lie within v's seconds: each step back makes it less -/
def wy_C (P : Nat) (ea eb d : Nat → Nat) (v : Nat) : Nat := ma_sum (fun i => if d (ea i) ≤ d v ∧ d (eb i) ≤ d v then 1 else 0) P
theorem wy_C_le (P : Nat) (ea eb d : Nat → Nat) (v : Nat) : wy_C P ea eb d v ≤ P := by
  have h := ma_sum_le (f := fun i => if d (ea i) ≤ d v ∧ d (eb i) ≤ d v then 1 else 0) (g := fun _ => 1) (n := P) (fun i _ => by split <;> omega)
  rw [ma_sum_const] at h
  unfold wy_C
  omega
theorem wy_C_step {P : Nat} {ea eb w d : Nat → Nat} {v i : Nat} (h : wy_fit P ea eb w d v i) (hne : ea i ≠ eb i) : wy_C P ea eb d (wy_oth ea eb i v) < wy_C P ea eb d v := by
  have h0 := wy_fit_oth h hne
  obtain ⟨hi, hw, hr, hh⟩ := h
  refine ma_sum_lt (fun j _ => ?_) ⟨i, hi, ?_⟩
  · by_cases c : d (ea j) ≤ d (wy_oth ea eb i v) ∧ d (eb j) ≤ d (wy_oth ea eb i v)
    · rw [if_pos c, if_pos (by omega)]; exact Nat.le_refl _
    · rw [if_neg c]; exact Nat.zero_le _
  · rcases hh with ⟨e, q⟩ | ⟨e, q⟩
    · rw [if_neg (by rw [e]; omega), if_pos (by rw [e]; omega)]; exact Nat.zero_lt_one
    · rw [if_neg (by rw [e]; omega), if_pos (by rw [e]; omega)]; exact Nat.zero_lt_one
/-- the first k pieces wp of the way back from b, by the nodes nd -/
def wy_path (P : Nat) (ea eb w d : Nat → Nat) (a b k : Nat) (wp nd : Nat → Nat) : Prop := nd 0 = b ∧ ∀ j, j < k → nd j ≠ a ∧ wy_low P ea eb w d (nd j) (wp j) ∧ nd (j + 1) = wy_oth ea eb (wp j) (nd j)
theorem wy_path_same {P : Nat} {ea eb w d : Nat → Nat} {a b k k' : Nat} {wp nd wp' nd' : Nat → Nat} (h : wy_path P ea eb w d a b k wp nd) (h' : wy_path P ea eb w d a b k' wp' nd') : ∀ j, j ≤ k → j ≤ k' → nd j = nd' j ∧ ∀ i, i < j → wp i = wp' i := by
  intro j
  induction j with
  | zero => exact fun _ _ => ⟨h.1.trans h'.1.symm, fun i hi => absurd hi (by omega)⟩
  | succ j ih =>
    intro h1 h2
    obtain ⟨e, q⟩ := ih (by omega) (by omega)
    obtain ⟨a1, a2, a3⟩ := h.2 j (by omega)
    obtain ⟨b1, b2, b3⟩ := h'.2 j (by omega)
    rw [← e] at b2 b3
    have e2 := wy_low_uniq a2 b2
    refine ⟨by rw [a3, b3, e2], fun i hi => ?_⟩
    by_cases c : i = j
    · rw [c]; exact e2
    · exact q i (by omega)
/-- two ways told back to the start are one -/
theorem wy_path_uniq {P : Nat} {ea eb w d : Nat → Nat} {a b k k' : Nat} {wp nd wp' nd' : Nat → Nat} (h : wy_path P ea eb w d a b k wp nd) (h' : wy_path P ea eb w d a b k' wp' nd') (he : nd k = a) (he' : nd' k' = a) : k = k' ∧ ∀ i, i < k → wp i = wp' i := by
  have e : k = k' := by
    rcases Nat.lt_trichotomy k k' with q | q | q
    · have := (wy_path_same h h' k (Nat.le_refl _) (by omega)).1
      exact absurd (this.symm.trans he) (h'.2 k q).1
    · exact q
    · have := (wy_path_same h h' k' (by omega) (Nat.le_refl _)).1
      exact absurd (this.trans he') (h.2 k' q).1
  subst e
  exact ⟨rfl, (wy_path_same h h' k (Nat.le_refl _) (Nat.le_refl _)).2⟩
theorem wy_path_ext {P : Nat} {ea eb w d : Nat → Nat} {a b k i : Nat} {wp nd : Nat → Nat} (h : wy_path P ea eb w d a b k wp nd) (hne : nd k ≠ a) (hl : wy_low P ea eb w d (nd k) i) : wy_path P ea eb w d a b (k + 1) (va_up wp k i) (va_up nd (k + 1) (wy_oth ea eb i (nd k))) := by
  refine ⟨by rw [va_up_ne _ _ (by omega)]; exact h.1, fun j hj => ?_⟩
  by_cases e : j = k
  · subst e
    rw [va_up_self, va_up_ne nd _ (show j ≠ j + 1 by omega), va_up_self]
    exact ⟨hne, hl, rfl⟩
  · rw [va_up_ne nd _ (show j ≠ k + 1 by omega), va_up_ne wp _ e, va_up_ne nd _ (show j + 1 ≠ k + 1 by omega)]
    exact h.2 j (by omega)
