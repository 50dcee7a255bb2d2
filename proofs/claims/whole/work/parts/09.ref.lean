/-! The reference's two searches: least seconds by passes over the pieces, rows of six by passes over all rows. -/
def bf_inv (n P : Nat) (ea eb w : Nat → Nat) (a : Nat) (d : Nat → Nat) : Prop := d a = 0 ∧ (∀ v, v < n → d v ≤ ma_B) ∧ ∀ v, v < n → d v = ma_B ∨ 0 < ma_T P ea eb w a v (d v)
/-- a step over piece i: x to y -/
theorem bf_step {n P : Nat} {ea eb w : Nat → Nat} {a i x y : Nat} {d d' : Nat → Nat} (h : bf_inv n P ea eb w a d) (hi : i < P) (hw : w i ≠ 0) (hxy : (ea i = x ∧ eb i = y) ∨ (ea i = y ∧ eb i = x)) (hx : x < n) (hy : y < n) (hlt : d x + w i < d y) (hd : ∀ v, v < n → d' v = if v = y then d x + w i else d v) (ha : a < n) : bf_inv n P ea eb w a d' := by
  obtain ⟨h1, h2, h3⟩ := h
  refine ⟨?_, fun v hv => ?_, fun v hv => ?_⟩
  · rw [hd a ha]
    by_cases e : a = y
    · subst e; omega
    · rw [if_neg e]; exact h1
  · rw [hd v hv]
    have := h2 y hy
    by_cases e : v = y
    · rw [if_pos e]; omega
    · rw [if_neg e]; exact h2 v hv
  · rw [hd v hv]
    by_cases e : v = y
    · subst e
      rw [if_pos rfl]
      have hb := h2 v hy
      rcases h3 x hx with q | q
      · omega
      · right
        rcases hxy with ⟨e1, e2⟩ | ⟨e1, e2⟩
        · subst e1; rw [← e2]; exact ma_T_stepA hi hw q
        · subst e2; rw [← e1]; exact ma_T_stepB hi hw q
    · rw [if_neg e]; exact h3 v hv
theorem bf_start {n P : Nat} {ea eb w : Nat → Nat} {a : Nat} {d : Nat → Nat} (h : ∀ v, v < n → d v = if v = a then 0 else ma_B) (ha : a < n) : bf_inv n P ea eb w a d := by
  refine ⟨by rw [h a ha, if_pos rfl], fun v hv => ?_, fun v hv => ?_⟩
  · rw [h v hv]; split <;> omega
  · rw [h v hv]
    by_cases e : v = a
    · subst e; right; exact ma_T_start _ _ _ _ _ _
    · rw [if_neg e]; left; rfl
def bf_closed (P : Nat) (ea eb w d : Nat → Nat) : Prop := ∀ i, i < P → w i ≠ 0 → d (eb i) ≤ d (ea i) + w i ∧ d (ea i) ≤ d (eb i) + w i
/-- no piece makes anything less: these are the least seconds -/
theorem bf_end {n P : Nat} {ea eb w : Nat → Nat} {a : Nat} {d : Nat → Nat} (h : bf_inv n P ea eb w a d) (hc : bf_closed P ea eb w d) (hea : ∀ i, i < P → ea i < n) (heb : ∀ i, i < P → eb i < n) : ∀ v, v < n → ma_d (ma_T P ea eb w a v) 1 = d v := by
  obtain ⟨h1, h2, h3⟩ := h
  have key : ∀ c v, v < n → 0 < ma_T P ea eb w a v c → d v ≤ c := by
    intro c
    induction c using Nat.strongRecOn with
    | ind c ih =>
      intro v hv hT
      by_cases e : v = a
      · subst e; omega
      · obtain ⟨i, hi, hw, hle, ⟨e1, q⟩ | ⟨e1, q⟩⟩ := ma_T_from e hT
        · have := ih (c - w i) (by omega) (ea i) (hea i hi) q
          have := (hc i hi hw).1
          rw [← e1]; omega
        · have := ih (c - w i) (by omega) (eb i) (heb i hi) q
          have := (hc i hi hw).2
          rw [← e1]; omega
  intro v hv
  refine ma_d_of ⟨h2 v hv, fun c hlt => ?_, fun hb => ?_⟩
  · rcases Nat.lt_or_ge 0 (ma_T P ea eb w a v c) with q | q
    · have := key c v hv q; omega
    · omega
  · rcases h3 v hv with q | q
    · omega
    · exact q
/-- one place of put(): the row x so far y, the number carried on cv -/
def pt_inv (x y : Nat → Nat) (s i cv : Nat) : Prop := (∀ c, ma_cnt y i c + (if cv ≤ c then 1 else 0) = ma_cnt x i c + (if s ≤ c then 1 else 0)) ∧ (∀ a b, a < b → b < i → y a ≤ y b) ∧ (∀ j, j < i → y j ≤ cv) ∧ (∀ j, j < i → y j ≤ x j)
theorem pt_start (x y : Nat → Nat) (s : Nat) : pt_inv x y s 0 s := ⟨fun _ => rfl, fun a b _ h => absurd h (by omega), fun j h => absurd h (by omega), fun j h => absurd h (by omega)⟩
theorem pt_keep {x y y' : Nat → Nat} {s i cv : Nat} (h : pt_inv x y s i cv) (hs : ∀ a b, a < b → b ≤ i → x a ≤ x b) (hle : x i ≤ cv) (h1 : ∀ j, j < i → y' j = y j) (h2 : y' i = x i) : pt_inv x y' s (i + 1) cv := by
  obtain ⟨q1, q2, q3, q4⟩ := h
  refine ⟨fun c => ?_, fun a b hab hb => ?_, fun j hj => ?_, fun j hj => ?_⟩
  · rw [ma_cnt_succ, ma_cnt_succ, ma_cnt_congr h1, h2]; have := q1 c; omega
  · by_cases e : b = i
    · subst e; rw [h1 a hab, h2]; have := q4 a hab; have := hs a b hab (Nat.le_refl _); omega
    · rw [h1 a (by omega), h1 b (by omega)]; exact q2 a b hab (by omega)
  · by_cases e : j = i
    · subst e; rw [h2]; exact hle
    · rw [h1 j (by omega)]; exact q3 j (by omega)
  · by_cases e : j = i
    · subst e; rw [h2]; exact Nat.le_refl _
    · rw [h1 j (by omega)]; exact q4 j (by omega)
theorem pt_swap {x y y' : Nat → Nat} {s i cv : Nat} (h : pt_inv x y s i cv) (hlt : cv < x i) (h1 : ∀ j, j < i → y' j = y j) (h2 : y' i = cv) : pt_inv x y' s (i + 1) (x i) := by
  obtain ⟨q1, q2, q3, q4⟩ := h
  refine ⟨fun c => ?_, fun a b hab hb => ?_, fun j hj => ?_, fun j hj => ?_⟩
  · rw [ma_cnt_succ, ma_cnt_succ, ma_cnt_congr h1, h2]; have := q1 c; omega
  · by_cases e : b = i
    · subst e; rw [h1 a hab, h2]; exact q3 a hab
    · rw [h1 a (by omega), h1 b (by omega)]; exact q2 a b hab (by omega)
  · by_cases e : j = i
    · subst e; rw [h2]; omega
    · rw [h1 j (by omega)]; have := q3 j (by omega); omega
  · by_cases e : j = i
    · subst e; rw [h2]; omega
    · rw [h1 j (by omega)]; exact q4 j (by omega)
/-- a row of six: sorted, its counts (below ma_B) those of Of -/
def pt_row (x Of : Nat → Nat) : Prop := (∀ a b, a < b → b < 6 → x a ≤ x b) ∧ (∀ j, j < 6 → x j ≤ ma_B) ∧ ∀ c, c < ma_B → ma_cnt x 6 c = min 6 (Of c)
theorem pt_end {x y Of : Nat → Nat} {s cv : Nat} (hr : pt_row x Of) (h : pt_inv x y s 6 cv) : pt_row y (fun c => Of c + if s ≤ c then 1 else 0) := by
  obtain ⟨q1, q2, q3, q4⟩ := h
  obtain ⟨r1, r2, r3⟩ := hr
  refine ⟨q2, fun j hj => Nat.le_trans (q4 j hj) (r2 j hj), fun c hc => ?_⟩
  have e1 := q1 c
  have e2 := r3 c hc
  have e3 := ma_cnt_le y 6 c
  by_cases e : cv ≤ c
  · have : ma_cnt y 6 c = 6 := ma_cnt_all fun j hj => by have := q3 j hj; omega
    rw [if_pos e] at e1
    dsimp only
    omega
  · rw [if_neg e] at e1
    dsimp only
    split at e1 <;> rename_i hh
    · rw [if_pos hh]; omega
    · rw [if_neg hh]; omega
theorem pt_congr {x Of Of' : Nat → Nat} (h : pt_row x Of) (he : ∀ c, c < ma_B → Of' c = Of c) : pt_row x Of' := ⟨h.1, h.2.1, fun c hc => by rw [he c hc]; exact h.2.2 c hc⟩
theorem pt_rowx {x y Of : Nat → Nat} (h : pt_row x Of) (he : ∀ j, j < 6 → y j = x j) : pt_row y Of := ⟨fun a b hab hb => by rw [he a (by omega), he b hb]; exact h.1 a b hab hb, fun j hj => by rw [he j hj]; exact h.2.1 j hj, fun c hc => by rw [ma_cnt_congr he]; exact h.2.2 c hc⟩
/-- more counts, smaller places -/
theorem pt_less {x y F G : Nat → Nat} (hx : pt_row x F) (hy : pt_row y G) (h : ∀ c, c < ma_B → min 6 (F c) ≤ min 6 (G c)) : ∀ j, j < 6 → y j ≤ x j := by
  intro j hj
  rcases Nat.lt_or_ge (x j) (y j) with q | q
  · exfalso
    have hb : x j < ma_B := Nat.lt_of_lt_of_le q (hy.2.1 j hj)
    have e1 := hx.2.2 _ hb
    have e2 := hy.2.2 _ hb
    have e3 := h _ hb
    have e4 : ma_cnt x (j + 1) (x j) = j + 1 := ma_cnt_all fun i hi => by
      by_cases e : i = j
      · subst e; exact Nat.le_refl _
      · exact hx.1 i j (by omega) hj
    have e5 := ma_cnt_mono (x := x) (c := x j) (show j + 1 ≤ 6 by omega)
    have e6 : ma_cnt y 6 (x j) ≤ j := by
      have : ∀ q, q ≤ 6 → j ≤ q → ma_cnt y q (x j) ≤ j := by
        intro q
        induction q with
        | zero => intro _ h; have := ma_cnt_le y 0 (x j); omega
        | succ q ih =>
          intro hq hjq
          by_cases e : j ≤ q
          · rw [ma_cnt_succ]
            have := ih (by omega) e
            have hyq : y j ≤ y q := by
              by_cases e3 : j = q
              · rw [e3]; exact Nat.le_refl _
              · exact hy.1 _ _ (by omega) (by omega)
            rw [if_neg (by omega)]; omega
          · have := ma_cnt_le y (q + 1) (x j); omega
      exact this 6 (Nat.le_refl _) (by omega)
    omega
  · exact q
theorem ma_in_mono {P : Nat} {ea eb w : Nat → Nat} {a : Nat} {F G : Nat → Nat → Nat} {v c : Nat} (h : ∀ i, i < P → w i ≠ 0 → w i ≤ c → F (ea i) (c - w i) ≤ G (ea i) (c - w i) ∧ F (eb i) (c - w i) ≤ G (eb i) (c - w i)) : ma_in P ea eb w a F v c ≤ ma_in P ea eb w a G v c := by
  unfold ma_in
  refine Nat.add_le_add_left (ma_sum_le fun i hi => ?_) _
  by_cases e : w i = 0 ∨ c < w i
  · rw [if_pos e, if_pos e]; exact Nat.le_refl _
  · rw [if_neg e, if_neg e]
    have := h i hi (fun z => e (Or.inl z)) (by omega)
    split <;> split <;> omega
theorem pt_nth {x F : Nat → Nat} {k : Nat} (h : pt_row x F) (hk : 0 < k) (hk6 : k ≤ 6) : ma_d F k = x (k - 1) := by
  rw [ma_nth (m := 6) (k := 6) hk hk6 h.1 h.2.2 h.2.1, if_pos hk6]
