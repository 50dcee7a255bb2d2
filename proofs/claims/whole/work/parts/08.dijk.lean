/-! The search of the class: rows of known walks, the settled ones ahead; what has been offered so far as counts. -/
def dj_inv (n k : Nat) (kn st : Nat → Nat) (wk Of : Nat → Nat → Nat) (L U : Nat) : Prop :=
  (∀ v, v < n → st v ≤ kn v ∧ kn v ≤ k) ∧ (∀ v, v < n → ∀ i j, i < j → j < kn v → wk v i ≤ wk v j) ∧
  (∀ v, v < n → (∀ j, j < st v → wk v j ≤ L) ∧ (∀ j, st v ≤ j → j < kn v → L ≤ wk v j)) ∧ (∀ v, v < n → ∀ c, ma_cnt (wk v) (kn v) c = min k (Of v c)) ∧ (∀ v, v < n → ∀ j, j < kn v → wk v j ≤ U)
/-- an offer counted -/
def dj_of (Of : Nat → Nat → Nat) (v0 s : Nat) : Nat → Nat → Nat := fun v c => Of v c + if v = v0 ∧ s ≤ c then 1 else 0
/-- an offer that is no better than the last of a full row -/
theorem dj_keep {n k : Nat} {kn st : Nat → Nat} {wk Of : Nat → Nat → Nat} {L U v0 s : Nat} (h : dj_inv n k kn st wk Of L U) (hv : v0 < n) (hk : 0 < k) (hfull : kn v0 = k) (hs : wk v0 (k - 1) ≤ s) : dj_inv n k kn st wk (dj_of Of v0 s) L U := by
  obtain ⟨h1, h2, h3, h4, h5⟩ := h
  refine ⟨h1, h2, h3, fun v hv' c => ?_, h5⟩
  rw [h4 v hv' c]
  unfold dj_of
  by_cases e : v = v0 ∧ s ≤ c
  · rw [if_pos e]
    obtain ⟨rfl, hc⟩ := e
    have h6 := h4 v hv' c
    have h7 : ma_cnt (wk v) (kn v) c = kn v := ma_cnt_all fun j hj => by
      by_cases e2 : j = k - 1
      · subst e2; omega
      · have := h2 v hv' j (k - 1) (by omega) (by omega)
        omega
    omega
  · rw [if_neg e]; rfl
/-- an offer that goes into its row at place p, the row's last one going if it is full -/
theorem dj_ins {n k : Nat} {kn st : Nat → Nat} {wk Of : Nat → Nat → Nat} {L U v0 s m p : Nat} {kn' : Nat → Nat} {wk' : Nat → Nat → Nat} (h : dj_inv n k kn st wk Of L U) (hv : v0 < n) (hL : L ≤ s) (hU : s ≤ U)
    (hm : (kn v0 < k ∧ m = kn v0) ∨ (kn v0 = k ∧ m + 1 = k ∧ s < wk v0 m)) (hp0 : st v0 ≤ p) (hp1 : p ≤ m) (hlo : p = st v0 ∨ (0 < p ∧ wk v0 (p - 1) ≤ s)) (hhi : ∀ j, p ≤ j → j < m → s < wk v0 j)
    (hkn : ∀ v, v < n → kn' v = if v = v0 then m + 1 else kn v) (hoth : ∀ v, v < n → v ≠ v0 → ∀ j, j < kn v → wk' v j = wk v j) (hy1 : ∀ j, j < p → wk' v0 j = wk v0 j) (hy2 : wk' v0 p = s) (hy3 : ∀ j, p < j → j ≤ m → wk' v0 j = wk v0 (j - 1)) : dj_inv n k kn' st wk' (dj_of Of v0 s) L U := by
  obtain ⟨h1, h2, h3, h4, h5⟩ := h
  have hmk : m ≤ kn v0 := by rcases hm with ⟨_, h⟩ | ⟨h, h', _⟩ <;> omega
  have hmk1 : m + 1 ≤ k := by rcases hm with ⟨_, h⟩ | ⟨h, h', _⟩ <;> omega
  have hbelow : ∀ j, j < p → wk v0 j ≤ s := by
    intro j hj
    rcases hlo with h | ⟨h, h'⟩
    · have := (h3 v0 hv).1 j (by omega)
      omega
    · by_cases e : j = p - 1
      · subst e; exact h'
      · have := h2 v0 hv j (p - 1) (by omega) (by omega)
        omega
  have hkn0 : kn' v0 = m + 1 := by rw [hkn v0 hv, if_pos rfl]
  refine ⟨fun v hv' => ?_, fun v hv' i j hij hj => ?_, fun v hv' => ?_, fun v hv' c => ?_, fun v hv' j hj => ?_⟩
  · rw [hkn v hv']
    by_cases e : v = v0
    · subst e; rw [if_pos rfl]; omega
    · rw [if_neg e]; exact h1 v hv'
  · by_cases e : v = v0
    · subst e
      rw [hkn0] at hj
      by_cases c1 : j < p
      · rw [hy1 i (by omega), hy1 j c1]; exact h2 v hv i j hij (by omega)
      · by_cases c2 : j = p
        · subst c2; rw [hy1 i hij, hy2]; exact hbelow i hij
        · rw [hy3 j (by omega) (by omega)]
          by_cases c3 : i < p
          · rw [hy1 i c3]
            have := h2 v hv i (j - 1) (by omega) (by omega)
            exact this
          · by_cases c4 : i = p
            · subst c4; rw [hy2]
              have := hhi (j - 1) (by omega) (by omega)
              omega
            · rw [hy3 i (by omega) (by omega)]
              exact h2 v hv (i - 1) (j - 1) (by omega) (by omega)
    · rw [hkn v hv', if_neg e] at hj
      rw [hoth v hv' e i (by omega), hoth v hv' e j hj]
      exact h2 v hv' i j hij hj
  · by_cases e : v = v0
    · subst e
      refine ⟨fun j hj => ?_, fun j hj hj2 => ?_⟩
      · rw [hy1 j (by omega)]; exact (h3 v hv).1 j hj
      · rw [hkn0] at hj2
        by_cases c1 : j < p
        · rw [hy1 j c1]; exact (h3 v hv).2 j hj (by omega)
        · by_cases c2 : j = p
          · subst c2; rw [hy2]; exact hL
          · rw [hy3 j (by omega) (by omega)]; exact (h3 v hv).2 (j - 1) (by omega) (by omega)
    · refine ⟨fun j hj => ?_, fun j hj hj2 => ?_⟩
      · have := h1 v hv'
        rw [hoth v hv' e j (by omega)]; exact (h3 v hv').1 j hj
      · rw [hkn v hv', if_neg e] at hj2
        rw [hoth v hv' e j hj2]; exact (h3 v hv').2 j hj hj2
  · unfold dj_of
    by_cases e : v = v0
    · subst e
      rw [hkn0, ma_cnt_ins (x := wk v) (s := s) (c := c) hp1 hy1 hy2 hy3]
      have h6 := h4 v hv c
      simp only [true_and]
      rcases hm with ⟨q1, q2⟩ | ⟨q1, q2, q3⟩
      · subst q2
        have := ma_cnt_le (wk v) (kn v) c
        split <;> omega
      · have e7 : kn v = m + 1 := by omega
        rw [e7, ma_cnt_succ] at h6
        have := ma_cnt_le (wk v) m c
        by_cases c8 : wk v m ≤ c
        · rw [if_pos c8] at h6
          have h9 : ma_cnt (wk v) m c = m := ma_cnt_all fun j hj => by
            have := h2 v hv j m hj (by omega)
            omega
          rw [if_pos (show s ≤ c by omega)]
          omega
        · rw [if_neg c8] at h6
          split <;> omega
    · rw [hkn v hv', if_neg e, ma_cnt_congr (hoth v hv' e), h4 v hv' c, if_neg (fun z => e z.1)]
      rfl
  · by_cases e : v = v0
    · subst e
      rw [hkn0] at hj
      by_cases c1 : j < p
      · rw [hy1 j c1]; exact h5 v hv j (by omega)
      · by_cases c2 : j = p
        · subst c2; rw [hy2]; exact hU
        · rw [hy3 j (by omega) (by omega)]; exact h5 v hv (j - 1) (by omega)
    · rw [hkn v hv', if_neg e] at hj
      rw [hoth v hv' e j hj]; exact h5 v hv' j hj
/-- the least of those that wait is settled -/
theorem dj_take {n k : Nat} {kn st : Nat → Nat} {wk Of : Nat → Nat → Nat} {L U v0 : Nat} {st' : Nat → Nat} (h : dj_inv n k kn st wk Of L U) (hv : v0 < n) (hw : st v0 < kn v0) (hmin : ∀ v, v < n → st v < kn v → wk v0 (st v0) ≤ wk v (st v)) (hst : ∀ v, v < n → st' v = if v = v0 then st v0 + 1 else st v) : dj_inv n k kn st' wk Of (wk v0 (st v0)) U := by
  obtain ⟨h1, h2, h3, h4, h5⟩ := h
  have hLL : L ≤ wk v0 (st v0) := (h3 v0 hv).2 _ (Nat.le_refl _) hw
  refine ⟨fun v hv' => ?_, h2, fun v hv' => ?_, h4, h5⟩
  · rw [hst v hv']
    by_cases e : v = v0
    · subst e; rw [if_pos rfl]; have := h1 v hv; omega
    · rw [if_neg e]; exact h1 v hv'
  · have hge : ∀ j, st v ≤ j → j < kn v → wk v0 (st v0) ≤ wk v j := by
      intro j hj hj2
      have h6 := hmin v hv' (by omega)
      by_cases e : j = st v
      · subst e; exact h6
      · have := h2 v hv' (st v) j (by omega) hj2
        omega
    rw [hst v hv']
    by_cases e : v = v0
    · subst e; rw [if_pos rfl]
      refine ⟨fun j hj => ?_, fun j hj hj2 => hge j (by omega) hj2⟩
      by_cases e2 : j = st v
      · subst e2; exact Nat.le_refl _
      · have := (h3 v hv).1 j (by omega); omega
    · rw [if_neg e]
      refine ⟨fun j hj => ?_, hge⟩
      have := (h3 v hv').1 j hj; omega
/-- halves: half 2 i is piece i at its first end, half 2 i + 1 at its second -/
def dj_hn (ea eb : Nat → Nat) (h : Nat) : Nat := if h % 2 = 0 then ea (h / 2) else eb (h / 2)
def dj_ho (ea eb : Nat → Nat) (h : Nat) : Nat := if h % 2 = 0 then eb (h / 2) else ea (h / 2)
/-- what half h of node u brings to v within c, u being settled at L -/
def dj_q (ea eb w : Nat → Nat) (u L v c h : Nat) : Nat := if dj_hn ea eb h = u ∧ w (h / 2) ≠ 0 ∧ dj_ho ea eb h = v ∧ L + w (h / 2) ≤ c then 1 else 0
theorem ma_sum_two (f : Nat → Nat) : ∀ P : Nat, ma_sum f (2 * P) = ma_sum (fun i => f (2 * i) + f (2 * i + 1)) P
  | 0 => rfl
  | P + 1 => by
    show ma_sum f (2 * P + 1 + 1) = ma_sum (fun i => f (2 * i) + f (2 * i + 1)) P + (f (2 * P) + f (2 * P + 1))
    rw [← ma_sum_two f P]
    show ma_sum f (2 * P) + f (2 * P) + f (2 * P + 1) = _
    omega
/-- all halves of u, offered -/
theorem dj_all {P : Nat} {ea eb w : Nat → Nat} {a u L v c : Nat} {S S' : Nat → Nat → Nat} (hS : ∀ x d, S' x d = S x d + if x = u ∧ L ≤ d then 1 else 0) : ma_in P ea eb w a S' v c = ma_in P ea eb w a S v c + ma_sum (dj_q ea eb w u L v c) (2 * P) := by
  rw [ma_sum_two]
  unfold ma_in
  rw [Nat.add_assoc, ← ma_sum_add]
  refine congrArg (fun z => (if v = a then 1 else 0) + z) (ma_sum_congr fun i _ => ?_)
  have e1 : (2 * i) / 2 = i := by omega
  have e2 : (2 * i + 1) / 2 = i := by omega
  have e3 : (2 * i) % 2 = 0 := by omega
  have e4 : ¬ (2 * i + 1) % 2 = 0 := by omega
  simp only [dj_q, dj_hn, dj_ho, e1, e2, e3, e4, if_true, if_false, hS]
  by_cases c1 : w i = 0
  · simp [c1]
  · by_cases c2 : c < w i
    · have c3 : ¬ L + w i ≤ c := by omega
      simp [c2, c3]
    · have c3 : (L ≤ c - w i) ↔ (L + w i ≤ c) := by omega
      simp only [c1, c2, c3, false_or, if_false, ne_eq, not_false_eq_true, true_and]
      by_cases d1 : ea i = u <;> by_cases d2 : eb i = u <;> by_cases d3 : ea i = v <;> by_cases d4 : eb i = v <;> by_cases d5 : L + w i ≤ c <;> simp only [d1, d2, d3, d4, d5, if_true, if_false, true_and, false_and, and_true, and_false, and_self] <;> (repeat' split) <;> omega
theorem dj_of_zero (Of : Nat → Nat → Nat) (v c : Nat) : (fun v c => Of v c + 0) v c = Of v c := rfl
/-- the end: all that is known is settled, and what was offered is what the settled ones bring -/
theorem dj_end {n P k : Nat} {ea eb w : Nat → Nat} {a : Nat} {kn st : Nat → Nat} {wk Of : Nat → Nat → Nat} {L U : Nat} (h : dj_inv n k kn st wk Of L U) (hea : ∀ i, i < P → ea i < n) (heb : ∀ i, i < P → eb i < n) (hall : ∀ v, v < n → st v = kn v)
    (hO : ∀ v c, v < n → Of v c = ma_in P ea eb w a (fun u d => ma_cnt (wk u) (st u) d) v c) : ∀ v c, v < n → ma_cnt (wk v) (kn v) c = min k (ma_T P ea eb w a v c) := by
  intro v c hv
  refine ma_uniq k (c + 1) hea heb (fun u d => ma_cnt (wk u) (kn u) d) (fun u d hu _ => ?_) c v hv (by omega)
  show ma_cnt (wk u) (kn u) d = _
  rw [h.2.2.2.1 u hu d, hO u d hu]
  refine congrArg (min k) (ma_in_congr fun i hi _ _ => ?_)
  rw [hall _ (hea i hi), hall _ (heb i hi)]
  exact ⟨rfl, rfl⟩
