/-! Sums, walks counted by their seconds, the least number with so many walks, sorted rows as counts. -/
def ma_sum (f : Nat → Nat) : Nat → Nat
  | 0 => 0
  | n + 1 => ma_sum f n + f n
theorem ma_sum_congr {f g : Nat → Nat} : ∀ {n : Nat}, (∀ i, i < n → f i = g i) → ma_sum f n = ma_sum g n
  | 0, _ => rfl
  | n + 1, h => by
    show ma_sum f n + f n = ma_sum g n + g n
    rw [ma_sum_congr (fun i hi => h i (by omega)), h n (by omega)]
theorem ma_sum_le {f g : Nat → Nat} : ∀ {n : Nat}, (∀ i, i < n → f i ≤ g i) → ma_sum f n ≤ ma_sum g n
  | 0, _ => Nat.le_refl _
  | n + 1, h => Nat.add_le_add (ma_sum_le (fun i hi => h i (by omega))) (h n (by omega))
theorem ma_sum_lt {f g : Nat → Nat} : ∀ {n : Nat}, (∀ i, i < n → f i ≤ g i) → (∃ i, i < n ∧ f i < g i) → ma_sum f n < ma_sum g n
  | 0, _, ⟨i, h, _⟩ => absurd h (by omega)
  | n + 1, h, ⟨i, h1, h2⟩ => by
    show ma_sum f n + f n < ma_sum g n + g n
    by_cases e : i = n
    · subst e
      have := ma_sum_le (n := i) (fun j hj => h j (by omega))
      omega
    · have := ma_sum_lt (n := n) (fun j hj => h j (by omega)) ⟨i, by omega, h2⟩
      have := h n (by omega)
      omega
theorem ma_sum_add (f g : Nat → Nat) : ∀ n : Nat, ma_sum (fun i => f i + g i) n = ma_sum f n + ma_sum g n
  | 0 => rfl
  | n + 1 => by
    show ma_sum (fun i => f i + g i) n + (f n + g n) = (ma_sum f n + f n) + (ma_sum g n + g n)
    rw [ma_sum_add f g n]; omega
theorem ma_sum_pos {f : Nat → Nat} : ∀ {n : Nat}, 0 < ma_sum f n → ∃ i, i < n ∧ 0 < f i
  | 0, h => absurd h (by simp [ma_sum])
  | n + 1, h => by
    have h : 0 < ma_sum f n + f n := h
    by_cases e : 0 < f n
    · exact ⟨n, by omega, e⟩
    · obtain ⟨i, hi, hp⟩ := ma_sum_pos (f := f) (n := n) (by omega)
      exact ⟨i, by omega, hp⟩
theorem ma_sum_ge {f : Nat → Nat} : ∀ {n i : Nat}, i < n → f i ≤ ma_sum f n
  | 0, i, h => absurd h (by omega)
  | n + 1, i, h => by
    show f i ≤ ma_sum f n + f n
    by_cases e : i = n
    · subst e; omega
    · have := ma_sum_ge (f := f) (n := n) (i := i) (by omega)
      omega
theorem ma_sum_zero {f : Nat → Nat} : ∀ {n : Nat}, (∀ i, i < n → f i = 0) → ma_sum f n = 0
  | 0, _ => rfl
  | n + 1, h => by
    show ma_sum f n + f n = 0
    rw [ma_sum_zero (fun i hi => h i (by omega)), h n (by omega)]
theorem ma_sum_const (k : Nat) : ∀ n : Nat, ma_sum (fun _ => k) n = n * k
  | 0 => by simp [ma_sum]
  | n + 1 => by
    show ma_sum (fun _ => k) n + k = (n + 1) * k
    rw [ma_sum_const k n, Nat.succ_mul]
theorem ma_sum_upd {f g : Nat → Nat} {k : Nat} : ∀ {n : Nat}, k < n → (∀ i, i < n → i ≠ k → f i = g i) → ma_sum f n + g k = ma_sum g n + f k
  | 0, h, _ => absurd h (by omega)
  | n + 1, h, hq => by
    show ma_sum f n + f n + g k = ma_sum g n + g n + f k
    by_cases e : k = n
    · subst e
      rw [ma_sum_congr (fun i hi => hq i (by omega) (by omega))]; omega
    · have := ma_sum_upd (f := f) (g := g) (k := k) (n := n) (by omega) (fun i hi hn => hq i (by omega) hn)
      have := hq n (by omega) (fun z => e z.symm)
      omega
theorem ma_min_add (k a b : Nat) : min k (a + b) = min k (min k a + min k b) := by omega
theorem ma_min_sum (k : Nat) (f : Nat → Nat) : ∀ n : Nat, min k (ma_sum f n) = min k (ma_sum (fun i => min k (f i)) n)
  | 0 => rfl
  | n + 1 => by
    show min k (ma_sum f n + f n) = min k (ma_sum (fun i => min k (f i)) n + min k (f n))
    have := ma_min_sum k f n
    omega
/-- what comes into v within c seconds: the start itself, and over each piece (w: its seconds, 0 where nobody goes) from its other end -/
def ma_in (P : Nat) (ea eb w : Nat → Nat) (a : Nat) (F : Nat → Nat → Nat) (v c : Nat) : Nat :=
  (if v = a then 1 else 0) + ma_sum (fun i => if w i = 0 ∨ c < w i then 0 else (if eb i = v then F (ea i) (c - w i) else 0) + (if ea i = v then F (eb i) (c - w i) else 0)) P
theorem ma_in_congr {P : Nat} {ea eb w : Nat → Nat} {a : Nat} {F G : Nat → Nat → Nat} {v c : Nat} (h : ∀ i, i < P → w i ≠ 0 → w i ≤ c → F (ea i) (c - w i) = G (ea i) (c - w i) ∧ F (eb i) (c - w i) = G (eb i) (c - w i)) : ma_in P ea eb w a F v c = ma_in P ea eb w a G v c := by
  unfold ma_in
  refine congrArg (fun z => (if v = a then 1 else 0) + z) (ma_sum_congr fun i hi => ?_)
  by_cases e : w i = 0 ∨ c < w i
  · rw [if_pos e, if_pos e]
  · rw [if_neg e, if_neg e]
    have := h i hi (fun z => e (Or.inl z)) (by omega)
    rw [this.1, this.2]
theorem ma_min_in {P : Nat} {ea eb w : Nat → Nat} {a : Nat} {F : Nat → Nat → Nat} {v c : Nat} (k : Nat) : min k (ma_in P ea eb w a (fun v c => min k (F v c)) v c) = min k (ma_in P ea eb w a F v c) := by
  unfold ma_in
  generalize (if v = a then 1 else 0) = z
  have e1 := ma_min_sum k (fun i => if w i = 0 ∨ c < w i then 0 else (if eb i = v then min k (F (ea i) (c - w i)) else 0) + (if ea i = v then min k (F (eb i) (c - w i)) else 0)) P
  have e2 := ma_min_sum k (fun i => if w i = 0 ∨ c < w i then 0 else (if eb i = v then F (ea i) (c - w i) else 0) + (if ea i = v then F (eb i) (c - w i) else 0)) P
  have e3 : ma_sum (fun i => min k (if w i = 0 ∨ c < w i then 0 else (if eb i = v then min k (F (ea i) (c - w i)) else 0) + (if ea i = v then min k (F (eb i) (c - w i)) else 0))) P = ma_sum (fun i => min k (if w i = 0 ∨ c < w i then 0 else (if eb i = v then F (ea i) (c - w i) else 0) + (if ea i = v then F (eb i) (c - w i) else 0))) P := by
    refine ma_sum_congr fun i _ => ?_
    by_cases e : w i = 0 ∨ c < w i
    · rw [if_pos e, if_pos e]
    · rw [if_neg e, if_neg e]
      by_cases h1 : eb i = v <;> by_cases h2 : ea i = v <;> simp only [h1, h2, if_true, if_false] <;> omega
  dsimp only
  omega
/-- walks of fewer than f pieces -/
def ma_TN (P : Nat) (ea eb w : Nat → Nat) (a : Nat) : Nat → Nat → Nat → Nat
  | 0 => fun _ _ => 0
  | f + 1 => ma_in P ea eb w a (ma_TN P ea eb w a f)
theorem ma_TN_any {P : Nat} {ea eb w : Nat → Nat} {a : Nat} : ∀ (c f g v : Nat), c < f → c < g → ma_TN P ea eb w a f v c = ma_TN P ea eb w a g v c := by
  intro c
  induction c using Nat.strongRecOn with
  | ind c ih =>
    intro f g v hf hg
    obtain ⟨f, rfl⟩ : ∃ z, f = z + 1 := ⟨f - 1, by omega⟩
    obtain ⟨g, rfl⟩ : ∃ z, g = z + 1 := ⟨g - 1, by omega⟩
    exact ma_in_congr fun i _ h1 h2 => ⟨ih _ (by omega) _ _ _ (by omega) (by omega), ih _ (by omega) _ _ _ (by omega) (by omega)⟩
/-- how many walks there are from a to v of at most c seconds -/
def ma_T (P : Nat) (ea eb w : Nat → Nat) (a v c : Nat) : Nat := ma_TN P ea eb w a (c + 1) v c
theorem ma_T_eq (P : Nat) (ea eb w : Nat → Nat) (a v c : Nat) : ma_T P ea eb w a v c = ma_in P ea eb w a (ma_T P ea eb w a) v c := by
  show ma_in P ea eb w a (ma_TN P ea eb w a c) v c = _
  exact ma_in_congr fun i _ h1 h2 => ⟨ma_TN_any _ _ _ _ (by omega) (by omega), ma_TN_any _ _ _ _ (by omega) (by omega)⟩
/-- what solves the equation of the first k walks is the count of walks, up to k -/
theorem ma_uniq {n P : Nat} {ea eb w : Nat → Nat} {a : Nat} (k B : Nat) (hea : ∀ i, i < P → ea i < n) (heb : ∀ i, i < P → eb i < n) (M : Nat → Nat → Nat) (h : ∀ v c, v < n → c < B → M v c = min k (ma_in P ea eb w a M v c)) : ∀ c v, v < n → c < B → M v c = min k (ma_T P ea eb w a v c) := by
  intro c
  induction c using Nat.strongRecOn with
  | ind c ih =>
    intro v hv hc
    rw [h v c hv hc, ma_T_eq]
    refine Eq.trans ?_ (ma_min_in k)
    exact congrArg (min k) (ma_in_congr fun i hi h1 h2 => ⟨ih _ (by omega) _ (hea i hi) (by omega), ih _ (by omega) _ (heb i hi) (by omega)⟩)
/-- one piece on: a walk to an end of a piece gives one to its other end -/
theorem ma_T_stepA {P : Nat} {ea eb w : Nat → Nat} {a i c : Nat} (hi : i < P) (hw : w i ≠ 0) (h : 0 < ma_T P ea eb w a (ea i) c) : 0 < ma_T P ea eb w a (eb i) (c + w i) := by
  rw [ma_T_eq]
  unfold ma_in
  have := ma_sum_ge (f := fun j => if w j = 0 ∨ c + w i < w j then 0 else (if eb j = eb i then ma_T P ea eb w a (ea j) (c + w i - w j) else 0) + (if ea j = eb i then ma_T P ea eb w a (eb j) (c + w i - w j) else 0)) hi
  rw [if_neg (by omega), if_pos rfl, Nat.add_sub_cancel] at this
  omega
theorem ma_T_stepB {P : Nat} {ea eb w : Nat → Nat} {a i c : Nat} (hi : i < P) (hw : w i ≠ 0) (h : 0 < ma_T P ea eb w a (eb i) c) : 0 < ma_T P ea eb w a (ea i) (c + w i) := by
  rw [ma_T_eq]
  unfold ma_in
  have := ma_sum_ge (f := fun j => if w j = 0 ∨ c + w i < w j then 0 else (if eb j = ea i then ma_T P ea eb w a (ea j) (c + w i - w j) else 0) + (if ea j = ea i then ma_T P ea eb w a (eb j) (c + w i - w j) else 0)) hi
  rw [if_neg (by omega), if_pos rfl, Nat.add_sub_cancel] at this
  omega
theorem ma_T_start (P : Nat) (ea eb w : Nat → Nat) (a c : Nat) : 0 < ma_T P ea eb w a a c := by
  rw [ma_T_eq]
  unfold ma_in
  rw [if_pos rfl]
  omega
/-- where a walk comes from -/
theorem ma_T_from {P : Nat} {ea eb w : Nat → Nat} {a v c : Nat} (hv : v ≠ a) (h : 0 < ma_T P ea eb w a v c) : ∃ i, i < P ∧ w i ≠ 0 ∧ w i ≤ c ∧ ((eb i = v ∧ 0 < ma_T P ea eb w a (ea i) (c - w i)) ∨ (ea i = v ∧ 0 < ma_T P ea eb w a (eb i) (c - w i))) := by
  rw [ma_T_eq] at h
  unfold ma_in at h
  rw [if_neg hv, Nat.zero_add] at h
  obtain ⟨i, hi, hp⟩ := ma_sum_pos h
  by_cases e : w i = 0 ∨ c < w i
  · rw [if_pos e] at hp; omega
  · rw [if_neg e] at hp
    refine ⟨i, hi, fun z => e (Or.inl z), by omega, ?_⟩
    by_cases h1 : eb i = v
    · rw [if_pos h1] at hp
      by_cases h3 : 0 < ma_T P ea eb w a (ea i) (c - w i)
      · exact Or.inl ⟨h1, h3⟩
      · by_cases h2 : ea i = v
        · rw [if_pos h2] at hp
          exact Or.inr ⟨h2, by omega⟩
        · rw [if_neg h2] at hp
          omega
    · rw [if_neg h1] at hp
      by_cases h2 : ea i = v
      · rw [if_pos h2] at hp
        exact Or.inr ⟨h2, by omega⟩
      · rw [if_neg h2] at hp
        omega
/-- 2 to the 60: 'no way' of the reference -/
def ma_B : Nat := 1152921504606846976
/-- the least c below ma_B with F c at least n; ma_B without one -/
def ma_is (F : Nat → Nat) (n x : Nat) : Prop := x ≤ ma_B ∧ (∀ c, c < x → F c < n) ∧ (x < ma_B → n ≤ F x)
theorem ma_is_uniq {F : Nat → Nat} {n x y : Nat} (h : ma_is F n x) (h' : ma_is F n y) : x = y := by
  obtain ⟨a1, a2, a3⟩ := h
  obtain ⟨b1, b2, b3⟩ := h'
  rcases Nat.lt_trichotomy x y with q | q | q
  · have := b2 x q; have := a3 (by omega); omega
  · exact q
  · have := a2 y q; have := b3 (by omega); omega
theorem ma_is_ex (F : Nat → Nat) (n : Nat) : ∃ x, ma_is F n x := by
  have : ∀ b, b ≤ ma_B → ∃ x, x ≤ b ∧ (∀ c, c < x → F c < n) ∧ (x < b → n ≤ F x) := by
    intro b
    induction b with
    | zero => exact fun _ => ⟨0, Nat.le_refl _, fun c h => absurd h (by omega), fun h => absurd h (by omega)⟩
    | succ b ih =>
      intro hb
      obtain ⟨x, h1, h2, h3⟩ := ih (by omega)
      by_cases e : x < b
      · exact ⟨x, by omega, h2, fun _ => h3 e⟩
      · have ex : x = b := by omega
        subst ex
        by_cases q : n ≤ F x
        · exact ⟨x, by omega, h2, fun _ => q⟩
        · refine ⟨x + 1, by omega, fun c hc => ?_, fun h => absurd h (by omega)⟩
          by_cases ec : c = x
          · subst ec; omega
          · exact h2 c (by omega)
  obtain ⟨x, h⟩ := this ma_B (Nat.le_refl _)
  exact ⟨x, h⟩
noncomputable def ma_d (F : Nat → Nat) (n : Nat) : Nat := Classical.choose (ma_is_ex F n)
theorem ma_d_is (F : Nat → Nat) (n : Nat) : ma_is F n (ma_d F n) := Classical.choose_spec (ma_is_ex F n)
theorem ma_d_of {F : Nat → Nat} {n x : Nat} (h : ma_is F n x) : ma_d F n = x := ma_is_uniq (ma_d_is F n) h
theorem ma_d_le {F : Nat → Nat} {n c : Nat} (h : n ≤ F c) : ma_d F n ≤ c := by
  have := (ma_d_is F n).2.1
  rcases Nat.lt_or_ge c (ma_d F n) with q | q
  · have := this c q; omega
  · exact q
theorem ma_d_leB (F : Nat → Nat) (n : Nat) : ma_d F n ≤ ma_B := (ma_d_is F n).1
theorem ma_d_at {F : Nat → Nat} {n : Nat} (h : ma_d F n < ma_B) : n ≤ F (ma_d F n) := (ma_d_is F n).2.2 h
/-- a row's count of places within c -/
def ma_cnt (x : Nat → Nat) (m c : Nat) : Nat := ma_sum (fun j => if x j ≤ c then 1 else 0) m
theorem ma_cnt_le (x : Nat → Nat) (m c : Nat) : ma_cnt x m c ≤ m := by
  have h := ma_sum_le (f := fun j => if x j ≤ c then 1 else 0) (g := fun _ => 1) (n := m) (fun i _ => by split <;> omega)
  rw [ma_sum_const] at h
  unfold ma_cnt
  omega
theorem ma_cnt_congr {x y : Nat → Nat} {m c : Nat} (h : ∀ j, j < m → x j = y j) : ma_cnt x m c = ma_cnt y m c := ma_sum_congr fun j hj => by rw [h j hj]
theorem ma_cnt_all {x : Nat → Nat} {m c : Nat} (h : ∀ j, j < m → x j ≤ c) : ma_cnt x m c = m := by
  have e : ma_cnt x m c = ma_sum (fun _ => 1) m := ma_sum_congr fun j hj => if_pos (h j hj)
  rw [e, ma_sum_const]; omega
theorem ma_cnt_none {x : Nat → Nat} {m c : Nat} (h : ∀ j, j < m → c < x j) : ma_cnt x m c = 0 := ma_sum_zero fun j hj => if_neg (by have := h j hj; omega)
theorem ma_cnt_succ (x : Nat → Nat) (m c : Nat) : ma_cnt x (m + 1) c = ma_cnt x m c + (if x m ≤ c then 1 else 0) := rfl
theorem ma_cnt_mono {x : Nat → Nat} {m k c : Nat} (h : m ≤ k) : ma_cnt x m c ≤ ma_cnt x k c := by
  induction k with
  | zero => have : m = 0 := by omega
            subst this; exact Nat.le_refl _
  | succ k ih =>
    by_cases e : m = k + 1
    · subst e; exact Nat.le_refl _
    · have := ih (by omega)
      rw [ma_cnt_succ]; omega
/-- a sorted row whose counts are those of F, up to k, tells the n-th -/
theorem ma_nth {F : Nat → Nat} {x : Nat → Nat} {m k n : Nat} (hn : 0 < n) (hnk : n ≤ k) (hs : ∀ i j, i < j → j < m → x i ≤ x j) (hc : ∀ c, c < ma_B → ma_cnt x m c = min k (F c)) (hx : ∀ j, j < m → x j ≤ ma_B) : ma_d F n = if n ≤ m then x (n - 1) else ma_B := by
  apply ma_d_of
  by_cases e : n ≤ m
  · rw [if_pos e]
    have hb := hx (n - 1) (by omega)
    refine ⟨by omega, fun c hlt => ?_, fun hb => ?_⟩
    · have h1 := hc c (by omega)
      have h2 : ma_cnt x m c ≤ n - 1 := by
        have h3 : ∀ q, q ≤ m → n - 1 ≤ q → ma_cnt x q c ≤ n - 1 := by
          intro q
          induction q with
          | zero => intro _ h; have := ma_cnt_le x 0 c; omega
          | succ q ih =>
            intro hq hnq
            by_cases e2 : n - 1 ≤ q
            · rw [ma_cnt_succ]
              have := ih (by omega) e2
              have hxq : x (n - 1) ≤ x q := by
                by_cases e3 : n - 1 = q
                · rw [e3]; exact Nat.le_refl _
                · exact hs _ _ (by omega) (by omega)
              rw [if_neg (by omega)]; omega
            · have := ma_cnt_le x (q + 1) c; omega
        exact h3 m (Nat.le_refl _) (by omega)
      omega
    · have h1 := hc _ hb
      have h2 : ma_cnt x n (x (n - 1)) = n := ma_cnt_all fun j hj => by
        by_cases e3 : j = n - 1
        · rw [e3]; exact Nat.le_refl _
        · exact hs _ _ (by omega) (by omega)
      have h3 := ma_cnt_mono (x := x) (c := x (n - 1)) e
      omega
  · rw [if_neg e]
    refine ⟨Nat.le_refl _, fun c hlt => ?_, fun h => absurd h (Nat.lt_irrefl _)⟩
    have h1 := hc c hlt
    have h2 := ma_cnt_le x m c
    omega
/-- one more in a row, at place p -/
theorem ma_cnt_ins {x y : Nat → Nat} {m p s c : Nat} (hp : p ≤ m) (h1 : ∀ j, j < p → y j = x j) (h2 : y p = s) (h3 : ∀ j, p < j → j ≤ m → y j = x (j - 1)) : ma_cnt y (m + 1) c = ma_cnt x m c + (if s ≤ c then 1 else 0) := by
  induction m with
  | zero =>
    have : p = 0 := by omega
    subst this
    rw [ma_cnt_succ, h2]; rfl
  | succ m ih =>
    by_cases e : p = m + 1
    · subst e
      rw [ma_cnt_succ, h2, ma_cnt_congr h1]
    · have := ih (by omega) (fun j hj hm => h3 j hj (by omega))
      rw [ma_cnt_succ y (m + 1), this, h3 (m + 1) (by omega) (Nat.le_refl _), ma_cnt_succ x m]
      show _ + (if x m ≤ c then 1 else 0) = _
      omega
