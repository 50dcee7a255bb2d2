/-! The queue of nodes: a heap hn of sz nodes, pl each node's place (-1: it doesn't wait), key its seconds. -/
def hq_ok (hn : Nat → Nat) (pl : Nat → Int32) (key : Nat → Nat) (sz : Nat) : Prop :=
  sz ≤ 200 ∧ (∀ i, i < sz → hn i < 200 ∧ pl (hn i) = nI i) ∧ (∀ v, v < 200 → pl v = -1 ∨ ∃ i, i < sz ∧ hn i = v) ∧ ∀ i, 0 < i → i < sz → key (hn ((i - 1) / 2)) ≤ key (hn i)
/-- the same with a hole at place h, in which node is to be laid -/
def hq_hole (hn : Nat → Nat) (pl : Nat → Int32) (key : Nat → Nat) (sz h node : Nat) : Prop :=
  h < sz ∧ sz ≤ 200 ∧ node < 200 ∧ (∀ i, i < sz → i ≠ h → hn i < 200 ∧ pl (hn i) = nI i ∧ hn i ≠ node) ∧ (∀ v, v < 200 → v ≠ node → pl v = -1 ∨ ∃ i, i < sz ∧ i ≠ h ∧ hn i = v) ∧
  (∀ i, 0 < i → i < sz → i ≠ h → (i - 1) / 2 ≠ h → key (hn ((i - 1) / 2)) ≤ key (hn i)) ∧ (∀ j, 0 < j → j < sz → (j - 1) / 2 = h → 0 < h → key (hn ((h - 1) / 2)) ≤ key (hn j))
theorem hq_nm1 {i : Nat} (h : i < 2 ^ 31) : nI i ≠ -1 := fun e => by
  have h1 := nI_toInt h
  rw [e] at h1
  have : ((-1 : Int32)).toInt = -1 := by decide
  omega
theorem hq_inj {hn : Nat → Nat} {pl : Nat → Int32} {key : Nat → Nat} {sz i j : Nat} (h : hq_ok hn pl key sz) (hi : i < sz) (hj : j < sz) (e : hn i = hn j) : i = j := by
  have h1 := (h.2.1 i hi).2
  have h2 := (h.2.1 j hj).2
  rw [e, h2] at h1
  have := h.1
  exact ((nI_eq (by omega) (by omega)).mp h1).symm
theorem hq_fill {hn : Nat → Nat} {pl : Nat → Int32} {key : Nat → Nat} {sz h node : Nat} (q : hq_hole hn pl key sz h node) (hch : ∀ j, 0 < j → j < sz → (j - 1) / 2 = h → key node ≤ key (hn j)) (hpar : h = 0 ∨ key (hn ((h - 1) / 2)) ≤ key node) : hq_ok (va_up hn h node) (upd pl node (nI h)) key sz := by
  obtain ⟨h1, h2, h3, h4, h5, h6, h7⟩ := q
  refine ⟨h2, fun i hi => ?_, fun v hv => ?_, fun i h0 hi => ?_⟩
  · by_cases e : i = h
    · subst e; rw [va_up_self, pk_us]; exact ⟨h3, rfl⟩
    · rw [va_up_ne _ _ e, pk_un (h4 i hi e).2.2]; exact ⟨(h4 i hi e).1, (h4 i hi e).2.1⟩
  · by_cases e : v = node
    · subst e; exact Or.inr ⟨h, h1, va_up_self _ _ _⟩
    · rw [pk_un e]
      rcases h5 v hv e with z | ⟨i, hi, hne, he⟩
      · exact Or.inl z
      · exact Or.inr ⟨i, hi, by rw [va_up_ne _ _ hne]; exact he⟩
  · by_cases e : i = h
    · subst e
      rw [va_up_self, va_up_ne _ _ (by omega)]
      rcases hpar with z | z
      · omega
      · exact z
    · rw [va_up_ne _ _ e]
      by_cases e2 : (i - 1) / 2 = h
      · rw [e2, va_up_self]; exact hch i h0 hi e2
      · rw [va_up_ne _ _ e2]; exact h6 i h0 hi e e2
/-- the hole goes up: what stands above it comes down -/
theorem hq_rise {hn : Nat → Nat} {pl : Nat → Int32} {key : Nat → Nat} {sz h node : Nat} (q : hq_hole hn pl key sz h node) (h0 : 0 < h) (hch : ∀ j, 0 < j → j < sz → (j - 1) / 2 = h → key node ≤ key (hn j)) (hgt : key node < key (hn ((h - 1) / 2))) :
    hq_hole (va_up hn h (hn ((h - 1) / 2))) (upd pl (hn ((h - 1) / 2)) (nI h)) key sz ((h - 1) / 2) node ∧ ∀ j, 0 < j → j < sz → (j - 1) / 2 = (h - 1) / 2 → key node ≤ key (va_up hn h (hn ((h - 1) / 2)) j) := by
  obtain ⟨h1, h2, h3, h4, h5, h6, h7⟩ := q
  have hp : (h - 1) / 2 < h := by omega
  obtain ⟨p1, p2, p3⟩ := h4 ((h - 1) / 2) (by omega) (by omega)
  have inj : ∀ i, i < sz → i ≠ h → hn i = hn ((h - 1) / 2) → i = (h - 1) / 2 := fun i hi hne e => by
    have e1 := (h4 i hi hne).2.1
    rw [e, p2] at e1
    exact ((nI_eq (by omega) (by omega)).mp e1).symm
  refine ⟨⟨by omega, h2, h3, fun i hi hne => ?_, fun v hv hvn => ?_, fun i i0 hi hne hpn => ?_, fun j j0 hj hjp hp0 => ?_⟩, fun j j0 hj hjp => ?_⟩
  · by_cases e : i = h
    · subst e; rw [va_up_self, pk_us]; exact ⟨p1, rfl, p3⟩
    · rw [va_up_ne _ _ e, pk_un (fun z => hne (inj i hi e z))]; exact h4 i hi e
  · by_cases e : v = hn ((h - 1) / 2)
    · exact Or.inr ⟨h, h1, by omega, by rw [va_up_self]; exact e.symm⟩
    · rw [pk_un e]
      rcases h5 v hv hvn with z | ⟨i, hi, hne, he⟩
      · exact Or.inl z
      · refine Or.inr ⟨i, hi, fun z => e ?_, by rw [va_up_ne _ _ hne]; exact he⟩
        rw [← he, z]
  · by_cases e : i = h
    · subst e; exact absurd rfl hpn
    · rw [va_up_ne _ _ e]
      by_cases e2 : (i - 1) / 2 = h
      · rw [e2, va_up_self]; exact h7 i i0 hi e2 h0
      · rw [va_up_ne _ _ e2]; exact h6 i i0 hi e e2
  · have e9 : ((h - 1) / 2 - 1) / 2 ≠ h := by omega
    rw [va_up_ne _ _ e9]
    have g1 := h6 ((h - 1) / 2) hp0 (by omega) (by omega) e9
    by_cases e : j = h
    · subst e; rw [va_up_self]; exact g1
    · rw [va_up_ne _ _ e]
      have g2 := h6 j j0 hj e (by omega)
      rw [hjp] at g2
      omega
  · by_cases e : j = h
    · subst e; rw [va_up_self]; omega
    · rw [va_up_ne _ _ e]
      have g2 := h6 j j0 hj e (by omega)
      rw [hjp] at g2
      omega
/-- the hole goes down: the lesser of those below it comes up -/
theorem hq_sink {hn : Nat → Nat} {pl : Nat → Int32} {key : Nat → Nat} {sz h node b : Nat} (q : hq_hole hn pl key sz h node) (hb : b < sz) (hb0 : 0 < b) (hbp : (b - 1) / 2 = h) (hmin : ∀ j, 0 < j → j < sz → (j - 1) / 2 = h → key (hn b) ≤ key (hn j)) (hlt : key (hn b) < key node) :
    hq_hole (va_up hn h (hn b)) (upd pl (hn b) (nI h)) key sz b node ∧ (b = 0 ∨ key (va_up hn h (hn b) ((b - 1) / 2)) ≤ key node) := by
  obtain ⟨h1, h2, h3, h4, h5, h6, h7⟩ := q
  obtain ⟨p1, p2, p3⟩ := h4 b hb (by omega)
  have inj : ∀ i, i < sz → i ≠ h → hn i = hn b → i = b := fun i hi hne e => by
    have e1 := (h4 i hi hne).2.1
    rw [e, p2] at e1
    exact ((nI_eq (by omega) (by omega)).mp e1).symm
  refine ⟨⟨hb, h2, h3, fun i hi hne => ?_, fun v hv hvn => ?_, fun i i0 hi hne hpn => ?_, fun j j0 hj hjp hp0 => ?_⟩, Or.inr ?_⟩
  · by_cases e : i = h
    · subst e; rw [va_up_self, pk_us]; exact ⟨p1, rfl, p3⟩
    · rw [va_up_ne _ _ e, pk_un (fun z => hne (inj i hi e z))]; exact h4 i hi e
  · by_cases e : v = hn b
    · exact Or.inr ⟨h, h1, by omega, by rw [va_up_self]; exact e.symm⟩
    · rw [pk_un e]
      rcases h5 v hv hvn with z | ⟨i, hi, hne, he⟩
      · exact Or.inl z
      · refine Or.inr ⟨i, hi, fun z => e ?_, by rw [va_up_ne _ _ hne]; exact he⟩
        rw [← he, z]
  · by_cases e : i = h
    · subst e
      rw [va_up_self, va_up_ne _ _ (by omega)]
      exact h7 b hb0 hb hbp i0
    · rw [va_up_ne _ _ e]
      by_cases e2 : (i - 1) / 2 = h
      · rw [e2, va_up_self]; exact hmin i i0 hi e2
      · rw [va_up_ne _ _ e2]; exact h6 i i0 hi e e2
  · rw [hbp, va_up_self, va_up_ne _ _ (by omega)]
    have := h6 j j0 hj (by omega) (by omega)
    rw [hjp] at this
    exact this
  · rw [hbp, va_up_self]; omega
/-- nothing waits with less than what stands on top -/
theorem hq_least {hn : Nat → Nat} {pl : Nat → Int32} {key : Nat → Nat} {sz : Nat} (h : hq_ok hn pl key sz) : ∀ i, i < sz → key (hn 0) ≤ key (hn i) := by
  intro i
  induction i using Nat.strongRecOn with
  | ind i ih =>
    intro hi
    by_cases e : i = 0
    · subst e; exact Nat.le_refl _
    · have h1 := h.2.2.2 i (by omega) hi
      have h2 := ih ((i - 1) / 2) (by omega) (by omega)
      omega
/-- so many different numbers don't fit -/
theorem hq_pig : ∀ (N : Nat) (f : Nat → Nat), (∀ i, i < N + 1 → f i < N) → ¬ (∀ i j, i < N + 1 → j < N + 1 → f i = f j → i = j)
  | 0, f, h, _ => absurd (h 0 (by omega)) (by omega)
  | N + 1, f, h, inj => by
    -- take the last one's value out
    refine hq_pig N (fun i => if f i < f (N + 1) then f i else f i - 1) (fun i hi => ?_) (fun i j hi hj e => ?_)
    · have h1 := h i (by omega)
      have h2 := h (N + 1) (by omega)
      have h3 : f i ≠ f (N + 1) := fun z => absurd (inj i (N + 1) (by omega) (by omega) z) (by omega)
      split <;> omega
    · have h3 : f i ≠ f (N + 1) := fun z => absurd (inj i (N + 1) (by omega) (by omega) z) (by omega)
      have h4 : f j ≠ f (N + 1) := fun z => absurd (inj j (N + 1) (by omega) (by omega) z) (by omega)
      refine inj i j (by omega) (by omega) ?_
      split at e <;> split at e <;> omega
theorem hq_pigeon (hn : Nat → Nat) (node : Nat) (h1 : ∀ i, i < 200 → hn i < 200) (h2 : ∀ i, i < 200 → hn i ≠ node) (h3 : ∀ i j, i < 200 → j < 200 → hn i = hn j → i = j) (h4 : node < 200) : False := by
  refine hq_pig 200 (fun i => if i < 200 then hn i else node) (fun i hi => ?_) (fun i j hi hj e => ?_)
  · split
    · exact h1 i (by assumption)
    · exact h4
  · split at e <;> split at e <;> rename_i c1 c2
    · exact h3 i j c1 c2 e
    · exact absurd e (h2 i c1)
    · exact absurd e.symm (h2 j c2)
    · omega
/-- a node comes in -/
theorem hq_enter {hn : Nat → Nat} {pl : Nat → Int32} {key : Nat → Nat} {sz node s : Nat} (h : hq_ok hn pl key sz) (hn2 : node < 200) (hp : pl node = -1) :
    hq_hole hn pl (va_up key node s) (sz + 1) sz node ∧ ∀ j, 0 < j → j < sz + 1 → (j - 1) / 2 = sz → va_up key node s node ≤ va_up key node s (hn j) := by
  obtain ⟨h1, h2, h3, h4⟩ := h
  have hne : ∀ i, i < sz → hn i ≠ node := fun i hi e => by
    have := (h2 i hi).2
    rw [e, hp] at this
    exact hq_nm1 (by omega) this.symm
  have hsz : sz < 200 := by
    rcases Nat.lt_or_ge sz 200 with z | z
    · exact z
    · exfalso
      have e : sz = 200 := by omega
      exact hq_pigeon hn node (by intro i hi; exact (h2 i (by omega)).1) (fun i hi => hne i (by omega)) (fun i j hi hj e2 => by
        have e3 := (h2 i (by omega)).2
        have e4 := (h2 j (by omega)).2
        rw [e2, e4] at e3
        exact ((nI_eq (by omega) (by omega)).mp e3).symm) hn2
  refine ⟨⟨by omega, by omega, hn2, fun i hi hni => ⟨(h2 i (by omega)).1, (h2 i (by omega)).2, hne i (by omega)⟩, fun v hv hvn => ?_, fun i i0 hi hni hpi => ?_, fun j j0 hj hjp hp0 => ?_⟩, fun j j0 hj hjp => ?_⟩
  · rcases h3 v hv with z | ⟨i, hi, he⟩
    · exact Or.inl z
    · exact Or.inr ⟨i, by omega, by omega, he⟩
  · rw [va_up_ne _ _ (hne _ (by omega)), va_up_ne _ _ (hne _ (by omega))]
    exact h4 i i0 (by omega)
  · omega
  · omega
/-- a node that waits gets less seconds -/
theorem hq_lower {hn : Nat → Nat} {pl : Nat → Int32} {key : Nat → Nat} {sz node s h : Nat} (q : hq_ok hn pl key sz) (hh : h < sz) (hnode : hn h = node) (hs : s ≤ key node) :
    hq_hole hn pl (va_up key node s) sz h node ∧ ∀ j, 0 < j → j < sz → (j - 1) / 2 = h → va_up key node s node ≤ va_up key node s (hn j) := by
  have inj := fun i (hi : i < sz) (e : hn i = node) => hq_inj q hi hh (e.trans hnode.symm)
  obtain ⟨h1, h2, h3, h4⟩ := q
  refine ⟨⟨hh, h1, by rw [← hnode]; exact (h2 h hh).1, fun i hi hni => ⟨(h2 i hi).1, (h2 i hi).2, fun e => hni (inj i hi e)⟩, fun v hv hvn => ?_, fun i i0 hi hni hpi => ?_, fun j j0 hj hjp hp0 => ?_⟩, fun j j0 hj hjp => ?_⟩
  · rcases h3 v hv with z | ⟨i, hi, he⟩
    · exact Or.inl z
    · exact Or.inr ⟨i, hi, fun e => hvn (by rw [← he, e]; exact hnode), he⟩
  · rw [va_up_ne _ _ (fun e => hpi (inj _ (by omega) e)), va_up_ne _ _ (fun e => hni (inj i hi e))]
    exact h4 i i0 hi
  · rw [va_up_ne _ _ (fun e => absurd (inj ((h - 1) / 2) (by omega) e) (by omega)), va_up_ne _ _ (fun e => absurd (inj j hj e) (by omega))]
    have g1 := h4 j j0 hj
    rw [hjp] at g1
    have g2 := h4 h hp0 hh
    omega
  · rw [va_up_self, va_up_ne _ _ (fun e => absurd (inj j hj e) (by omega))]
    have g1 := h4 j j0 hj
    rw [hjp, hnode] at g1
    omega
/-- the top goes; the last one is to be laid again -/
theorem hq_pop {hn : Nat → Nat} {pl : Nat → Int32} {key : Nat → Nat} {sz : Nat} (h : hq_ok hn pl key sz) (h2 : 1 < sz) : hq_hole hn (upd pl (hn 0) (-1)) key (sz - 1) 0 (hn (sz - 1)) := by
  have inj := fun i j (hi : i < sz) (hj : j < sz) (e : hn i = hn j) => hq_inj h hi hj e
  obtain ⟨h1, q2, q3, q4⟩ := h
  refine ⟨by omega, by omega, (q2 _ (by omega)).1, fun i hi hne => ?_, fun v hv hvn => ?_, fun i i0 hi hne hpn => q4 i i0 (by omega), fun j _ _ _ h0 => absurd h0 (by omega)⟩
  · refine ⟨(q2 i (by omega)).1, ?_, fun e => absurd (inj _ _ (by omega) (by omega) e) (by omega)⟩
    rw [pk_un (fun e => hne (inj i 0 (by omega) (by omega) e))]
    exact (q2 i (by omega)).2
  · by_cases e : v = hn 0
    · subst e; rw [pk_us]; exact Or.inl rfl
    · rw [pk_un e]
      rcases q3 v hv with z | ⟨i, hi, he⟩
      · exact Or.inl z
      · have n1 : i ≠ 0 := fun z => e (by rw [← he, z])
        have n2 : i ≠ sz - 1 := fun z => hvn (by rw [← he, z])
        exact Or.inr ⟨i, by omega, n1, he⟩
theorem hq_pop1 {hn : Nat → Nat} {pl : Nat → Int32} {key : Nat → Nat} (h : hq_ok hn pl key 1) : hq_ok hn (upd pl (hn 0) (-1)) key 0 := by
  obtain ⟨h1, q2, q3, q4⟩ := h
  refine ⟨by omega, fun i hi => absurd hi (by omega), fun v hv => Or.inl ?_, fun i _ hi => absurd hi (by omega)⟩
  by_cases e : v = hn 0
  · subst e; rw [pk_us]
  · rw [pk_un e]
    rcases q3 v hv with z | ⟨i, hi, he⟩
    · exact z
    · have : i = 0 := by omega
      subst this; exact absurd he.symm e
