/-- what piece q's first i places of its ends' rows bring to v within c -/
def ag_t (ea eb w : Nat → Nat) (mn : Nat → Nat → Nat) (q i v c : Nat) : Nat := if w q = 0 ∨ c < w q then 0 else (if eb q = v then ma_cnt (mn (ea q)) i (c - w q) else 0) + (if ea q = v then ma_cnt (mn (eb q)) i (c - w q) else 0)
theorem ag_t_0 {ea eb w : Nat → Nat} {mn : Nat → Nat → Nat} {q v c : Nat} : ag_t ea eb w mn q 0 v c = 0 := by
  unfold ag_t
  split
  · rfl
  · split <;> split <;> rfl
theorem ag_t_w {ea eb w : Nat → Nat} {mn : Nat → Nat → Nat} {q i v c : Nat} (h : w q = 0) : ag_t ea eb w mn q i v c = 0 := if_pos (Or.inl h)
theorem ag_t_s {ea eb w : Nat → Nat} {mn : Nat → Nat → Nat} {q i v c : Nat} (h : w q ≠ 0) : ag_t ea eb w mn q (i + 1) v c = ag_t ea eb w mn q i v c + (if v = eb q ∧ mn (ea q) i + w q ≤ c then 1 else 0) + (if v = ea q ∧ mn (eb q) i + w q ≤ c then 1 else 0) := by
  unfold ag_t
  by_cases e : c < w q
  · rw [if_pos (Or.inr e), if_pos (Or.inr e), if_neg (by omega), if_neg (by omega)]
  · have hc : ¬ (w q = 0 ∨ c < w q) := by omega
    rw [if_neg hc, if_neg hc, ma_cnt_succ, ma_cnt_succ]
    (repeat' split) <;> omega
theorem ag_in (P : Nat) (ea eb w : Nat → Nat) (a : Nat) (mn : Nat → Nat → Nat) (v c : Nat) : ma_in P ea eb w a (fun u y => ma_cnt (mn u) 6 y) v c = (if v = a then 1 else 0) + ma_sum (fun q => ag_t ea eb w mn q 6 v c) P := rfl
theorem in_X7_put_X7 : ∀ w ∈ u_ws RX7 TX7 30, w ∈ wsX7_put := by decide +kernel
theorem ml_X7_put_81 : Cond.fieldLink RX7 81 "WayTimesModel" "next" "[J" ∈ wsX7_put := by decide +kernel
theorem in_X7_again_X7 : ∀ w ∈ u_ws RX7 TX7 30, w ∈ wsX7_again := by decide +kernel
theorem ml_X7_again_91 : Cond.fieldLink RX7 91 "WayTimesModel" "nodes" "I" ∈ wsX7_again := by decide +kernel
theorem ml_X7_again_78 : Cond.fieldLink RX7 78 "WayTimesModel" "many" "[J" ∈ wsX7_again := by decide +kernel
theorem ml_X7_again_81 : Cond.fieldLink RX7 81 "WayTimesModel" "next" "[J" ∈ wsX7_again := by decide +kernel
theorem ml_X7_again_94 : Cond.fieldLink RX7 94 "WayTimesModel" "pieces" "I" ∈ wsX7_again := by decide +kernel
theorem ml_X7_again_16 : Cond.fieldLink RX7 16 "WayTimesModel" "metres" "[I" ∈ wsX7_again := by decide +kernel
theorem ml_X7_again_13 : Cond.fieldLink RX7 13 "WayTimesModel" "second" "[I" ∈ wsX7_again := by decide +kernel
theorem mk_X7_again_113 : Jvm.Cond.constantLong RX7 113 (lN ma_B) ∈ wsX7_again := by decide +kernel
theorem ml_X7_again_7 : Cond.fieldLink RX7 7 "WayTimesModel" "first" "[I" ∈ wsX7_again := by decide +kernel
set_option maxHeartbeats 4000000 in
set_option maxRecDepth 100000 in
/-- put(v, sv) -/
theorem c_X7_put (l : Launch) {D : va_G} {ay : Nat → ClassId} {base : Nat} {Gx : State → Prop} {ws : va_W} {am : Nat} {aa : Nat → Nat} {th sp : Int32} {n P U : Nat} {v sv : Nat} {fn : Nat → Int64} {x Of : Nat → Nat} (hO : cm_O ws am aa th n P U sp) (h53 : ws[53]? = some ((aa 23), .inl (ay 1, 1200, .inr (.inl fn)))) (hv : v < 200) (hs : sv < 2 ^ 62) (hx : ∀ q, q < 6 → fn (v * 6 + q) = lN (x q)) (hrow : pt_row x Of) : Met l yX7_put wsX7_put ({ frames := 0, cells := 0, slots := 0, locals := 0 } : Room) (va_Pc [.ref am, .int (nI v), .long (lN sv)] (vg_B D ay base Gx ws)) (va_Qv (fun u => ∃ (fn2 : Nat → Int64) (y : Nat → Nat), u[53]? = some ((aa 23), .inl (ay 1, 1200, .inr (.inl fn2))) ∧ (∀ q, q < 6 → fn2 (v * 6 + q) = lN (y q)) ∧ pt_row y (fun z => Of z + if sv ≤ z then 1 else 0) ∧ (∀ q, q < v * 6 ∨ v * 6 + 6 ≤ q → fn2 q = fn q) ∧ vg_fr ws u [53]) (vg_B D ay base Gx) (vg_A base)) 0 0 (vg_A base) := by
  refine vg_met (cc := cX7_put) (maxL := 9) (ret := none) (own := RX7) (lv := [(0, .ref am), (1, .int (nI v)), (2, .long (lN sv))]) (by decide) rfl rfl (Nat.le_of_ble_eq_true rfl) rfl ?_
  intro p e s m args below meth c X hinit
  have eB : ma_B = 2 ^ 60 := rfl
  unfold cm_O at hO
  have loop : ∀ (k i cv : Nat) (y : Nat → Nat) (fn1 : Nat → Int64) (ws1 : va_W), i + k = 6 → ws1[53]? = some ((aa 23), .inl (ay 1, 1200, .inr (.inl fn1))) → vg_fr ws ws1 [53] → cv < 2 ^ 62 → (∀ q, q < i → fn1 (v * 6 + q) = lN (y q)) → (∀ q, i ≤ q → q < 6 → fn1 (v * 6 + q) = lN (x q)) → pt_inv x y sv i cv → (∀ q, q < v * 6 ∨ v * 6 + 6 ≤ q → fn1 q = fn q) → vg_V D base p l e ({ frames := 0, cells := 0, slots := 0, locals := 0 } : Room) s m args below meth c 9 0 0 (MQ below (va_Qv (fun u => ∃ (fn2 : Nat → Int64) (y : Nat → Nat), u[53]? = some ((aa 23), .inl (ay 1, 1200, .inr (.inl fn2))) ∧ (∀ q, q < 6 → fn2 (v * 6 + q) = lN (y q)) ∧ pt_row y (fun z => Of z + if sv ≤ z then 1 else 0) ∧ (∀ q, q < v * 6 ∨ v * 6 + 6 ≤ q → fn2 q = fn q) ∧ vg_fr ws u [53]) (vg_B D ay base Gx) (vg_A base)) args s 0 0 (vg_A base)) [(0, .ref am), (1, .int (nI v)), (4, .long (lN cv)), (6, .int (nI i))] [] ws1 6 := by
    intro k
    induction k using Nat.strongRecOn with
    | ind k ih =>
      intro i cv y fn1 ws1 hk g53 hfr hcv w1 w2 hpt w3
      have hO1 : ws1[29]? = _ := (hfr.2 29 (by decide)).trans hO
      refine vg_iload X dX7_put_6 3 rfl ?_
      refine vg_bipush X (nI 6) dX7_put_8 (by decide) ?_
      refine vg_icmp_ge X 72 dX7_put_10 (by decide) (fun c10 => ?_) (fun c10 => ?_)
      · have c10 : 6 ≤ i := (nI_leI (by omega) (by omega)).mp c10
        have ei : i = 6 := by omega
        subst ei
        exact vg_vret X rfl ⟨fn1, y, g53, w1, pt_end hrow hpt, w3, hfr⟩ (Nat.le_refl _) (Nat.le_refl _) dX7_put_72
      · have c10 : ¬ 6 ≤ i := fun z => c10 ((nI_leI (by omega) (by omega)).mpr z)
        have hxi := hrow.2.1 i (by omega)
        refine vg_aload_n X dX7_put_13 0 rfl rfl ?_
        refine vg_get X in_X7_put_X7 29 hO1 rfl 27 (by decide) ml_X7_put_81 rfl rfl dX7_put_14 ?_
        refine vg_iload_n X dX7_put_17 1 rfl rfl ?_
        refine vg_bipush X (nI 6) dX7_put_18 (by decide) ?_
        refine vg_imul X (nI (v * 6)) dX7_put_20 (pk_mul _ _) ?_
        refine vg_iload X dX7_put_21 3 rfl ?_
        refine vg_iadd X (nI (v * 6 + i)) dX7_put_23 (nI_add _ _) ?_
        refine vg_lald X (lN (x i)) 53 g53 rfl (by omega) (by decide) (w2 i (Nat.le_refl _) (by omega)) dX7_put_24 ?_
        refine vg_lload X dX7_put_25 2 rfl ?_
        refine vg_lcmp_gt X 34 dX7_put_27 dX7_put_28 (by decide) (fun c27 => ?_) (fun c27 => ?_)
        · have c27 : cv < x i := (pk_lLT (by omega) (by omega)).mp c27
          refine vg_aload_n X dX7_put_34 0 rfl rfl ?_
          refine vg_get X in_X7_put_X7 29 hO1 rfl 27 (by decide) ml_X7_put_81 rfl rfl dX7_put_35 ?_
          refine vg_iload_n X dX7_put_38 1 rfl rfl ?_
          refine vg_bipush X (nI 6) dX7_put_39 (by decide) ?_
          refine vg_imul X (nI (v * 6)) dX7_put_41 (pk_mul _ _) ?_
          refine vg_iload X dX7_put_42 3 rfl ?_
          refine vg_iadd X (nI (v * 6 + i)) dX7_put_44 (nI_add _ _) ?_
          refine vg_lald X (lN (x i)) 53 g53 rfl (by omega) (by decide) (w2 i (Nat.le_refl _) (by omega)) dX7_put_45 ?_
          refine vg_lstore X [(7, .long (lN (x i))), (0, .ref am), (1, .int (nI v)), (4, .long (lN cv)), (6, .int (nI i))] dX7_put_46 (by decide) rfl ?_
          refine vg_aload_n X dX7_put_48 1 rfl rfl ?_
          refine vg_get X in_X7_put_X7 29 hO1 rfl 27 (by decide) ml_X7_put_81 rfl rfl dX7_put_49 ?_
          refine vg_iload_n X dX7_put_52 2 rfl rfl ?_
          refine vg_bipush X (nI 6) dX7_put_53 (by decide) ?_
          refine vg_imul X (nI (v * 6)) dX7_put_55 (pk_mul _ _) ?_
          refine vg_iload X dX7_put_56 4 rfl ?_
          refine vg_iadd X (nI (v * 6 + i)) dX7_put_58 (nI_add _ _) ?_
          refine vg_lload X dX7_put_59 3 rfl ?_
          refine vg_last X 53 g53 rfl (by omega) (by decide) dX7_put_61 (fun wz1 ez2 => ?_)
          have fh3 : wz1[53]? = some ((aa 23), .inl (ay 1, 1200, .inr (.inl (vp_updL fn1 (v * 6 + i) (lN cv))))) := vg_se ez2 g53
          refine vg_lload X dX7_put_62 0 rfl ?_
          refine vg_lstore X [(4, .long (lN (x i))), (7, .long (lN (x i))), (0, .ref am), (1, .int (nI v)), (6, .int (nI i))] dX7_put_64 (by decide) rfl ?_
          refine vg_iinc X (v := nI (i + 1)) [(6, .int (nI (i + 1))), (4, .long (lN (x i))), (7, .long (lN (x i))), (0, .ref am), (1, .int (nI v))] dX7_put_66 4 rfl (by rw [show Int32.ofInt 1 = nI 1 by decide, nI_add]) (by decide) rfl ?_
          refine vg_goto X 6 dX7_put_69 (by decide) ?_
          refine vg_locals [3, 4, 1, 0] rfl ?_
          refine ih (k - 1) (by omega) (i + 1) (x i) (va_up y i cv) _ _ (by omega) fh3 (vg_fr_set hfr ez2 (by decide)) (by omega) (fun q hq => ?_) (fun q h1 h2 => ?_) (pt_swap hpt (by omega) (fun q hq => va_up_ne _ _ (by omega)) (va_up_self _ _ _)) (fun q hq => ?_)
          · by_cases q9 : q = i
            · subst q9; rw [pk_uLs, va_up_self]
            · rw [pk_uLn (by omega), va_up_ne _ _ q9]; exact w1 q (by omega)
          · rw [pk_uLn (by omega)]; exact w2 q (by omega) h2
          · rw [pk_uLn (by omega)]; exact w3 q hq
        · have c27 : ¬ cv < x i := fun z => c27 ((pk_lLT (by omega) (by omega)).mpr z)
          refine vg_goto X 66 dX7_put_31 (by decide) ?_
          refine vg_iinc X (v := nI (i + 1)) [(6, .int (nI (i + 1))), (0, .ref am), (1, .int (nI v)), (4, .long (lN cv))] dX7_put_66 3 rfl (by rw [show Int32.ofInt 1 = nI 1 by decide, nI_add]) (by decide) rfl ?_
          refine vg_goto X 6 dX7_put_69 (by decide) ?_
          refine vg_locals [1, 2, 3, 0] rfl ?_
          refine ih (k - 1) (by omega) (i + 1) cv (va_up y i (x i)) fn1 ws1 (by omega) g53 hfr hcv (fun q hq => ?_) (fun q h1 h2 => w2 q (by omega) h2) (pt_keep hpt (fun q r h1 h2 => hrow.1 q r h1 (by omega)) (by omega) (fun q hq => va_up_ne _ _ (by omega)) (va_up_self _ _ _)) w3
          by_cases q9 : q = i
          · subst q9; rw [va_up_self]; exact w2 q (Nat.le_refl _) (by omega)
          · rw [va_up_ne _ _ q9]; exact w1 q (by omega)
  refine vg_lload_n X dX7_put_0 2 rfl rfl ?_
  refine vg_lstore X [(4, .long (lN sv)), (0, .ref am), (1, .int (nI v)), (2, .long (lN sv))] dX7_put_1 (by decide) rfl ?_
  refine vg_iconst X (nI 0) dX7_put_3 (by decide) ?_
  refine vg_istore X [(6, .int (nI 0)), (4, .long (lN sv)), (0, .ref am), (1, .int (nI v)), (2, .long (lN sv))] dX7_put_4 (by decide) rfl ?_
  refine vg_locals [2, 3, 1, 0] rfl ?_
  exact loop 6 0 sv x fn ws (by omega) h53 (vg_fr_rf ws _) hs (fun q hq => absurd hq (by omega)) (fun q _ hq => hx q hq) (pt_start x x sv) (fun q _ => rfl)
set_option maxHeartbeats 4000000 in
set_option maxRecDepth 100000 in
/-- again(unit, a, t): the rows anew -/
theorem c_X7_again (l : Launch) {D : va_G} {ay : Nat → ClassId} {base : Nat} {Gx : State → Prop} {ws : va_W} {am : Nat} {aa : Nat → Nat} {th sp : Int32} {n P U : Nat} {d fr to pe uv : Nat → Nat → Nat} {j a t : Nat} {fm fn : Nat → Int64} {mn : Nat → Nat → Nat} (hO : cm_O ws am aa th n P U sp) (hD : cm_D ay ws aa n P U d fr to pe uv) (hR : cm_R n P U d fr to pe uv) (h52 : ws[52]? = some ((aa 22), .inl (ay 1, 1200, .inr (.inl fm)))) (h53 : ws[53]? = some ((aa 23), .inl (ay 1, 1200, .inr (.inl fn)))) (hj : j < U) (ha : a < n) (ht : t < 2 ^ 31) (hm : ∀ v, v < n → (∀ q, q < 6 → fm (v * 6 + q) = lN (mn v q) ∧ mn v q ≤ ma_B)) : Met l yX7_again wsX7_again ({ frames := 3, cells := 0, slots := 0, locals := 74 } : Room) (va_Pc [.ref am, .int (nI j), .int (nI a), .int (nI t)] (vg_B D ay base Gx ws)) (va_Qi (fun r u => ∃ (fm2 fn2 : Nat → Int64) (nx : Nat → Nat → Nat), u[52]? = some ((aa 22), .inl (ay 1, 1200, .inr (.inl fm2))) ∧ u[53]? = some ((aa 23), .inl (ay 1, 1200, .inr (.inl fn2))) ∧ (∀ v, v < n → pt_row (nx v) (fun y => ma_in P (fun i => d i 0) (fun i => d i 1) (fun i => ps_w (d i) (fr i) (to i) (pe i) (uv j) t) a (fun u y => ma_cnt (mn u) 6 y) v y) ∧ ∀ q, q < 6 → fm2 (v * 6 + q) = lN (nx v q)) ∧ vg_fr ws u [52, 53] ∧ ((r = 1 ∧ ∃ v q, v < n ∧ q < 6 ∧ nx v q ≠ mn v q) ∨ (r = 0 ∧ ∀ v q, v < n → q < 6 → nx v q = mn v q))) (vg_B D ay base Gx) (vg_A base)) 0 0 (vg_A base) := by
  refine vg_met (cc := cX7_again) (maxL := 8) (ret := (some .boolean)) (own := RX7) (lv := [(0, .ref am), (1, .int (nI j)), (2, .int (nI a)), (3, .int (nI t))]) (by decide) rfl rfl (Nat.le_of_ble_eq_true rfl) rfl ?_
  intro p e s m args below meth c X hinit
  have nn := hR.1
  have nP := hR.2.1
  have eB : ma_B = 2 ^ 60 := rfl
  obtain ⟨w, ew⟩ : ∃ z : Nat → Nat, z = (fun i => ps_w (d i) (fr i) (to i) (pe i) (uv j) t) := ⟨_, rfl⟩
  rw [← ew]
  have hea : ∀ i, i < P → d i 0 < n := fun i hi => (hR.2.2.2.1 i hi).2.1
  have heb : ∀ i, i < P → d i 1 < n := fun i hi => (hR.2.2.2.1 i hi).2.2.1
  have hw9 : ∀ i, i < P → w i ≤ 432000000 ∧ (w i ≠ 0 ↔ ps_ok (d i) (uv j)) := fun i hi => by
    rw [ew]; exact ⟨(ps_w_in (hR.2.2.2.1 i hi).1 (hR.2.2.2.2 j hj).1).1, ps_w_pos (hR.2.2.2.1 i hi).1 (hR.2.2.2.2 j hj).1⟩
  have last : ∀ (fn1 : Nat → Int64) (nx : Nat → Nat → Nat), (∀ v, v < n → pt_row (nx v) (fun y => ma_in P (fun i => d i 0) (fun i => d i 1) w a (fun u y => ma_cnt (mn u) 6 y) v y) ∧ ∀ q, q < 6 → fn1 (v * 6 + q) = lN (nx v q)) → ∀ (k x : Nat) (o : Int32) (fm1 : Nat → Int64) (ws1 : va_W), x + k = n * 6 → ws1[52]? = some ((aa 22), .inl (ay 1, 1200, .inr (.inl fm1))) → ws1[53]? = some ((aa 23), .inl (ay 1, 1200, .inr (.inl fn1))) → vg_fr ws ws1 [52, 53] → (∀ q, q < x → fm1 q = fn1 q) → (∀ q, x ≤ q → fm1 q = fm q) → ((o = 1 ∧ ∃ q, q < x ∧ fn1 q ≠ fm q) ∨ (o = 0 ∧ ∀ q, q < x → fn1 q = fm q)) → vg_V D base p l e ({ frames := 3, cells := 0, slots := 0, locals := 74 } : Room) s m args below meth c 8 0 0 (MQ below (va_Qi (fun r u => ∃ (fm2 fn2 : Nat → Int64) (nx : Nat → Nat → Nat), u[52]? = some ((aa 22), .inl (ay 1, 1200, .inr (.inl fm2))) ∧ u[53]? = some ((aa 23), .inl (ay 1, 1200, .inr (.inl fn2))) ∧ (∀ v, v < n → pt_row (nx v) (fun y => ma_in P (fun i => d i 0) (fun i => d i 1) w a (fun u y => ma_cnt (mn u) 6 y) v y) ∧ ∀ q, q < 6 → fm2 (v * 6 + q) = lN (nx v q)) ∧ vg_fr ws u [52, 53] ∧ ((r = 1 ∧ ∃ v q, v < n ∧ q < 6 ∧ nx v q ≠ mn v q) ∨ (r = 0 ∧ ∀ v q, v < n → q < 6 → nx v q = mn v q))) (vg_B D ay base Gx) (vg_A base)) args s 0 0 (vg_A base)) [(0, .ref am), (1, .int (nI j)), (2, .int (nI a)), (3, .int (nI t)), (4, .int o), (5, .int (nI x))] [] ws1 221 := by
    intro fn1 nx hnx k
    induction k using Nat.strongRecOn with
    | ind k ih =>
      intro x o fm1 ws1 hk g52 g53 hfr w1 w2 ho
      have hO1 : ws1[29]? = _ := (hfr.2 29 (by decide)).trans hO
      refine vg_iload X dX7_again_221 5 rfl ?_
      refine vg_aload_n X dX7_again_223 0 rfl rfl ?_
      refine vg_get X in_X7_again_X7 29 hO1 rfl 1 (by decide) ml_X7_again_91 rfl rfl dX7_again_224 ?_
      refine vg_bipush X (nI 6) dX7_again_227 (by decide) ?_
      refine vg_imul X (nI (n * 6)) dX7_again_229 (pk_mul _ _) ?_
      refine vg_icmp_ge X 283 dX7_again_230 (by decide) (fun c230 => ?_) (fun c230 => ?_)
      · have c230 : n * 6 ≤ x := (nI_leI (by omega) (by omega)).mp c230
        refine vg_iload X dX7_again_283 4 rfl ?_
        have ex : x = n * 6 := by omega
        subst ex
        refine vg_zret X rfl (by rcases ho with ⟨q1, _⟩ | ⟨q1, _⟩ <;> rw [q1] <;> rfl) ⟨fm1, fn1, nx, g52, g53, fun v hv => ⟨(hnx v hv).1, fun q hq => by rw [w1 _ (by omega)]; exact (hnx v hv).2 q hq⟩, hfr, ?_⟩ (Nat.le_refl _) (Nat.le_refl _) dX7_again_285
        have eqv : ∀ v q, v < n → q < 6 → (fn1 (v * 6 + q) = fm (v * 6 + q) ↔ nx v q = mn v q) := fun v q hv hq => by
          have g1 := (hnx v hv).2 q hq
          have g2 := hm v hv q hq
          have g3 := (hnx v hv).1.2.1 q hq
          rw [g1, g2.1]; exact pk_lEQ (by omega) (by omega)
        rcases ho with ⟨q1, q2, q3, q4⟩ | ⟨q1, q2⟩
        · refine Or.inl ⟨q1, q2 / 6, q2 % 6, by omega, by omega, fun q9 => q4 ?_⟩
          have g1 := (eqv (q2 / 6) (q2 % 6) (by omega) (by omega)).mpr q9
          rw [show q2 / 6 * 6 + q2 % 6 = q2 by omega] at g1; exact g1
        · exact Or.inr ⟨q1, fun v q hv hq => (eqv v q hv hq).mp (q2 _ (by omega))⟩
      · have c230 : ¬ n * 6 ≤ x := fun z => c230 ((nI_leI (by omega) (by omega)).mpr z)
        refine vg_iload X dX7_again_233 4 rfl ?_
        refine vg_if_ne X 256 dX7_again_235 (by decide) (fun c235 => ?_) (fun c235 => ?_)
        · skip
          refine vg_iconst X (nI 1) dX7_again_256 (by decide) ?_
          refine vg_goto X 261 dX7_again_257 (by decide) ?_
          refine vg_istore X [(4, .int (nI 1)), (0, .ref am), (1, .int (nI j)), (2, .int (nI a)), (3, .int (nI t)), (5, .int (nI x))] dX7_again_261 (by decide) rfl ?_
          refine vg_aload_n X dX7_again_263 1 rfl rfl ?_
          refine vg_get X in_X7_again_X7 29 hO1 rfl 26 (by decide) ml_X7_again_78 rfl rfl dX7_again_264 ?_
          refine vg_iload X dX7_again_267 5 rfl ?_
          refine vg_aload_n X dX7_again_269 1 rfl rfl ?_
          refine vg_get X in_X7_again_X7 29 hO1 rfl 27 (by decide) ml_X7_again_81 rfl rfl dX7_again_270 ?_
          refine vg_iload X dX7_again_273 5 rfl ?_
          refine vg_lald X (fn1 x) 53 g53 rfl (by omega) (by decide) rfl dX7_again_275 ?_
          refine vg_last X 52 g52 rfl (by omega) (by decide) dX7_again_276 (fun wz1 ez2 => ?_)
          have fh3 : wz1[52]? = some ((aa 22), .inl (ay 1, 1200, .inr (.inl (vp_updL fm1 x (fn1 x))))) := vg_se ez2 g52
          refine vg_iinc X (v := nI (x + 1)) [(5, .int (nI (x + 1))), (4, .int (nI 1)), (0, .ref am), (1, .int (nI j)), (2, .int (nI a)), (3, .int (nI t))] dX7_again_277 5 rfl (by rw [show Int32.ofInt 1 = nI 1 by decide, nI_add]) (by decide) rfl ?_
          refine vg_goto X 221 dX7_again_280 (by decide) ?_
          refine vg_locals [2, 3, 4, 5, 1, 0] rfl ?_
          have fh4 : wz1[53]? = some ((aa 23), .inl (ay 1, 1200, .inr (.inl fn1))) := (vg_sn ez2 (by decide)).trans (g53)
          refine ih (k - 1) (by omega) (x + 1) _ _ _ (by omega) fh3 fh4 (vg_fr_set hfr ez2 (by decide)) (fun q hq => ?_) (fun q hq => ?_) ?_
          · by_cases q9 : q = x
            · subst q9; exact pk_uLs
            · rw [pk_uLn q9]; exact w1 q (by omega)
          · rw [pk_uLn (by omega)]; exact w2 q (by omega)
          · obtain ⟨q1, q2, q3, q4⟩ := ho.resolve_right (fun q9 => c235 q9.1)
            exact Or.inl ⟨by decide, q2, by omega, q4⟩
        · skip
          refine vg_aload_n X dX7_again_238 0 rfl rfl ?_
          refine vg_get X in_X7_again_X7 29 hO1 rfl 27 (by decide) ml_X7_again_81 rfl rfl dX7_again_239 ?_
          refine vg_iload X dX7_again_242 5 rfl ?_
          refine vg_lald X (fn1 x) 53 g53 rfl (by omega) (by decide) rfl dX7_again_244 ?_
          refine vg_aload_n X dX7_again_245 0 rfl rfl ?_
          refine vg_get X in_X7_again_X7 29 hO1 rfl 26 (by decide) ml_X7_again_78 rfl rfl dX7_again_246 ?_
          refine vg_iload X dX7_again_249 5 rfl ?_
          refine vg_lald X (fm1 x) 52 g52 rfl (by omega) (by decide) rfl dX7_again_251 ?_
          refine vg_lcmp_eq X 260 dX7_again_252 dX7_again_253 (by decide) (fun c252 => ?_) (fun c252 => ?_)
          · skip
            refine vg_iconst X (nI 0) dX7_again_260 (by decide) ?_
            refine vg_istore X [(4, .int (nI 0)), (0, .ref am), (1, .int (nI j)), (2, .int (nI a)), (3, .int (nI t)), (5, .int (nI x))] dX7_again_261 (by decide) rfl ?_
            refine vg_aload_n X dX7_again_263 1 rfl rfl ?_
            refine vg_get X in_X7_again_X7 29 hO1 rfl 26 (by decide) ml_X7_again_78 rfl rfl dX7_again_264 ?_
            refine vg_iload X dX7_again_267 5 rfl ?_
            refine vg_aload_n X dX7_again_269 1 rfl rfl ?_
            refine vg_get X in_X7_again_X7 29 hO1 rfl 27 (by decide) ml_X7_again_81 rfl rfl dX7_again_270 ?_
            refine vg_iload X dX7_again_273 5 rfl ?_
            refine vg_lald X (fn1 x) 53 g53 rfl (by omega) (by decide) rfl dX7_again_275 ?_
            refine vg_last X 52 g52 rfl (by omega) (by decide) dX7_again_276 (fun wz5 ez6 => ?_)
            have fh7 : wz5[52]? = some ((aa 22), .inl (ay 1, 1200, .inr (.inl (vp_updL fm1 x (fn1 x))))) := vg_se ez6 g52
            refine vg_iinc X (v := nI (x + 1)) [(5, .int (nI (x + 1))), (4, .int (nI 0)), (0, .ref am), (1, .int (nI j)), (2, .int (nI a)), (3, .int (nI t))] dX7_again_277 5 rfl (by rw [show Int32.ofInt 1 = nI 1 by decide, nI_add]) (by decide) rfl ?_
            refine vg_goto X 221 dX7_again_280 (by decide) ?_
            refine vg_locals [2, 3, 4, 5, 1, 0] rfl ?_
            have fh8 : wz5[53]? = some ((aa 23), .inl (ay 1, 1200, .inr (.inl fn1))) := (vg_sn ez6 (by decide)).trans (g53)
            refine ih (k - 1) (by omega) (x + 1) _ _ _ (by omega) fh7 fh8 (vg_fr_set hfr ez6 (by decide)) (fun q hq => ?_) (fun q hq => ?_) ?_
            · by_cases q9 : q = x
              · subst q9; exact pk_uLs
              · rw [pk_uLn q9]; exact w1 q (by omega)
            · rw [pk_uLn (by omega)]; exact w2 q (by omega)
            · refine Or.inr ⟨by decide, fun q hq => ?_⟩
              by_cases q9 : q = x
              · subst q9; rw [c252]; exact w2 q (Nat.le_refl _)
              · exact (ho.resolve_left (fun q8 => by rw [q8.1] at c235; exact absurd c235 (by decide))).2 q (by omega)
          · skip
            refine vg_iconst X (nI 1) dX7_again_256 (by decide) ?_
            refine vg_goto X 261 dX7_again_257 (by decide) ?_
            refine vg_istore X [(4, .int (nI 1)), (0, .ref am), (1, .int (nI j)), (2, .int (nI a)), (3, .int (nI t)), (5, .int (nI x))] dX7_again_261 (by decide) rfl ?_
            refine vg_aload_n X dX7_again_263 1 rfl rfl ?_
            refine vg_get X in_X7_again_X7 29 hO1 rfl 26 (by decide) ml_X7_again_78 rfl rfl dX7_again_264 ?_
            refine vg_iload X dX7_again_267 5 rfl ?_
            refine vg_aload_n X dX7_again_269 1 rfl rfl ?_
            refine vg_get X in_X7_again_X7 29 hO1 rfl 27 (by decide) ml_X7_again_81 rfl rfl dX7_again_270 ?_
            refine vg_iload X dX7_again_273 5 rfl ?_
            refine vg_lald X (fn1 x) 53 g53 rfl (by omega) (by decide) rfl dX7_again_275 ?_
            refine vg_last X 52 g52 rfl (by omega) (by decide) dX7_again_276 (fun wz9 ez10 => ?_)
            have fh11 : wz9[52]? = some ((aa 22), .inl (ay 1, 1200, .inr (.inl (vp_updL fm1 x (fn1 x))))) := vg_se ez10 g52
            refine vg_iinc X (v := nI (x + 1)) [(5, .int (nI (x + 1))), (4, .int (nI 1)), (0, .ref am), (1, .int (nI j)), (2, .int (nI a)), (3, .int (nI t))] dX7_again_277 5 rfl (by rw [show Int32.ofInt 1 = nI 1 by decide, nI_add]) (by decide) rfl ?_
            refine vg_goto X 221 dX7_again_280 (by decide) ?_
            refine vg_locals [2, 3, 4, 5, 1, 0] rfl ?_
            have fh12 : wz9[53]? = some ((aa 23), .inl (ay 1, 1200, .inr (.inl fn1))) := (vg_sn ez10 (by decide)).trans (g53)
            refine ih (k - 1) (by omega) (x + 1) _ _ _ (by omega) fh11 fh12 (vg_fr_set hfr ez10 (by decide)) (fun q hq => ?_) (fun q hq => ?_) ?_
            · by_cases q9 : q = x
              · subst q9; exact pk_uLs
              · rw [pk_uLn q9]; exact w1 q (by omega)
            · rw [pk_uLn (by omega)]; exact w2 q (by omega)
            · exact Or.inl ⟨by decide, x, by omega, fun q9 => c252 (by rw [q9, w2 x (Nat.le_refl _)])⟩
  have pl9 : ∀ (k p9 : Nat) (fn1 : Nat → Int64) (nx Of : Nat → Nat → Nat) (ws1 : va_W), p9 + k = P → ws1[53]? = some ((aa 23), .inl (ay 1, 1200, .inr (.inl fn1))) → vg_fr ws ws1 [53] → (∀ v, v < n → pt_row (nx v) (Of v) ∧ ∀ q, q < 6 → fn1 (v * 6 + q) = lN (nx v q)) → (∀ v y, v < n → y < ma_B → Of v y = (if v = a then 1 else 0) + ma_sum (fun q => ag_t (fun i => d i 0) (fun i => d i 1) w mn q 6 v y) p9 + 0) → vg_V D base p l e ({ frames := 3, cells := 0, slots := 0, locals := 74 } : Room) s m args below meth c 8 0 0 (MQ below (va_Qi (fun r u => ∃ (fm2 fn2 : Nat → Int64) (nx : Nat → Nat → Nat), u[52]? = some ((aa 22), .inl (ay 1, 1200, .inr (.inl fm2))) ∧ u[53]? = some ((aa 23), .inl (ay 1, 1200, .inr (.inl fn2))) ∧ (∀ v, v < n → pt_row (nx v) (fun y => ma_in P (fun i => d i 0) (fun i => d i 1) w a (fun u y => ma_cnt (mn u) 6 y) v y) ∧ ∀ q, q < 6 → fm2 (v * 6 + q) = lN (nx v q)) ∧ vg_fr ws u [52, 53] ∧ ((r = 1 ∧ ∃ v q, v < n ∧ q < 6 ∧ nx v q ≠ mn v q) ∨ (r = 0 ∧ ∀ v q, v < n → q < 6 → nx v q = mn v q))) (vg_B D ay base Gx) (vg_A base)) args s 0 0 (vg_A base)) [(0, .ref am), (1, .int (nI j)), (2, .int (nI a)), (3, .int (nI t)), (4, .int (nI p9))] [] ws1 40 := by
    intro k
    induction k using Nat.strongRecOn with
    | ind k ih =>
      intro p9 fn1 nx Of ws1 hk g53 hfr hrows hOf
      have e29 : ∀ q, q ≠ 53 → ws1[q]? = ws[q]? := fun q hq => hfr.2 q (by simpa using hq)
      have hO2 : cm_O ws1 am aa th n P U sp := (e29 29 (by decide)).trans hO
      have hD2 : cm_D ay ws1 aa n P U d fr to pe uv := cm_D_fr hD (fun q h1 h2 => e29 q (by omega))
      obtain ⟨f0, f1, f2, f3, f4, f5, f6, f7, f8, f9, f10, f11, f12, f13, f14, f15, h0, h1, h2, h3, h4, h5, h6, h7, h8, h9, h10, h11, h12, h13, h14, h15, hp, hu⟩ := id hD2
      have hO3 := hO2
      unfold cm_O at hO3
      refine vg_iload X dX7_again_40 4 rfl ?_
      refine vg_aload_n X dX7_again_42 0 rfl rfl ?_
      refine vg_get X in_X7_again_X7 29 hO3 rfl 2 (by decide) ml_X7_again_94 rfl rfl dX7_again_43 ?_
      refine vg_icmp_ge X 215 dX7_again_46 (by decide) (fun c46 => ?_) (fun c46 => ?_)
      · have c46 : P ≤ p9 := (nI_leI (by omega) (by omega)).mp c46
        refine vg_locals [0, 1, 2, 3] rfl ?_
        refine vg_iconst X (nI 0) dX7_again_215 (by decide) ?_
        refine vg_istore X [(4, .int (nI 0)), (0, .ref am), (1, .int (nI j)), (2, .int (nI a)), (3, .int (nI t))] dX7_again_216 (by decide) rfl ?_
        refine vg_iconst X (nI 0) dX7_again_218 (by decide) ?_
        refine vg_istore X [(5, .int (nI 0)), (4, .int (nI 0)), (0, .ref am), (1, .int (nI j)), (2, .int (nI a)), (3, .int (nI t))] dX7_again_219 (by decide) rfl ?_
        refine vg_locals [2, 3, 4, 5, 1, 0] rfl ?_
        have ep : p9 = P := by omega
        subst ep
        exact last fn1 nx (fun v hv => ⟨pt_congr (hrows v hv).1 (fun y hy => by rw [ag_in, hOf v y hv hy]; rfl), (hrows v hv).2⟩) (n * 6) 0 (nI 0) fm ws1 (by omega) ((hfr.2 52 (by decide)).trans h52) g53 (vg_fr_tr (L1 := [53]) (L2 := [53]) hfr (vg_fr_rf _ _) (by intro q hq; simp only [List.mem_cons, List.not_mem_nil, or_false, or_self] at hq ⊢; omega)) (fun q hq => absurd hq (by omega)) (fun _ _ => rfl) (Or.inr ⟨by decide, fun q hq => absurd hq (by omega)⟩)
      · have c46 : ¬ P ≤ p9 := fun z => c46 ((nI_leI (by omega) (by omega)).mpr z)
        refine vg_aload_n X dX7_again_49 0 rfl rfl ?_
        refine vg_iload_n X dX7_again_50 1 rfl rfl ?_
        refine vg_iload X dX7_again_51 4 rfl ?_
        refine vg_calli (vg_runV X (c_X7_mayGo l hO2 hD2 hR (j := j) (i := p9) hj (by omega)) (cwV 2 X.2.2.2.2.1 gX7_again_X7_mayGo rfl rfl rfl (by decide +kernel) ⟨Nat.le_of_ble_eq_true rfl, Nat.le_of_ble_eq_true rfl⟩) 29 hO3 rfl rfl rfl (Nat.le_of_ble_eq_true rfl) dX7_again_53 ⟨Nat.zero_le _, Nat.zero_le _⟩) (fun rr15 wz13 PP14 => ?_)
        obtain ⟨hw8, hy9, hn9⟩ := PP14
        rw [hw8]
        refine vg_if_ne X 62 dX7_again_56 (by decide) (fun c56 => ?_) (fun c56 => ?_)
        · have hok : ps_ok (d p9) (uv j) := Classical.byContradiction (fun q9 => c56 (hn9 q9))
          refine vg_aload_n X dX7_again_62 0 rfl rfl ?_
          refine vg_iload_n X dX7_again_63 1 rfl rfl ?_
          refine vg_iload X dX7_again_64 4 rfl ?_
          refine vg_aload_n X dX7_again_66 0 rfl rfl ?_
          refine vg_get X in_X7_again_X7 29 hO3 rfl 5 (by decide) ml_X7_again_16 rfl rfl dX7_again_67 ?_
          refine vg_iload X dX7_again_70 4 rfl ?_
          refine vg_iald X (nI (d p9 2)) 32 h2 rfl (by omega) (by decide) (hp p9 (by omega)).2.2.1 dX7_again_72 ?_
          refine vg_iload_n X dX7_again_73 3 rfl rfl ?_
          have hrr := (hR.2.2.2.1 p9 (by omega)).1
          refine vg_calll (vg_runV X (c_X7_takes l hO2 hD2 hR (j := j) (i := p9) (mm := d p9 2) (t := t) hj (by omega) hrr.2.2.2.1 ht hok.2.1) (cwV 4 X.2.2.2.2.1 gX7_again_X7_takes rfl rfl rfl (by decide +kernel) ⟨Nat.le_of_ble_eq_true rfl, Nat.le_of_ble_eq_true rfl⟩) 29 hO3 rfl rfl rfl (Nat.le_of_ble_eq_true rfl) dX7_again_74 ⟨Nat.zero_le _, Nat.zero_le _⟩) (fun rr18 wz16 PP17 => ?_)
          obtain ⟨hw8, hr8⟩ := PP17
          rw [hw8]
          have e8 : rr18 = lN (w p9) := by rw [hr8, ew]; exact congrArg lN (ps_w_ok hok).symm
          subst e8
          refine vg_lstore X [(5, .long (lN (w p9))), (0, .ref am), (1, .int (nI j)), (2, .int (nI a)), (3, .int (nI t)), (4, .int (nI p9))] dX7_again_77 (by decide) rfl ?_
          refine vg_locals [1, 2, 3, 4, 5, 0] rfl ?_
          obtain ⟨hwi, hwp⟩ := hw9 p9 (by omega)
          have hwne : w p9 ≠ 0 := hwp.mpr hok
          have y0 := hea p9 (by omega)
          have y1 := heb p9 (by omega)
          have y6 := (hR.2.2.2.1 p9 (by omega)).2.2.2
          have inn : ∀ (k2 i : Nat) (fn2 : Nat → Int64) (nx2 Of2 : Nat → Nat → Nat) (ws2 : va_W), i + k2 = 6 → ws2[53]? = some ((aa 23), .inl (ay 1, 1200, .inr (.inl fn2))) → vg_fr ws ws2 [53] → (∀ v, v < n → pt_row (nx2 v) (Of2 v) ∧ ∀ q, q < 6 → fn2 (v * 6 + q) = lN (nx2 v q)) → (∀ v y, v < n → y < ma_B → Of2 v y = (if v = a then 1 else 0) + ma_sum (fun q => ag_t (fun i => d i 0) (fun i => d i 1) w mn q 6 v y) p9 + ag_t (fun i => d i 0) (fun i => d i 1) w mn p9 i v y) → vg_V D base p l e ({ frames := 3, cells := 0, slots := 0, locals := 74 } : Room) s m args below meth c 8 0 0 (MQ below (va_Qi (fun r u => ∃ (fm2 fn2 : Nat → Int64) (nx : Nat → Nat → Nat), u[52]? = some ((aa 22), .inl (ay 1, 1200, .inr (.inl fm2))) ∧ u[53]? = some ((aa 23), .inl (ay 1, 1200, .inr (.inl fn2))) ∧ (∀ v, v < n → pt_row (nx v) (fun y => ma_in P (fun i => d i 0) (fun i => d i 1) w a (fun u y => ma_cnt (mn u) 6 y) v y) ∧ ∀ q, q < 6 → fm2 (v * 6 + q) = lN (nx v q)) ∧ vg_fr ws u [52, 53] ∧ ((r = 1 ∧ ∃ v q, v < n ∧ q < 6 ∧ nx v q ≠ mn v q) ∨ (r = 0 ∧ ∀ v q, v < n → q < 6 → nx v q = mn v q))) (vg_B D ay base Gx) (vg_A base)) args s 0 0 (vg_A base)) [(0, .ref am), (1, .int (nI j)), (2, .int (nI a)), (3, .int (nI t)), (4, .int (nI p9)), (5, .long (lN (w p9))), (7, .int (nI i))] [] ws2 82 := by
            intro k2
            induction k2 using Nat.strongRecOn with
            | ind k2 ih2 =>
              intro i fn2 nx2 Of2 ws2 hk2 g53 hfr hrows hOf
              have e29 : ∀ q, q ≠ 53 → ws2[q]? = ws[q]? := fun q hq => hfr.2 q (by simpa using hq)
              have hO2 : cm_O ws2 am aa th n P U sp := (e29 29 (by decide)).trans hO
              have hD2 : cm_D ay ws2 aa n P U d fr to pe uv := cm_D_fr hD (fun q h1 h2 => e29 q (by omega))
              obtain ⟨f0, f1, f2, f3, f4, f5, f6, f7, f8, f9, f10, f11, f12, f13, f14, f15, h0, h1, h2, h3, h4, h5, h6, h7, h8, h9, h10, h11, h12, h13, h14, h15, hp, hu⟩ := id hD2
              have hO3 := hO2
              unfold cm_O at hO3
              have e52 : ws2[52]? = _ := (hfr.2 52 (by decide)).trans h52
              obtain ⟨b0, b1, b2⟩ := hp p9 (by omega)
              have two : ∀ (fn3 : Nat → Int64) (nx3 Of3 : Nat → Nat → Nat) (ws3 : va_W), ws3[53]? = some ((aa 23), .inl (ay 1, 1200, .inr (.inl fn3))) → vg_fr ws ws3 [53] → (∀ v, v < n → pt_row (nx3 v) (Of3 v) ∧ ∀ q, q < 6 → fn3 (v * 6 + q) = lN (nx3 v q)) → (∀ v y, v < n → y < ma_B → Of3 v y = (if v = a then 1 else 0) + ma_sum (fun q => ag_t (fun i => d i 0) (fun i => d i 1) w mn q 6 v y) p9 + ag_t (fun i => d i 0) (fun i => d i 1) w mn p9 i v y + (if v = d p9 1 ∧ mn (d p9 0) i + w p9 ≤ y then 1 else 0)) → i < 6 → vg_V D base p l e ({ frames := 3, cells := 0, slots := 0, locals := 74 } : Room) s m args below meth c 8 0 0 (MQ below (va_Qi (fun r u => ∃ (fm2 fn2 : Nat → Int64) (nx : Nat → Nat → Nat), u[52]? = some ((aa 22), .inl (ay 1, 1200, .inr (.inl fm2))) ∧ u[53]? = some ((aa 23), .inl (ay 1, 1200, .inr (.inl fn2))) ∧ (∀ v, v < n → pt_row (nx v) (fun y => ma_in P (fun i => d i 0) (fun i => d i 1) w a (fun u y => ma_cnt (mn u) 6 y) v y) ∧ ∀ q, q < 6 → fm2 (v * 6 + q) = lN (nx v q)) ∧ vg_fr ws u [52, 53] ∧ ((r = 1 ∧ ∃ v q, v < n ∧ q < 6 ∧ nx v q ≠ mn v q) ∨ (r = 0 ∧ ∀ v q, v < n → q < 6 → nx v q = mn v q))) (vg_B D ay base Gx) (vg_A base)) args s 0 0 (vg_A base)) [(0, .ref am), (1, .int (nI j)), (2, .int (nI a)), (3, .int (nI t)), (4, .int (nI p9)), (5, .long (lN (w p9))), (7, .int (nI i))] [] ws3 146 := by
                intro fn3 nx3 Of3 ws3 g53 hfr hrows hOf hi6
                have e29 : ∀ q, q ≠ 53 → ws3[q]? = ws[q]? := fun q hq => hfr.2 q (by simpa using hq)
                have hO2 : cm_O ws3 am aa th n P U sp := (e29 29 (by decide)).trans hO
                have hD2 : cm_D ay ws3 aa n P U d fr to pe uv := cm_D_fr hD (fun q h1 h2 => e29 q (by omega))
                obtain ⟨f0, f1, f2, f3, f4, f5, f6, f7, f8, f9, f10, f11, f12, f13, f14, f15, h0, h1, h2, h3, h4, h5, h6, h7, h8, h9, h10, h11, h12, h13, h14, h15, hp, hu⟩ := id hD2
                have hO3 := hO2
                unfold cm_O at hO3
                have e52 : ws3[52]? = _ := (hfr.2 52 (by decide)).trans h52
                obtain ⟨b0, b1, b2⟩ := hp p9 (by omega)
                have m1b := hm (d p9 1) y1 i hi6
                refine vg_aload_n X dX7_again_146 0 rfl rfl ?_
                refine vg_get X in_X7_again_X7 29 hO3 rfl 26 (by decide) ml_X7_again_78 rfl rfl dX7_again_147 ?_
                refine vg_aload_n X dX7_again_150 0 rfl rfl ?_
                refine vg_get X in_X7_again_X7 29 hO3 rfl 4 (by decide) ml_X7_again_13 rfl rfl dX7_again_151 ?_
                refine vg_iload X dX7_again_154 4 rfl ?_
                refine vg_iald X (nI (d p9 1)) 31 h1 rfl (by omega) (by decide) b1 dX7_again_156 ?_
                refine vg_bipush X (nI 6) dX7_again_157 (by decide) ?_
                refine vg_imul X (nI (d p9 1 * 6)) dX7_again_159 (pk_mul _ _) ?_
                refine vg_iload X dX7_again_160 6 rfl ?_
                refine vg_iadd X (nI (d p9 1 * 6 + i)) dX7_again_162 (nI_add _ _) ?_
                refine vg_lald X (lN (mn (d p9 1) i)) 52 e52 rfl (by omega) (by decide) m1b.1 dX7_again_163 ?_
                refine vg_ldc2 X (lN ma_B) dX7_again_164 mk_X7_again_113 ?_
                refine vg_lcmp_ge X 203 dX7_again_167 dX7_again_168 (by decide) (fun c167 => ?_) (fun c167 => ?_)
                · have c167 : ma_B ≤ mn (d p9 1) i := (pk_lLE (by omega) (by omega)).mp c167
                  refine vg_iinc X (v := nI (i + 1)) [(7, .int (nI (i + 1))), (0, .ref am), (1, .int (nI j)), (2, .int (nI a)), (3, .int (nI t)), (4, .int (nI p9)), (5, .long (lN (w p9)))] dX7_again_203 6 rfl (by rw [show Int32.ofInt 1 = nI 1 by decide, nI_add]) (by decide) rfl ?_
                  refine vg_goto X 82 dX7_again_206 (by decide) ?_
                  refine vg_locals [1, 2, 3, 4, 5, 6, 0] rfl ?_
                  refine ih2 (k2 - 1) (by omega) (i + 1) fn3 nx3 Of3 ws3 (by omega) g53 hfr hrows (fun v y hv hy => ?_)
                  rw [hOf v y hv hy, ag_t_s hwne]
                  have g9 : ¬ (v = d p9 0 ∧ mn (d p9 1) i + w p9 ≤ y) := by omega
                  show _ = _ + (_ + _ + (if v = d p9 0 ∧ mn (d p9 1) i + w p9 ≤ y then 1 else 0))
                  rw [if_neg g9]; omega
                · have c167 : ¬ ma_B ≤ mn (d p9 1) i := fun z => c167 ((pk_lLE (by omega) (by omega)).mpr z)
                  refine vg_aload_n X dX7_again_171 0 rfl rfl ?_
                  refine vg_aload_n X dX7_again_172 0 rfl rfl ?_
                  refine vg_get X in_X7_again_X7 29 hO3 rfl 3 (by decide) ml_X7_again_7 rfl rfl dX7_again_173 ?_
                  refine vg_iload X dX7_again_176 4 rfl ?_
                  refine vg_iald X (nI (d p9 0)) 30 h0 rfl (by omega) (by decide) b0 dX7_again_178 ?_
                  refine vg_aload_n X dX7_again_179 0 rfl rfl ?_
                  refine vg_get X in_X7_again_X7 29 hO3 rfl 26 (by decide) ml_X7_again_78 rfl rfl dX7_again_180 ?_
                  refine vg_aload_n X dX7_again_183 0 rfl rfl ?_
                  refine vg_get X in_X7_again_X7 29 hO3 rfl 4 (by decide) ml_X7_again_13 rfl rfl dX7_again_184 ?_
                  refine vg_iload X dX7_again_187 4 rfl ?_
                  refine vg_iald X (nI (d p9 1)) 31 h1 rfl (by omega) (by decide) b1 dX7_again_189 ?_
                  refine vg_bipush X (nI 6) dX7_again_190 (by decide) ?_
                  refine vg_imul X (nI (d p9 1 * 6)) dX7_again_192 (pk_mul _ _) ?_
                  refine vg_iload X dX7_again_193 6 rfl ?_
                  refine vg_iadd X (nI (d p9 1 * 6 + i)) dX7_again_195 (nI_add _ _) ?_
                  refine vg_lald X (lN (mn (d p9 1) i)) 52 e52 rfl (by omega) (by decide) m1b.1 dX7_again_196 ?_
                  refine vg_lload X dX7_again_197 5 rfl ?_
                  refine vg_ladd X (lN (mn (d p9 1) i + w p9)) dX7_again_199 (lN_add _ _) ?_
                  refine vg_callv (vg_runV X (c_X7_put l hO2 g53 (v := d p9 0) (sv := mn (d p9 1) i + w p9) (by omega) (by omega) (hrows _ y0).2 (hrows _ y0).1) (cwV 2 X.2.2.2.2.1 gX7_again_X7_put rfl rfl rfl (by decide +kernel) ⟨Nat.le_of_ble_eq_true rfl, Nat.le_of_ble_eq_true rfl⟩) 29 hO3 rfl rfl rfl (Nat.le_of_ble_eq_true rfl) dX7_again_200 ⟨Nat.zero_le _, Nat.zero_le _⟩) (fun wz19 PP20 => ?_)
                  obtain ⟨fn4, ry, v1, v2, v3, v4, v5⟩ := PP20
                  refine vg_iinc X (v := nI (i + 1)) [(7, .int (nI (i + 1))), (0, .ref am), (1, .int (nI j)), (2, .int (nI a)), (3, .int (nI t)), (4, .int (nI p9)), (5, .long (lN (w p9)))] dX7_again_203 6 rfl (by rw [show Int32.ofInt 1 = nI 1 by decide, nI_add]) (by decide) rfl ?_
                  refine vg_goto X 82 dX7_again_206 (by decide) ?_
                  refine vg_locals [1, 2, 3, 4, 5, 6, 0] rfl ?_
                  refine ih2 (k2 - 1) (by omega) (i + 1) fn4 (va_up nx3 (d p9 0) ry) (fun v y => Of3 v y + if v = d p9 0 ∧ mn (d p9 1) i + w p9 ≤ y then 1 else 0) wz19 (by omega) v1 (vg_fr_trd hfr v5 (by decide)) (fun v hv => ?_) (fun v y hv hy => ?_)
                  · by_cases q9 : v = d p9 0
                    · subst q9; rw [va_up_self]; exact ⟨pt_congr v3 (fun y _ => by simp only [true_and]), v2⟩
                    · rw [va_up_ne _ _ q9]; exact ⟨pt_congr (hrows v hv).1 (fun y _ => by rw [if_neg (fun z => q9 z.1)]; rfl), fun q hq => by rw [v4 _ (by omega)]; exact (hrows v hv).2 q hq⟩
                  · show Of3 v y + _ = _
                    rw [hOf v y hv hy, ag_t_s hwne]
                    show _ = _ + (_ + _ + (if v = d p9 0 ∧ mn (d p9 1) i + w p9 ≤ y then 1 else 0))
                    omega
              refine vg_iload X dX7_again_82 6 rfl ?_
              refine vg_bipush X (nI 6) dX7_again_84 (by decide) ?_
              refine vg_icmp_ge X 209 dX7_again_86 (by decide) (fun c86 => ?_) (fun c86 => ?_)
              · have c86 : 6 ≤ i := (nI_leI (by omega) (by omega)).mp c86
                refine vg_iinc X (v := nI (p9 + 1)) [(4, .int (nI (p9 + 1))), (0, .ref am), (1, .int (nI j)), (2, .int (nI a)), (3, .int (nI t)), (5, .long (lN (w p9))), (7, .int (nI i))] dX7_again_209 4 rfl (by rw [show Int32.ofInt 1 = nI 1 by decide, nI_add]) (by decide) rfl ?_
                refine vg_goto X 40 dX7_again_212 (by decide) ?_
                refine vg_locals [1, 2, 3, 4, 0] rfl ?_
                have ei : i = 6 := by omega
                subst ei
                exact ih (k - 1) (by omega) (p9 + 1) fn2 nx2 Of2 ws2 (by omega) g53 hfr hrows (fun v y hv hy => by rw [hOf v y hv hy]; exact Nat.add_assoc _ _ _)
              · have c86 : ¬ 6 ≤ i := fun z => c86 ((nI_leI (by omega) (by omega)).mpr z)
                have m0b := hm (d p9 0) y0 i (by omega)
                refine vg_aload_n X dX7_again_89 0 rfl rfl ?_
                refine vg_get X in_X7_again_X7 29 hO3 rfl 26 (by decide) ml_X7_again_78 rfl rfl dX7_again_90 ?_
                refine vg_aload_n X dX7_again_93 0 rfl rfl ?_
                refine vg_get X in_X7_again_X7 29 hO3 rfl 3 (by decide) ml_X7_again_7 rfl rfl dX7_again_94 ?_
                refine vg_iload X dX7_again_97 4 rfl ?_
                refine vg_iald X (nI (d p9 0)) 30 h0 rfl (by omega) (by decide) b0 dX7_again_99 ?_
                refine vg_bipush X (nI 6) dX7_again_100 (by decide) ?_
                refine vg_imul X (nI (d p9 0 * 6)) dX7_again_102 (pk_mul _ _) ?_
                refine vg_iload X dX7_again_103 6 rfl ?_
                refine vg_iadd X (nI (d p9 0 * 6 + i)) dX7_again_105 (nI_add _ _) ?_
                refine vg_lald X (lN (mn (d p9 0) i)) 52 e52 rfl (by omega) (by decide) m0b.1 dX7_again_106 ?_
                refine vg_ldc2 X (lN ma_B) dX7_again_107 mk_X7_again_113 ?_
                refine vg_lcmp_ge X 146 dX7_again_110 dX7_again_111 (by decide) (fun c110 => ?_) (fun c110 => ?_)
                · have c110 : ma_B ≤ mn (d p9 0) i := (pk_lLE (by omega) (by omega)).mp c110
                  refine two fn2 nx2 Of2 ws2 g53 hfr hrows (fun v y hv hy => ?_) (by omega)
                  have g9 : ¬ (v = d p9 1 ∧ mn (d p9 0) i + w p9 ≤ y) := by omega
                  rw [if_neg g9]; exact hOf v y hv hy
                · have c110 : ¬ ma_B ≤ mn (d p9 0) i := fun z => c110 ((pk_lLE (by omega) (by omega)).mpr z)
                  refine vg_aload_n X dX7_again_114 0 rfl rfl ?_
                  refine vg_aload_n X dX7_again_115 0 rfl rfl ?_
                  refine vg_get X in_X7_again_X7 29 hO3 rfl 4 (by decide) ml_X7_again_13 rfl rfl dX7_again_116 ?_
                  refine vg_iload X dX7_again_119 4 rfl ?_
                  refine vg_iald X (nI (d p9 1)) 31 h1 rfl (by omega) (by decide) b1 dX7_again_121 ?_
                  refine vg_aload_n X dX7_again_122 0 rfl rfl ?_
                  refine vg_get X in_X7_again_X7 29 hO3 rfl 26 (by decide) ml_X7_again_78 rfl rfl dX7_again_123 ?_
                  refine vg_aload_n X dX7_again_126 0 rfl rfl ?_
                  refine vg_get X in_X7_again_X7 29 hO3 rfl 3 (by decide) ml_X7_again_7 rfl rfl dX7_again_127 ?_
                  refine vg_iload X dX7_again_130 4 rfl ?_
                  refine vg_iald X (nI (d p9 0)) 30 h0 rfl (by omega) (by decide) b0 dX7_again_132 ?_
                  refine vg_bipush X (nI 6) dX7_again_133 (by decide) ?_
                  refine vg_imul X (nI (d p9 0 * 6)) dX7_again_135 (pk_mul _ _) ?_
                  refine vg_iload X dX7_again_136 6 rfl ?_
                  refine vg_iadd X (nI (d p9 0 * 6 + i)) dX7_again_138 (nI_add _ _) ?_
                  refine vg_lald X (lN (mn (d p9 0) i)) 52 e52 rfl (by omega) (by decide) m0b.1 dX7_again_139 ?_
                  refine vg_lload X dX7_again_140 5 rfl ?_
                  refine vg_ladd X (lN (mn (d p9 0) i + w p9)) dX7_again_142 (lN_add _ _) ?_
                  refine vg_callv (vg_runV X (c_X7_put l hO2 g53 (v := d p9 1) (sv := mn (d p9 0) i + w p9) (by omega) (by omega) (hrows _ y1).2 (hrows _ y1).1) (cwV 2 X.2.2.2.2.1 gX7_again_X7_put rfl rfl rfl (by decide +kernel) ⟨Nat.le_of_ble_eq_true rfl, Nat.le_of_ble_eq_true rfl⟩) 29 hO3 rfl rfl rfl (Nat.le_of_ble_eq_true rfl) dX7_again_143 ⟨Nat.zero_le _, Nat.zero_le _⟩) (fun wz22 PP23 => ?_)
                  obtain ⟨fn4, ry, v1, v2, v3, v4, v5⟩ := PP23
                  refine two fn4 (va_up nx2 (d p9 1) ry) (fun v y => Of2 v y + if v = d p9 1 ∧ mn (d p9 0) i + w p9 ≤ y then 1 else 0) wz22 v1 (vg_fr_trd hfr v5 (by decide)) (fun v hv => ?_) (fun v y hv hy => ?_) (by omega)
                  · by_cases q9 : v = d p9 1
                    · subst q9; rw [va_up_self]; exact ⟨pt_congr v3 (fun y _ => by simp only [true_and]), v2⟩
                    · rw [va_up_ne _ _ q9]; exact ⟨pt_congr (hrows v hv).1 (fun y _ => by rw [if_neg (fun z => q9 z.1)]; rfl), fun q hq => by rw [v4 _ (by omega)]; exact (hrows v hv).2 q hq⟩
                  · show Of2 v y + _ = _
                    rw [hOf v y hv hy]
          refine vg_iconst X (nI 0) dX7_again_79 (by decide) ?_
          refine vg_istore X [(7, .int (nI 0)), (0, .ref am), (1, .int (nI j)), (2, .int (nI a)), (3, .int (nI t)), (4, .int (nI p9)), (5, .long (lN (w p9)))] dX7_again_80 (by decide) rfl ?_
          refine vg_locals [1, 2, 3, 4, 5, 6, 0] rfl ?_
          exact inn 6 0 fn1 nx Of ws1 (by omega) g53 hfr hrows (fun v y hv hy => by rw [ag_t_0]; exact hOf v y hv hy)
        · have hok : ¬ ps_ok (d p9) (uv j) := fun q9 => by have := hy9 q9; rw [c56] at this; exact absurd this (by decide)
          refine vg_goto X 209 dX7_again_59 (by decide) ?_
          refine vg_iinc X (v := nI (p9 + 1)) [(4, .int (nI (p9 + 1))), (0, .ref am), (1, .int (nI j)), (2, .int (nI a)), (3, .int (nI t))] dX7_again_209 4 rfl (by rw [show Int32.ofInt 1 = nI 1 by decide, nI_add]) (by decide) rfl ?_
          refine vg_goto X 40 dX7_again_212 (by decide) ?_
          refine vg_locals [1, 2, 3, 4, 0] rfl ?_
          refine ih (k - 1) (by omega) (p9 + 1) fn1 nx Of ws1 (by omega) g53 hfr hrows (fun v y hv hy => ?_)
          have g9 := hOf v y hv hy
          have g8 := ag_t_w (ea := fun i => d i 0) (eb := fun i => d i 1) (mn := mn) (i := 6) (v := v) (c := y) (Classical.byContradiction (fun q9 => hok ((hw9 p9 (by omega)).2.mp q9)) : w p9 = 0)
          show _ = _ + (_ + ag_t (fun i => d i 0) (fun i => d i 1) w mn p9 6 v y) + 0
          rw [g8]; exact g9
  have fill : ∀ (k x : Nat) (fn1 : Nat → Int64) (ws1 : va_W), x + k = n * 6 → ws1[53]? = some ((aa 23), .inl (ay 1, 1200, .inr (.inl fn1))) → vg_fr ws ws1 [53] → (∀ q, q < x → fn1 q = lN ma_B) → vg_V D base p l e ({ frames := 3, cells := 0, slots := 0, locals := 74 } : Room) s m args below meth c 8 0 0 (MQ below (va_Qi (fun r u => ∃ (fm2 fn2 : Nat → Int64) (nx : Nat → Nat → Nat), u[52]? = some ((aa 22), .inl (ay 1, 1200, .inr (.inl fm2))) ∧ u[53]? = some ((aa 23), .inl (ay 1, 1200, .inr (.inl fn2))) ∧ (∀ v, v < n → pt_row (nx v) (fun y => ma_in P (fun i => d i 0) (fun i => d i 1) w a (fun u y => ma_cnt (mn u) 6 y) v y) ∧ ∀ q, q < 6 → fm2 (v * 6 + q) = lN (nx v q)) ∧ vg_fr ws u [52, 53] ∧ ((r = 1 ∧ ∃ v q, v < n ∧ q < 6 ∧ nx v q ≠ mn v q) ∨ (r = 0 ∧ ∀ v q, v < n → q < 6 → nx v q = mn v q))) (vg_B D ay base Gx) (vg_A base)) args s 0 0 (vg_A base)) [(0, .ref am), (1, .int (nI j)), (2, .int (nI a)), (3, .int (nI t)), (4, .int (nI x))] [] ws1 3 := by
    intro k
    induction k using Nat.strongRecOn with
    | ind k ih =>
      intro x fn1 ws1 hk g53 hfr hfl
      have hO2 : cm_O ws1 am aa th n P U sp := (hfr.2 29 (by decide)).trans hO
      have hO1 := hO2
      unfold cm_O at hO1
      refine vg_iload X dX7_again_3 4 rfl ?_
      refine vg_aload_n X dX7_again_5 0 rfl rfl ?_
      refine vg_get X in_X7_again_X7 29 hO1 rfl 1 (by decide) ml_X7_again_91 rfl rfl dX7_again_6 ?_
      refine vg_bipush X (nI 6) dX7_again_9 (by decide) ?_
      refine vg_imul X (nI (n * 6)) dX7_again_11 (pk_mul _ _) ?_
      refine vg_icmp_ge X 31 dX7_again_12 (by decide) (fun c12 => ?_) (fun c12 => ?_)
      · have c12 : n * 6 ≤ x := (nI_leI (by omega) (by omega)).mp c12
        refine vg_aload_n X dX7_again_31 0 rfl rfl ?_
        refine vg_iload_n X dX7_again_32 2 rfl rfl ?_
        refine vg_lconst X (lN 0) dX7_again_33 (by decide) ?_
        have hr0 : pt_row (fun _ => ma_B) (fun _ => 0) := ⟨fun _ _ _ _ => Nat.le_refl _, fun _ _ => Nat.le_refl _, fun y hy => by rw [ma_cnt_none (fun _ _ => hy)]; rfl⟩
        have hfl2 : ∀ v, v < n → ∀ q, q < 6 → fn1 (v * 6 + q) = lN ma_B := fun v hv q hq => hfl _ (by omega)
        refine vg_callv (vg_runV X (c_X7_put l hO2 g53 (v := a) (sv := 0) (x := fun _ => ma_B) (Of := fun _ => 0) (by omega) (by decide) (hfl2 a ha) hr0) (cwV 2 X.2.2.2.2.1 gX7_again_X7_put rfl rfl rfl (by decide +kernel) ⟨Nat.le_of_ble_eq_true rfl, Nat.le_of_ble_eq_true rfl⟩) 29 hO1 rfl rfl rfl (Nat.le_of_ble_eq_true rfl) dX7_again_34 ⟨Nat.zero_le _, Nat.zero_le _⟩) (fun wz25 PP26 => ?_)
        obtain ⟨fn4, ry, v1, v2, v3, v4, v5⟩ := PP26
        refine vg_iconst X (nI 0) dX7_again_37 (by decide) ?_
        refine vg_istore X [(4, .int (nI 0)), (0, .ref am), (1, .int (nI j)), (2, .int (nI a)), (3, .int (nI t))] dX7_again_38 (by decide) rfl ?_
        refine vg_locals [1, 2, 3, 4, 0] rfl ?_
        refine pl9 P 0 fn4 (va_up (fun _ _ => ma_B) a ry) (fun v _ => if v = a then 1 else 0) wz25 (by omega) v1 (vg_fr_trd hfr v5 (by decide)) (fun v hv => ?_) (fun v y hv hy => rfl)
        by_cases q9 : v = a
        · subst q9; rw [va_up_self, if_pos rfl]; exact ⟨pt_congr v3 (fun y _ => by rw [if_pos (Nat.zero_le _)]), v2⟩
        · rw [va_up_ne _ _ q9, if_neg q9]; exact ⟨hr0, fun q hq => by rw [v4 _ (by omega)]; exact hfl2 v hv q hq⟩
      · have c12 : ¬ n * 6 ≤ x := fun z => c12 ((nI_leI (by omega) (by omega)).mpr z)
        refine vg_aload_n X dX7_again_15 0 rfl rfl ?_
        refine vg_get X in_X7_again_X7 29 hO1 rfl 27 (by decide) ml_X7_again_81 rfl rfl dX7_again_16 ?_
        refine vg_iload X dX7_again_19 4 rfl ?_
        refine vg_ldc2 X (lN ma_B) dX7_again_21 mk_X7_again_113 ?_
        refine vg_last X 53 g53 rfl (by omega) (by decide) dX7_again_24 (fun wz28 ez29 => ?_)
        have fh30 : wz28[53]? = some ((aa 23), .inl (ay 1, 1200, .inr (.inl (vp_updL fn1 x (lN ma_B))))) := vg_se ez29 g53
        refine vg_iinc X (v := nI (x + 1)) [(4, .int (nI (x + 1))), (0, .ref am), (1, .int (nI j)), (2, .int (nI a)), (3, .int (nI t))] dX7_again_25 4 rfl (by rw [show Int32.ofInt 1 = nI 1 by decide, nI_add]) (by decide) rfl ?_
        refine vg_goto X 3 dX7_again_28 (by decide) ?_
        refine vg_locals [1, 2, 3, 4, 0] rfl ?_
        refine ih (k - 1) (by omega) (x + 1) _ _ (by omega) fh30 (vg_fr_set hfr ez29 (by decide)) (fun q hq => ?_)
        by_cases q9 : q = x
        · subst q9; exact pk_uLs
        · rw [pk_uLn q9]; exact hfl q (by omega)
  refine vg_iconst X (nI 0) dX7_again_0 (by decide) ?_
  refine vg_istore X [(4, .int (nI 0)), (0, .ref am), (1, .int (nI j)), (2, .int (nI a)), (3, .int (nI t))] dX7_again_1 (by decide) rfl ?_
  refine vg_locals [1, 2, 3, 4, 0] rfl ?_
  exact fill (n * 6) 0 fn ws (by omega) h53 (vg_fr_rf ws _) (fun q hq => absurd hq (by omega))
