section VGL
variable {D : va_G} {ay : Nat → ClassId} {base : Nat} {Gx : State → Prop} {p : Program} {l : Launch} {e : Env} {R : Room} {s : State} {m : MethodId} {args : Array Value} {below : List Frame} {meth : Method} {c : Code} {nL cells slots : Nat} {Q : State → Prop} {lv : List (Nat × Value)} {st : List Value} {ws : va_W} {pc : Nat} {cc : ByteArray} {own : String} {Ts : List Cond} {ret : Option FieldType}
theorem vg_slen (X : vg_C D ay base Gx p s m args meth c cc nL own Ts ret) {b L : Nat} {xs : Nat → Int32} (hX : va_X b L xs s s.heap) (hbl : b < s.heap.size) (hbb : ¬ vg_A base b) (hdg : decode cc pc = .ok (.arraylength, 1)) (kk : vg_V D base p l e R s m args below meth c nL cells slots Q lv (.int (nI L) :: st) ws (pc + 1)) : vg_V D base p l e R s m args below meth c nL cells slots Q lv (.ref b :: st) ws pc := fun H locs ls hl hP hD hS => va_slen X.1 X.2.1 hX hbl hbb hS hdg (kk H locs ls hl hP hD hS)
theorem vg_sld (X : vg_C D ay base Gx p s m args meth c cc nL own Ts ret) {b L i : Nat} {ii : Int32} {xs : Nat → Int32} (hX : va_X b L xs s s.heap) (hbl : b < s.heap.size) (hbb : ¬ vg_A base b) (hii : ii = nI i) (hi : i < L) (hL : L < 2 ^ 31) (hdg : decode cc pc = .ok (.iaload, 1)) (kk : vg_V D base p l e R s m args below meth c nL cells slots Q lv (.int (xs i) :: st) ws (pc + 1)) : vg_V D base p l e R s m args below meth c nL cells slots Q lv (.int ii :: .ref b :: st) ws pc := fun H locs ls hl hP hD hS => by
  subst hii
  refine va_sld X.1 X.2.1 hX hbl hbb hS (vp_in_nI hi hL) hdg ?_
  rw [nI_clamp (Nat.lt_trans hi hL)]
  exact kk H locs ls hl hP hD hS
theorem vg_tab (X : vg_C D ay base Gx p s m args meth c cc nL own Ts ret) {dflt lo hi : Int} {offs : Array Int} {len : Nat} {x : Int32} {off : Int} (tgt : Nat) (hdg : decode cc pc = .ok (.tableswitch dflt lo hi offs, len)) (h1 : ¬ x.toInt < lo) (h2 : ¬ hi < x.toInt) (ho : offs[(x.toInt - lo).toNat]? = some off) (ht : (pc : Int) + off = (tgt : Int)) (kk : vg_V D base p l e R s m args below meth c nL cells slots Q lv st ws tgt) : vg_V D base p l e R s m args below meth c nL cells slots Q lv (.int x :: st) ws pc := fun H locs ls hl hP hD hS => lv_tableIn X.1 X.2.1 hdg h1 h2 ho ht (kk H locs ls hl hP hD hS)
end VGL
theorem i32_and15 (x : Int32) : ∃ k, k < 16 ∧ x &&& nI 15 = nI k := by
  refine ⟨(x.toBitVec &&& 15#32).toNat, ?_, ?_⟩
  · rw [BitVec.toNat_and]
    have := Nat.and_le_right (n := x.toBitVec.toNat) (m := (15#32).toNat)
    have h : (15#32).toNat = 15 := by decide
    omega
  · apply Int32.toBitVec_inj.mp
    rw [Int32.toBitVec_and]
    unfold nI
    rw [Int32.toBitVec_ofNat', Int32.toBitVec_ofNat', BitVec.ofNat_toNat, BitVec.setWidth_eq]
theorem lw_cont {a L : Nat} (hL : L ≤ 3072) (ha : a ≤ 4000) (h : ¬ nI a > nI L - nI 6) : a + 6 ≤ L := by
  rcases Nat.lt_or_ge L 6 with g | g
  · exfalso
    apply h
    have e : (nI L - nI 6).toInt < 0 := by
      rcases (show L = 0 ∨ L = 1 ∨ L = 2 ∨ L = 3 ∨ L = 4 ∨ L = 5 by omega) with rfl | rfl | rfl | rfl | rfl | rfl <;> decide
    show nI L - nI 6 < nI a
    rw [Int32.lt_iff_toInt_lt, nI_toInt (by omega)]
    omega
  · rw [pk_sub g] at h
    rcases Nat.lt_or_ge a (L - 6 + 1) with g2 | g2
    · omega
    · exact absurd ((nI_ltI (by omega) (by omega)).mpr (show L - 6 < a by omega)) h
