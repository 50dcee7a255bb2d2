
set_option maxHeartbeats 4000000 in
set_option maxRecDepth 100000 in
theorem lc_close {p : Program} (l : Launch) {e : Env} {s : State} {m : MethodId} {below : List Frame} {meth : Method} {c : Code} {D : va_G} {ay : Nat → ClassId} {tE mi b L : Nat} {xs : Nat → Int32} {Gx : State → Prop} {Q : State → Prop} {cells slots : Nat} {ax am aO : Nat} {aa : Nat → Nat} {th i : Nat} {fO : Nat → Int64} {ws : va_W} (hl9 : l.stackTraces = false) (X : vg_C D ay s.heap.size Gx p s m #[Value.ref b] meth c cL_law 8 RL wsL_law ret) (hG2 : ∀ U, Gx U → vh_G2 s.heap.size tE mi U) (hG3 : ∀ U, Gx U → vh_X U) (hWm9 : vs_W s) (hX : va_X b L xs s s.heap) (hbl : b < s.heap.size) (hL : L ≤ 3072) (hi : i + 6 ≤ L) (hc : cells + 10 ≤ 601024) (hs : slots + 400 ≤ 7293034) (hj : jo_S ay ws ax tE am aa th aO fO) (kk : ∀ (ws2 : va_W) (th2 : Nat) (fO2 : Nat → Int64), jo_S ay ws2 ax tE am aa th2 aO fO2 → vg_V D s.heap.size p l e room_1 s m #[Value.ref b] below meth c 8 (cells + 10) (slots + 400) Q [(4, .int (nI i)), (3, .ref aO), (2, .ref am), (1, .ref ax), (0, .ref b)] [] ws2 1363) : vg_V D s.heap.size p l e room_1 s m #[Value.ref b] below meth c 8 cells slots Q [(4, .int (nI i)), (3, .ref aO), (2, .ref am), (1, .ref ax), (0, .ref b)] [] ws 420 := by
  obtain ⟨n, P, U, d, fr, to, pe, uv, ku, ks, kt, sk, wl, wp, hS, hM, h55⟩ := hj
  refine vg_aload_n X dL_law_420 3 rfl rfl ?_
  refine vg_aload_n X dL_law_421 4 rfl rfl ?_
  refine vg_iload X dL_law_422 0 rfl ?_
  refine vg_iconst X (nI 1) dL_law_424 (by decide) ?_
  refine vg_iadd X (nI (i + 1)) dL_law_425 (nI_add _ _) ?_
  refine vg_sld X hX hbl (Nat.not_le.mpr hbl) rfl (show i + 1 < L by omega) (by omega) dL_law_426 ?_
  refine vg_aload_n X dL_law_427 4 rfl rfl ?_
  refine vg_iload X dL_law_428 0 rfl ?_
  refine vg_iconst X (nI 2) dL_law_430 (by decide) ?_
  refine vg_iadd X (nI (i + 2)) dL_law_431 (nI_add _ _) ?_
  refine vg_sld X hX hbl (Nat.not_le.mpr hbl) rfl (show i + 2 < L by omega) (by omega) dL_law_432 ?_
  refine vg_if_eq X 440 dL_law_433 (by decide) (fun c433 => ?_) (fun c433 => ?_)
  · skip
    refine vg_iconst X (nI 0) dL_law_440 (by decide) ?_
    refine vg_aload_n X dL_law_441 1 rfl rfl ?_
    refine vg_calli (vg_runSW X vs_st hWm9 (c_L_close l hl9 hG2 hG3 hS h55 (by decide) (x := xs (i + 1)) (on := 0)) (vx_cwSW 4 X.2.2.2.2.1 gL_law_L_close rfl rfl rfl (by decide +kernel) ⟨(Nat.le_of_ble_eq_true rfl), (Nat.le_of_ble_eq_true rfl)⟩) rfl rfl (Nat.le_of_ble_eq_true rfl) dL_law_442 ⟨hc, hs⟩) (fun rr w1 H1 => ?_)
    have hM1 := cm_St_fr hM (af_close H1)
    obtain ⟨fl1, fm1, fn1, fs1, hO1, _⟩ := id hM1
    unfold cm_O at hO1
    refine vg_istore X [(5, .int rr), (4, .int (nI i)), (3, .ref aO), (2, .ref am), (1, .ref ax), (0, .ref b)] dL_law_445 (by decide) rfl ?_
    refine vg_aload_n X dL_law_447 3 rfl rfl ?_
    refine vg_aload_n X dL_law_448 5 rfl rfl ?_
    refine vg_iload X dL_law_449 1 rfl ?_
    refine vg_iconst X (nI 1) dL_law_451 (by decide) ?_
    refine vg_iadd X (nI (i + 1)) dL_law_452 (nI_add _ _) ?_
    refine vg_sld X hX hbl (Nat.not_le.mpr hbl) rfl (show i + 1 < L by omega) (by omega) dL_law_453 ?_
    refine vg_aload_n X dL_law_454 5 rfl rfl ?_
    refine vg_iload X dL_law_455 1 rfl ?_
    refine vg_iconst X (nI 2) dL_law_457 (by decide) ?_
    refine vg_iadd X (nI (i + 2)) dL_law_458 (nI_add _ _) ?_
    refine vg_sld X hX hbl (Nat.not_le.mpr hbl) rfl (show i + 2 < L by omega) (by omega) dL_law_459 ?_
    refine vg_if_eq X 467 dL_law_460 (by decide) (fun c460 => ?_) (fun c460 => ?_)
    · skip
      refine vg_iconst X (nI 0) dL_law_467 (by decide) ?_
      refine vg_calli (vg_runV X (c_X7_close l hM1 (cw_St_R hS) (cw_St_K hS) (by decide) (x := xs (i + 1)) (on := 0)) (cwV 2 X.2.2.2.2.1 gL_law_X7_close rfl rfl rfl (by decide +kernel) ⟨Nat.le_of_ble_eq_true rfl, Nat.le_of_ble_eq_true rfl⟩) 29 hO1 rfl rfl rfl (Nat.le_of_ble_eq_true rfl) dL_law_468 ⟨hc, hs⟩) (fun rr3 wz1 PP2 => ?_)
      obtain ⟨k, fO2, ek, hk4, hjo, hv⟩ := ag_close (th := th) hS h55 H1 PP2
      subst ek
      obtain ⟨_, _, _, _, _, _, _, _, _, _, _, _, _, _, hS2, hM2, h552⟩ := id hjo
      obtain ⟨_, _, _, _, hO2, _⟩ := id hM2
      have hO3 := hO2
      unfold cm_O at hO3
      refine vg_istore X [(6, .int rr3), (5, .int (nI k)), (4, .int (nI i)), (3, .ref aO), (2, .ref am), (1, .ref ax), (0, .ref b)] dL_law_471 (by decide) rfl ?_
      refine vg_aload_n X dL_law_473 4 rfl rfl ?_
      refine vg_calli (vg_runV X (c_X7_thrown l hO2) (cwV 0 X.2.2.2.2.1 gL_law_X7_thrown rfl rfl rfl (by decide +kernel) ⟨Nat.le_of_ble_eq_true rfl, Nat.le_of_ble_eq_true rfl⟩) 29 hO3 rfl rfl rfl (Nat.le_of_ble_eq_true rfl) dL_law_474 ⟨hc, hs⟩) (fun rr6 wz4 PP5 => ?_)
      obtain ⟨ew, er⟩ := PP5
      rw [ew, er]
      refine vg_iload X dL_law_477 1 rfl ?_
      refine vg_icmp_eq X 484 dL_law_479 (by decide) (fun c479 => ?_) (fun c479 => ?_)
      · have c479 : k = k := (nI_eq (by omega) (by omega)).mp c479
        skip
        refine vg_iload X dL_law_484 1 rfl ?_
        refine vg_if_ne X 501 dL_law_486 (by decide) (fun c486 => ?_) (fun c486 => ?_)
        · have c486 : ¬ k = 0 := fun z => c486 ((vg_eq0 (by omega)).mpr z)
          refine vg_goto X 1363 dL_law_501 (by decide) ?_
          refine vg_locals [2, 3, 4, 5, 6] rfl ?_
          exact kk _ _ _ hjo
        · have c486 : k = 0 := (vg_eq0 (by omega)).mp c486
          refine vg_aload_n X dL_law_489 3 rfl rfl ?_
          refine vg_iconst X (nI 0) dL_law_490 (by decide) ?_
          refine vg_lald X (fO2 0) 55 h552 rfl (by decide) (by decide) rfl dL_law_491 ?_
          refine vg_iload X dL_law_492 0 rfl ?_
          refine vg_i2l X ((rr3).toInt64) dL_law_494 rfl ?_
          refine vg_lcmp_eq X 501 dL_law_495 dL_law_496 (by decide) (fun c495 => ?_) (fun c495 => ?_)
          · skip
            refine vg_goto X 1363 dL_law_501 (by decide) ?_
            refine vg_locals [2, 3, 4, 5, 6] rfl ?_
            exact kk _ _ _ hjo
          · exact absurd (hv c486) c495
      · have c479 : ¬ k = k := fun z => c479 ((nI_eq (by omega) (by omega)).mpr z)
        exact absurd rfl c479
    · exact absurd c433 c460
  · skip
    refine vg_iconst X (nI 1) dL_law_436 (by decide) ?_
    refine vg_goto X 441 dL_law_437 (by decide) ?_
    refine vg_aload_n X dL_law_441 1 rfl rfl ?_
    refine vg_calli (vg_runSW X vs_st hWm9 (c_L_close l hl9 hG2 hG3 hS h55 (by decide) (x := xs (i + 1)) (on := 1)) (vx_cwSW 4 X.2.2.2.2.1 gL_law_L_close rfl rfl rfl (by decide +kernel) ⟨(Nat.le_of_ble_eq_true rfl), (Nat.le_of_ble_eq_true rfl)⟩) rfl rfl (Nat.le_of_ble_eq_true rfl) dL_law_442 ⟨hc, hs⟩) (fun rr w1 H1 => ?_)
    have hM1 := cm_St_fr hM (af_close H1)
    obtain ⟨fl1, fm1, fn1, fs1, hO1, _⟩ := id hM1
    unfold cm_O at hO1
    refine vg_istore X [(5, .int rr), (4, .int (nI i)), (3, .ref aO), (2, .ref am), (1, .ref ax), (0, .ref b)] dL_law_445 (by decide) rfl ?_
    refine vg_aload_n X dL_law_447 3 rfl rfl ?_
    refine vg_aload_n X dL_law_448 5 rfl rfl ?_
    refine vg_iload X dL_law_449 1 rfl ?_
    refine vg_iconst X (nI 1) dL_law_451 (by decide) ?_
    refine vg_iadd X (nI (i + 1)) dL_law_452 (nI_add _ _) ?_
    refine vg_sld X hX hbl (Nat.not_le.mpr hbl) rfl (show i + 1 < L by omega) (by omega) dL_law_453 ?_
    refine vg_aload_n X dL_law_454 5 rfl rfl ?_
    refine vg_iload X dL_law_455 1 rfl ?_
    refine vg_iconst X (nI 2) dL_law_457 (by decide) ?_
    refine vg_iadd X (nI (i + 2)) dL_law_458 (nI_add _ _) ?_
    refine vg_sld X hX hbl (Nat.not_le.mpr hbl) rfl (show i + 2 < L by omega) (by omega) dL_law_459 ?_
    refine vg_if_eq X 467 dL_law_460 (by decide) (fun c460 => ?_) (fun c460 => ?_)
    · exact absurd c460 c433
    · skip
      refine vg_iconst X (nI 1) dL_law_463 (by decide) ?_
      refine vg_goto X 468 dL_law_464 (by decide) ?_
      refine vg_calli (vg_runV X (c_X7_close l hM1 (cw_St_R hS) (cw_St_K hS) (by decide) (x := xs (i + 1)) (on := 1)) (cwV 2 X.2.2.2.2.1 gL_law_X7_close rfl rfl rfl (by decide +kernel) ⟨Nat.le_of_ble_eq_true rfl, Nat.le_of_ble_eq_true rfl⟩) 29 hO1 rfl rfl rfl (Nat.le_of_ble_eq_true rfl) dL_law_468 ⟨hc, hs⟩) (fun rr9 wz7 PP8 => ?_)
      obtain ⟨k, fO2, ek, hk4, hjo, hv⟩ := ag_close (th := th) hS h55 H1 PP8
      subst ek
      obtain ⟨_, _, _, _, _, _, _, _, _, _, _, _, _, _, hS2, hM2, h552⟩ := id hjo
      obtain ⟨_, _, _, _, hO2, _⟩ := id hM2
      have hO3 := hO2
      unfold cm_O at hO3
      refine vg_istore X [(6, .int rr9), (5, .int (nI k)), (4, .int (nI i)), (3, .ref aO), (2, .ref am), (1, .ref ax), (0, .ref b)] dL_law_471 (by decide) rfl ?_
      refine vg_aload_n X dL_law_473 4 rfl rfl ?_
      refine vg_calli (vg_runV X (c_X7_thrown l hO2) (cwV 0 X.2.2.2.2.1 gL_law_X7_thrown rfl rfl rfl (by decide +kernel) ⟨Nat.le_of_ble_eq_true rfl, Nat.le_of_ble_eq_true rfl⟩) 29 hO3 rfl rfl rfl (Nat.le_of_ble_eq_true rfl) dL_law_474 ⟨hc, hs⟩) (fun rr12 wz10 PP11 => ?_)
      obtain ⟨ew, er⟩ := PP11
      rw [ew, er]
      refine vg_iload X dL_law_477 1 rfl ?_
      refine vg_icmp_eq X 484 dL_law_479 (by decide) (fun c479 => ?_) (fun c479 => ?_)
      · have c479 : k = k := (nI_eq (by omega) (by omega)).mp c479
        skip
        refine vg_iload X dL_law_484 1 rfl ?_
        refine vg_if_ne X 501 dL_law_486 (by decide) (fun c486 => ?_) (fun c486 => ?_)
        · have c486 : ¬ k = 0 := fun z => c486 ((vg_eq0 (by omega)).mpr z)
          refine vg_goto X 1363 dL_law_501 (by decide) ?_
          refine vg_locals [2, 3, 4, 5, 6] rfl ?_
          exact kk _ _ _ hjo
        · have c486 : k = 0 := (vg_eq0 (by omega)).mp c486
          refine vg_aload_n X dL_law_489 3 rfl rfl ?_
          refine vg_iconst X (nI 0) dL_law_490 (by decide) ?_
          refine vg_lald X (fO2 0) 55 h552 rfl (by decide) (by decide) rfl dL_law_491 ?_
          refine vg_iload X dL_law_492 0 rfl ?_
          refine vg_i2l X ((rr9).toInt64) dL_law_494 rfl ?_
          refine vg_lcmp_eq X 501 dL_law_495 dL_law_496 (by decide) (fun c495 => ?_) (fun c495 => ?_)
          · skip
            refine vg_goto X 1363 dL_law_501 (by decide) ?_
            refine vg_locals [2, 3, 4, 5, 6] rfl ?_
            exact kk _ _ _ hjo
          · exact absurd (hv c486) c495
      · have c479 : ¬ k = k := fun z => c479 ((nI_eq (by omega) (by omega)).mpr z)
        exact absurd rfl c479
set_option maxHeartbeats 4000000 in
set_option maxRecDepth 100000 in
theorem lc_speed {p : Program} (l : Launch) {e : Env} {s : State} {m : MethodId} {below : List Frame} {meth : Method} {c : Code} {D : va_G} {ay : Nat → ClassId} {tE mi b L : Nat} {xs : Nat → Int32} {Gx : State → Prop} {Q : State → Prop} {cells slots : Nat} {ax am aO : Nat} {aa : Nat → Nat} {th i : Nat} {fO : Nat → Int64} {ws : va_W} (hl9 : l.stackTraces = false) (X : vg_C D ay s.heap.size Gx p s m #[Value.ref b] meth c cL_law 8 RL wsL_law ret) (hG2 : ∀ U, Gx U → vh_G2 s.heap.size tE mi U) (hG3 : ∀ U, Gx U → vh_X U) (hWm9 : vs_W s) (hX : va_X b L xs s s.heap) (hbl : b < s.heap.size) (hL : L ≤ 3072) (hi : i + 6 ≤ L) (hc : cells + 10 ≤ 601024) (hs : slots + 400 ≤ 7293034) (hj : jo_S ay ws ax tE am aa th aO fO) (kk : ∀ (ws2 : va_W) (th2 : Nat) (fO2 : Nat → Int64), jo_S ay ws2 ax tE am aa th2 aO fO2 → vg_V D s.heap.size p l e room_1 s m #[Value.ref b] below meth c 8 (cells + 10) (slots + 400) Q [(4, .int (nI i)), (3, .ref aO), (2, .ref am), (1, .ref ax), (0, .ref b)] [] ws2 1363) : vg_V D s.heap.size p l e room_1 s m #[Value.ref b] below meth c 8 cells slots Q [(4, .int (nI i)), (3, .ref aO), (2, .ref am), (1, .ref ax), (0, .ref b)] [] ws 504 := by
  obtain ⟨n, P, U, d, fr, to, pe, uv, ku, ks, kt, sk, wl, wp, hS, hM, h55⟩ := hj
  refine vg_aload_n X dL_law_504 3 rfl rfl ?_
  refine vg_aload_n X dL_law_505 4 rfl rfl ?_
  refine vg_iload X dL_law_506 0 rfl ?_
  refine vg_iconst X (nI 1) dL_law_508 (by decide) ?_
  refine vg_iadd X (nI (i + 1)) dL_law_509 (nI_add _ _) ?_
  refine vg_sld X hX hbl (Nat.not_le.mpr hbl) rfl (show i + 1 < L by omega) (by omega) dL_law_510 ?_
  refine vg_aload_n X dL_law_511 4 rfl rfl ?_
  refine vg_iload X dL_law_512 0 rfl ?_
  refine vg_iconst X (nI 2) dL_law_514 (by decide) ?_
  refine vg_iadd X (nI (i + 2)) dL_law_515 (nI_add _ _) ?_
  refine vg_sld X hX hbl (Nat.not_le.mpr hbl) rfl (show i + 2 < L by omega) (by omega) dL_law_516 ?_
  refine vg_aload_n X dL_law_517 1 rfl rfl ?_
  refine vg_calli (vg_runSW X vs_st hWm9 (c_L_speed l hl9 hG2 hG3 hS h55 (x := xs (i + 1)) (w := xs (i + 2))) (vx_cwSW 4 X.2.2.2.2.1 gL_law_L_speed rfl rfl rfl (by decide +kernel) ⟨(Nat.le_of_ble_eq_true rfl), (Nat.le_of_ble_eq_true rfl)⟩) rfl rfl (Nat.le_of_ble_eq_true rfl) dL_law_518 ⟨hc, hs⟩) (fun rr w1 H1 => ?_)
  have hM1 := cm_St_fr hM (af_speed H1)
  obtain ⟨fl1, fm1, fn1, fs1, hO1, _⟩ := id hM1
  unfold cm_O at hO1
  refine vg_istore X [(5, .int rr), (4, .int (nI i)), (3, .ref aO), (2, .ref am), (1, .ref ax), (0, .ref b)] dL_law_521 (by decide) rfl ?_
  refine vg_aload_n X dL_law_523 3 rfl rfl ?_
  refine vg_aload_n X dL_law_524 5 rfl rfl ?_
  refine vg_iload X dL_law_525 1 rfl ?_
  refine vg_iconst X (nI 1) dL_law_527 (by decide) ?_
  refine vg_iadd X (nI (i + 1)) dL_law_528 (nI_add _ _) ?_
  refine vg_sld X hX hbl (Nat.not_le.mpr hbl) rfl (show i + 1 < L by omega) (by omega) dL_law_529 ?_
  refine vg_aload_n X dL_law_530 5 rfl rfl ?_
  refine vg_iload X dL_law_531 1 rfl ?_
  refine vg_iconst X (nI 2) dL_law_533 (by decide) ?_
  refine vg_iadd X (nI (i + 2)) dL_law_534 (nI_add _ _) ?_
  refine vg_sld X hX hbl (Nat.not_le.mpr hbl) rfl (show i + 2 < L by omega) (by omega) dL_law_535 ?_
  refine vg_calli (vg_runV X (c_X7_speed l hM1 (cw_St_R hS) (cw_St_K hS) (x := xs (i + 1)) (w := xs (i + 2))) (cwV 2 X.2.2.2.2.1 gL_law_X7_speed rfl rfl rfl (by decide +kernel) ⟨Nat.le_of_ble_eq_true rfl, Nat.le_of_ble_eq_true rfl⟩) 29 hO1 rfl rfl rfl (Nat.le_of_ble_eq_true rfl) dL_law_536 ⟨hc, hs⟩) (fun rr3 wz1 PP2 => ?_)
  obtain ⟨k, fO2, ek, hk4, hjo, hv⟩ := ag_speed (th := th) hS h55 H1 PP2
  subst ek
  obtain ⟨_, _, _, _, _, _, _, _, _, _, _, _, _, _, hS2, hM2, h552⟩ := id hjo
  obtain ⟨_, _, _, _, hO2, _⟩ := id hM2
  have hO3 := hO2
  unfold cm_O at hO3
  refine vg_istore X [(6, .int rr3), (5, .int (nI k)), (4, .int (nI i)), (3, .ref aO), (2, .ref am), (1, .ref ax), (0, .ref b)] dL_law_539 (by decide) rfl ?_
  refine vg_aload_n X dL_law_541 4 rfl rfl ?_
  refine vg_calli (vg_runV X (c_X7_thrown l hO2) (cwV 0 X.2.2.2.2.1 gL_law_X7_thrown rfl rfl rfl (by decide +kernel) ⟨Nat.le_of_ble_eq_true rfl, Nat.le_of_ble_eq_true rfl⟩) 29 hO3 rfl rfl rfl (Nat.le_of_ble_eq_true rfl) dL_law_542 ⟨hc, hs⟩) (fun rr6 wz4 PP5 => ?_)
  obtain ⟨ew, er⟩ := PP5
  rw [ew, er]
  refine vg_iload X dL_law_545 1 rfl ?_
  refine vg_icmp_eq X 552 dL_law_547 (by decide) (fun c547 => ?_) (fun c547 => ?_)
  · have c547 : k = k := (nI_eq (by omega) (by omega)).mp c547
    skip
    refine vg_iload X dL_law_552 1 rfl ?_
    refine vg_if_ne X 569 dL_law_554 (by decide) (fun c554 => ?_) (fun c554 => ?_)
    · have c554 : ¬ k = 0 := fun z => c554 ((vg_eq0 (by omega)).mpr z)
      refine vg_goto X 1363 dL_law_569 (by decide) ?_
      refine vg_locals [2, 3, 4, 5, 6] rfl ?_
      exact kk _ _ _ hjo
    · have c554 : k = 0 := (vg_eq0 (by omega)).mp c554
      refine vg_aload_n X dL_law_557 3 rfl rfl ?_
      refine vg_iconst X (nI 0) dL_law_558 (by decide) ?_
      refine vg_lald X (fO2 0) 55 h552 rfl (by decide) (by decide) rfl dL_law_559 ?_
      refine vg_iload X dL_law_560 0 rfl ?_
      refine vg_i2l X ((rr3).toInt64) dL_law_562 rfl ?_
      refine vg_lcmp_eq X 569 dL_law_563 dL_law_564 (by decide) (fun c563 => ?_) (fun c563 => ?_)
      · skip
        refine vg_goto X 1363 dL_law_569 (by decide) ?_
        refine vg_locals [2, 3, 4, 5, 6] rfl ?_
        exact kk _ _ _ hjo
      · exact absurd (hv c554) c563
  · have c547 : ¬ k = k := fun z => c547 ((nI_eq (by omega) (by omega)).mpr z)
    exact absurd rfl c547
set_option maxHeartbeats 4000000 in
set_option maxRecDepth 100000 in
theorem lc_unit {p : Program} (l : Launch) {e : Env} {s : State} {m : MethodId} {below : List Frame} {meth : Method} {c : Code} {D : va_G} {ay : Nat → ClassId} {tE mi b L : Nat} {xs : Nat → Int32} {Gx : State → Prop} {Q : State → Prop} {cells slots : Nat} {ax am aO : Nat} {aa : Nat → Nat} {th i : Nat} {fO : Nat → Int64} {ws : va_W} (hl9 : l.stackTraces = false) (X : vg_C D ay s.heap.size Gx p s m #[Value.ref b] meth c cL_law 8 RL wsL_law ret) (hG2 : ∀ U, Gx U → vh_G2 s.heap.size tE mi U) (hG3 : ∀ U, Gx U → vh_X U) (hWm9 : vs_W s) (hX : va_X b L xs s s.heap) (hbl : b < s.heap.size) (hL : L ≤ 3072) (hi : i + 6 ≤ L) (hc : cells + 10 ≤ 601024) (hs : slots + 400 ≤ 7293034) (hj : jo_S ay ws ax tE am aa th aO fO) (kk : ∀ (ws2 : va_W) (th2 : Nat) (fO2 : Nat → Int64), jo_S ay ws2 ax tE am aa th2 aO fO2 → vg_V D s.heap.size p l e room_1 s m #[Value.ref b] below meth c 8 (cells + 10) (slots + 400) Q [(4, .int (nI i)), (3, .ref aO), (2, .ref am), (1, .ref ax), (0, .ref b)] [] ws2 1363) : vg_V D s.heap.size p l e room_1 s m #[Value.ref b] below meth c 8 cells slots Q [(4, .int (nI i)), (3, .ref aO), (2, .ref am), (1, .ref ax), (0, .ref b)] [] ws 572 := by
  obtain ⟨n, P, U, d, fr, to, pe, uv, ku, ks, kt, sk, wl, wp, hS, hM, h55⟩ := hj
  refine vg_aload_n X dL_law_572 3 rfl rfl ?_
  refine vg_aload_n X dL_law_573 4 rfl rfl ?_
  refine vg_iload X dL_law_574 0 rfl ?_
  refine vg_iconst X (nI 1) dL_law_576 (by decide) ?_
  refine vg_iadd X (nI (i + 1)) dL_law_577 (nI_add _ _) ?_
  refine vg_sld X hX hbl (Nat.not_le.mpr hbl) rfl (show i + 1 < L by omega) (by omega) dL_law_578 ?_
  refine vg_aload_n X dL_law_579 4 rfl rfl ?_
  refine vg_iload X dL_law_580 0 rfl ?_
  refine vg_iconst X (nI 2) dL_law_582 (by decide) ?_
  refine vg_iadd X (nI (i + 2)) dL_law_583 (nI_add _ _) ?_
  refine vg_sld X hX hbl (Nat.not_le.mpr hbl) rfl (show i + 2 < L by omega) (by omega) dL_law_584 ?_
  refine vg_aload_n X dL_law_585 4 rfl rfl ?_
  refine vg_iload X dL_law_586 0 rfl ?_
  refine vg_iconst X (nI 3) dL_law_588 (by decide) ?_
  refine vg_iadd X (nI (i + 3)) dL_law_589 (nI_add _ _) ?_
  refine vg_sld X hX hbl (Nat.not_le.mpr hbl) rfl (show i + 3 < L by omega) (by omega) dL_law_590 ?_
  refine vg_aload_n X dL_law_591 4 rfl rfl ?_
  refine vg_iload X dL_law_592 0 rfl ?_
  refine vg_iconst X (nI 4) dL_law_594 (by decide) ?_
  refine vg_iadd X (nI (i + 4)) dL_law_595 (nI_add _ _) ?_
  refine vg_sld X hX hbl (Nat.not_le.mpr hbl) rfl (show i + 4 < L by omega) (by omega) dL_law_596 ?_
  refine vg_aload_n X dL_law_597 4 rfl rfl ?_
  refine vg_iload X dL_law_598 0 rfl ?_
  refine vg_iconst X (nI 5) dL_law_600 (by decide) ?_
  refine vg_iadd X (nI (i + 5)) dL_law_601 (nI_add _ _) ?_
  refine vg_sld X hX hbl (Nat.not_le.mpr hbl) rfl (show i + 5 < L by omega) (by omega) dL_law_602 ?_
  refine vg_aload_n X dL_law_603 1 rfl rfl ?_
  refine vg_calli (vg_runSW X vs_st hWm9 (c_L_unit l hl9 hG2 hG3 hS h55 (v := xs (i + 1)) (w := xs (i + 2)) (h := xs (i + 3)) (pf := xs (i + 4)) (qf := xs (i + 5))) (vx_cwSW 7 X.2.2.2.2.1 gL_law_L_unit rfl rfl rfl (by decide +kernel) ⟨(Nat.le_of_ble_eq_true rfl), (Nat.le_of_ble_eq_true rfl)⟩) rfl rfl (Nat.le_of_ble_eq_true rfl) dL_law_604 ⟨hc, hs⟩) (fun rr w1 H1 => ?_)
  have hM1 := cm_St_fr hM (af_unit H1)
  obtain ⟨fl1, fm1, fn1, fs1, hO1, _⟩ := id hM1
  unfold cm_O at hO1
  refine vg_istore X [(5, .int rr), (4, .int (nI i)), (3, .ref aO), (2, .ref am), (1, .ref ax), (0, .ref b)] dL_law_607 (by decide) rfl ?_
  refine vg_aload_n X dL_law_609 3 rfl rfl ?_
  refine vg_aload_n X dL_law_610 5 rfl rfl ?_
  refine vg_iload X dL_law_611 1 rfl ?_
  refine vg_iconst X (nI 1) dL_law_613 (by decide) ?_
  refine vg_iadd X (nI (i + 1)) dL_law_614 (nI_add _ _) ?_
  refine vg_sld X hX hbl (Nat.not_le.mpr hbl) rfl (show i + 1 < L by omega) (by omega) dL_law_615 ?_
  refine vg_aload_n X dL_law_616 5 rfl rfl ?_
  refine vg_iload X dL_law_617 1 rfl ?_
  refine vg_iconst X (nI 2) dL_law_619 (by decide) ?_
  refine vg_iadd X (nI (i + 2)) dL_law_620 (nI_add _ _) ?_
  refine vg_sld X hX hbl (Nat.not_le.mpr hbl) rfl (show i + 2 < L by omega) (by omega) dL_law_621 ?_
  refine vg_aload_n X dL_law_622 5 rfl rfl ?_
  refine vg_iload X dL_law_623 1 rfl ?_
  refine vg_iconst X (nI 3) dL_law_625 (by decide) ?_
  refine vg_iadd X (nI (i + 3)) dL_law_626 (nI_add _ _) ?_
  refine vg_sld X hX hbl (Nat.not_le.mpr hbl) rfl (show i + 3 < L by omega) (by omega) dL_law_627 ?_
  refine vg_aload_n X dL_law_628 5 rfl rfl ?_
  refine vg_iload X dL_law_629 1 rfl ?_
  refine vg_iconst X (nI 4) dL_law_631 (by decide) ?_
  refine vg_iadd X (nI (i + 4)) dL_law_632 (nI_add _ _) ?_
  refine vg_sld X hX hbl (Nat.not_le.mpr hbl) rfl (show i + 4 < L by omega) (by omega) dL_law_633 ?_
  refine vg_aload_n X dL_law_634 5 rfl rfl ?_
  refine vg_iload X dL_law_635 1 rfl ?_
  refine vg_iconst X (nI 5) dL_law_637 (by decide) ?_
  refine vg_iadd X (nI (i + 5)) dL_law_638 (nI_add _ _) ?_
  refine vg_sld X hX hbl (Nat.not_le.mpr hbl) rfl (show i + 5 < L by omega) (by omega) dL_law_639 ?_
  refine vg_calli (vg_runV X (c_X7_unit l hM1 (cw_St_R hS) (v := xs (i + 1)) (w := xs (i + 2)) (h := xs (i + 3)) (pf := xs (i + 4)) (qf := xs (i + 5))) (cwV 5 X.2.2.2.2.1 gL_law_X7_unit rfl rfl rfl (by decide +kernel) ⟨Nat.le_of_ble_eq_true rfl, Nat.le_of_ble_eq_true rfl⟩) 29 hO1 rfl rfl rfl (Nat.le_of_ble_eq_true rfl) dL_law_640 ⟨hc, hs⟩) (fun rr3 wz1 PP2 => ?_)
  obtain ⟨k, fO2, ek, hk4, hjo, hv⟩ := ag_unit (th := th) hS h55 H1 PP2
  subst ek
  obtain ⟨_, _, _, _, _, _, _, _, _, _, _, _, _, _, hS2, hM2, h552⟩ := id hjo
  obtain ⟨_, _, _, _, hO2, _⟩ := id hM2
  have hO3 := hO2
  unfold cm_O at hO3
  refine vg_istore X [(6, .int rr3), (5, .int (nI k)), (4, .int (nI i)), (3, .ref aO), (2, .ref am), (1, .ref ax), (0, .ref b)] dL_law_643 (by decide) rfl ?_
  refine vg_aload_n X dL_law_645 4 rfl rfl ?_
  refine vg_calli (vg_runV X (c_X7_thrown l hO2) (cwV 0 X.2.2.2.2.1 gL_law_X7_thrown rfl rfl rfl (by decide +kernel) ⟨Nat.le_of_ble_eq_true rfl, Nat.le_of_ble_eq_true rfl⟩) 29 hO3 rfl rfl rfl (Nat.le_of_ble_eq_true rfl) dL_law_646 ⟨hc, hs⟩) (fun rr6 wz4 PP5 => ?_)
  obtain ⟨ew, er⟩ := PP5
  rw [ew, er]
  refine vg_iload X dL_law_649 1 rfl ?_
  refine vg_icmp_eq X 656 dL_law_651 (by decide) (fun c651 => ?_) (fun c651 => ?_)
  · have c651 : k = k := (nI_eq (by omega) (by omega)).mp c651
    skip
    refine vg_iload X dL_law_656 1 rfl ?_
    refine vg_if_ne X 673 dL_law_658 (by decide) (fun c658 => ?_) (fun c658 => ?_)
    · have c658 : ¬ k = 0 := fun z => c658 ((vg_eq0 (by omega)).mpr z)
      refine vg_goto X 1363 dL_law_673 (by decide) ?_
      refine vg_locals [2, 3, 4, 5, 6] rfl ?_
      exact kk _ _ _ hjo
    · have c658 : k = 0 := (vg_eq0 (by omega)).mp c658
      refine vg_aload_n X dL_law_661 3 rfl rfl ?_
      refine vg_iconst X (nI 0) dL_law_662 (by decide) ?_
      refine vg_lald X (fO2 0) 55 h552 rfl (by decide) (by decide) rfl dL_law_663 ?_
      refine vg_iload X dL_law_664 0 rfl ?_
      refine vg_i2l X ((rr3).toInt64) dL_law_666 rfl ?_
      refine vg_lcmp_eq X 673 dL_law_667 dL_law_668 (by decide) (fun c667 => ?_) (fun c667 => ?_)
      · skip
        refine vg_goto X 1363 dL_law_673 (by decide) ?_
        refine vg_locals [2, 3, 4, 5, 6] rfl ?_
        exact kk _ _ _ hjo
      · exact absurd (hv c658) c667
  · have c651 : ¬ k = k := fun z => c651 ((nI_eq (by omega) (by omega)).mpr z)
    exact absurd rfl c651
set_option maxHeartbeats 4000000 in
set_option maxRecDepth 100000 in
theorem lc_stand {p : Program} (l : Launch) {e : Env} {s : State} {m : MethodId} {below : List Frame} {meth : Method} {c : Code} {D : va_G} {ay : Nat → ClassId} {tE mi b L : Nat} {xs : Nat → Int32} {Gx : State → Prop} {Q : State → Prop} {cells slots : Nat} {ax am aO : Nat} {aa : Nat → Nat} {th i : Nat} {fO : Nat → Int64} {ws : va_W} (hl9 : l.stackTraces = false) (X : vg_C D ay s.heap.size Gx p s m #[Value.ref b] meth c cL_law 8 RL wsL_law ret) (hG2 : ∀ U, Gx U → vh_G2 s.heap.size tE mi U) (hG3 : ∀ U, Gx U → vh_X U) (hWm9 : vs_W s) (hX : va_X b L xs s s.heap) (hbl : b < s.heap.size) (hL : L ≤ 3072) (hi : i + 6 ≤ L) (hc : cells + 10 ≤ 601024) (hs : slots + 400 ≤ 7293034) (hj : jo_S ay ws ax tE am aa th aO fO) (kk : ∀ (ws2 : va_W) (th2 : Nat) (fO2 : Nat → Int64), jo_S ay ws2 ax tE am aa th2 aO fO2 → vg_V D s.heap.size p l e room_1 s m #[Value.ref b] below meth c 8 (cells + 10) (slots + 400) Q [(4, .int (nI i)), (3, .ref aO), (2, .ref am), (1, .ref ax), (0, .ref b)] [] ws2 1363) : vg_V D s.heap.size p l e room_1 s m #[Value.ref b] below meth c 8 cells slots Q [(4, .int (nI i)), (3, .ref aO), (2, .ref am), (1, .ref ax), (0, .ref b)] [] ws 676 := by
  obtain ⟨n, P, U, d, fr, to, pe, uv, ku, ks, kt, sk, wl, wp, hS, hM, h55⟩ := hj
  refine vg_aload_n X dL_law_676 3 rfl rfl ?_
  refine vg_aload_n X dL_law_677 4 rfl rfl ?_
  refine vg_iload X dL_law_678 0 rfl ?_
  refine vg_iconst X (nI 1) dL_law_680 (by decide) ?_
  refine vg_iadd X (nI (i + 1)) dL_law_681 (nI_add _ _) ?_
  refine vg_sld X hX hbl (Nat.not_le.mpr hbl) rfl (show i + 1 < L by omega) (by omega) dL_law_682 ?_
  refine vg_aload_n X dL_law_683 4 rfl rfl ?_
  refine vg_iload X dL_law_684 0 rfl ?_
  refine vg_iconst X (nI 2) dL_law_686 (by decide) ?_
  refine vg_iadd X (nI (i + 2)) dL_law_687 (nI_add _ _) ?_
  refine vg_sld X hX hbl (Nat.not_le.mpr hbl) rfl (show i + 2 < L by omega) (by omega) dL_law_688 ?_
  refine vg_calli (vg_runSW X vs_st hWm9 (c_L_stand l hl9 hG2 hG3 hS h55 (y := xs (i + 1)) (x := xs (i + 2))) (vx_cwSW 3 X.2.2.2.2.1 gL_law_L_stand rfl rfl rfl (by decide +kernel) ⟨(Nat.le_of_ble_eq_true rfl), (Nat.le_of_ble_eq_true rfl)⟩) rfl rfl (Nat.le_of_ble_eq_true rfl) dL_law_689 ⟨hc, hs⟩) (fun rr w1 H1 => ?_)
  have hM1 := cm_St_fr hM (af_stand H1)
  obtain ⟨fl1, fm1, fn1, fs1, hO1, _⟩ := id hM1
  unfold cm_O at hO1
  refine vg_istore X [(5, .int rr), (4, .int (nI i)), (3, .ref aO), (2, .ref am), (1, .ref ax), (0, .ref b)] dL_law_692 (by decide) rfl ?_
  refine vg_aload_n X dL_law_694 3 rfl rfl ?_
  refine vg_aload_n X dL_law_695 5 rfl rfl ?_
  refine vg_iload X dL_law_696 1 rfl ?_
  refine vg_iconst X (nI 1) dL_law_698 (by decide) ?_
  refine vg_iadd X (nI (i + 1)) dL_law_699 (nI_add _ _) ?_
  refine vg_sld X hX hbl (Nat.not_le.mpr hbl) rfl (show i + 1 < L by omega) (by omega) dL_law_700 ?_
  refine vg_aload_n X dL_law_701 5 rfl rfl ?_
  refine vg_iload X dL_law_702 1 rfl ?_
  refine vg_iconst X (nI 2) dL_law_704 (by decide) ?_
  refine vg_iadd X (nI (i + 2)) dL_law_705 (nI_add _ _) ?_
  refine vg_sld X hX hbl (Nat.not_le.mpr hbl) rfl (show i + 2 < L by omega) (by omega) dL_law_706 ?_
  refine vg_callv (vg_runV X (c_X7_stand l hM1 (cw_St_R hS) (u := xs (i + 1)) (x := xs (i + 2))) (cwV 2 X.2.2.2.2.1 gL_law_X7_stand rfl rfl rfl (by decide +kernel) ⟨Nat.le_of_ble_eq_true rfl, Nat.le_of_ble_eq_true rfl⟩) 29 hO1 rfl rfl rfl (Nat.le_of_ble_eq_true rfl) dL_law_707 ⟨hc, hs⟩) (fun wz1 PP2 => ?_)
  obtain ⟨k, fO2, ek, hk4, hjo⟩ := ag_stand (th := th) hS h55 H1 PP2
  subst ek
  obtain ⟨_, _, _, _, _, _, _, _, _, _, _, _, _, _, hS2, hM2, h552⟩ := id hjo
  obtain ⟨_, _, _, _, hO2, _⟩ := id hM2
  have hO3 := hO2
  unfold cm_O at hO3
  refine vg_aload_n X dL_law_710 3 rfl rfl ?_
  refine vg_calli (vg_runV X (c_X7_thrown l hO2) (cwV 0 X.2.2.2.2.1 gL_law_X7_thrown rfl rfl rfl (by decide +kernel) ⟨Nat.le_of_ble_eq_true rfl, Nat.le_of_ble_eq_true rfl⟩) 29 hO3 rfl rfl rfl (Nat.le_of_ble_eq_true rfl) dL_law_711 ⟨hc, hs⟩) (fun rr6 wz4 PP5 => ?_)
  obtain ⟨ew, er⟩ := PP5
  rw [ew, er]
  refine vg_iload X dL_law_714 0 rfl ?_
  refine vg_icmp_eq X 721 dL_law_716 (by decide) (fun c716 => ?_) (fun c716 => ?_)
  · have c716 : k = k := (nI_eq (by omega) (by omega)).mp c716
    skip
    refine vg_goto X 1363 dL_law_721 (by decide) ?_
    refine vg_locals [1, 2, 3, 4, 5] rfl ?_
    exact kk _ _ _ hjo
  · have c716 : ¬ k = k := fun z => c716 ((nI_eq (by omega) (by omega)).mpr z)
    exact absurd rfl c716
