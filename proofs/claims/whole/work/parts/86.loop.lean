
set_option maxHeartbeats 4000000 in
set_option maxRecDepth 100000 in
/-- the law's loop: class and reference stay side by side -/
theorem law_loop {p : Program} (l : Launch) {e : Env} {s : State} {m : MethodId} {below : List Frame} {meth : Method} {c : Code} {D : va_G} {ay : Nat → ClassId} {tE mi b L : Nat} {xs : Nat → Int32} {Gx : State → Prop} {ax am aO : Nat} {aa : Nat → Nat} (hl9 : l.stackTraces = false) (X : vg_C D ay s.heap.size Gx p s m #[Value.ref b] meth c cL_law 8 RL wsL_law ret) (hG2 : ∀ U, Gx U → vh_G2 s.heap.size tE mi U) (hG3 : ∀ U, Gx U → vh_X U) (hWm9 : vs_W s) (hX : va_X b L xs s s.heap) (hbl : b < s.heap.size) (hL : L ≤ 3072) (hret : meth.sig.returnType = ret) : ∀ (k i : Nat) (ws : va_W) (th : Nat) (fO : Nat → Int64), 6 * i + k = 4000 → 6 * i ≤ L + 6 → jo_S ay ws ax tE am aa th aO fO → vg_V D s.heap.size p l e room_1 s m #[Value.ref b] below meth c 8 (100 + 10 * i) (20000 + 400 * i) (lw_Z below #[Value.ref b] s) [(4, .int (nI (6 * i))), (3, .ref aO), (2, .ref am), (1, .ref ax), (0, .ref b)] [] ws 23 := by
  intro k
  induction k using Nat.strongRecOn with
  | ind k ih =>
    intro i ws th fO hk hiL hj
    refine vg_iload X dL_law_23 0 rfl ?_
    refine vg_aload_n X dL_law_25 4 rfl rfl ?_
    refine vg_slen X hX hbl (Nat.not_le.mpr hbl) dL_law_26 ?_
    refine vg_bipush X (nI 6) dL_law_27 (by decide) ?_
    refine vg_isub X (nI L - nI 6) dL_law_29 rfl ?_
    refine vg_icmp_gt X 1369 dL_law_30 (by decide) (fun c30 => ?_) (fun c30 => ?_)
    · skip
      refine vg_iconst X (nI 1) dL_law_1369 (by decide) ?_
      intro H locs ls hl hP hD hS
      refine va_forget (fun q hq => hS.2.2 q hq) ?_
      refine W.widen (k := 601024) (n := 7293034) (by omega) (by omega) ?_
      exact lw_ret X.1 X.2.1 hret X.2.2.2.2.2.2.2.2.1 dL_law_1370
    · have hcn := lw_cont hL (by omega) c30
      refine vg_aload_n X dL_law_33 4 rfl rfl ?_
      refine vg_iload X dL_law_34 0 rfl ?_
      refine vg_sld X hX hbl (Nat.not_le.mpr hbl) rfl (show 6 * i < L by omega) (by omega) dL_law_36 ?_
      refine vg_bipush X (nI 15) dL_law_37 (by decide) ?_
      refine vg_iand X (xs (6 * i) &&& nI 15) dL_law_39 rfl ?_
      obtain ⟨q9, hq9, eq9⟩ := i32_and15 (xs (6 * i))
      rw [eq9]
      have kk : ∀ (ws2 : va_W) (th2 : Nat) (fO2 : Nat → Int64), jo_S ay ws2 ax tE am aa th2 aO fO2 → vg_V D s.heap.size p l e room_1 s m #[Value.ref b] below meth c 8 (100 + 10 * i + 10) (20000 + 400 * i + 400) (lw_Z below #[Value.ref b] s) [(4, .int (nI (6 * i))), (3, .ref aO), (2, .ref am), (1, .ref ax), (0, .ref b)] [] ws2 1363 := by
        intro ws2 th2 fO2 hj2
        refine vg_iinc X (v := nI (6 * i + 6)) [(4, .int (nI (6 * i + 6))), (3, .ref aO), (2, .ref am), (1, .ref ax), (0, .ref b)] dL_law_1363 0 rfl (by rw [show Int32.ofInt 6 = nI 6 by decide, nI_add]) (by decide) rfl ?_
        refine vg_goto X 23 dL_law_1366 (by decide) ?_
        have L9 := ih (k - 6) (by omega) (i + 1) ws2 th2 fO2 (by omega) (by omega) hj2
        rw [show 6 * (i + 1) = 6 * i + 6 by omega, show 100 + 10 * (i + 1) = 100 + 10 * i + 10 by omega, show 20000 + 400 * (i + 1) = 20000 + 400 * i + 400 by omega] at L9
        exact L9
      rcases (show q9 = 0 ∨ q9 = 1 ∨ q9 = 2 ∨ q9 = 3 ∨ q9 = 4 ∨ q9 = 5 ∨ q9 = 6 ∨ q9 = 7 ∨ q9 = 8 ∨ q9 = 9 ∨ q9 = 10 ∨ q9 = 11 ∨ q9 = 12 ∨ q9 = 13 ∨ q9 = 14 ∨ q9 = 15 by omega) with rfl | rfl | rfl | rfl | rfl | rfl | rfl | rfl | rfl | rfl | rfl | rfl | rfl | rfl | rfl | rfl
      · exact vg_tab X (off := 80) 120 dL_law_40 (by decide) (by decide) (by decide) (by decide) (lc_net l hl9 X hG2 hG3 hWm9 hX hbl hL (by omega) (by omega) (by omega) hj kk)
      · exact vg_tab X (off := 116) 156 dL_law_40 (by decide) (by decide) (by decide) (by decide) (lc_piece l hl9 X hG2 hG3 hWm9 hX hbl hL (by omega) (by omega) (by omega) hj kk)
      · exact vg_tab X (off := 208) 248 dL_law_40 (by decide) (by decide) (by decide) (by decide) (lc_limit l hl9 X hG2 hG3 hWm9 hX hbl hL (by omega) (by omega) (by omega) hj kk)
      · exact vg_tab X (off := 288) 328 dL_law_40 (by decide) (by decide) (by decide) (by decide) (lc_slow l hl9 X hG2 hG3 hWm9 hX hbl hL (by omega) (by omega) (by omega) hj kk)
      · exact vg_tab X (off := 380) 420 dL_law_40 (by decide) (by decide) (by decide) (by decide) (lc_close l hl9 X hG2 hG3 hWm9 hX hbl hL (by omega) (by omega) (by omega) hj kk)
      · exact vg_tab X (off := 464) 504 dL_law_40 (by decide) (by decide) (by decide) (by decide) (lc_speed l hl9 X hG2 hG3 hWm9 hX hbl hL (by omega) (by omega) (by omega) hj kk)
      · exact vg_tab X (off := 532) 572 dL_law_40 (by decide) (by decide) (by decide) (by decide) (lc_unit l hl9 X hG2 hG3 hWm9 hX hbl hL (by omega) (by omega) (by omega) hj kk)
      · exact vg_tab X (off := 636) 676 dL_law_40 (by decide) (by decide) (by decide) (by decide) (lc_stand l hl9 X hG2 hG3 hWm9 hX hbl hL (by omega) (by omega) (by omega) hj kk)
      · exact vg_tab X (off := 684) 724 dL_law_40 (by decide) (by decide) (by decide) (by decide) (lc_seconds l hl9 X hG2 hG3 hWm9 hX hbl hL (by omega) (by omega) (by omega) hj kk)
      · exact vg_tab X (off := 763) 803 dL_law_40 (by decide) (by decide) (by decide) (by decide) (lc_way l hl9 X hG2 hG3 hWm9 hX hbl hL (by omega) (by omega) (by omega) hj kk)
      · exact vg_tab X (off := 854) 894 dL_law_40 (by decide) (by decide) (by decide) (by decide) (lc_step l hl9 X hG2 hG3 hWm9 hX hbl hL (by omega) (by omega) (by omega) hj kk)
      · exact vg_tab X (off := 910) 950 dL_law_40 (by decide) (by decide) (by decide) (by decide) (lc_walk l hl9 X hG2 hG3 hWm9 hX hbl hL (by omega) (by omega) (by omega) hj kk)
      · exact vg_tab X (off := 1013) 1053 dL_law_40 (by decide) (by decide) (by decide) (by decide) (lc_rest l hl9 X hG2 hG3 hWm9 hX hbl hL (by omega) (by omega) (by omega) hj kk)
      · exact vg_tab X (off := 1116) 1156 dL_law_40 (by decide) (by decide) (by decide) (by decide) (lc_nearest l hl9 X hG2 hG3 hWm9 hX hbl hL (by omega) (by omega) (by omega) hj kk)
      · exact vg_tab X (off := 1184) 1224 dL_law_40 (by decide) (by decide) (by decide) (by decide) (lc_keep l hl9 X hG2 hG3 hWm9 hX hbl hL (by omega) (by omega) (by omega) hj kk)
      · exact vg_tab X (off := 1256) 1296 dL_law_40 (by decide) (by decide) (by decide) (by decide) (lc_kept l hl9 X hG2 hG3 hWm9 hX hbl hL (by omega) (by omega) (by omega) hj kk)
