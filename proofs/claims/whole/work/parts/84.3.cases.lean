
set_option maxHeartbeats 4000000 in
set_option maxRecDepth 100000 in
theorem lc_seconds {p : Program} (l : Launch) {e : Env} {s : State} {m : MethodId} {below : List Frame} {meth : Method} {c : Code} {D : va_G} {ay : Nat → ClassId} {tE mi b L : Nat} {xs : Nat → Int32} {Gx : State → Prop} {Q : State → Prop} {cells slots : Nat} {ax am aO : Nat} {aa : Nat → Nat} {th i : Nat} {fO : Nat → Int64} {ws : va_W} (hl9 : l.stackTraces = false) (X : vg_C D ay s.heap.size Gx p s m #[Value.ref b] meth c cL_law 8 RL wsL_law ret) (hG2 : ∀ U, Gx U → vh_G2 s.heap.size tE mi U) (hG3 : ∀ U, Gx U → vh_X U) (hWm9 : vs_W s) (hX : va_X b L xs s s.heap) (hbl : b < s.heap.size) (hL : L ≤ 3072) (hi : i + 6 ≤ L) (hc : cells + 10 ≤ 601024) (hs : slots + 400 ≤ 7293034) (hj : jo_S ay ws ax tE am aa th aO fO) (kk : ∀ (ws2 : va_W) (th2 : Nat) (fO2 : Nat → Int64), jo_S ay ws2 ax tE am aa th2 aO fO2 → vg_V D s.heap.size p l e room_1 s m #[Value.ref b] below meth c 8 (cells + 10) (slots + 400) Q [(4, .int (nI i)), (3, .ref aO), (2, .ref am), (1, .ref ax), (0, .ref b)] [] ws2 1363) : vg_V D s.heap.size p l e room_1 s m #[Value.ref b] below meth c 8 cells slots Q [(4, .int (nI i)), (3, .ref aO), (2, .ref am), (1, .ref ax), (0, .ref b)] [] ws 724 := by
  obtain ⟨n, P, U, d, fr, to, pe, uv, ku, ks, kt, sk, wl, wp, hS, hM, h55⟩ := hj
  refine vg_aload_n X dL_law_724 3 rfl rfl ?_
  refine vg_aload_n X dL_law_725 4 rfl rfl ?_
  refine vg_iload X dL_law_726 0 rfl ?_
  refine vg_iconst X (nI 1) dL_law_728 (by decide) ?_
  refine vg_iadd X (nI (i + 1)) dL_law_729 (nI_add _ _) ?_
  refine vg_sld X hX hbl (Nat.not_le.mpr hbl) rfl (show i + 1 < L by omega) (by omega) dL_law_730 ?_
  refine vg_aload_n X dL_law_731 4 rfl rfl ?_
  refine vg_iload X dL_law_732 0 rfl ?_
  refine vg_iconst X (nI 2) dL_law_734 (by decide) ?_
  refine vg_iadd X (nI (i + 2)) dL_law_735 (nI_add _ _) ?_
  refine vg_sld X hX hbl (Nat.not_le.mpr hbl) rfl (show i + 2 < L by omega) (by omega) dL_law_736 ?_
  refine vg_aload_n X dL_law_737 4 rfl rfl ?_
  refine vg_iload X dL_law_738 0 rfl ?_
  refine vg_iconst X (nI 3) dL_law_740 (by decide) ?_
  refine vg_iadd X (nI (i + 3)) dL_law_741 (nI_add _ _) ?_
  refine vg_sld X hX hbl (Nat.not_le.mpr hbl) rfl (show i + 3 < L by omega) (by omega) dL_law_742 ?_
  refine vg_aload_n X dL_law_743 1 rfl rfl ?_
  refine vg_calli (vg_runSW X vs_st hWm9 (c_L_seconds l hl9 hG2 hG3 hS h55 (y := xs (i + 1)) (x := xs (i + 2)) (t := xs (i + 3))) (vx_cwSW 5 X.2.2.2.2.1 gL_law_L_seconds rfl rfl rfl (by decide +kernel) ⟨(Nat.le_of_ble_eq_true rfl), (Nat.le_of_ble_eq_true rfl)⟩) rfl rfl (Nat.le_of_ble_eq_true rfl) dL_law_744 ⟨hc, hs⟩) (fun rr w1 H1 => ?_)
  have hM1 := cm_St_fr hM (af_seconds H1)
  obtain ⟨fl1, fm1, fn1, fs1, hO1, _⟩ := id hM1
  unfold cm_O at hO1
  refine vg_istore X [(5, .int rr), (4, .int (nI i)), (3, .ref aO), (2, .ref am), (1, .ref ax), (0, .ref b)] dL_law_747 (by decide) rfl ?_
  refine vg_aload_n X dL_law_749 3 rfl rfl ?_
  refine vg_aload_n X dL_law_750 5 rfl rfl ?_
  refine vg_iload X dL_law_751 1 rfl ?_
  refine vg_iconst X (nI 1) dL_law_753 (by decide) ?_
  refine vg_iadd X (nI (i + 1)) dL_law_754 (nI_add _ _) ?_
  refine vg_sld X hX hbl (Nat.not_le.mpr hbl) rfl (show i + 1 < L by omega) (by omega) dL_law_755 ?_
  refine vg_aload_n X dL_law_756 5 rfl rfl ?_
  refine vg_iload X dL_law_757 1 rfl ?_
  refine vg_iconst X (nI 2) dL_law_759 (by decide) ?_
  refine vg_iadd X (nI (i + 2)) dL_law_760 (nI_add _ _) ?_
  refine vg_sld X hX hbl (Nat.not_le.mpr hbl) rfl (show i + 2 < L by omega) (by omega) dL_law_761 ?_
  refine vg_aload_n X dL_law_762 5 rfl rfl ?_
  refine vg_iload X dL_law_763 1 rfl ?_
  refine vg_iconst X (nI 3) dL_law_765 (by decide) ?_
  refine vg_iadd X (nI (i + 3)) dL_law_766 (nI_add _ _) ?_
  refine vg_sld X hX hbl (Nat.not_le.mpr hbl) rfl (show i + 3 < L by omega) (by omega) dL_law_767 ?_
  refine vg_calll (vg_runV X (c_X7_seconds l hM1 (cw_St_R hS) (u := xs (i + 1)) (x := xs (i + 2)) (t := xs (i + 3))) (cwV 3 X.2.2.2.2.1 gL_law_X7_seconds rfl rfl rfl (by decide +kernel) ⟨Nat.le_of_ble_eq_true rfl, Nat.le_of_ble_eq_true rfl⟩) 29 hO1 rfl rfl rfl (Nat.le_of_ble_eq_true rfl) dL_law_768 ⟨hc, hs⟩) (fun rr3 wz1 PP2 => ?_)
  obtain ⟨k, fO2, ek, hk4, hjo, hv⟩ := ag_seconds (th := th) hS h55 H1 PP2
  subst ek
  obtain ⟨_, _, _, _, _, _, _, _, _, _, _, _, _, _, hS2, hM2, h552⟩ := id hjo
  obtain ⟨_, _, _, _, hO2, _⟩ := id hM2
  have hO3 := hO2
  unfold cm_O at hO3
  refine vg_lstore X [(6, .long rr3), (5, .int (nI k)), (4, .int (nI i)), (3, .ref aO), (2, .ref am), (1, .ref ax), (0, .ref b)] dL_law_771 (by decide) rfl ?_
  refine vg_aload_n X dL_law_773 4 rfl rfl ?_
  refine vg_calli (vg_runV X (c_X7_thrown l hO2) (cwV 0 X.2.2.2.2.1 gL_law_X7_thrown rfl rfl rfl (by decide +kernel) ⟨Nat.le_of_ble_eq_true rfl, Nat.le_of_ble_eq_true rfl⟩) 29 hO3 rfl rfl rfl (Nat.le_of_ble_eq_true rfl) dL_law_774 ⟨hc, hs⟩) (fun rr6 wz4 PP5 => ?_)
  obtain ⟨ew, er⟩ := PP5
  rw [ew, er]
  refine vg_iload X dL_law_777 1 rfl ?_
  refine vg_icmp_eq X 784 dL_law_779 (by decide) (fun c779 => ?_) (fun c779 => ?_)
  · have c779 : k = k := (nI_eq (by omega) (by omega)).mp c779
    skip
    refine vg_iload X dL_law_784 1 rfl ?_
    refine vg_if_ne X 800 dL_law_786 (by decide) (fun c786 => ?_) (fun c786 => ?_)
    · have c786 : ¬ k = 0 := fun z => c786 ((vg_eq0 (by omega)).mpr z)
      refine vg_goto X 1363 dL_law_800 (by decide) ?_
      refine vg_locals [2, 3, 4, 5, 6] rfl ?_
      exact kk _ _ _ hjo
    · have c786 : k = 0 := (vg_eq0 (by omega)).mp c786
      refine vg_aload_n X dL_law_789 3 rfl rfl ?_
      refine vg_iconst X (nI 0) dL_law_790 (by decide) ?_
      refine vg_lald X (fO2 0) 55 h552 rfl (by decide) (by decide) rfl dL_law_791 ?_
      refine vg_lload X dL_law_792 0 rfl ?_
      refine vg_lcmp_eq X 800 dL_law_794 dL_law_795 (by decide) (fun c794 => ?_) (fun c794 => ?_)
      · skip
        refine vg_goto X 1363 dL_law_800 (by decide) ?_
        refine vg_locals [2, 3, 4, 5, 6] rfl ?_
        exact kk _ _ _ hjo
      · exact absurd (hv c786) c794
  · have c779 : ¬ k = k := fun z => c779 ((nI_eq (by omega) (by omega)).mpr z)
    exact absurd rfl c779
set_option maxHeartbeats 4000000 in
set_option maxRecDepth 100000 in
theorem lc_way {p : Program} (l : Launch) {e : Env} {s : State} {m : MethodId} {below : List Frame} {meth : Method} {c : Code} {D : va_G} {ay : Nat → ClassId} {tE mi b L : Nat} {xs : Nat → Int32} {Gx : State → Prop} {Q : State → Prop} {cells slots : Nat} {ax am aO : Nat} {aa : Nat → Nat} {th i : Nat} {fO : Nat → Int64} {ws : va_W} (hl9 : l.stackTraces = false) (X : vg_C D ay s.heap.size Gx p s m #[Value.ref b] meth c cL_law 8 RL wsL_law ret) (hG2 : ∀ U, Gx U → vh_G2 s.heap.size tE mi U) (hG3 : ∀ U, Gx U → vh_X U) (hWm9 : vs_W s) (hX : va_X b L xs s s.heap) (hbl : b < s.heap.size) (hL : L ≤ 3072) (hi : i + 6 ≤ L) (hc : cells + 10 ≤ 601024) (hs : slots + 400 ≤ 7293034) (hj : jo_S ay ws ax tE am aa th aO fO) (kk : ∀ (ws2 : va_W) (th2 : Nat) (fO2 : Nat → Int64), jo_S ay ws2 ax tE am aa th2 aO fO2 → vg_V D s.heap.size p l e room_1 s m #[Value.ref b] below meth c 8 (cells + 10) (slots + 400) Q [(4, .int (nI i)), (3, .ref aO), (2, .ref am), (1, .ref ax), (0, .ref b)] [] ws2 1363) : vg_V D s.heap.size p l e room_1 s m #[Value.ref b] below meth c 8 cells slots Q [(4, .int (nI i)), (3, .ref aO), (2, .ref am), (1, .ref ax), (0, .ref b)] [] ws 803 := by
  obtain ⟨n, P, U, d, fr, to, pe, uv, ku, ks, kt, sk, wl, wp, hS, hM, h55⟩ := hj
  refine vg_aload_n X dL_law_803 3 rfl rfl ?_
  refine vg_aload_n X dL_law_804 4 rfl rfl ?_
  refine vg_iload X dL_law_805 0 rfl ?_
  refine vg_iconst X (nI 1) dL_law_807 (by decide) ?_
  refine vg_iadd X (nI (i + 1)) dL_law_808 (nI_add _ _) ?_
  refine vg_sld X hX hbl (Nat.not_le.mpr hbl) rfl (show i + 1 < L by omega) (by omega) dL_law_809 ?_
  refine vg_aload_n X dL_law_810 4 rfl rfl ?_
  refine vg_iload X dL_law_811 0 rfl ?_
  refine vg_iconst X (nI 2) dL_law_813 (by decide) ?_
  refine vg_iadd X (nI (i + 2)) dL_law_814 (nI_add _ _) ?_
  refine vg_sld X hX hbl (Nat.not_le.mpr hbl) rfl (show i + 2 < L by omega) (by omega) dL_law_815 ?_
  refine vg_aload_n X dL_law_816 4 rfl rfl ?_
  refine vg_iload X dL_law_817 0 rfl ?_
  refine vg_iconst X (nI 3) dL_law_819 (by decide) ?_
  refine vg_iadd X (nI (i + 3)) dL_law_820 (nI_add _ _) ?_
  refine vg_sld X hX hbl (Nat.not_le.mpr hbl) rfl (show i + 3 < L by omega) (by omega) dL_law_821 ?_
  refine vg_aload_n X dL_law_822 4 rfl rfl ?_
  refine vg_iload X dL_law_823 0 rfl ?_
  refine vg_iconst X (nI 4) dL_law_825 (by decide) ?_
  refine vg_iadd X (nI (i + 4)) dL_law_826 (nI_add _ _) ?_
  refine vg_sld X hX hbl (Nat.not_le.mpr hbl) rfl (show i + 4 < L by omega) (by omega) dL_law_827 ?_
  refine vg_aload_n X dL_law_828 1 rfl rfl ?_
  refine vg_calli (vg_runSW X vs_st hWm9 (c_L_way l hl9 hG2 hG3 hS h55 (y := xs (i + 1)) (a := xs (i + 2)) (b := xs (i + 3)) (t := xs (i + 4))) (vx_cwSW 6 X.2.2.2.2.1 gL_law_L_way rfl rfl rfl (by decide +kernel) ⟨(Nat.le_of_ble_eq_true rfl), (Nat.le_of_ble_eq_true rfl)⟩) rfl rfl (Nat.le_of_ble_eq_true rfl) dL_law_829 ⟨hc, hs⟩) (fun rr w1 H1 => ?_)
  have hM1 := cm_St_fr hM (af_way H1)
  obtain ⟨fl1, fm1, fn1, fs1, hO1, _⟩ := id hM1
  unfold cm_O at hO1
  refine vg_istore X [(5, .int rr), (4, .int (nI i)), (3, .ref aO), (2, .ref am), (1, .ref ax), (0, .ref b)] dL_law_832 (by decide) rfl ?_
  refine vg_aload_n X dL_law_834 3 rfl rfl ?_
  refine vg_aload_n X dL_law_835 5 rfl rfl ?_
  refine vg_iload X dL_law_836 1 rfl ?_
  refine vg_iconst X (nI 1) dL_law_838 (by decide) ?_
  refine vg_iadd X (nI (i + 1)) dL_law_839 (nI_add _ _) ?_
  refine vg_sld X hX hbl (Nat.not_le.mpr hbl) rfl (show i + 1 < L by omega) (by omega) dL_law_840 ?_
  refine vg_aload_n X dL_law_841 5 rfl rfl ?_
  refine vg_iload X dL_law_842 1 rfl ?_
  refine vg_iconst X (nI 2) dL_law_844 (by decide) ?_
  refine vg_iadd X (nI (i + 2)) dL_law_845 (nI_add _ _) ?_
  refine vg_sld X hX hbl (Nat.not_le.mpr hbl) rfl (show i + 2 < L by omega) (by omega) dL_law_846 ?_
  refine vg_aload_n X dL_law_847 5 rfl rfl ?_
  refine vg_iload X dL_law_848 1 rfl ?_
  refine vg_iconst X (nI 3) dL_law_850 (by decide) ?_
  refine vg_iadd X (nI (i + 3)) dL_law_851 (nI_add _ _) ?_
  refine vg_sld X hX hbl (Nat.not_le.mpr hbl) rfl (show i + 3 < L by omega) (by omega) dL_law_852 ?_
  refine vg_aload_n X dL_law_853 5 rfl rfl ?_
  refine vg_iload X dL_law_854 1 rfl ?_
  refine vg_iconst X (nI 4) dL_law_856 (by decide) ?_
  refine vg_iadd X (nI (i + 4)) dL_law_857 (nI_add _ _) ?_
  refine vg_sld X hX hbl (Nat.not_le.mpr hbl) rfl (show i + 4 < L by omega) (by omega) dL_law_858 ?_
  refine vg_calll (vg_runV X (c_X7_way l hM1 (cw_St_R hS) (u := xs (i + 1)) (a := xs (i + 2)) (b := xs (i + 3)) (t := xs (i + 4))) (cwV 4 X.2.2.2.2.1 gL_law_X7_way rfl rfl rfl (by decide +kernel) ⟨Nat.le_of_ble_eq_true rfl, Nat.le_of_ble_eq_true rfl⟩) 29 hO1 rfl rfl rfl (Nat.le_of_ble_eq_true rfl) dL_law_859 ⟨hc, hs⟩) (fun rr3 wz1 PP2 => ?_)
  obtain ⟨k, fO2, ek, hk4, hjo, hv⟩ := ag_way (th := th) hS h55 H1 PP2
  subst ek
  obtain ⟨_, _, _, _, _, _, _, _, _, _, _, _, _, _, hS2, hM2, h552⟩ := id hjo
  obtain ⟨_, _, _, _, hO2, _⟩ := id hM2
  have hO3 := hO2
  unfold cm_O at hO3
  refine vg_lstore X [(6, .long rr3), (5, .int (nI k)), (4, .int (nI i)), (3, .ref aO), (2, .ref am), (1, .ref ax), (0, .ref b)] dL_law_862 (by decide) rfl ?_
  refine vg_aload_n X dL_law_864 4 rfl rfl ?_
  refine vg_calli (vg_runV X (c_X7_thrown l hO2) (cwV 0 X.2.2.2.2.1 gL_law_X7_thrown rfl rfl rfl (by decide +kernel) ⟨Nat.le_of_ble_eq_true rfl, Nat.le_of_ble_eq_true rfl⟩) 29 hO3 rfl rfl rfl (Nat.le_of_ble_eq_true rfl) dL_law_865 ⟨hc, hs⟩) (fun rr6 wz4 PP5 => ?_)
  obtain ⟨ew, er⟩ := PP5
  rw [ew, er]
  refine vg_iload X dL_law_868 1 rfl ?_
  refine vg_icmp_eq X 875 dL_law_870 (by decide) (fun c870 => ?_) (fun c870 => ?_)
  · have c870 : k = k := (nI_eq (by omega) (by omega)).mp c870
    skip
    refine vg_iload X dL_law_875 1 rfl ?_
    refine vg_if_ne X 891 dL_law_877 (by decide) (fun c877 => ?_) (fun c877 => ?_)
    · have c877 : ¬ k = 0 := fun z => c877 ((vg_eq0 (by omega)).mpr z)
      refine vg_goto X 1363 dL_law_891 (by decide) ?_
      refine vg_locals [2, 3, 4, 5, 6] rfl ?_
      exact kk _ _ _ hjo
    · have c877 : k = 0 := (vg_eq0 (by omega)).mp c877
      refine vg_aload_n X dL_law_880 3 rfl rfl ?_
      refine vg_iconst X (nI 0) dL_law_881 (by decide) ?_
      refine vg_lald X (fO2 0) 55 h552 rfl (by decide) (by decide) rfl dL_law_882 ?_
      refine vg_lload X dL_law_883 0 rfl ?_
      refine vg_lcmp_eq X 891 dL_law_885 dL_law_886 (by decide) (fun c885 => ?_) (fun c885 => ?_)
      · skip
        refine vg_goto X 1363 dL_law_891 (by decide) ?_
        refine vg_locals [2, 3, 4, 5, 6] rfl ?_
        exact kk _ _ _ hjo
      · exact absurd (hv c877) c885
  · have c870 : ¬ k = k := fun z => c870 ((nI_eq (by omega) (by omega)).mpr z)
    exact absurd rfl c870
set_option maxHeartbeats 4000000 in
set_option maxRecDepth 100000 in
theorem lc_step {p : Program} (l : Launch) {e : Env} {s : State} {m : MethodId} {below : List Frame} {meth : Method} {c : Code} {D : va_G} {ay : Nat → ClassId} {tE mi b L : Nat} {xs : Nat → Int32} {Gx : State → Prop} {Q : State → Prop} {cells slots : Nat} {ax am aO : Nat} {aa : Nat → Nat} {th i : Nat} {fO : Nat → Int64} {ws : va_W} (hl9 : l.stackTraces = false) (X : vg_C D ay s.heap.size Gx p s m #[Value.ref b] meth c cL_law 8 RL wsL_law ret) (hG2 : ∀ U, Gx U → vh_G2 s.heap.size tE mi U) (hG3 : ∀ U, Gx U → vh_X U) (hWm9 : vs_W s) (hX : va_X b L xs s s.heap) (hbl : b < s.heap.size) (hL : L ≤ 3072) (hi : i + 6 ≤ L) (hc : cells + 10 ≤ 601024) (hs : slots + 400 ≤ 7293034) (hj : jo_S ay ws ax tE am aa th aO fO) (kk : ∀ (ws2 : va_W) (th2 : Nat) (fO2 : Nat → Int64), jo_S ay ws2 ax tE am aa th2 aO fO2 → vg_V D s.heap.size p l e room_1 s m #[Value.ref b] below meth c 8 (cells + 10) (slots + 400) Q [(4, .int (nI i)), (3, .ref aO), (2, .ref am), (1, .ref ax), (0, .ref b)] [] ws2 1363) : vg_V D s.heap.size p l e room_1 s m #[Value.ref b] below meth c 8 cells slots Q [(4, .int (nI i)), (3, .ref aO), (2, .ref am), (1, .ref ax), (0, .ref b)] [] ws 894 := by
  obtain ⟨n, P, U, d, fr, to, pe, uv, ku, ks, kt, sk, wl, wp, hS, hM, h55⟩ := hj
  refine vg_aload_n X dL_law_894 3 rfl rfl ?_
  refine vg_aload_n X dL_law_895 4 rfl rfl ?_
  refine vg_iload X dL_law_896 0 rfl ?_
  refine vg_iconst X (nI 1) dL_law_898 (by decide) ?_
  refine vg_iadd X (nI (i + 1)) dL_law_899 (nI_add _ _) ?_
  refine vg_sld X hX hbl (Nat.not_le.mpr hbl) rfl (show i + 1 < L by omega) (by omega) dL_law_900 ?_
  refine vg_aload_n X dL_law_901 1 rfl rfl ?_
  refine vg_calli (vg_runSW X vs_st hWm9 (c_L_step l hl9 hG2 hG3 hS h55 (x := xs (i + 1))) (vx_cwSW 3 X.2.2.2.2.1 gL_law_L_step rfl rfl rfl (by decide +kernel) ⟨(Nat.le_of_ble_eq_true rfl), (Nat.le_of_ble_eq_true rfl)⟩) rfl rfl (Nat.le_of_ble_eq_true rfl) dL_law_902 ⟨hc, hs⟩) (fun rr w1 H1 => ?_)
  have hM1 := cm_St_fr hM (af_step H1)
  obtain ⟨fl1, fm1, fn1, fs1, hO1, _⟩ := id hM1
  unfold cm_O at hO1
  refine vg_istore X [(5, .int rr), (4, .int (nI i)), (3, .ref aO), (2, .ref am), (1, .ref ax), (0, .ref b)] dL_law_905 (by decide) rfl ?_
  refine vg_aload_n X dL_law_907 3 rfl rfl ?_
  refine vg_aload_n X dL_law_908 5 rfl rfl ?_
  refine vg_iload X dL_law_909 1 rfl ?_
  refine vg_iconst X (nI 1) dL_law_911 (by decide) ?_
  refine vg_iadd X (nI (i + 1)) dL_law_912 (nI_add _ _) ?_
  refine vg_sld X hX hbl (Nat.not_le.mpr hbl) rfl (show i + 1 < L by omega) (by omega) dL_law_913 ?_
  refine vg_calli (vg_runV X (c_X7_step l hM1 (cw_St_R hS) (x := xs (i + 1))) (cwV 1 X.2.2.2.2.1 gL_law_X7_step rfl rfl rfl (by decide +kernel) ⟨Nat.le_of_ble_eq_true rfl, Nat.le_of_ble_eq_true rfl⟩) 29 hO1 rfl rfl rfl (Nat.le_of_ble_eq_true rfl) dL_law_914 ⟨hc, hs⟩) (fun rr3 wz1 PP2 => ?_)
  obtain ⟨k, fO2, ek, hk4, hjo, hv⟩ := ag_step (th := th) hS h55 H1 PP2
  subst ek
  obtain ⟨_, _, _, _, _, _, _, _, _, _, _, _, _, _, hS2, hM2, h552⟩ := id hjo
  obtain ⟨_, _, _, _, hO2, _⟩ := id hM2
  have hO3 := hO2
  unfold cm_O at hO3
  refine vg_istore X [(6, .int rr3), (5, .int (nI k)), (4, .int (nI i)), (3, .ref aO), (2, .ref am), (1, .ref ax), (0, .ref b)] dL_law_917 (by decide) rfl ?_
  refine vg_aload_n X dL_law_919 4 rfl rfl ?_
  refine vg_calli (vg_runV X (c_X7_thrown l hO2) (cwV 0 X.2.2.2.2.1 gL_law_X7_thrown rfl rfl rfl (by decide +kernel) ⟨Nat.le_of_ble_eq_true rfl, Nat.le_of_ble_eq_true rfl⟩) 29 hO3 rfl rfl rfl (Nat.le_of_ble_eq_true rfl) dL_law_920 ⟨hc, hs⟩) (fun rr6 wz4 PP5 => ?_)
  obtain ⟨ew, er⟩ := PP5
  rw [ew, er]
  refine vg_iload X dL_law_923 1 rfl ?_
  refine vg_icmp_eq X 930 dL_law_925 (by decide) (fun c925 => ?_) (fun c925 => ?_)
  · have c925 : k = k := (nI_eq (by omega) (by omega)).mp c925
    skip
    refine vg_iload X dL_law_930 1 rfl ?_
    refine vg_if_ne X 947 dL_law_932 (by decide) (fun c932 => ?_) (fun c932 => ?_)
    · have c932 : ¬ k = 0 := fun z => c932 ((vg_eq0 (by omega)).mpr z)
      refine vg_goto X 1363 dL_law_947 (by decide) ?_
      refine vg_locals [2, 3, 4, 5, 6] rfl ?_
      exact kk _ _ _ hjo
    · have c932 : k = 0 := (vg_eq0 (by omega)).mp c932
      refine vg_aload_n X dL_law_935 3 rfl rfl ?_
      refine vg_iconst X (nI 0) dL_law_936 (by decide) ?_
      refine vg_lald X (fO2 0) 55 h552 rfl (by decide) (by decide) rfl dL_law_937 ?_
      refine vg_iload X dL_law_938 0 rfl ?_
      refine vg_i2l X ((rr3).toInt64) dL_law_940 rfl ?_
      refine vg_lcmp_eq X 947 dL_law_941 dL_law_942 (by decide) (fun c941 => ?_) (fun c941 => ?_)
      · skip
        refine vg_goto X 1363 dL_law_947 (by decide) ?_
        refine vg_locals [2, 3, 4, 5, 6] rfl ?_
        exact kk _ _ _ hjo
      · exact absurd (hv c932) c941
  · have c925 : ¬ k = k := fun z => c925 ((nI_eq (by omega) (by omega)).mpr z)
    exact absurd rfl c925
set_option maxHeartbeats 4000000 in
set_option maxRecDepth 100000 in
theorem lc_walk {p : Program} (l : Launch) {e : Env} {s : State} {m : MethodId} {below : List Frame} {meth : Method} {c : Code} {D : va_G} {ay : Nat → ClassId} {tE mi b L : Nat} {xs : Nat → Int32} {Gx : State → Prop} {Q : State → Prop} {cells slots : Nat} {ax am aO : Nat} {aa : Nat → Nat} {th i : Nat} {fO : Nat → Int64} {ws : va_W} (hl9 : l.stackTraces = false) (X : vg_C D ay s.heap.size Gx p s m #[Value.ref b] meth c cL_law 8 RL wsL_law ret) (hG2 : ∀ U, Gx U → vh_G2 s.heap.size tE mi U) (hG3 : ∀ U, Gx U → vh_X U) (hWm9 : vs_W s) (hX : va_X b L xs s s.heap) (hbl : b < s.heap.size) (hL : L ≤ 3072) (hi : i + 6 ≤ L) (hc : cells + 10 ≤ 601024) (hs : slots + 400 ≤ 7293034) (hj : jo_S ay ws ax tE am aa th aO fO) (kk : ∀ (ws2 : va_W) (th2 : Nat) (fO2 : Nat → Int64), jo_S ay ws2 ax tE am aa th2 aO fO2 → vg_V D s.heap.size p l e room_1 s m #[Value.ref b] below meth c 8 (cells + 10) (slots + 400) Q [(4, .int (nI i)), (3, .ref aO), (2, .ref am), (1, .ref ax), (0, .ref b)] [] ws2 1363) : vg_V D s.heap.size p l e room_1 s m #[Value.ref b] below meth c 8 cells slots Q [(4, .int (nI i)), (3, .ref aO), (2, .ref am), (1, .ref ax), (0, .ref b)] [] ws 950 := by
  obtain ⟨n, P, U, d, fr, to, pe, uv, ku, ks, kt, sk, wl, wp, hS, hM, h55⟩ := hj
  refine vg_aload_n X dL_law_950 3 rfl rfl ?_
  refine vg_aload_n X dL_law_951 4 rfl rfl ?_
  refine vg_iload X dL_law_952 0 rfl ?_
  refine vg_iconst X (nI 1) dL_law_954 (by decide) ?_
  refine vg_iadd X (nI (i + 1)) dL_law_955 (nI_add _ _) ?_
  refine vg_sld X hX hbl (Nat.not_le.mpr hbl) rfl (show i + 1 < L by omega) (by omega) dL_law_956 ?_
  refine vg_aload_n X dL_law_957 4 rfl rfl ?_
  refine vg_iload X dL_law_958 0 rfl ?_
  refine vg_iconst X (nI 2) dL_law_960 (by decide) ?_
  refine vg_iadd X (nI (i + 2)) dL_law_961 (nI_add _ _) ?_
  refine vg_sld X hX hbl (Nat.not_le.mpr hbl) rfl (show i + 2 < L by omega) (by omega) dL_law_962 ?_
  refine vg_aload_n X dL_law_963 4 rfl rfl ?_
  refine vg_iload X dL_law_964 0 rfl ?_
  refine vg_iconst X (nI 3) dL_law_966 (by decide) ?_
  refine vg_iadd X (nI (i + 3)) dL_law_967 (nI_add _ _) ?_
  refine vg_sld X hX hbl (Nat.not_le.mpr hbl) rfl (show i + 3 < L by omega) (by omega) dL_law_968 ?_
  refine vg_aload_n X dL_law_969 4 rfl rfl ?_
  refine vg_iload X dL_law_970 0 rfl ?_
  refine vg_iconst X (nI 4) dL_law_972 (by decide) ?_
  refine vg_iadd X (nI (i + 4)) dL_law_973 (nI_add _ _) ?_
  refine vg_sld X hX hbl (Nat.not_le.mpr hbl) rfl (show i + 4 < L by omega) (by omega) dL_law_974 ?_
  refine vg_aload_n X dL_law_975 4 rfl rfl ?_
  refine vg_iload X dL_law_976 0 rfl ?_
  refine vg_iconst X (nI 5) dL_law_978 (by decide) ?_
  refine vg_iadd X (nI (i + 5)) dL_law_979 (nI_add _ _) ?_
  refine vg_sld X hX hbl (Nat.not_le.mpr hbl) rfl (show i + 5 < L by omega) (by omega) dL_law_980 ?_
  refine vg_aload_n X dL_law_981 1 rfl rfl ?_
  refine vg_calli (vg_runSW X vs_st hWm9 (c_L_walk l hl9 hG2 hG3 hS h55 (y := xs (i + 1)) (a := xs (i + 2)) (b := xs (i + 3)) (t := xs (i + 4)) (i9 := xs (i + 5))) (vx_cwSW 7 X.2.2.2.2.1 gL_law_L_walk rfl rfl rfl (by decide +kernel) ⟨(Nat.le_of_ble_eq_true rfl), (Nat.le_of_ble_eq_true rfl)⟩) rfl rfl (Nat.le_of_ble_eq_true rfl) dL_law_982 ⟨hc, hs⟩) (fun rr w1 H1 => ?_)
  have hM1 := cm_St_fr hM (af_walk H1)
  obtain ⟨fl1, fm1, fn1, fs1, hO1, _⟩ := id hM1
  unfold cm_O at hO1
  refine vg_istore X [(5, .int rr), (4, .int (nI i)), (3, .ref aO), (2, .ref am), (1, .ref ax), (0, .ref b)] dL_law_985 (by decide) rfl ?_
  refine vg_aload_n X dL_law_987 3 rfl rfl ?_
  refine vg_aload_n X dL_law_988 5 rfl rfl ?_
  refine vg_iload X dL_law_989 1 rfl ?_
  refine vg_iconst X (nI 1) dL_law_991 (by decide) ?_
  refine vg_iadd X (nI (i + 1)) dL_law_992 (nI_add _ _) ?_
  refine vg_sld X hX hbl (Nat.not_le.mpr hbl) rfl (show i + 1 < L by omega) (by omega) dL_law_993 ?_
  refine vg_aload_n X dL_law_994 5 rfl rfl ?_
  refine vg_iload X dL_law_995 1 rfl ?_
  refine vg_iconst X (nI 2) dL_law_997 (by decide) ?_
  refine vg_iadd X (nI (i + 2)) dL_law_998 (nI_add _ _) ?_
  refine vg_sld X hX hbl (Nat.not_le.mpr hbl) rfl (show i + 2 < L by omega) (by omega) dL_law_999 ?_
  refine vg_aload_n X dL_law_1000 5 rfl rfl ?_
  refine vg_iload X dL_law_1001 1 rfl ?_
  refine vg_iconst X (nI 3) dL_law_1003 (by decide) ?_
  refine vg_iadd X (nI (i + 3)) dL_law_1004 (nI_add _ _) ?_
  refine vg_sld X hX hbl (Nat.not_le.mpr hbl) rfl (show i + 3 < L by omega) (by omega) dL_law_1005 ?_
  refine vg_aload_n X dL_law_1006 5 rfl rfl ?_
  refine vg_iload X dL_law_1007 1 rfl ?_
  refine vg_iconst X (nI 4) dL_law_1009 (by decide) ?_
  refine vg_iadd X (nI (i + 4)) dL_law_1010 (nI_add _ _) ?_
  refine vg_sld X hX hbl (Nat.not_le.mpr hbl) rfl (show i + 4 < L by omega) (by omega) dL_law_1011 ?_
  refine vg_aload_n X dL_law_1012 5 rfl rfl ?_
  refine vg_iload X dL_law_1013 1 rfl ?_
  refine vg_iconst X (nI 5) dL_law_1015 (by decide) ?_
  refine vg_iadd X (nI (i + 5)) dL_law_1016 (nI_add _ _) ?_
  refine vg_sld X hX hbl (Nat.not_le.mpr hbl) rfl (show i + 5 < L by omega) (by omega) dL_law_1017 ?_
  refine vg_calll (vg_runV X (c_X7_walk l hM1 (cw_St_R hS) (u := xs (i + 1)) (a := xs (i + 2)) (b := xs (i + 3)) (t := xs (i + 4)) (i9 := xs (i + 5))) (cwV 5 X.2.2.2.2.1 gL_law_X7_walk rfl rfl rfl (by decide +kernel) ⟨Nat.le_of_ble_eq_true rfl, Nat.le_of_ble_eq_true rfl⟩) 29 hO1 rfl rfl rfl (Nat.le_of_ble_eq_true rfl) dL_law_1018 ⟨hc, hs⟩) (fun rr3 wz1 PP2 => ?_)
  obtain ⟨k, fO2, ek, hk4, hjo, hv⟩ := ag_walk (th := th) hS h55 H1 PP2
  subst ek
  obtain ⟨_, _, _, _, _, _, _, _, _, _, _, _, _, _, hS2, hM2, h552⟩ := id hjo
  obtain ⟨_, _, _, _, hO2, _⟩ := id hM2
  have hO3 := hO2
  unfold cm_O at hO3
  refine vg_lstore X [(6, .long rr3), (5, .int (nI k)), (4, .int (nI i)), (3, .ref aO), (2, .ref am), (1, .ref ax), (0, .ref b)] dL_law_1021 (by decide) rfl ?_
  refine vg_aload_n X dL_law_1023 4 rfl rfl ?_
  refine vg_calli (vg_runV X (c_X7_thrown l hO2) (cwV 0 X.2.2.2.2.1 gL_law_X7_thrown rfl rfl rfl (by decide +kernel) ⟨Nat.le_of_ble_eq_true rfl, Nat.le_of_ble_eq_true rfl⟩) 29 hO3 rfl rfl rfl (Nat.le_of_ble_eq_true rfl) dL_law_1024 ⟨hc, hs⟩) (fun rr6 wz4 PP5 => ?_)
  obtain ⟨ew, er⟩ := PP5
  rw [ew, er]
  refine vg_iload X dL_law_1027 1 rfl ?_
  refine vg_icmp_eq X 1034 dL_law_1029 (by decide) (fun c1029 => ?_) (fun c1029 => ?_)
  · have c1029 : k = k := (nI_eq (by omega) (by omega)).mp c1029
    skip
    refine vg_iload X dL_law_1034 1 rfl ?_
    refine vg_if_ne X 1050 dL_law_1036 (by decide) (fun c1036 => ?_) (fun c1036 => ?_)
    · have c1036 : ¬ k = 0 := fun z => c1036 ((vg_eq0 (by omega)).mpr z)
      refine vg_goto X 1363 dL_law_1050 (by decide) ?_
      refine vg_locals [2, 3, 4, 5, 6] rfl ?_
      exact kk _ _ _ hjo
    · have c1036 : k = 0 := (vg_eq0 (by omega)).mp c1036
      refine vg_aload_n X dL_law_1039 3 rfl rfl ?_
      refine vg_iconst X (nI 0) dL_law_1040 (by decide) ?_
      refine vg_lald X (fO2 0) 55 h552 rfl (by decide) (by decide) rfl dL_law_1041 ?_
      refine vg_lload X dL_law_1042 0 rfl ?_
      refine vg_lcmp_eq X 1050 dL_law_1044 dL_law_1045 (by decide) (fun c1044 => ?_) (fun c1044 => ?_)
      · skip
        refine vg_goto X 1363 dL_law_1050 (by decide) ?_
        refine vg_locals [2, 3, 4, 5, 6] rfl ?_
        exact kk _ _ _ hjo
      · exact absurd (hv c1036) c1044
  · have c1029 : ¬ k = k := fun z => c1029 ((nI_eq (by omega) (by omega)).mpr z)
    exact absurd rfl c1029
