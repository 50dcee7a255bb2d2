
set_option maxHeartbeats 4000000 in
set_option maxRecDepth 100000 in
theorem lc_rest {p : Program} (l : Launch) {e : Env} {s : State} {m : MethodId} {below : List Frame} {meth : Method} {c : Code} {D : va_G} {ay : Nat → ClassId} {tE mi b L : Nat} {xs : Nat → Int32} {Gx : State → Prop} {Q : State → Prop} {cells slots : Nat} {ax am aO : Nat} {aa : Nat → Nat} {th i : Nat} {fO : Nat → Int64} {ws : va_W} (hl9 : l.stackTraces = false) (X : vg_C D ay s.heap.size Gx p s m #[Value.ref b] meth c cL_law 8 RL wsL_law ret) (hG2 : ∀ U, Gx U → vh_G2 s.heap.size tE mi U) (hG3 : ∀ U, Gx U → vh_X U) (hWm9 : vs_W s) (hX : va_X b L xs s s.heap) (hbl : b < s.heap.size) (hL : L ≤ 3072) (hi : i + 6 ≤ L) (hc : cells + 10 ≤ 601024) (hs : slots + 400 ≤ 7293034) (hj : jo_S ay ws ax tE am aa th aO fO) (kk : ∀ (ws2 : va_W) (th2 : Nat) (fO2 : Nat → Int64), jo_S ay ws2 ax tE am aa th2 aO fO2 → vg_V D s.heap.size p l e room_1 s m #[Value.ref b] below meth c 8 (cells + 10) (slots + 400) Q [(4, .int (nI i)), (3, .ref aO), (2, .ref am), (1, .ref ax), (0, .ref b)] [] ws2 1363) : vg_V D s.heap.size p l e room_1 s m #[Value.ref b] below meth c 8 cells slots Q [(4, .int (nI i)), (3, .ref aO), (2, .ref am), (1, .ref ax), (0, .ref b)] [] ws 1053 := by
  obtain ⟨n, P, U, d, fr, to, pe, uv, ku, ks, kt, sk, wl, wp, hS, hM, h55⟩ := hj
  refine vg_aload_n X dL_law_1053 3 rfl rfl ?_
  refine vg_aload_n X dL_law_1054 4 rfl rfl ?_
  refine vg_iload X dL_law_1055 0 rfl ?_
  refine vg_iconst X (nI 1) dL_law_1057 (by decide) ?_
  refine vg_iadd X (nI (i + 1)) dL_law_1058 (nI_add _ _) ?_
  refine vg_sld X hX hbl (Nat.not_le.mpr hbl) rfl (show i + 1 < L by omega) (by omega) dL_law_1059 ?_
  refine vg_aload_n X dL_law_1060 4 rfl rfl ?_
  refine vg_iload X dL_law_1061 0 rfl ?_
  refine vg_iconst X (nI 2) dL_law_1063 (by decide) ?_
  refine vg_iadd X (nI (i + 2)) dL_law_1064 (nI_add _ _) ?_
  refine vg_sld X hX hbl (Nat.not_le.mpr hbl) rfl (show i + 2 < L by omega) (by omega) dL_law_1065 ?_
  refine vg_aload_n X dL_law_1066 4 rfl rfl ?_
  refine vg_iload X dL_law_1067 0 rfl ?_
  refine vg_iconst X (nI 3) dL_law_1069 (by decide) ?_
  refine vg_iadd X (nI (i + 3)) dL_law_1070 (nI_add _ _) ?_
  refine vg_sld X hX hbl (Nat.not_le.mpr hbl) rfl (show i + 3 < L by omega) (by omega) dL_law_1071 ?_
  refine vg_aload_n X dL_law_1072 4 rfl rfl ?_
  refine vg_iload X dL_law_1073 0 rfl ?_
  refine vg_iconst X (nI 4) dL_law_1075 (by decide) ?_
  refine vg_iadd X (nI (i + 4)) dL_law_1076 (nI_add _ _) ?_
  refine vg_sld X hX hbl (Nat.not_le.mpr hbl) rfl (show i + 4 < L by omega) (by omega) dL_law_1077 ?_
  refine vg_aload_n X dL_law_1078 4 rfl rfl ?_
  refine vg_iload X dL_law_1079 0 rfl ?_
  refine vg_iconst X (nI 5) dL_law_1081 (by decide) ?_
  refine vg_iadd X (nI (i + 5)) dL_law_1082 (nI_add _ _) ?_
  refine vg_sld X hX hbl (Nat.not_le.mpr hbl) rfl (show i + 5 < L by omega) (by omega) dL_law_1083 ?_
  refine vg_aload_n X dL_law_1084 1 rfl rfl ?_
  refine vg_calli (vg_runSW X vs_st hWm9 (c_L_rest l hl9 hG2 hG3 hS h55 (y := xs (i + 1)) (x := xs (i + 2)) (mm := xs (i + 3)) (b := xs (i + 4)) (t := xs (i + 5))) (vx_cwSW 7 X.2.2.2.2.1 gL_law_L_rest rfl rfl rfl (by decide +kernel) ⟨(Nat.le_of_ble_eq_true rfl), (Nat.le_of_ble_eq_true rfl)⟩) rfl rfl (Nat.le_of_ble_eq_true rfl) dL_law_1085 ⟨hc, hs⟩) (fun rr w1 H1 => ?_)
  have hM1 := cm_St_fr hM (af_rest H1)
  obtain ⟨fl1, fm1, fn1, fs1, hO1, _⟩ := id hM1
  unfold cm_O at hO1
  refine vg_istore X [(5, .int rr), (4, .int (nI i)), (3, .ref aO), (2, .ref am), (1, .ref ax), (0, .ref b)] dL_law_1088 (by decide) rfl ?_
  refine vg_aload_n X dL_law_1090 3 rfl rfl ?_
  refine vg_aload_n X dL_law_1091 5 rfl rfl ?_
  refine vg_iload X dL_law_1092 1 rfl ?_
  refine vg_iconst X (nI 1) dL_law_1094 (by decide) ?_
  refine vg_iadd X (nI (i + 1)) dL_law_1095 (nI_add _ _) ?_
  refine vg_sld X hX hbl (Nat.not_le.mpr hbl) rfl (show i + 1 < L by omega) (by omega) dL_law_1096 ?_
  refine vg_aload_n X dL_law_1097 5 rfl rfl ?_
  refine vg_iload X dL_law_1098 1 rfl ?_
  refine vg_iconst X (nI 2) dL_law_1100 (by decide) ?_
  refine vg_iadd X (nI (i + 2)) dL_law_1101 (nI_add _ _) ?_
  refine vg_sld X hX hbl (Nat.not_le.mpr hbl) rfl (show i + 2 < L by omega) (by omega) dL_law_1102 ?_
  refine vg_aload_n X dL_law_1103 5 rfl rfl ?_
  refine vg_iload X dL_law_1104 1 rfl ?_
  refine vg_iconst X (nI 3) dL_law_1106 (by decide) ?_
  refine vg_iadd X (nI (i + 3)) dL_law_1107 (nI_add _ _) ?_
  refine vg_sld X hX hbl (Nat.not_le.mpr hbl) rfl (show i + 3 < L by omega) (by omega) dL_law_1108 ?_
  refine vg_aload_n X dL_law_1109 5 rfl rfl ?_
  refine vg_iload X dL_law_1110 1 rfl ?_
  refine vg_iconst X (nI 4) dL_law_1112 (by decide) ?_
  refine vg_iadd X (nI (i + 4)) dL_law_1113 (nI_add _ _) ?_
  refine vg_sld X hX hbl (Nat.not_le.mpr hbl) rfl (show i + 4 < L by omega) (by omega) dL_law_1114 ?_
  refine vg_aload_n X dL_law_1115 5 rfl rfl ?_
  refine vg_iload X dL_law_1116 1 rfl ?_
  refine vg_iconst X (nI 5) dL_law_1118 (by decide) ?_
  refine vg_iadd X (nI (i + 5)) dL_law_1119 (nI_add _ _) ?_
  refine vg_sld X hX hbl (Nat.not_le.mpr hbl) rfl (show i + 5 < L by omega) (by omega) dL_law_1120 ?_
  refine vg_calll (vg_runV X (c_X7_rest l hM1 (cw_St_R hS) (u := xs (i + 1)) (x := xs (i + 2)) (mm := xs (i + 3)) (b := xs (i + 4)) (t := xs (i + 5))) (cwV 5 X.2.2.2.2.1 gL_law_X7_rest rfl rfl rfl (by decide +kernel) ⟨Nat.le_of_ble_eq_true rfl, Nat.le_of_ble_eq_true rfl⟩) 29 hO1 rfl rfl rfl (Nat.le_of_ble_eq_true rfl) dL_law_1121 ⟨hc, hs⟩) (fun rr3 wz1 PP2 => ?_)
  obtain ⟨k, fO2, ek, hk4, hjo, hv⟩ := ag_rest (th := th) hS h55 H1 PP2
  subst ek
  obtain ⟨_, _, _, _, _, _, _, _, _, _, _, _, _, _, hS2, hM2, h552⟩ := id hjo
  obtain ⟨_, _, _, _, hO2, _⟩ := id hM2
  have hO3 := hO2
  unfold cm_O at hO3
  refine vg_lstore X [(6, .long rr3), (5, .int (nI k)), (4, .int (nI i)), (3, .ref aO), (2, .ref am), (1, .ref ax), (0, .ref b)] dL_law_1124 (by decide) rfl ?_
  refine vg_aload_n X dL_law_1126 4 rfl rfl ?_
  refine vg_calli (vg_runV X (c_X7_thrown l hO2) (cwV 0 X.2.2.2.2.1 gL_law_X7_thrown rfl rfl rfl (by decide +kernel) ⟨Nat.le_of_ble_eq_true rfl, Nat.le_of_ble_eq_true rfl⟩) 29 hO3 rfl rfl rfl (Nat.le_of_ble_eq_true rfl) dL_law_1127 ⟨hc, hs⟩) (fun rr6 wz4 PP5 => ?_)
  obtain ⟨ew, er⟩ := PP5
  rw [ew, er]
  refine vg_iload X dL_law_1130 1 rfl ?_
  refine vg_icmp_eq X 1137 dL_law_1132 (by decide) (fun c1132 => ?_) (fun c1132 => ?_)
  · have c1132 : k = k := (nI_eq (by omega) (by omega)).mp c1132
    skip
    refine vg_iload X dL_law_1137 1 rfl ?_
    refine vg_if_ne X 1153 dL_law_1139 (by decide) (fun c1139 => ?_) (fun c1139 => ?_)
    · have c1139 : ¬ k = 0 := fun z => c1139 ((vg_eq0 (by omega)).mpr z)
      refine vg_goto X 1363 dL_law_1153 (by decide) ?_
      refine vg_locals [2, 3, 4, 5, 6] rfl ?_
      exact kk _ _ _ hjo
    · have c1139 : k = 0 := (vg_eq0 (by omega)).mp c1139
      refine vg_aload_n X dL_law_1142 3 rfl rfl ?_
      refine vg_iconst X (nI 0) dL_law_1143 (by decide) ?_
      refine vg_lald X (fO2 0) 55 h552 rfl (by decide) (by decide) rfl dL_law_1144 ?_
      refine vg_lload X dL_law_1145 0 rfl ?_
      refine vg_lcmp_eq X 1153 dL_law_1147 dL_law_1148 (by decide) (fun c1147 => ?_) (fun c1147 => ?_)
      · skip
        refine vg_goto X 1363 dL_law_1153 (by decide) ?_
        refine vg_locals [2, 3, 4, 5, 6] rfl ?_
        exact kk _ _ _ hjo
      · exact absurd (hv c1139) c1147
  · have c1132 : ¬ k = k := fun z => c1132 ((nI_eq (by omega) (by omega)).mpr z)
    exact absurd rfl c1132
set_option maxHeartbeats 4000000 in
set_option maxRecDepth 100000 in
theorem lc_nearest {p : Program} (l : Launch) {e : Env} {s : State} {m : MethodId} {below : List Frame} {meth : Method} {c : Code} {D : va_G} {ay : Nat → ClassId} {tE mi b L : Nat} {xs : Nat → Int32} {Gx : State → Prop} {Q : State → Prop} {cells slots : Nat} {ax am aO : Nat} {aa : Nat → Nat} {th i : Nat} {fO : Nat → Int64} {ws : va_W} (hl9 : l.stackTraces = false) (X : vg_C D ay s.heap.size Gx p s m #[Value.ref b] meth c cL_law 8 RL wsL_law ret) (hG2 : ∀ U, Gx U → vh_G2 s.heap.size tE mi U) (hG3 : ∀ U, Gx U → vh_X U) (hWm9 : vs_W s) (hX : va_X b L xs s s.heap) (hbl : b < s.heap.size) (hL : L ≤ 3072) (hi : i + 6 ≤ L) (hc : cells + 10 ≤ 601024) (hs : slots + 400 ≤ 7293034) (hj : jo_S ay ws ax tE am aa th aO fO) (kk : ∀ (ws2 : va_W) (th2 : Nat) (fO2 : Nat → Int64), jo_S ay ws2 ax tE am aa th2 aO fO2 → vg_V D s.heap.size p l e room_1 s m #[Value.ref b] below meth c 8 (cells + 10) (slots + 400) Q [(4, .int (nI i)), (3, .ref aO), (2, .ref am), (1, .ref ax), (0, .ref b)] [] ws2 1363) : vg_V D s.heap.size p l e room_1 s m #[Value.ref b] below meth c 8 cells slots Q [(4, .int (nI i)), (3, .ref aO), (2, .ref am), (1, .ref ax), (0, .ref b)] [] ws 1156 := by
  obtain ⟨n, P, U, d, fr, to, pe, uv, ku, ks, kt, sk, wl, wp, hS, hM, h55⟩ := hj
  refine vg_aload_n X dL_law_1156 3 rfl rfl ?_
  refine vg_aload_n X dL_law_1157 4 rfl rfl ?_
  refine vg_iload X dL_law_1158 0 rfl ?_
  refine vg_iconst X (nI 1) dL_law_1160 (by decide) ?_
  refine vg_iadd X (nI (i + 1)) dL_law_1161 (nI_add _ _) ?_
  refine vg_sld X hX hbl (Nat.not_le.mpr hbl) rfl (show i + 1 < L by omega) (by omega) dL_law_1162 ?_
  refine vg_aload_n X dL_law_1163 4 rfl rfl ?_
  refine vg_iload X dL_law_1164 0 rfl ?_
  refine vg_iconst X (nI 2) dL_law_1166 (by decide) ?_
  refine vg_iadd X (nI (i + 2)) dL_law_1167 (nI_add _ _) ?_
  refine vg_sld X hX hbl (Nat.not_le.mpr hbl) rfl (show i + 2 < L by omega) (by omega) dL_law_1168 ?_
  refine vg_aload_n X dL_law_1169 1 rfl rfl ?_
  refine vg_calli (vg_runSW X vs_st hWm9 (c_L_nearest l hl9 hG2 hG3 hS h55 (b := xs (i + 1)) (t := xs (i + 2))) (vx_cwSW 4 X.2.2.2.2.1 gL_law_L_nearest rfl rfl rfl (by decide +kernel) ⟨(Nat.le_of_ble_eq_true rfl), (Nat.le_of_ble_eq_true rfl)⟩) rfl rfl (Nat.le_of_ble_eq_true rfl) dL_law_1170 ⟨hc, hs⟩) (fun rr w1 H1 => ?_)
  have hM1 := cm_St_fr hM (af_nearest H1)
  obtain ⟨fl1, fm1, fn1, fs1, hO1, _⟩ := id hM1
  unfold cm_O at hO1
  refine vg_istore X [(5, .int rr), (4, .int (nI i)), (3, .ref aO), (2, .ref am), (1, .ref ax), (0, .ref b)] dL_law_1173 (by decide) rfl ?_
  refine vg_aload_n X dL_law_1175 3 rfl rfl ?_
  refine vg_aload_n X dL_law_1176 5 rfl rfl ?_
  refine vg_iload X dL_law_1177 1 rfl ?_
  refine vg_iconst X (nI 1) dL_law_1179 (by decide) ?_
  refine vg_iadd X (nI (i + 1)) dL_law_1180 (nI_add _ _) ?_
  refine vg_sld X hX hbl (Nat.not_le.mpr hbl) rfl (show i + 1 < L by omega) (by omega) dL_law_1181 ?_
  refine vg_aload_n X dL_law_1182 5 rfl rfl ?_
  refine vg_iload X dL_law_1183 1 rfl ?_
  refine vg_iconst X (nI 2) dL_law_1185 (by decide) ?_
  refine vg_iadd X (nI (i + 2)) dL_law_1186 (nI_add _ _) ?_
  refine vg_sld X hX hbl (Nat.not_le.mpr hbl) rfl (show i + 2 < L by omega) (by omega) dL_law_1187 ?_
  refine vg_calli (vg_runV X (c_X7_nearest l hM1 (cw_St_R hS) (b := xs (i + 1)) (t := xs (i + 2))) (cwV 2 X.2.2.2.2.1 gL_law_X7_nearest rfl rfl rfl (by decide +kernel) ⟨Nat.le_of_ble_eq_true rfl, Nat.le_of_ble_eq_true rfl⟩) 29 hO1 rfl rfl rfl (Nat.le_of_ble_eq_true rfl) dL_law_1188 ⟨hc, hs⟩) (fun rr3 wz1 PP2 => ?_)
  obtain ⟨k, fO2, ek, hk4, hjo, hv⟩ := ag_nearest (th := th) hS h55 H1 PP2
  subst ek
  obtain ⟨_, _, _, _, _, _, _, _, _, _, _, _, _, _, hS2, hM2, h552⟩ := id hjo
  obtain ⟨_, _, _, _, hO2, _⟩ := id hM2
  have hO3 := hO2
  unfold cm_O at hO3
  refine vg_istore X [(6, .int rr3), (5, .int (nI k)), (4, .int (nI i)), (3, .ref aO), (2, .ref am), (1, .ref ax), (0, .ref b)] dL_law_1191 (by decide) rfl ?_
  refine vg_aload_n X dL_law_1193 4 rfl rfl ?_
  refine vg_calli (vg_runV X (c_X7_thrown l hO2) (cwV 0 X.2.2.2.2.1 gL_law_X7_thrown rfl rfl rfl (by decide +kernel) ⟨Nat.le_of_ble_eq_true rfl, Nat.le_of_ble_eq_true rfl⟩) 29 hO3 rfl rfl rfl (Nat.le_of_ble_eq_true rfl) dL_law_1194 ⟨hc, hs⟩) (fun rr6 wz4 PP5 => ?_)
  obtain ⟨ew, er⟩ := PP5
  rw [ew, er]
  refine vg_iload X dL_law_1197 1 rfl ?_
  refine vg_icmp_eq X 1204 dL_law_1199 (by decide) (fun c1199 => ?_) (fun c1199 => ?_)
  · have c1199 : k = k := (nI_eq (by omega) (by omega)).mp c1199
    skip
    refine vg_iload X dL_law_1204 1 rfl ?_
    refine vg_if_ne X 1221 dL_law_1206 (by decide) (fun c1206 => ?_) (fun c1206 => ?_)
    · have c1206 : ¬ k = 0 := fun z => c1206 ((vg_eq0 (by omega)).mpr z)
      refine vg_goto X 1363 dL_law_1221 (by decide) ?_
      refine vg_locals [2, 3, 4, 5, 6] rfl ?_
      exact kk _ _ _ hjo
    · have c1206 : k = 0 := (vg_eq0 (by omega)).mp c1206
      refine vg_aload_n X dL_law_1209 3 rfl rfl ?_
      refine vg_iconst X (nI 0) dL_law_1210 (by decide) ?_
      refine vg_lald X (fO2 0) 55 h552 rfl (by decide) (by decide) rfl dL_law_1211 ?_
      refine vg_iload X dL_law_1212 0 rfl ?_
      refine vg_i2l X ((rr3).toInt64) dL_law_1214 rfl ?_
      refine vg_lcmp_eq X 1221 dL_law_1215 dL_law_1216 (by decide) (fun c1215 => ?_) (fun c1215 => ?_)
      · skip
        refine vg_goto X 1363 dL_law_1221 (by decide) ?_
        refine vg_locals [2, 3, 4, 5, 6] rfl ?_
        exact kk _ _ _ hjo
      · exact absurd (hv c1206) c1215
  · have c1199 : ¬ k = k := fun z => c1199 ((nI_eq (by omega) (by omega)).mpr z)
    exact absurd rfl c1199
set_option maxHeartbeats 4000000 in
set_option maxRecDepth 100000 in
theorem lc_keep {p : Program} (l : Launch) {e : Env} {s : State} {m : MethodId} {below : List Frame} {meth : Method} {c : Code} {D : va_G} {ay : Nat → ClassId} {tE mi b L : Nat} {xs : Nat → Int32} {Gx : State → Prop} {Q : State → Prop} {cells slots : Nat} {ax am aO : Nat} {aa : Nat → Nat} {th i : Nat} {fO : Nat → Int64} {ws : va_W} (hl9 : l.stackTraces = false) (X : vg_C D ay s.heap.size Gx p s m #[Value.ref b] meth c cL_law 8 RL wsL_law ret) (hG2 : ∀ U, Gx U → vh_G2 s.heap.size tE mi U) (hG3 : ∀ U, Gx U → vh_X U) (hWm9 : vs_W s) (hX : va_X b L xs s s.heap) (hbl : b < s.heap.size) (hL : L ≤ 3072) (hi : i + 6 ≤ L) (hc : cells + 10 ≤ 601024) (hs : slots + 400 ≤ 7293034) (hj : jo_S ay ws ax tE am aa th aO fO) (kk : ∀ (ws2 : va_W) (th2 : Nat) (fO2 : Nat → Int64), jo_S ay ws2 ax tE am aa th2 aO fO2 → vg_V D s.heap.size p l e room_1 s m #[Value.ref b] below meth c 8 (cells + 10) (slots + 400) Q [(4, .int (nI i)), (3, .ref aO), (2, .ref am), (1, .ref ax), (0, .ref b)] [] ws2 1363) : vg_V D s.heap.size p l e room_1 s m #[Value.ref b] below meth c 8 cells slots Q [(4, .int (nI i)), (3, .ref aO), (2, .ref am), (1, .ref ax), (0, .ref b)] [] ws 1224 := by
  obtain ⟨n, P, U, d, fr, to, pe, uv, ku, ks, kt, sk, wl, wp, hS, hM, h55⟩ := hj
  refine vg_aload_n X dL_law_1224 3 rfl rfl ?_
  refine vg_aload_n X dL_law_1225 4 rfl rfl ?_
  refine vg_iload X dL_law_1226 0 rfl ?_
  refine vg_iconst X (nI 1) dL_law_1228 (by decide) ?_
  refine vg_iadd X (nI (i + 1)) dL_law_1229 (nI_add _ _) ?_
  refine vg_sld X hX hbl (Nat.not_le.mpr hbl) rfl (show i + 1 < L by omega) (by omega) dL_law_1230 ?_
  refine vg_aload_n X dL_law_1231 4 rfl rfl ?_
  refine vg_iload X dL_law_1232 0 rfl ?_
  refine vg_iconst X (nI 2) dL_law_1234 (by decide) ?_
  refine vg_iadd X (nI (i + 2)) dL_law_1235 (nI_add _ _) ?_
  refine vg_sld X hX hbl (Nat.not_le.mpr hbl) rfl (show i + 2 < L by omega) (by omega) dL_law_1236 ?_
  refine vg_aload_n X dL_law_1237 4 rfl rfl ?_
  refine vg_iload X dL_law_1238 0 rfl ?_
  refine vg_iconst X (nI 3) dL_law_1240 (by decide) ?_
  refine vg_iadd X (nI (i + 3)) dL_law_1241 (nI_add _ _) ?_
  refine vg_sld X hX hbl (Nat.not_le.mpr hbl) rfl (show i + 3 < L by omega) (by omega) dL_law_1242 ?_
  refine vg_aload_n X dL_law_1243 4 rfl rfl ?_
  refine vg_iload X dL_law_1244 0 rfl ?_
  refine vg_iconst X (nI 4) dL_law_1246 (by decide) ?_
  refine vg_iadd X (nI (i + 4)) dL_law_1247 (nI_add _ _) ?_
  refine vg_sld X hX hbl (Nat.not_le.mpr hbl) rfl (show i + 4 < L by omega) (by omega) dL_law_1248 ?_
  refine vg_calli (vg_runSW X vs_st hWm9 (c_L_keep l hl9 hG2 hG3 hS h55 (k := xs (i + 1)) (v := xs (i + 2)) (y := xs (i + 3)) (t := xs (i + 4))) (vx_cwSW 5 X.2.2.2.2.1 gL_law_L_keep rfl rfl rfl (by decide +kernel) ⟨(Nat.le_of_ble_eq_true rfl), (Nat.le_of_ble_eq_true rfl)⟩) rfl rfl (Nat.le_of_ble_eq_true rfl) dL_law_1249 ⟨hc, hs⟩) (fun rr w1 H1 => ?_)
  have hM1 := cm_St_fr hM (af_keep H1)
  obtain ⟨fl1, fm1, fn1, fs1, hO1, _⟩ := id hM1
  unfold cm_O at hO1
  refine vg_istore X [(5, .int rr), (4, .int (nI i)), (3, .ref aO), (2, .ref am), (1, .ref ax), (0, .ref b)] dL_law_1252 (by decide) rfl ?_
  refine vg_aload_n X dL_law_1254 3 rfl rfl ?_
  refine vg_aload_n X dL_law_1255 5 rfl rfl ?_
  refine vg_iload X dL_law_1256 1 rfl ?_
  refine vg_iconst X (nI 1) dL_law_1258 (by decide) ?_
  refine vg_iadd X (nI (i + 1)) dL_law_1259 (nI_add _ _) ?_
  refine vg_sld X hX hbl (Nat.not_le.mpr hbl) rfl (show i + 1 < L by omega) (by omega) dL_law_1260 ?_
  refine vg_aload_n X dL_law_1261 5 rfl rfl ?_
  refine vg_iload X dL_law_1262 1 rfl ?_
  refine vg_iconst X (nI 2) dL_law_1264 (by decide) ?_
  refine vg_iadd X (nI (i + 2)) dL_law_1265 (nI_add _ _) ?_
  refine vg_sld X hX hbl (Nat.not_le.mpr hbl) rfl (show i + 2 < L by omega) (by omega) dL_law_1266 ?_
  refine vg_aload_n X dL_law_1267 5 rfl rfl ?_
  refine vg_iload X dL_law_1268 1 rfl ?_
  refine vg_iconst X (nI 3) dL_law_1270 (by decide) ?_
  refine vg_iadd X (nI (i + 3)) dL_law_1271 (nI_add _ _) ?_
  refine vg_sld X hX hbl (Nat.not_le.mpr hbl) rfl (show i + 3 < L by omega) (by omega) dL_law_1272 ?_
  refine vg_aload_n X dL_law_1273 5 rfl rfl ?_
  refine vg_iload X dL_law_1274 1 rfl ?_
  refine vg_iconst X (nI 4) dL_law_1276 (by decide) ?_
  refine vg_iadd X (nI (i + 4)) dL_law_1277 (nI_add _ _) ?_
  refine vg_sld X hX hbl (Nat.not_le.mpr hbl) rfl (show i + 4 < L by omega) (by omega) dL_law_1278 ?_
  refine vg_callv (vg_runV X (c_X7_keep l hM1 (cw_St_R hS) (k := xs (i + 1)) (v := xs (i + 2)) (u := xs (i + 3)) (t := xs (i + 4))) (cwV 4 X.2.2.2.2.1 gL_law_X7_keep rfl rfl rfl (by decide +kernel) ⟨Nat.le_of_ble_eq_true rfl, Nat.le_of_ble_eq_true rfl⟩) 29 hO1 rfl rfl rfl (Nat.le_of_ble_eq_true rfl) dL_law_1279 ⟨hc, hs⟩) (fun wz1 PP2 => ?_)
  obtain ⟨k, fO2, ek, hk4, hjo⟩ := ag_keep (th := th) hS h55 H1 PP2
  subst ek
  obtain ⟨_, _, _, _, _, _, _, _, _, _, _, _, _, _, hS2, hM2, h552⟩ := id hjo
  obtain ⟨_, _, _, _, hO2, _⟩ := id hM2
  have hO3 := hO2
  unfold cm_O at hO3
  refine vg_aload_n X dL_law_1282 3 rfl rfl ?_
  refine vg_calli (vg_runV X (c_X7_thrown l hO2) (cwV 0 X.2.2.2.2.1 gL_law_X7_thrown rfl rfl rfl (by decide +kernel) ⟨Nat.le_of_ble_eq_true rfl, Nat.le_of_ble_eq_true rfl⟩) 29 hO3 rfl rfl rfl (Nat.le_of_ble_eq_true rfl) dL_law_1283 ⟨hc, hs⟩) (fun rr6 wz4 PP5 => ?_)
  obtain ⟨ew, er⟩ := PP5
  rw [ew, er]
  refine vg_iload X dL_law_1286 0 rfl ?_
  refine vg_icmp_eq X 1293 dL_law_1288 (by decide) (fun c1288 => ?_) (fun c1288 => ?_)
  · have c1288 : k = k := (nI_eq (by omega) (by omega)).mp c1288
    skip
    refine vg_goto X 1363 dL_law_1293 (by decide) ?_
    refine vg_locals [1, 2, 3, 4, 5] rfl ?_
    exact kk _ _ _ hjo
  · have c1288 : ¬ k = k := fun z => c1288 ((nI_eq (by omega) (by omega)).mpr z)
    exact absurd rfl c1288
set_option maxHeartbeats 4000000 in
set_option maxRecDepth 100000 in
theorem lc_kept {p : Program} (l : Launch) {e : Env} {s : State} {m : MethodId} {below : List Frame} {meth : Method} {c : Code} {D : va_G} {ay : Nat → ClassId} {tE mi b L : Nat} {xs : Nat → Int32} {Gx : State → Prop} {Q : State → Prop} {cells slots : Nat} {ax am aO : Nat} {aa : Nat → Nat} {th i : Nat} {fO : Nat → Int64} {ws : va_W} (hl9 : l.stackTraces = false) (X : vg_C D ay s.heap.size Gx p s m #[Value.ref b] meth c cL_law 8 RL wsL_law ret) (hG2 : ∀ U, Gx U → vh_G2 s.heap.size tE mi U) (hG3 : ∀ U, Gx U → vh_X U) (hWm9 : vs_W s) (hX : va_X b L xs s s.heap) (hbl : b < s.heap.size) (hL : L ≤ 3072) (hi : i + 6 ≤ L) (hc : cells + 10 ≤ 601024) (hs : slots + 400 ≤ 7293034) (hj : jo_S ay ws ax tE am aa th aO fO) (kk : ∀ (ws2 : va_W) (th2 : Nat) (fO2 : Nat → Int64), jo_S ay ws2 ax tE am aa th2 aO fO2 → vg_V D s.heap.size p l e room_1 s m #[Value.ref b] below meth c 8 (cells + 10) (slots + 400) Q [(4, .int (nI i)), (3, .ref aO), (2, .ref am), (1, .ref ax), (0, .ref b)] [] ws2 1363) : vg_V D s.heap.size p l e room_1 s m #[Value.ref b] below meth c 8 cells slots Q [(4, .int (nI i)), (3, .ref aO), (2, .ref am), (1, .ref ax), (0, .ref b)] [] ws 1296 := by
  obtain ⟨n, P, U, d, fr, to, pe, uv, ku, ks, kt, sk, wl, wp, hS, hM, h55⟩ := hj
  refine vg_aload_n X dL_law_1296 3 rfl rfl ?_
  refine vg_aload_n X dL_law_1297 4 rfl rfl ?_
  refine vg_iload X dL_law_1298 0 rfl ?_
  refine vg_iconst X (nI 1) dL_law_1300 (by decide) ?_
  refine vg_iadd X (nI (i + 1)) dL_law_1301 (nI_add _ _) ?_
  refine vg_sld X hX hbl (Nat.not_le.mpr hbl) rfl (show i + 1 < L by omega) (by omega) dL_law_1302 ?_
  refine vg_aload_n X dL_law_1303 4 rfl rfl ?_
  refine vg_iload X dL_law_1304 0 rfl ?_
  refine vg_iconst X (nI 2) dL_law_1306 (by decide) ?_
  refine vg_iadd X (nI (i + 2)) dL_law_1307 (nI_add _ _) ?_
  refine vg_sld X hX hbl (Nat.not_le.mpr hbl) rfl (show i + 2 < L by omega) (by omega) dL_law_1308 ?_
  refine vg_aload_n X dL_law_1309 1 rfl rfl ?_
  refine vg_calli (vg_runSW X vs_st hWm9 (c_L_kept l hl9 hG2 hG3 hS h55 (k := xs (i + 1)) (v := xs (i + 2))) (vx_cwSW 4 X.2.2.2.2.1 gL_law_L_kept rfl rfl rfl (by decide +kernel) ⟨(Nat.le_of_ble_eq_true rfl), (Nat.le_of_ble_eq_true rfl)⟩) rfl rfl (Nat.le_of_ble_eq_true rfl) dL_law_1310 ⟨hc, hs⟩) (fun rr w1 H1 => ?_)
  have hM1 := cm_St_fr hM (af_kept H1)
  obtain ⟨fl1, fm1, fn1, fs1, hO1, _⟩ := id hM1
  unfold cm_O at hO1
  refine vg_istore X [(5, .int rr), (4, .int (nI i)), (3, .ref aO), (2, .ref am), (1, .ref ax), (0, .ref b)] dL_law_1313 (by decide) rfl ?_
  refine vg_aload_n X dL_law_1315 3 rfl rfl ?_
  refine vg_aload_n X dL_law_1316 5 rfl rfl ?_
  refine vg_iload X dL_law_1317 1 rfl ?_
  refine vg_iconst X (nI 1) dL_law_1319 (by decide) ?_
  refine vg_iadd X (nI (i + 1)) dL_law_1320 (nI_add _ _) ?_
  refine vg_sld X hX hbl (Nat.not_le.mpr hbl) rfl (show i + 1 < L by omega) (by omega) dL_law_1321 ?_
  refine vg_aload_n X dL_law_1322 5 rfl rfl ?_
  refine vg_iload X dL_law_1323 1 rfl ?_
  refine vg_iconst X (nI 2) dL_law_1325 (by decide) ?_
  refine vg_iadd X (nI (i + 2)) dL_law_1326 (nI_add _ _) ?_
  refine vg_sld X hX hbl (Nat.not_le.mpr hbl) rfl (show i + 2 < L by omega) (by omega) dL_law_1327 ?_
  refine vg_calll (vg_runV X (c_X7_kept l hM1 (cw_St_R hS) (k := xs (i + 1)) (v := xs (i + 2))) (cwV 2 X.2.2.2.2.1 gL_law_X7_kept rfl rfl rfl (by decide +kernel) ⟨Nat.le_of_ble_eq_true rfl, Nat.le_of_ble_eq_true rfl⟩) 29 hO1 rfl rfl rfl (Nat.le_of_ble_eq_true rfl) dL_law_1328 ⟨hc, hs⟩) (fun rr3 wz1 PP2 => ?_)
  obtain ⟨k, fO2, ek, hk4, hjo, hv⟩ := ag_kept (th := th) hS h55 H1 PP2
  subst ek
  obtain ⟨_, _, _, _, _, _, _, _, _, _, _, _, _, _, hS2, hM2, h552⟩ := id hjo
  obtain ⟨_, _, _, _, hO2, _⟩ := id hM2
  have hO3 := hO2
  unfold cm_O at hO3
  refine vg_lstore X [(6, .long rr3), (5, .int (nI k)), (4, .int (nI i)), (3, .ref aO), (2, .ref am), (1, .ref ax), (0, .ref b)] dL_law_1331 (by decide) rfl ?_
  refine vg_aload_n X dL_law_1333 4 rfl rfl ?_
  refine vg_calli (vg_runV X (c_X7_thrown l hO2) (cwV 0 X.2.2.2.2.1 gL_law_X7_thrown rfl rfl rfl (by decide +kernel) ⟨Nat.le_of_ble_eq_true rfl, Nat.le_of_ble_eq_true rfl⟩) 29 hO3 rfl rfl rfl (Nat.le_of_ble_eq_true rfl) dL_law_1334 ⟨hc, hs⟩) (fun rr6 wz4 PP5 => ?_)
  obtain ⟨ew, er⟩ := PP5
  rw [ew, er]
  refine vg_iload X dL_law_1337 1 rfl ?_
  refine vg_icmp_eq X 1344 dL_law_1339 (by decide) (fun c1339 => ?_) (fun c1339 => ?_)
  · have c1339 : k = k := (nI_eq (by omega) (by omega)).mp c1339
    skip
    refine vg_iload X dL_law_1344 1 rfl ?_
    refine vg_if_ne X 1360 dL_law_1346 (by decide) (fun c1346 => ?_) (fun c1346 => ?_)
    · have c1346 : ¬ k = 0 := fun z => c1346 ((vg_eq0 (by omega)).mpr z)
      refine vg_goto X 1363 dL_law_1360 (by decide) ?_
      refine vg_locals [2, 3, 4, 5, 6] rfl ?_
      exact kk _ _ _ hjo
    · have c1346 : k = 0 := (vg_eq0 (by omega)).mp c1346
      refine vg_aload_n X dL_law_1349 3 rfl rfl ?_
      refine vg_iconst X (nI 0) dL_law_1350 (by decide) ?_
      refine vg_lald X (fO2 0) 55 h552 rfl (by decide) (by decide) rfl dL_law_1351 ?_
      refine vg_lload X dL_law_1352 0 rfl ?_
      refine vg_lcmp_eq X 1360 dL_law_1354 dL_law_1355 (by decide) (fun c1354 => ?_) (fun c1354 => ?_)
      · skip
        refine vg_goto X 1363 dL_law_1360 (by decide) ?_
        refine vg_locals [2, 3, 4, 5, 6] rfl ?_
        exact kk _ _ _ hjo
      · exact absurd (hv c1346) c1354
  · have c1339 : ¬ k = k := fun z => c1339 ((nI_eq (by omega) (by omega)).mpr z)
    exact absurd rfl c1339
