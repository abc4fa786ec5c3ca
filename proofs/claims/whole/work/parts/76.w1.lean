section LW
variable {l : Launch} {φ : Fx} {D : va_G} {a : Nat → ClassId} {E0 x o m od b L i kc ns : Nat} {am : Nat → Nat} {w : va_W} {f : Nat → Int64} {fd : Nat → UInt64} {I : Nat → Nat → Int32} {e : Int64} {xs : Nat → Int32} {pc : Nat} {Lc : List (Option Value)} {rest : List Value} {ws : va_W}
set_option maxRecDepth 100000 in
set_option maxHeartbeats 4000000 in
theorem lc_setFader (hl : l.stackTraces = false) (C : Cb (gm D a E0) l φ cL_law 10 RL wsL_law room_1) (hS0 : lS φ b L xs) (hi : i + 6 ≤ L) (hL : L ≤ 3072) (hkc : kc + 4 ≤ 639004) (hns : ns + 48 ≤ 7099219) (h : RW a E0 x I e w) (kk : ∀ (w1 : va_W) (f1 : Nat → Int64) (fd1 : Nat → UInt64) (J : Nat → Nat → Int32) (e2 : Int64), RW a E0 x J e2 w1 → X φ 2274 [some (.ref b), some (.ref x), some (.ref m), some (.ref o), some (.ref od), some (.int (nI i)), none, none, none, none] [] (lW o m od am a w1 f1 fd1 J e2) (kc + 4) (ns + 48)) : X φ 1095 [some (.ref b), some (.ref x), some (.ref m), some (.ref o), some (.ref od), some (.int (nI i)), none, none, none, none] [] (lW o m od am a w f fd I e) kc ns := by
  obtain ⟨q9, fs9, hq9⟩ := h.xq
  refine x_aload_n C 1096 dL_law_1095 rfl rfl ?_
  refine x_aload_n C 1097 dL_law_1096 rfl rfl ?_
  refine x_iload C 1099 dL_law_1097 rfl rfl ?_
  refine x_iconst (v := (1)) C 1100 dL_law_1099 (by decide) rfl ?_
  refine x_iadd C 1101 dL_law_1100 rfl ?_
  refine x_top (show _ = nI (i + 1) from nI_add _ _) ?_
  refine x_sld hS0 C 1102 (vp_in_nI (by omega) (by omega)) dL_law_1101 rfl ?_
  refine x_top (show _ = xs (i + 1) from by rw [nI_clamp (by omega)]) ?_
  refine x_aload_n C 1103 dL_law_1102 rfl rfl ?_
  refine x_iload C 1105 dL_law_1103 rfl rfl ?_
  refine x_iconst (v := (2)) C 1106 dL_law_1105 (by decide) rfl ?_
  refine x_iadd C 1107 dL_law_1106 rfl ?_
  refine x_top (show _ = nI (i + 2) from nI_add _ _) ?_
  refine x_sld hS0 C 1108 (vp_in_nI (by omega) (by omega)) dL_law_1107 rfl ?_
  refine x_top (show _ = xs (i + 2) from by rw [nI_clamp (by omega)]) ?_
  obtain ⟨k, b2, J, e2, rmM, ⟨hr1, hr2, hr3, hr4⟩, hH, hM, hk⟩ := sm_setFader (m := m) (am := am) (o := o) (f := f) hl h (xs (i + 1)) (xs (i + 2))
  refine x_aload_n C 1109 dL_law_1108 rfl rfl ?_
  refine x_callW1_i C 1112 (kc + 4) (ns + 48) 4 hH rfl gL_law_L_setFader ⟨by decide, by decide, rfl⟩ ⟨Nat.le_of_ble_eq_true rfl, Nat.le_of_ble_eq_true rfl⟩ rfl rfl (Nat.le_of_ble_eq_true rfl) ⟨show kc + 4 ≤ 639004 by omega, show ns + 48 ≤ 7099219 by omega⟩ dL_law_1109 rfl rfl rfl (fun v1 w2 hv1 => ?_)
  obtain ⟨rfl, w1, f1, rfl, hRW1, hf1⟩ := hv1
  refine x_istore C 1114 dL_law_1112 (by decide) rfl rfl ?_
  refine x_aload_n C 1115 dL_law_1114 rfl rfl ?_
  refine x_aload_n C 1116 dL_law_1115 rfl rfl ?_
  refine x_iload C 1118 dL_law_1116 rfl rfl ?_
  refine x_iconst (v := (1)) C 1119 dL_law_1118 (by decide) rfl ?_
  refine x_iadd C 1120 dL_law_1119 rfl ?_
  refine x_top (show _ = nI (i + 1) from nI_add _ _) ?_
  refine x_sld hS0 C 1121 (vp_in_nI (by omega) (by omega)) dL_law_1120 rfl ?_
  refine x_top (show _ = xs (i + 1) from by rw [nI_clamp (by omega)]) ?_
  refine x_aload_n C 1122 dL_law_1121 rfl rfl ?_
  refine x_iload C 1124 dL_law_1122 rfl rfl ?_
  refine x_iconst (v := (2)) C 1125 dL_law_1124 (by decide) rfl ?_
  refine x_iadd C 1126 dL_law_1125 rfl ?_
  refine x_top (show _ = nI (i + 2) from nI_add _ _) ?_
  refine x_sld hS0 C 1127 (vp_in_nI (by omega) (by omega)) dL_law_1126 rfl ?_
  refine x_top (show _ = xs (i + 2) from by rw [nI_clamp (by omega)]) ?_
  refine x_perm lp_1 ?_
  refine x_callV1_i C 1130 (kc + 4) (ns + 48) 0 10 2 hM rfl gL_law_X6_setFader ⟨rfl, by decide, by decide, rfl⟩ ⟨show rmM.frames + 1 ≤ 2048 by omega, show 8 + (5 + 11) + rmM.locals ≤ 94400 by omega⟩ rfl rfl rfl rfl (Nat.le_of_ble_eq_true rfl) ⟨show kc + 4 + rmM.cells ≤ 639004 by omega, show ns + 48 + rmM.slots ≤ 7099219 by omega⟩ dL_law_1127 rfl (by omega) (by omega) (fun v2 w2 hv2 => ?_)
  obtain ⟨rfl, rfl⟩ := hv2
  refine x_perm lp_2 ?_
  refine x_istore C 1132 dL_law_1130 (by decide) rfl rfl ?_
  refine x_aload_n C 1133 dL_law_1132 rfl rfl ?_
  refine x_perm lp_1 ?_
  refine x_callV1_i C 1136 (kc + 4) (ns + 48) 0 10 0 (cM_thrown hl) rfl gL_law_X6_thrown ⟨rfl, by decide, by decide, rfl⟩ ⟨Nat.le_of_ble_eq_true rfl, Nat.le_of_ble_eq_true rfl⟩ rfl rfl rfl rfl (Nat.le_of_ble_eq_true rfl) ⟨show kc + 4 + 0 ≤ 639004 by omega, show ns + 48 + 0 ≤ 7099219 by omega⟩ dL_law_1133 rfl rfl rfl (fun v3 w3 hv3 => ?_)
  obtain ⟨rfl, rfl⟩ := hv3
  refine x_perm lp_2 ?_
  refine x_top hk ?_
  refine x_iload C 1138 dL_law_1136 rfl rfl ?_
  refine x_icmp_eq C 1143 1141 dL_law_1138 (by decide) rfl (fun _ => ?_) (fun z => absurd rfl z)
  refine x_iload C 1145 dL_law_1143 rfl rfl ?_
  refine x_if_ne C 1160 1148 dL_law_1145 (by decide) rfl (fun z => ?_) (fun z => ?_)
  · refine x_goto C 2274 dL_law_1160 (by decide) ?_
    refine x_dropn 6 ?_
    refine x_dropn 7 ?_
    refine x_ls (show _ = [some (.ref b), some (.ref x), some (.ref m), some (.ref o), some (.ref od), some (.int (nI i)), none, none, none, none] from rfl) ?_
    exact kk w1 f1 fd J e2 hRW1
  · refine x_aload_n C 1149 dL_law_1148 rfl rfl ?_
    refine x_iconst (v := (0)) C 1150 dL_law_1149 (by decide) rfl ?_
    refine x_lald C 1151 w1.length 3 lw_o rfl vp_in0 dL_law_1150 rfl ?_
    refine x_topq (show _ = Value.long v2.toInt64 from congrArg Value.long (hf1 z)) ?_
    refine x_iload C 1153 dL_law_1151 rfl rfl ?_
    refine x_i2l C 1154 dL_law_1153 rfl rfl ?_
    refine x_lcmp C 1155 dL_law_1154 rfl ?_
    refine x_top (lc_refl _) ?_
    refine x_if_eq C 1160 1158 dL_law_1155 (by decide) rfl (fun _ => ?_) (fun z => absurd rfl z)
    refine x_goto C 2274 dL_law_1160 (by decide) ?_
    refine x_dropn 6 ?_
    refine x_dropn 7 ?_
    refine x_ls (show _ = [some (.ref b), some (.ref x), some (.ref m), some (.ref o), some (.ref od), some (.int (nI i)), none, none, none, none] from rfl) ?_
    exact kk w1 f1 fd J e2 hRW1
set_option maxRecDepth 100000 in
set_option maxHeartbeats 4000000 in
theorem lc_setLatest (hl : l.stackTraces = false) (C : Cb (gm D a E0) l φ cL_law 10 RL wsL_law room_1) (hS0 : lS φ b L xs) (hi : i + 6 ≤ L) (hL : L ≤ 3072) (hkc : kc + 4 ≤ 639004) (hns : ns + 48 ≤ 7099219) (h : RW a E0 x I e w) (kk : ∀ (w1 : va_W) (f1 : Nat → Int64) (fd1 : Nat → UInt64) (J : Nat → Nat → Int32) (e2 : Int64), RW a E0 x J e2 w1 → X φ 2274 [some (.ref b), some (.ref x), some (.ref m), some (.ref o), some (.ref od), some (.int (nI i)), none, none, none, none] [] (lW o m od am a w1 f1 fd1 J e2) (kc + 4) (ns + 48)) : X φ 1163 [some (.ref b), some (.ref x), some (.ref m), some (.ref o), some (.ref od), some (.int (nI i)), none, none, none, none] [] (lW o m od am a w f fd I e) kc ns := by
  obtain ⟨q9, fs9, hq9⟩ := h.xq
  refine x_aload_n C 1164 dL_law_1163 rfl rfl ?_
  refine x_aload_n C 1165 dL_law_1164 rfl rfl ?_
  refine x_iload C 1167 dL_law_1165 rfl rfl ?_
  refine x_iconst (v := (1)) C 1168 dL_law_1167 (by decide) rfl ?_
  refine x_iadd C 1169 dL_law_1168 rfl ?_
  refine x_top (show _ = nI (i + 1) from nI_add _ _) ?_
  refine x_sld hS0 C 1170 (vp_in_nI (by omega) (by omega)) dL_law_1169 rfl ?_
  refine x_top (show _ = xs (i + 1) from by rw [nI_clamp (by omega)]) ?_
  refine x_aload_n C 1171 dL_law_1170 rfl rfl ?_
  refine x_iload C 1173 dL_law_1171 rfl rfl ?_
  refine x_iconst (v := (2)) C 1174 dL_law_1173 (by decide) rfl ?_
  refine x_iadd C 1175 dL_law_1174 rfl ?_
  refine x_top (show _ = nI (i + 2) from nI_add _ _) ?_
  refine x_sld hS0 C 1176 (vp_in_nI (by omega) (by omega)) dL_law_1175 rfl ?_
  refine x_top (show _ = xs (i + 2) from by rw [nI_clamp (by omega)]) ?_
  refine x_if_eq C 1183 1179 dL_law_1176 (by decide) rfl (fun zb16 => ?_) (fun zb16 => ?_)
  · refine x_iconst (v := (0)) C 1184 dL_law_1183 (by decide) rfl ?_
    obtain ⟨k, b2, J, e2, rmM, ⟨hr1, hr2, hr3, hr4⟩, hH, hM, hk⟩ := sm_setLatest (m := m) (am := am) (o := o) (f := f) hl h (xs (i + 1)) false
    refine x_aload_n C 1185 dL_law_1184 rfl rfl ?_
    refine x_callW1_i C 1188 (kc + 4) (ns + 48) 4 hH rfl gL_law_L_setLatest ⟨by decide, by decide, rfl⟩ ⟨Nat.le_of_ble_eq_true rfl, Nat.le_of_ble_eq_true rfl⟩ rfl rfl (Nat.le_of_ble_eq_true rfl) ⟨show kc + 4 ≤ 639004 by omega, show ns + 48 ≤ 7099219 by omega⟩ dL_law_1185 rfl rfl rfl (fun v1 w2 hv1 => ?_)
    obtain ⟨rfl, w1, f1, rfl, hRW1, hf1⟩ := hv1
    refine x_istore C 1190 dL_law_1188 (by decide) rfl rfl ?_
    refine x_aload_n C 1191 dL_law_1190 rfl rfl ?_
    refine x_aload_n C 1192 dL_law_1191 rfl rfl ?_
    refine x_iload C 1194 dL_law_1192 rfl rfl ?_
    refine x_iconst (v := (1)) C 1195 dL_law_1194 (by decide) rfl ?_
    refine x_iadd C 1196 dL_law_1195 rfl ?_
    refine x_top (show _ = nI (i + 1) from nI_add _ _) ?_
    refine x_sld hS0 C 1197 (vp_in_nI (by omega) (by omega)) dL_law_1196 rfl ?_
    refine x_top (show _ = xs (i + 1) from by rw [nI_clamp (by omega)]) ?_
    refine x_aload_n C 1198 dL_law_1197 rfl rfl ?_
    refine x_iload C 1200 dL_law_1198 rfl rfl ?_
    refine x_iconst (v := (2)) C 1201 dL_law_1200 (by decide) rfl ?_
    refine x_iadd C 1202 dL_law_1201 rfl ?_
    refine x_top (show _ = nI (i + 2) from nI_add _ _) ?_
    refine x_sld hS0 C 1203 (vp_in_nI (by omega) (by omega)) dL_law_1202 rfl ?_
    refine x_top (show _ = xs (i + 2) from by rw [nI_clamp (by omega)]) ?_
    refine x_if_eq C 1210 1206 dL_law_1203 (by decide) rfl (fun zb38 => ?_) (fun zb38 => absurd zb16 zb38)
    refine x_iconst (v := (0)) C 1211 dL_law_1210 (by decide) rfl ?_
    refine x_perm lp_1 ?_
    refine x_callV1_i C 1214 (kc + 4) (ns + 48) 0 10 2 hM rfl gL_law_X6_setLatest ⟨rfl, by decide, by decide, rfl⟩ ⟨show rmM.frames + 1 ≤ 2048 by omega, show 8 + (4 + 11) + rmM.locals ≤ 94400 by omega⟩ rfl rfl rfl rfl (Nat.le_of_ble_eq_true rfl) ⟨show kc + 4 + rmM.cells ≤ 639004 by omega, show ns + 48 + rmM.slots ≤ 7099219 by omega⟩ dL_law_1211 rfl (by omega) (by omega) (fun v2 w2 hv2 => ?_)
    obtain ⟨rfl, rfl⟩ := hv2
    refine x_perm lp_2 ?_
    refine x_istore C 1216 dL_law_1214 (by decide) rfl rfl ?_
    refine x_aload_n C 1217 dL_law_1216 rfl rfl ?_
    refine x_perm lp_1 ?_
    refine x_callV1_i C 1220 (kc + 4) (ns + 48) 0 10 0 (cM_thrown hl) rfl gL_law_X6_thrown ⟨rfl, by decide, by decide, rfl⟩ ⟨Nat.le_of_ble_eq_true rfl, Nat.le_of_ble_eq_true rfl⟩ rfl rfl rfl rfl (Nat.le_of_ble_eq_true rfl) ⟨show kc + 4 + 0 ≤ 639004 by omega, show ns + 48 + 0 ≤ 7099219 by omega⟩ dL_law_1217 rfl rfl rfl (fun v3 w3 hv3 => ?_)
    obtain ⟨rfl, rfl⟩ := hv3
    refine x_perm lp_2 ?_
    refine x_top hk ?_
    refine x_iload C 1222 dL_law_1220 rfl rfl ?_
    refine x_icmp_eq C 1227 1225 dL_law_1222 (by decide) rfl (fun _ => ?_) (fun z => absurd rfl z)
    refine x_iload C 1229 dL_law_1227 rfl rfl ?_
    refine x_if_ne C 1251 1232 dL_law_1229 (by decide) rfl (fun z => ?_) (fun z => ?_)
    · refine x_goto C 2274 dL_law_1251 (by decide) ?_
      refine x_dropn 6 ?_
      refine x_dropn 7 ?_
      refine x_ls (show _ = [some (.ref b), some (.ref x), some (.ref m), some (.ref o), some (.ref od), some (.int (nI i)), none, none, none, none] from rfl) ?_
      exact kk w1 f1 fd J e2 hRW1
    · refine x_aload_n C 1233 dL_law_1232 rfl rfl ?_
      refine x_iconst (v := (0)) C 1234 dL_law_1233 (by decide) rfl ?_
      refine x_lald C 1235 w1.length 3 lw_o rfl vp_in0 dL_law_1234 rfl ?_
      refine x_topq (show _ = Value.long (zB v2) from congrArg Value.long (hf1 z)) ?_
      refine x_iload C 1237 dL_law_1235 rfl rfl ?_
      refine x_if_eq C 1244 1240 dL_law_1237 (by decide) rfl (fun z2 => ?_) (fun z2 => ?_)
      · refine x_lconst (v := 0) C 1245 dL_law_1244 (by decide) rfl ?_
        refine x_topq (show _ = Value.long (zB v2) from congrArg Value.long (if_pos z2).symm) ?_
        refine x_lcmp C 1246 dL_law_1245 rfl ?_
        refine x_top (lc_refl _) ?_
        refine x_if_eq C 1251 1249 dL_law_1246 (by decide) rfl (fun _ => ?_) (fun z => absurd rfl z)
        refine x_goto C 2274 dL_law_1251 (by decide) ?_
        refine x_dropn 6 ?_
        refine x_dropn 7 ?_
        refine x_ls (show _ = [some (.ref b), some (.ref x), some (.ref m), some (.ref o), some (.ref od), some (.int (nI i)), none, none, none, none] from rfl) ?_
        exact kk w1 f1 fd J e2 hRW1
      · refine x_lconst (v := 1) C 1241 dL_law_1240 (by decide) rfl ?_
        refine x_goto C 1245 dL_law_1241 (by decide) ?_
        refine x_topq (show _ = Value.long (zB v2) from congrArg Value.long (if_neg z2).symm) ?_
        refine x_lcmp C 1246 dL_law_1245 rfl ?_
        refine x_top (lc_refl _) ?_
        refine x_if_eq C 1251 1249 dL_law_1246 (by decide) rfl (fun _ => ?_) (fun z => absurd rfl z)
        refine x_goto C 2274 dL_law_1251 (by decide) ?_
        refine x_dropn 6 ?_
        refine x_dropn 7 ?_
        refine x_ls (show _ = [some (.ref b), some (.ref x), some (.ref m), some (.ref o), some (.ref od), some (.int (nI i)), none, none, none, none] from rfl) ?_
        exact kk w1 f1 fd J e2 hRW1
  · refine x_iconst (v := (1)) C 1180 dL_law_1179 (by decide) rfl ?_
    refine x_goto C 1184 dL_law_1180 (by decide) ?_
    obtain ⟨k, b2, J, e2, rmM, ⟨hr1, hr2, hr3, hr4⟩, hH, hM, hk⟩ := sm_setLatest (m := m) (am := am) (o := o) (f := f) hl h (xs (i + 1)) true
    refine x_aload_n C 1185 dL_law_1184 rfl rfl ?_
    refine x_callW1_i C 1188 (kc + 4) (ns + 48) 4 hH rfl gL_law_L_setLatest ⟨by decide, by decide, rfl⟩ ⟨Nat.le_of_ble_eq_true rfl, Nat.le_of_ble_eq_true rfl⟩ rfl rfl (Nat.le_of_ble_eq_true rfl) ⟨show kc + 4 ≤ 639004 by omega, show ns + 48 ≤ 7099219 by omega⟩ dL_law_1185 rfl rfl rfl (fun v1 w2 hv1 => ?_)
    obtain ⟨rfl, w1, f1, rfl, hRW1, hf1⟩ := hv1
    refine x_istore C 1190 dL_law_1188 (by decide) rfl rfl ?_
    refine x_aload_n C 1191 dL_law_1190 rfl rfl ?_
    refine x_aload_n C 1192 dL_law_1191 rfl rfl ?_
    refine x_iload C 1194 dL_law_1192 rfl rfl ?_
    refine x_iconst (v := (1)) C 1195 dL_law_1194 (by decide) rfl ?_
    refine x_iadd C 1196 dL_law_1195 rfl ?_
    refine x_top (show _ = nI (i + 1) from nI_add _ _) ?_
    refine x_sld hS0 C 1197 (vp_in_nI (by omega) (by omega)) dL_law_1196 rfl ?_
    refine x_top (show _ = xs (i + 1) from by rw [nI_clamp (by omega)]) ?_
    refine x_aload_n C 1198 dL_law_1197 rfl rfl ?_
    refine x_iload C 1200 dL_law_1198 rfl rfl ?_
    refine x_iconst (v := (2)) C 1201 dL_law_1200 (by decide) rfl ?_
    refine x_iadd C 1202 dL_law_1201 rfl ?_
    refine x_top (show _ = nI (i + 2) from nI_add _ _) ?_
    refine x_sld hS0 C 1203 (vp_in_nI (by omega) (by omega)) dL_law_1202 rfl ?_
    refine x_top (show _ = xs (i + 2) from by rw [nI_clamp (by omega)]) ?_
    refine x_if_eq C 1210 1206 dL_law_1203 (by decide) rfl (fun zb109 => absurd zb109 zb16) (fun zb109 => ?_)
    refine x_iconst (v := (1)) C 1207 dL_law_1206 (by decide) rfl ?_
    refine x_goto C 1211 dL_law_1207 (by decide) ?_
    refine x_perm lp_1 ?_
    refine x_callV1_i C 1214 (kc + 4) (ns + 48) 0 10 2 hM rfl gL_law_X6_setLatest ⟨rfl, by decide, by decide, rfl⟩ ⟨show rmM.frames + 1 ≤ 2048 by omega, show 8 + (4 + 11) + rmM.locals ≤ 94400 by omega⟩ rfl rfl rfl rfl (Nat.le_of_ble_eq_true rfl) ⟨show kc + 4 + rmM.cells ≤ 639004 by omega, show ns + 48 + rmM.slots ≤ 7099219 by omega⟩ dL_law_1211 rfl (by omega) (by omega) (fun v2 w2 hv2 => ?_)
    obtain ⟨rfl, rfl⟩ := hv2
    refine x_perm lp_2 ?_
    refine x_istore C 1216 dL_law_1214 (by decide) rfl rfl ?_
    refine x_aload_n C 1217 dL_law_1216 rfl rfl ?_
    refine x_perm lp_1 ?_
    refine x_callV1_i C 1220 (kc + 4) (ns + 48) 0 10 0 (cM_thrown hl) rfl gL_law_X6_thrown ⟨rfl, by decide, by decide, rfl⟩ ⟨Nat.le_of_ble_eq_true rfl, Nat.le_of_ble_eq_true rfl⟩ rfl rfl rfl rfl (Nat.le_of_ble_eq_true rfl) ⟨show kc + 4 + 0 ≤ 639004 by omega, show ns + 48 + 0 ≤ 7099219 by omega⟩ dL_law_1217 rfl rfl rfl (fun v3 w3 hv3 => ?_)
    obtain ⟨rfl, rfl⟩ := hv3
    refine x_perm lp_2 ?_
    refine x_top hk ?_
    refine x_iload C 1222 dL_law_1220 rfl rfl ?_
    refine x_icmp_eq C 1227 1225 dL_law_1222 (by decide) rfl (fun _ => ?_) (fun z => absurd rfl z)
    refine x_iload C 1229 dL_law_1227 rfl rfl ?_
    refine x_if_ne C 1251 1232 dL_law_1229 (by decide) rfl (fun z => ?_) (fun z => ?_)
    · refine x_goto C 2274 dL_law_1251 (by decide) ?_
      refine x_dropn 6 ?_
      refine x_dropn 7 ?_
      refine x_ls (show _ = [some (.ref b), some (.ref x), some (.ref m), some (.ref o), some (.ref od), some (.int (nI i)), none, none, none, none] from rfl) ?_
      exact kk w1 f1 fd J e2 hRW1
    · refine x_aload_n C 1233 dL_law_1232 rfl rfl ?_
      refine x_iconst (v := (0)) C 1234 dL_law_1233 (by decide) rfl ?_
      refine x_lald C 1235 w1.length 3 lw_o rfl vp_in0 dL_law_1234 rfl ?_
      refine x_topq (show _ = Value.long (zB v2) from congrArg Value.long (hf1 z)) ?_
      refine x_iload C 1237 dL_law_1235 rfl rfl ?_
      refine x_if_eq C 1244 1240 dL_law_1237 (by decide) rfl (fun z2 => ?_) (fun z2 => ?_)
      · refine x_lconst (v := 0) C 1245 dL_law_1244 (by decide) rfl ?_
        refine x_topq (show _ = Value.long (zB v2) from congrArg Value.long (if_pos z2).symm) ?_
        refine x_lcmp C 1246 dL_law_1245 rfl ?_
        refine x_top (lc_refl _) ?_
        refine x_if_eq C 1251 1249 dL_law_1246 (by decide) rfl (fun _ => ?_) (fun z => absurd rfl z)
        refine x_goto C 2274 dL_law_1251 (by decide) ?_
        refine x_dropn 6 ?_
        refine x_dropn 7 ?_
        refine x_ls (show _ = [some (.ref b), some (.ref x), some (.ref m), some (.ref o), some (.ref od), some (.int (nI i)), none, none, none, none] from rfl) ?_
        exact kk w1 f1 fd J e2 hRW1
      · refine x_lconst (v := 1) C 1241 dL_law_1240 (by decide) rfl ?_
        refine x_goto C 1245 dL_law_1241 (by decide) ?_
        refine x_topq (show _ = Value.long (zB v2) from congrArg Value.long (if_neg z2).symm) ?_
        refine x_lcmp C 1246 dL_law_1245 rfl ?_
        refine x_top (lc_refl _) ?_
        refine x_if_eq C 1251 1249 dL_law_1246 (by decide) rfl (fun _ => ?_) (fun z => absurd rfl z)
        refine x_goto C 2274 dL_law_1251 (by decide) ?_
        refine x_dropn 6 ?_
        refine x_dropn 7 ?_
        refine x_ls (show _ = [some (.ref b), some (.ref x), some (.ref m), some (.ref o), some (.ref od), some (.int (nI i)), none, none, none, none] from rfl) ?_
        exact kk w1 f1 fd J e2 hRW1
set_option maxRecDepth 100000 in
set_option maxHeartbeats 4000000 in
theorem lc_latestSource (hl : l.stackTraces = false) (C : Cb (gm D a E0) l φ cL_law 10 RL wsL_law room_1) (hS0 : lS φ b L xs) (hi : i + 6 ≤ L) (hL : L ≤ 3072) (hkc : kc + 4 ≤ 639004) (hns : ns + 48 ≤ 7099219) (h : RW a E0 x I e w) (kk : ∀ (w1 : va_W) (f1 : Nat → Int64) (fd1 : Nat → UInt64) (J : Nat → Nat → Int32) (e2 : Int64), RW a E0 x J e2 w1 → X φ 2274 [some (.ref b), some (.ref x), some (.ref m), some (.ref o), some (.ref od), some (.int (nI i)), none, none, none, none] [] (lW o m od am a w1 f1 fd1 J e2) (kc + 4) (ns + 48)) : X φ 1254 [some (.ref b), some (.ref x), some (.ref m), some (.ref o), some (.ref od), some (.int (nI i)), none, none, none, none] [] (lW o m od am a w f fd I e) kc ns := by
  obtain ⟨q9, fs9, hq9⟩ := h.xq
  refine x_aload_n C 1255 dL_law_1254 rfl rfl ?_
  refine x_aload_n C 1256 dL_law_1255 rfl rfl ?_
  refine x_iload C 1258 dL_law_1256 rfl rfl ?_
  refine x_iconst (v := (1)) C 1259 dL_law_1258 (by decide) rfl ?_
  refine x_iadd C 1260 dL_law_1259 rfl ?_
  refine x_top (show _ = nI (i + 1) from nI_add _ _) ?_
  refine x_sld hS0 C 1261 (vp_in_nI (by omega) (by omega)) dL_law_1260 rfl ?_
  refine x_top (show _ = xs (i + 1) from by rw [nI_clamp (by omega)]) ?_
  obtain ⟨k, b2, J, e2, rmM, ⟨hr1, hr2, hr3, hr4⟩, hH, hM, hk⟩ := sm_latestSource (m := m) (am := am) (o := o) (f := f) hl h (xs (i + 1))
  refine x_aload_n C 1262 dL_law_1261 rfl rfl ?_
  refine x_callW1_i C 1265 (kc + 4) (ns + 48) 3 hH rfl gL_law_L_latestSource ⟨by decide, by decide, rfl⟩ ⟨Nat.le_of_ble_eq_true rfl, Nat.le_of_ble_eq_true rfl⟩ rfl rfl (Nat.le_of_ble_eq_true rfl) ⟨show kc + 4 ≤ 639004 by omega, show ns + 48 ≤ 7099219 by omega⟩ dL_law_1262 rfl rfl rfl (fun v1 w2 hv1 => ?_)
  obtain ⟨rfl, w1, f1, rfl, hRW1, hf1⟩ := hv1
  refine x_istore C 1267 dL_law_1265 (by decide) rfl rfl ?_
  refine x_aload_n C 1268 dL_law_1267 rfl rfl ?_
  refine x_aload_n C 1269 dL_law_1268 rfl rfl ?_
  refine x_iload C 1271 dL_law_1269 rfl rfl ?_
  refine x_iconst (v := (1)) C 1272 dL_law_1271 (by decide) rfl ?_
  refine x_iadd C 1273 dL_law_1272 rfl ?_
  refine x_top (show _ = nI (i + 1) from nI_add _ _) ?_
  refine x_sld hS0 C 1274 (vp_in_nI (by omega) (by omega)) dL_law_1273 rfl ?_
  refine x_top (show _ = xs (i + 1) from by rw [nI_clamp (by omega)]) ?_
  refine x_perm lp_1 ?_
  refine x_callV1_i C 1277 (kc + 4) (ns + 48) 0 10 1 hM rfl gL_law_X6_latestSource ⟨rfl, by decide, by decide, rfl⟩ ⟨show rmM.frames + 1 ≤ 2048 by omega, show 8 + (2 + 11) + rmM.locals ≤ 94400 by omega⟩ rfl rfl rfl rfl (Nat.le_of_ble_eq_true rfl) ⟨show kc + 4 + rmM.cells ≤ 639004 by omega, show ns + 48 + rmM.slots ≤ 7099219 by omega⟩ dL_law_1274 rfl (by omega) (by omega) (fun v2 w2 hv2 => ?_)
  obtain ⟨rfl, rfl⟩ := hv2
  refine x_perm lp_2 ?_
  refine x_istore C 1279 dL_law_1277 (by decide) rfl rfl ?_
  refine x_aload_n C 1280 dL_law_1279 rfl rfl ?_
  refine x_perm lp_1 ?_
  refine x_callV1_i C 1283 (kc + 4) (ns + 48) 0 10 0 (cM_thrown hl) rfl gL_law_X6_thrown ⟨rfl, by decide, by decide, rfl⟩ ⟨Nat.le_of_ble_eq_true rfl, Nat.le_of_ble_eq_true rfl⟩ rfl rfl rfl rfl (Nat.le_of_ble_eq_true rfl) ⟨show kc + 4 + 0 ≤ 639004 by omega, show ns + 48 + 0 ≤ 7099219 by omega⟩ dL_law_1280 rfl rfl rfl (fun v3 w3 hv3 => ?_)
  obtain ⟨rfl, rfl⟩ := hv3
  refine x_perm lp_2 ?_
  refine x_top hk ?_
  refine x_iload C 1285 dL_law_1283 rfl rfl ?_
  refine x_icmp_eq C 1290 1288 dL_law_1285 (by decide) rfl (fun _ => ?_) (fun z => absurd rfl z)
  refine x_iload C 1292 dL_law_1290 rfl rfl ?_
  refine x_if_ne C 1307 1295 dL_law_1292 (by decide) rfl (fun z => ?_) (fun z => ?_)
  · refine x_goto C 2274 dL_law_1307 (by decide) ?_
    refine x_dropn 6 ?_
    refine x_dropn 7 ?_
    refine x_ls (show _ = [some (.ref b), some (.ref x), some (.ref m), some (.ref o), some (.ref od), some (.int (nI i)), none, none, none, none] from rfl) ?_
    exact kk w1 f1 fd J e2 hRW1
  · refine x_aload_n C 1296 dL_law_1295 rfl rfl ?_
    refine x_iconst (v := (0)) C 1297 dL_law_1296 (by decide) rfl ?_
    refine x_lald C 1298 w1.length 3 lw_o rfl vp_in0 dL_law_1297 rfl ?_
    refine x_topq (show _ = Value.long v2.toInt64 from congrArg Value.long (hf1 z)) ?_
    refine x_iload C 1300 dL_law_1298 rfl rfl ?_
    refine x_i2l C 1301 dL_law_1300 rfl rfl ?_
    refine x_lcmp C 1302 dL_law_1301 rfl ?_
    refine x_top (lc_refl _) ?_
    refine x_if_eq C 1307 1305 dL_law_1302 (by decide) rfl (fun _ => ?_) (fun z => absurd rfl z)
    refine x_goto C 2274 dL_law_1307 (by decide) ?_
    refine x_dropn 6 ?_
    refine x_dropn 7 ?_
    refine x_ls (show _ = [some (.ref b), some (.ref x), some (.ref m), some (.ref o), some (.ref od), some (.int (nI i)), none, none, none, none] from rfl) ?_
    exact kk w1 f1 fd J e2 hRW1
set_option maxRecDepth 100000 in
set_option maxHeartbeats 4000000 in
theorem lc_baseLevel (hl : l.stackTraces = false) (C : Cb (gm D a E0) l φ cL_law 10 RL wsL_law room_1) (hS0 : lS φ b L xs) (hi : i + 6 ≤ L) (hL : L ≤ 3072) (hkc : kc + 4 ≤ 639004) (hns : ns + 48 ≤ 7099219) (h : RW a E0 x I e w) (kk : ∀ (w1 : va_W) (f1 : Nat → Int64) (fd1 : Nat → UInt64) (J : Nat → Nat → Int32) (e2 : Int64), RW a E0 x J e2 w1 → X φ 2274 [some (.ref b), some (.ref x), some (.ref m), some (.ref o), some (.ref od), some (.int (nI i)), none, none, none, none] [] (lW o m od am a w1 f1 fd1 J e2) (kc + 4) (ns + 48)) : X φ 1310 [some (.ref b), some (.ref x), some (.ref m), some (.ref o), some (.ref od), some (.int (nI i)), none, none, none, none] [] (lW o m od am a w f fd I e) kc ns := by
  obtain ⟨q9, fs9, hq9⟩ := h.xq
  refine x_aload_n C 1311 dL_law_1310 rfl rfl ?_
  refine x_aload_n C 1312 dL_law_1311 rfl rfl ?_
  refine x_iload C 1314 dL_law_1312 rfl rfl ?_
  refine x_iconst (v := (1)) C 1315 dL_law_1314 (by decide) rfl ?_
  refine x_iadd C 1316 dL_law_1315 rfl ?_
  refine x_top (show _ = nI (i + 1) from nI_add _ _) ?_
  refine x_sld hS0 C 1317 (vp_in_nI (by omega) (by omega)) dL_law_1316 rfl ?_
  refine x_top (show _ = xs (i + 1) from by rw [nI_clamp (by omega)]) ?_
  obtain ⟨k, b2, J, e2, rmM, ⟨hr1, hr2, hr3, hr4⟩, hH, hM, hk⟩ := sm_baseLevel (m := m) (am := am) (o := o) (f := f) hl h (xs (i + 1))
  refine x_aload_n C 1318 dL_law_1317 rfl rfl ?_
  refine x_callW1_i C 1321 (kc + 4) (ns + 48) 3 hH rfl gL_law_L_baseLevel ⟨by decide, by decide, rfl⟩ ⟨Nat.le_of_ble_eq_true rfl, Nat.le_of_ble_eq_true rfl⟩ rfl rfl (Nat.le_of_ble_eq_true rfl) ⟨show kc + 4 ≤ 639004 by omega, show ns + 48 ≤ 7099219 by omega⟩ dL_law_1318 rfl rfl rfl (fun v1 w2 hv1 => ?_)
  obtain ⟨rfl, w1, f1, rfl, hRW1, hf1⟩ := hv1
  refine x_istore C 1323 dL_law_1321 (by decide) rfl rfl ?_
  refine x_aload_n C 1324 dL_law_1323 rfl rfl ?_
  refine x_aload_n C 1325 dL_law_1324 rfl rfl ?_
  refine x_iload C 1327 dL_law_1325 rfl rfl ?_
  refine x_iconst (v := (1)) C 1328 dL_law_1327 (by decide) rfl ?_
  refine x_iadd C 1329 dL_law_1328 rfl ?_
  refine x_top (show _ = nI (i + 1) from nI_add _ _) ?_
  refine x_sld hS0 C 1330 (vp_in_nI (by omega) (by omega)) dL_law_1329 rfl ?_
  refine x_top (show _ = xs (i + 1) from by rw [nI_clamp (by omega)]) ?_
  refine x_perm lp_1 ?_
  refine x_callV1_i C 1333 (kc + 4) (ns + 48) 0 10 1 hM rfl gL_law_X6_baseLevel ⟨rfl, by decide, by decide, rfl⟩ ⟨show rmM.frames + 1 ≤ 2048 by omega, show 8 + (2 + 11) + rmM.locals ≤ 94400 by omega⟩ rfl rfl rfl rfl (Nat.le_of_ble_eq_true rfl) ⟨show kc + 4 + rmM.cells ≤ 639004 by omega, show ns + 48 + rmM.slots ≤ 7099219 by omega⟩ dL_law_1330 rfl (by omega) (by omega) (fun v2 w2 hv2 => ?_)
  obtain ⟨rfl, rfl⟩ := hv2
  refine x_perm lp_2 ?_
  refine x_istore C 1335 dL_law_1333 (by decide) rfl rfl ?_
  refine x_aload_n C 1336 dL_law_1335 rfl rfl ?_
  refine x_perm lp_1 ?_
  refine x_callV1_i C 1339 (kc + 4) (ns + 48) 0 10 0 (cM_thrown hl) rfl gL_law_X6_thrown ⟨rfl, by decide, by decide, rfl⟩ ⟨Nat.le_of_ble_eq_true rfl, Nat.le_of_ble_eq_true rfl⟩ rfl rfl rfl rfl (Nat.le_of_ble_eq_true rfl) ⟨show kc + 4 + 0 ≤ 639004 by omega, show ns + 48 + 0 ≤ 7099219 by omega⟩ dL_law_1336 rfl rfl rfl (fun v3 w3 hv3 => ?_)
  obtain ⟨rfl, rfl⟩ := hv3
  refine x_perm lp_2 ?_
  refine x_top hk ?_
  refine x_iload C 1341 dL_law_1339 rfl rfl ?_
  refine x_icmp_eq C 1346 1344 dL_law_1341 (by decide) rfl (fun _ => ?_) (fun z => absurd rfl z)
  refine x_iload C 1348 dL_law_1346 rfl rfl ?_
  refine x_if_ne C 1363 1351 dL_law_1348 (by decide) rfl (fun z => ?_) (fun z => ?_)
  · refine x_goto C 2274 dL_law_1363 (by decide) ?_
    refine x_dropn 6 ?_
    refine x_dropn 7 ?_
    refine x_ls (show _ = [some (.ref b), some (.ref x), some (.ref m), some (.ref o), some (.ref od), some (.int (nI i)), none, none, none, none] from rfl) ?_
    exact kk w1 f1 fd J e2 hRW1
  · refine x_aload_n C 1352 dL_law_1351 rfl rfl ?_
    refine x_iconst (v := (0)) C 1353 dL_law_1352 (by decide) rfl ?_
    refine x_lald C 1354 w1.length 3 lw_o rfl vp_in0 dL_law_1353 rfl ?_
    refine x_topq (show _ = Value.long v2.toInt64 from congrArg Value.long (hf1 z)) ?_
    refine x_iload C 1356 dL_law_1354 rfl rfl ?_
    refine x_i2l C 1357 dL_law_1356 rfl rfl ?_
    refine x_lcmp C 1358 dL_law_1357 rfl ?_
    refine x_top (lc_refl _) ?_
    refine x_if_eq C 1363 1361 dL_law_1358 (by decide) rfl (fun _ => ?_) (fun z => absurd rfl z)
    refine x_goto C 2274 dL_law_1363 (by decide) ?_
    refine x_dropn 6 ?_
    refine x_dropn 7 ?_
    refine x_ls (show _ = [some (.ref b), some (.ref x), some (.ref m), some (.ref o), some (.ref od), some (.int (nI i)), none, none, none, none] from rfl) ?_
    exact kk w1 f1 fd J e2 hRW1
set_option maxRecDepth 100000 in
set_option maxHeartbeats 4000000 in
theorem lc_addEffect (hl : l.stackTraces = false) (C : Cb (gm D a E0) l φ cL_law 10 RL wsL_law room_1) (hS0 : lS φ b L xs) (hi : i + 6 ≤ L) (hL : L ≤ 3072) (hkc : kc + 4 ≤ 639004) (hns : ns + 48 ≤ 7099219) (h : RW a E0 x I e w) (kk : ∀ (w1 : va_W) (f1 : Nat → Int64) (fd1 : Nat → UInt64) (J : Nat → Nat → Int32) (e2 : Int64), RW a E0 x J e2 w1 → X φ 2274 [some (.ref b), some (.ref x), some (.ref m), some (.ref o), some (.ref od), some (.int (nI i)), none, none, none, none] [] (lW o m od am a w1 f1 fd1 J e2) (kc + 4) (ns + 48)) : X φ 1366 [some (.ref b), some (.ref x), some (.ref m), some (.ref o), some (.ref od), some (.int (nI i)), none, none, none, none] [] (lW o m od am a w f fd I e) kc ns := by
  obtain ⟨q9, fs9, hq9⟩ := h.xq
  refine x_aload_n C 1367 dL_law_1366 rfl rfl ?_
  refine x_aload_n C 1368 dL_law_1367 rfl rfl ?_
  refine x_iload C 1370 dL_law_1368 rfl rfl ?_
  refine x_iconst (v := (1)) C 1371 dL_law_1370 (by decide) rfl ?_
  refine x_iadd C 1372 dL_law_1371 rfl ?_
  refine x_top (show _ = nI (i + 1) from nI_add _ _) ?_
  refine x_sld hS0 C 1373 (vp_in_nI (by omega) (by omega)) dL_law_1372 rfl ?_
  refine x_top (show _ = xs (i + 1) from by rw [nI_clamp (by omega)]) ?_
  refine x_aload_n C 1374 dL_law_1373 rfl rfl ?_
  refine x_iload C 1376 dL_law_1374 rfl rfl ?_
  refine x_iconst (v := (2)) C 1377 dL_law_1376 (by decide) rfl ?_
  refine x_iadd C 1378 dL_law_1377 rfl ?_
  refine x_top (show _ = nI (i + 2) from nI_add _ _) ?_
  refine x_sld hS0 C 1379 (vp_in_nI (by omega) (by omega)) dL_law_1378 rfl ?_
  refine x_top (show _ = xs (i + 2) from by rw [nI_clamp (by omega)]) ?_
  refine x_i2c (v := ((xs (i + 2)).toUInt32 % 65536).toInt32) C 1380 dL_law_1379 rfl rfl ?_
  refine x_aload_n C 1381 dL_law_1380 rfl rfl ?_
  refine x_iload C 1383 dL_law_1381 rfl rfl ?_
  refine x_iconst (v := (3)) C 1384 dL_law_1383 (by decide) rfl ?_
  refine x_iadd C 1385 dL_law_1384 rfl ?_
  refine x_top (show _ = nI (i + 3) from nI_add _ _) ?_
  refine x_sld hS0 C 1386 (vp_in_nI (by omega) (by omega)) dL_law_1385 rfl ?_
  refine x_top (show _ = xs (i + 3) from by rw [nI_clamp (by omega)]) ?_
  refine x_aload_n C 1387 dL_law_1386 rfl rfl ?_
  refine x_iload C 1389 dL_law_1387 rfl rfl ?_
  refine x_iconst (v := (4)) C 1390 dL_law_1389 (by decide) rfl ?_
  refine x_iadd C 1391 dL_law_1390 rfl ?_
  refine x_top (show _ = nI (i + 4) from nI_add _ _) ?_
  refine x_sld hS0 C 1392 (vp_in_nI (by omega) (by omega)) dL_law_1391 rfl ?_
  refine x_top (show _ = xs (i + 4) from by rw [nI_clamp (by omega)]) ?_
  refine x_aload_n C 1393 dL_law_1392 rfl rfl ?_
  refine x_iload C 1395 dL_law_1393 rfl rfl ?_
  refine x_iconst (v := (5)) C 1396 dL_law_1395 (by decide) rfl ?_
  refine x_iadd C 1397 dL_law_1396 rfl ?_
  refine x_top (show _ = nI (i + 5) from nI_add _ _) ?_
  refine x_sld hS0 C 1398 (vp_in_nI (by omega) (by omega)) dL_law_1397 rfl ?_
  refine x_top (show _ = xs (i + 5) from by rw [nI_clamp (by omega)]) ?_
  obtain ⟨k, b2, J, e2, rmM, ⟨hr1, hr2, hr3, hr4⟩, hH, hM, hk⟩ := sm_addEffect (m := m) (am := am) (o := o) (f := f) hl h (xs (i + 1)) (((xs (i + 2)).toUInt32 % 65536).toInt32) (xs (i + 3)) (xs (i + 4)) (xs (i + 5)) ⟨pk_nc _, pk_fc _⟩ (pk_vc _)
  refine x_aload_n C 1399 dL_law_1398 rfl rfl ?_
  refine x_callW1_i C 1402 (kc + 4) (ns + 48) 7 hH rfl gL_law_L_addEffect ⟨by decide, by decide, rfl⟩ ⟨Nat.le_of_ble_eq_true rfl, Nat.le_of_ble_eq_true rfl⟩ rfl rfl (Nat.le_of_ble_eq_true rfl) ⟨show kc + 4 ≤ 639004 by omega, show ns + 48 ≤ 7099219 by omega⟩ dL_law_1399 rfl rfl rfl (fun v1 w2 hv1 => ?_)
  obtain ⟨rfl, w1, f1, rfl, hRW1, hf1⟩ := hv1
  refine x_istore C 1404 dL_law_1402 (by decide) rfl rfl ?_
  refine x_aload_n C 1405 dL_law_1404 rfl rfl ?_
  refine x_aload_n C 1406 dL_law_1405 rfl rfl ?_
  refine x_iload C 1408 dL_law_1406 rfl rfl ?_
  refine x_iconst (v := (1)) C 1409 dL_law_1408 (by decide) rfl ?_
  refine x_iadd C 1410 dL_law_1409 rfl ?_
  refine x_top (show _ = nI (i + 1) from nI_add _ _) ?_
  refine x_sld hS0 C 1411 (vp_in_nI (by omega) (by omega)) dL_law_1410 rfl ?_
  refine x_top (show _ = xs (i + 1) from by rw [nI_clamp (by omega)]) ?_
  refine x_aload_n C 1412 dL_law_1411 rfl rfl ?_
  refine x_iload C 1414 dL_law_1412 rfl rfl ?_
  refine x_iconst (v := (2)) C 1415 dL_law_1414 (by decide) rfl ?_
  refine x_iadd C 1416 dL_law_1415 rfl ?_
  refine x_top (show _ = nI (i + 2) from nI_add _ _) ?_
  refine x_sld hS0 C 1417 (vp_in_nI (by omega) (by omega)) dL_law_1416 rfl ?_
  refine x_top (show _ = xs (i + 2) from by rw [nI_clamp (by omega)]) ?_
  refine x_i2c (v := ((xs (i + 2)).toUInt32 % 65536).toInt32) C 1418 dL_law_1417 rfl rfl ?_
  refine x_aload_n C 1419 dL_law_1418 rfl rfl ?_
  refine x_iload C 1421 dL_law_1419 rfl rfl ?_
  refine x_iconst (v := (3)) C 1422 dL_law_1421 (by decide) rfl ?_
  refine x_iadd C 1423 dL_law_1422 rfl ?_
  refine x_top (show _ = nI (i + 3) from nI_add _ _) ?_
  refine x_sld hS0 C 1424 (vp_in_nI (by omega) (by omega)) dL_law_1423 rfl ?_
  refine x_top (show _ = xs (i + 3) from by rw [nI_clamp (by omega)]) ?_
  refine x_aload_n C 1425 dL_law_1424 rfl rfl ?_
  refine x_iload C 1427 dL_law_1425 rfl rfl ?_
  refine x_iconst (v := (4)) C 1428 dL_law_1427 (by decide) rfl ?_
  refine x_iadd C 1429 dL_law_1428 rfl ?_
  refine x_top (show _ = nI (i + 4) from nI_add _ _) ?_
  refine x_sld hS0 C 1430 (vp_in_nI (by omega) (by omega)) dL_law_1429 rfl ?_
  refine x_top (show _ = xs (i + 4) from by rw [nI_clamp (by omega)]) ?_
  refine x_aload_n C 1431 dL_law_1430 rfl rfl ?_
  refine x_iload C 1433 dL_law_1431 rfl rfl ?_
  refine x_iconst (v := (5)) C 1434 dL_law_1433 (by decide) rfl ?_
  refine x_iadd C 1435 dL_law_1434 rfl ?_
  refine x_top (show _ = nI (i + 5) from nI_add _ _) ?_
  refine x_sld hS0 C 1436 (vp_in_nI (by omega) (by omega)) dL_law_1435 rfl ?_
  refine x_top (show _ = xs (i + 5) from by rw [nI_clamp (by omega)]) ?_
  refine x_perm lp_1 ?_
  refine x_callV1_i C 1439 (kc + 4) (ns + 48) 0 10 5 hM rfl gL_law_X6_addEffect ⟨rfl, by decide, by decide, rfl⟩ ⟨show rmM.frames + 1 ≤ 2048 by omega, show 8 + (7 + 11) + rmM.locals ≤ 94400 by omega⟩ rfl rfl rfl rfl (Nat.le_of_ble_eq_true rfl) ⟨show kc + 4 + rmM.cells ≤ 639004 by omega, show ns + 48 + rmM.slots ≤ 7099219 by omega⟩ dL_law_1436 rfl (by omega) (by omega) (fun v2 w2 hv2 => ?_)
  obtain ⟨rfl, rfl⟩ := hv2
  refine x_perm lp_2 ?_
  refine x_istore C 1441 dL_law_1439 (by decide) rfl rfl ?_
  refine x_aload_n C 1442 dL_law_1441 rfl rfl ?_
  refine x_perm lp_1 ?_
  refine x_callV1_i C 1445 (kc + 4) (ns + 48) 0 10 0 (cM_thrown hl) rfl gL_law_X6_thrown ⟨rfl, by decide, by decide, rfl⟩ ⟨Nat.le_of_ble_eq_true rfl, Nat.le_of_ble_eq_true rfl⟩ rfl rfl rfl rfl (Nat.le_of_ble_eq_true rfl) ⟨show kc + 4 + 0 ≤ 639004 by omega, show ns + 48 + 0 ≤ 7099219 by omega⟩ dL_law_1442 rfl rfl rfl (fun v3 w3 hv3 => ?_)
  obtain ⟨rfl, rfl⟩ := hv3
  refine x_perm lp_2 ?_
  refine x_top hk ?_
  refine x_iload C 1447 dL_law_1445 rfl rfl ?_
  refine x_icmp_eq C 1452 1450 dL_law_1447 (by decide) rfl (fun _ => ?_) (fun z => absurd rfl z)
  refine x_iload C 1454 dL_law_1452 rfl rfl ?_
  refine x_if_ne C 1469 1457 dL_law_1454 (by decide) rfl (fun z => ?_) (fun z => ?_)
  · refine x_goto C 2274 dL_law_1469 (by decide) ?_
    refine x_dropn 6 ?_
    refine x_dropn 7 ?_
    refine x_ls (show _ = [some (.ref b), some (.ref x), some (.ref m), some (.ref o), some (.ref od), some (.int (nI i)), none, none, none, none] from rfl) ?_
    exact kk w1 f1 fd J e2 hRW1
  · refine x_aload_n C 1458 dL_law_1457 rfl rfl ?_
    refine x_iconst (v := (0)) C 1459 dL_law_1458 (by decide) rfl ?_
    refine x_lald C 1460 w1.length 3 lw_o rfl vp_in0 dL_law_1459 rfl ?_
    refine x_topq (show _ = Value.long v2.toInt64 from congrArg Value.long (hf1 z)) ?_
    refine x_iload C 1462 dL_law_1460 rfl rfl ?_
    refine x_i2l C 1463 dL_law_1462 rfl rfl ?_
    refine x_lcmp C 1464 dL_law_1463 rfl ?_
    refine x_top (lc_refl _) ?_
    refine x_if_eq C 1469 1467 dL_law_1464 (by decide) rfl (fun _ => ?_) (fun z => absurd rfl z)
    refine x_goto C 2274 dL_law_1469 (by decide) ?_
    refine x_dropn 6 ?_
    refine x_dropn 7 ?_
    refine x_ls (show _ = [some (.ref b), some (.ref x), some (.ref m), some (.ref o), some (.ref od), some (.int (nI i)), none, none, none, none] from rfl) ?_
    exact kk w1 f1 fd J e2 hRW1
set_option maxRecDepth 100000 in
set_option maxHeartbeats 4000000 in
theorem lc_startEffect (hl : l.stackTraces = false) (C : Cb (gm D a E0) l φ cL_law 10 RL wsL_law room_1) (hS0 : lS φ b L xs) (hi : i + 6 ≤ L) (hL : L ≤ 3072) (hkc : kc + 4 ≤ 639004) (hns : ns + 48 ≤ 7099219) (h : RW a E0 x I e w) (kk : ∀ (w1 : va_W) (f1 : Nat → Int64) (fd1 : Nat → UInt64) (J : Nat → Nat → Int32) (e2 : Int64), RW a E0 x J e2 w1 → X φ 2274 [some (.ref b), some (.ref x), some (.ref m), some (.ref o), some (.ref od), some (.int (nI i)), none, none, none, none] [] (lW o m od am a w1 f1 fd1 J e2) (kc + 4) (ns + 48)) : X φ 1472 [some (.ref b), some (.ref x), some (.ref m), some (.ref o), some (.ref od), some (.int (nI i)), none, none, none, none] [] (lW o m od am a w f fd I e) kc ns := by
  obtain ⟨q9, fs9, hq9⟩ := h.xq
  refine x_aload_n C 1473 dL_law_1472 rfl rfl ?_
  refine x_aload_n C 1474 dL_law_1473 rfl rfl ?_
  refine x_iload C 1476 dL_law_1474 rfl rfl ?_
  refine x_iconst (v := (1)) C 1477 dL_law_1476 (by decide) rfl ?_
  refine x_iadd C 1478 dL_law_1477 rfl ?_
  refine x_top (show _ = nI (i + 1) from nI_add _ _) ?_
  refine x_sld hS0 C 1479 (vp_in_nI (by omega) (by omega)) dL_law_1478 rfl ?_
  refine x_top (show _ = xs (i + 1) from by rw [nI_clamp (by omega)]) ?_
  obtain ⟨k, b2, J, e2, rmM, ⟨hr1, hr2, hr3, hr4⟩, hH, hM, hk⟩ := sm_startEffect (m := m) (am := am) (o := o) (f := f) hl h (xs (i + 1))
  refine x_aload_n C 1480 dL_law_1479 rfl rfl ?_
  refine x_callW1_i C 1483 (kc + 4) (ns + 48) 3 hH rfl gL_law_L_startEffect ⟨by decide, by decide, rfl⟩ ⟨Nat.le_of_ble_eq_true rfl, Nat.le_of_ble_eq_true rfl⟩ rfl rfl (Nat.le_of_ble_eq_true rfl) ⟨show kc + 4 ≤ 639004 by omega, show ns + 48 ≤ 7099219 by omega⟩ dL_law_1480 rfl rfl rfl (fun v1 w2 hv1 => ?_)
  obtain ⟨rfl, w1, f1, rfl, hRW1, hf1⟩ := hv1
  refine x_istore C 1485 dL_law_1483 (by decide) rfl rfl ?_
  refine x_aload_n C 1486 dL_law_1485 rfl rfl ?_
  refine x_aload_n C 1487 dL_law_1486 rfl rfl ?_
  refine x_iload C 1489 dL_law_1487 rfl rfl ?_
  refine x_iconst (v := (1)) C 1490 dL_law_1489 (by decide) rfl ?_
  refine x_iadd C 1491 dL_law_1490 rfl ?_
  refine x_top (show _ = nI (i + 1) from nI_add _ _) ?_
  refine x_sld hS0 C 1492 (vp_in_nI (by omega) (by omega)) dL_law_1491 rfl ?_
  refine x_top (show _ = xs (i + 1) from by rw [nI_clamp (by omega)]) ?_
  refine x_perm lp_1 ?_
  refine x_callV1_i C 1495 (kc + 4) (ns + 48) 0 10 1 hM rfl gL_law_X6_startEffect ⟨rfl, by decide, by decide, rfl⟩ ⟨show rmM.frames + 1 ≤ 2048 by omega, show 8 + (4 + 11) + rmM.locals ≤ 94400 by omega⟩ rfl rfl rfl rfl (Nat.le_of_ble_eq_true rfl) ⟨show kc + 4 + rmM.cells ≤ 639004 by omega, show ns + 48 + rmM.slots ≤ 7099219 by omega⟩ dL_law_1492 rfl (by omega) (by omega) (fun v2 w2 hv2 => ?_)
  obtain ⟨rfl, rfl⟩ := hv2
  refine x_perm lp_2 ?_
  refine x_istore C 1497 dL_law_1495 (by decide) rfl rfl ?_
  refine x_aload_n C 1498 dL_law_1497 rfl rfl ?_
  refine x_perm lp_1 ?_
  refine x_callV1_i C 1501 (kc + 4) (ns + 48) 0 10 0 (cM_thrown hl) rfl gL_law_X6_thrown ⟨rfl, by decide, by decide, rfl⟩ ⟨Nat.le_of_ble_eq_true rfl, Nat.le_of_ble_eq_true rfl⟩ rfl rfl rfl rfl (Nat.le_of_ble_eq_true rfl) ⟨show kc + 4 + 0 ≤ 639004 by omega, show ns + 48 + 0 ≤ 7099219 by omega⟩ dL_law_1498 rfl rfl rfl (fun v3 w3 hv3 => ?_)
  obtain ⟨rfl, rfl⟩ := hv3
  refine x_perm lp_2 ?_
  refine x_top hk ?_
  refine x_iload C 1503 dL_law_1501 rfl rfl ?_
  refine x_icmp_eq C 1508 1506 dL_law_1503 (by decide) rfl (fun _ => ?_) (fun z => absurd rfl z)
  refine x_iload C 1510 dL_law_1508 rfl rfl ?_
  refine x_if_ne C 1525 1513 dL_law_1510 (by decide) rfl (fun z => ?_) (fun z => ?_)
  · refine x_goto C 2274 dL_law_1525 (by decide) ?_
    refine x_dropn 6 ?_
    refine x_dropn 7 ?_
    refine x_ls (show _ = [some (.ref b), some (.ref x), some (.ref m), some (.ref o), some (.ref od), some (.int (nI i)), none, none, none, none] from rfl) ?_
    exact kk w1 f1 fd J e2 hRW1
  · refine x_aload_n C 1514 dL_law_1513 rfl rfl ?_
    refine x_iconst (v := (0)) C 1515 dL_law_1514 (by decide) rfl ?_
    refine x_lald C 1516 w1.length 3 lw_o rfl vp_in0 dL_law_1515 rfl ?_
    refine x_topq (show _ = Value.long v2.toInt64 from congrArg Value.long (hf1 z)) ?_
    refine x_iload C 1518 dL_law_1516 rfl rfl ?_
    refine x_i2l C 1519 dL_law_1518 rfl rfl ?_
    refine x_lcmp C 1520 dL_law_1519 rfl ?_
    refine x_top (lc_refl _) ?_
    refine x_if_eq C 1525 1523 dL_law_1520 (by decide) rfl (fun _ => ?_) (fun z => absurd rfl z)
    refine x_goto C 2274 dL_law_1525 (by decide) ?_
    refine x_dropn 6 ?_
    refine x_dropn 7 ?_
    refine x_ls (show _ = [some (.ref b), some (.ref x), some (.ref m), some (.ref o), some (.ref od), some (.int (nI i)), none, none, none, none] from rfl) ?_
    exact kk w1 f1 fd J e2 hRW1
set_option maxRecDepth 100000 in
set_option maxHeartbeats 4000000 in
theorem lc_stopEffect (hl : l.stackTraces = false) (C : Cb (gm D a E0) l φ cL_law 10 RL wsL_law room_1) (hS0 : lS φ b L xs) (hi : i + 6 ≤ L) (hL : L ≤ 3072) (hkc : kc + 4 ≤ 639004) (hns : ns + 48 ≤ 7099219) (h : RW a E0 x I e w) (kk : ∀ (w1 : va_W) (f1 : Nat → Int64) (fd1 : Nat → UInt64) (J : Nat → Nat → Int32) (e2 : Int64), RW a E0 x J e2 w1 → X φ 2274 [some (.ref b), some (.ref x), some (.ref m), some (.ref o), some (.ref od), some (.int (nI i)), none, none, none, none] [] (lW o m od am a w1 f1 fd1 J e2) (kc + 4) (ns + 48)) : X φ 1528 [some (.ref b), some (.ref x), some (.ref m), some (.ref o), some (.ref od), some (.int (nI i)), none, none, none, none] [] (lW o m od am a w f fd I e) kc ns := by
  obtain ⟨q9, fs9, hq9⟩ := h.xq
  refine x_aload_n C 1529 dL_law_1528 rfl rfl ?_
  refine x_aload_n C 1530 dL_law_1529 rfl rfl ?_
  refine x_iload C 1532 dL_law_1530 rfl rfl ?_
  refine x_iconst (v := (1)) C 1533 dL_law_1532 (by decide) rfl ?_
  refine x_iadd C 1534 dL_law_1533 rfl ?_
  refine x_top (show _ = nI (i + 1) from nI_add _ _) ?_
  refine x_sld hS0 C 1535 (vp_in_nI (by omega) (by omega)) dL_law_1534 rfl ?_
  refine x_top (show _ = xs (i + 1) from by rw [nI_clamp (by omega)]) ?_
  obtain ⟨k, b2, J, e2, rmM, ⟨hr1, hr2, hr3, hr4⟩, hH, hM, hk⟩ := sm_stopEffect (m := m) (am := am) (o := o) (f := f) hl h (xs (i + 1))
  refine x_aload_n C 1536 dL_law_1535 rfl rfl ?_
  refine x_callW1_i C 1539 (kc + 4) (ns + 48) 3 hH rfl gL_law_L_stopEffect ⟨by decide, by decide, rfl⟩ ⟨Nat.le_of_ble_eq_true rfl, Nat.le_of_ble_eq_true rfl⟩ rfl rfl (Nat.le_of_ble_eq_true rfl) ⟨show kc + 4 ≤ 639004 by omega, show ns + 48 ≤ 7099219 by omega⟩ dL_law_1536 rfl rfl rfl (fun v1 w2 hv1 => ?_)
  obtain ⟨rfl, w1, f1, rfl, hRW1, hf1⟩ := hv1
  refine x_istore C 1541 dL_law_1539 (by decide) rfl rfl ?_
  refine x_aload_n C 1542 dL_law_1541 rfl rfl ?_
  refine x_aload_n C 1543 dL_law_1542 rfl rfl ?_
  refine x_iload C 1545 dL_law_1543 rfl rfl ?_
  refine x_iconst (v := (1)) C 1546 dL_law_1545 (by decide) rfl ?_
  refine x_iadd C 1547 dL_law_1546 rfl ?_
  refine x_top (show _ = nI (i + 1) from nI_add _ _) ?_
  refine x_sld hS0 C 1548 (vp_in_nI (by omega) (by omega)) dL_law_1547 rfl ?_
  refine x_top (show _ = xs (i + 1) from by rw [nI_clamp (by omega)]) ?_
  refine x_perm lp_1 ?_
  refine x_callV1_i C 1551 (kc + 4) (ns + 48) 0 10 1 hM rfl gL_law_X6_stopEffect ⟨rfl, by decide, by decide, rfl⟩ ⟨show rmM.frames + 1 ≤ 2048 by omega, show 8 + (2 + 11) + rmM.locals ≤ 94400 by omega⟩ rfl rfl rfl rfl (Nat.le_of_ble_eq_true rfl) ⟨show kc + 4 + rmM.cells ≤ 639004 by omega, show ns + 48 + rmM.slots ≤ 7099219 by omega⟩ dL_law_1548 rfl (by omega) (by omega) (fun v2 w2 hv2 => ?_)
  obtain ⟨rfl, rfl⟩ := hv2
  refine x_perm lp_2 ?_
  refine x_istore C 1553 dL_law_1551 (by decide) rfl rfl ?_
  refine x_aload_n C 1554 dL_law_1553 rfl rfl ?_
  refine x_perm lp_1 ?_
  refine x_callV1_i C 1557 (kc + 4) (ns + 48) 0 10 0 (cM_thrown hl) rfl gL_law_X6_thrown ⟨rfl, by decide, by decide, rfl⟩ ⟨Nat.le_of_ble_eq_true rfl, Nat.le_of_ble_eq_true rfl⟩ rfl rfl rfl rfl (Nat.le_of_ble_eq_true rfl) ⟨show kc + 4 + 0 ≤ 639004 by omega, show ns + 48 + 0 ≤ 7099219 by omega⟩ dL_law_1554 rfl rfl rfl (fun v3 w3 hv3 => ?_)
  obtain ⟨rfl, rfl⟩ := hv3
  refine x_perm lp_2 ?_
  refine x_top hk ?_
  refine x_iload C 1559 dL_law_1557 rfl rfl ?_
  refine x_icmp_eq C 1564 1562 dL_law_1559 (by decide) rfl (fun _ => ?_) (fun z => absurd rfl z)
  refine x_iload C 1566 dL_law_1564 rfl rfl ?_
  refine x_if_ne C 1581 1569 dL_law_1566 (by decide) rfl (fun z => ?_) (fun z => ?_)
  · refine x_goto C 2274 dL_law_1581 (by decide) ?_
    refine x_dropn 6 ?_
    refine x_dropn 7 ?_
    refine x_ls (show _ = [some (.ref b), some (.ref x), some (.ref m), some (.ref o), some (.ref od), some (.int (nI i)), none, none, none, none] from rfl) ?_
    exact kk w1 f1 fd J e2 hRW1
  · refine x_aload_n C 1570 dL_law_1569 rfl rfl ?_
    refine x_iconst (v := (0)) C 1571 dL_law_1570 (by decide) rfl ?_
    refine x_lald C 1572 w1.length 3 lw_o rfl vp_in0 dL_law_1571 rfl ?_
    refine x_topq (show _ = Value.long v2.toInt64 from congrArg Value.long (hf1 z)) ?_
    refine x_iload C 1574 dL_law_1572 rfl rfl ?_
    refine x_i2l C 1575 dL_law_1574 rfl rfl ?_
    refine x_lcmp C 1576 dL_law_1575 rfl ?_
    refine x_top (lc_refl _) ?_
    refine x_if_eq C 1581 1579 dL_law_1576 (by decide) rfl (fun _ => ?_) (fun z => absurd rfl z)
    refine x_goto C 2274 dL_law_1581 (by decide) ?_
    refine x_dropn 6 ?_
    refine x_dropn 7 ?_
    refine x_ls (show _ = [some (.ref b), some (.ref x), some (.ref m), some (.ref o), some (.ref od), some (.int (nI i)), none, none, none, none] from rfl) ?_
    exact kk w1 f1 fd J e2 hRW1
set_option maxRecDepth 100000 in
set_option maxHeartbeats 4000000 in
theorem lc_effectOn (hl : l.stackTraces = false) (C : Cb (gm D a E0) l φ cL_law 10 RL wsL_law room_1) (hS0 : lS φ b L xs) (hi : i + 6 ≤ L) (hL : L ≤ 3072) (hkc : kc + 4 ≤ 639004) (hns : ns + 48 ≤ 7099219) (h : RW a E0 x I e w) (kk : ∀ (w1 : va_W) (f1 : Nat → Int64) (fd1 : Nat → UInt64) (J : Nat → Nat → Int32) (e2 : Int64), RW a E0 x J e2 w1 → X φ 2274 [some (.ref b), some (.ref x), some (.ref m), some (.ref o), some (.ref od), some (.int (nI i)), none, none, none, none] [] (lW o m od am a w1 f1 fd1 J e2) (kc + 4) (ns + 48)) : X φ 1584 [some (.ref b), some (.ref x), some (.ref m), some (.ref o), some (.ref od), some (.int (nI i)), none, none, none, none] [] (lW o m od am a w f fd I e) kc ns := by
  obtain ⟨q9, fs9, hq9⟩ := h.xq
  refine x_aload_n C 1585 dL_law_1584 rfl rfl ?_
  refine x_aload_n C 1586 dL_law_1585 rfl rfl ?_
  refine x_iload C 1588 dL_law_1586 rfl rfl ?_
  refine x_iconst (v := (1)) C 1589 dL_law_1588 (by decide) rfl ?_
  refine x_iadd C 1590 dL_law_1589 rfl ?_
  refine x_top (show _ = nI (i + 1) from nI_add _ _) ?_
  refine x_sld hS0 C 1591 (vp_in_nI (by omega) (by omega)) dL_law_1590 rfl ?_
  refine x_top (show _ = xs (i + 1) from by rw [nI_clamp (by omega)]) ?_
  refine x_aload_n C 1592 dL_law_1591 rfl rfl ?_
  refine x_iload C 1594 dL_law_1592 rfl rfl ?_
  refine x_iconst (v := (2)) C 1595 dL_law_1594 (by decide) rfl ?_
  refine x_iadd C 1596 dL_law_1595 rfl ?_
  refine x_top (show _ = nI (i + 2) from nI_add _ _) ?_
  refine x_sld hS0 C 1597 (vp_in_nI (by omega) (by omega)) dL_law_1596 rfl ?_
  refine x_top (show _ = xs (i + 2) from by rw [nI_clamp (by omega)]) ?_
  obtain ⟨k, b2, J, e2, rmM, ⟨hr1, hr2, hr3, hr4⟩, hH, hM, hk⟩ := sm_effectOn (m := m) (am := am) (o := o) (f := f) hl h (xs (i + 1)) (xs (i + 2))
  refine x_aload_n C 1598 dL_law_1597 rfl rfl ?_
  refine x_callW1_i C 1601 (kc + 4) (ns + 48) 4 hH rfl gL_law_L_effectOn ⟨by decide, by decide, rfl⟩ ⟨Nat.le_of_ble_eq_true rfl, Nat.le_of_ble_eq_true rfl⟩ rfl rfl (Nat.le_of_ble_eq_true rfl) ⟨show kc + 4 ≤ 639004 by omega, show ns + 48 ≤ 7099219 by omega⟩ dL_law_1598 rfl rfl rfl (fun v1 w2 hv1 => ?_)
  obtain ⟨rfl, w1, f1, rfl, hRW1, hf1⟩ := hv1
  refine x_istore C 1603 dL_law_1601 (by decide) rfl rfl ?_
  refine x_aload_n C 1604 dL_law_1603 rfl rfl ?_
  refine x_aload_n C 1605 dL_law_1604 rfl rfl ?_
  refine x_iload C 1607 dL_law_1605 rfl rfl ?_
  refine x_iconst (v := (1)) C 1608 dL_law_1607 (by decide) rfl ?_
  refine x_iadd C 1609 dL_law_1608 rfl ?_
  refine x_top (show _ = nI (i + 1) from nI_add _ _) ?_
  refine x_sld hS0 C 1610 (vp_in_nI (by omega) (by omega)) dL_law_1609 rfl ?_
  refine x_top (show _ = xs (i + 1) from by rw [nI_clamp (by omega)]) ?_
  refine x_aload_n C 1611 dL_law_1610 rfl rfl ?_
  refine x_iload C 1613 dL_law_1611 rfl rfl ?_
  refine x_iconst (v := (2)) C 1614 dL_law_1613 (by decide) rfl ?_
  refine x_iadd C 1615 dL_law_1614 rfl ?_
  refine x_top (show _ = nI (i + 2) from nI_add _ _) ?_
  refine x_sld hS0 C 1616 (vp_in_nI (by omega) (by omega)) dL_law_1615 rfl ?_
  refine x_top (show _ = xs (i + 2) from by rw [nI_clamp (by omega)]) ?_
  refine x_perm lp_1 ?_
  refine x_callV1_i C 1619 (kc + 4) (ns + 48) 0 10 2 hM rfl gL_law_X6_effectOn ⟨rfl, by decide, by decide, rfl⟩ ⟨show rmM.frames + 1 ≤ 2048 by omega, show 8 + (3 + 11) + rmM.locals ≤ 94400 by omega⟩ rfl rfl rfl rfl (Nat.le_of_ble_eq_true rfl) ⟨show kc + 4 + rmM.cells ≤ 639004 by omega, show ns + 48 + rmM.slots ≤ 7099219 by omega⟩ dL_law_1616 rfl (by omega) (by omega) (fun v2 w2 hv2 => ?_)
  obtain ⟨rfl, rfl⟩ := hv2
  refine x_perm lp_2 ?_
  refine x_istore C 1621 dL_law_1619 (by decide) rfl rfl ?_
  refine x_aload_n C 1622 dL_law_1621 rfl rfl ?_
  refine x_perm lp_1 ?_
  refine x_callV1_i C 1625 (kc + 4) (ns + 48) 0 10 0 (cM_thrown hl) rfl gL_law_X6_thrown ⟨rfl, by decide, by decide, rfl⟩ ⟨Nat.le_of_ble_eq_true rfl, Nat.le_of_ble_eq_true rfl⟩ rfl rfl rfl rfl (Nat.le_of_ble_eq_true rfl) ⟨show kc + 4 + 0 ≤ 639004 by omega, show ns + 48 + 0 ≤ 7099219 by omega⟩ dL_law_1622 rfl rfl rfl (fun v3 w3 hv3 => ?_)
  obtain ⟨rfl, rfl⟩ := hv3
  refine x_perm lp_2 ?_
  refine x_top hk ?_
  refine x_iload C 1627 dL_law_1625 rfl rfl ?_
  refine x_icmp_eq C 1632 1630 dL_law_1627 (by decide) rfl (fun _ => ?_) (fun z => absurd rfl z)
  refine x_iload C 1634 dL_law_1632 rfl rfl ?_
  refine x_if_ne C 1649 1637 dL_law_1634 (by decide) rfl (fun z => ?_) (fun z => ?_)
  · refine x_goto C 2274 dL_law_1649 (by decide) ?_
    refine x_dropn 6 ?_
    refine x_dropn 7 ?_
    refine x_ls (show _ = [some (.ref b), some (.ref x), some (.ref m), some (.ref o), some (.ref od), some (.int (nI i)), none, none, none, none] from rfl) ?_
    exact kk w1 f1 fd J e2 hRW1
  · refine x_aload_n C 1638 dL_law_1637 rfl rfl ?_
    refine x_iconst (v := (0)) C 1639 dL_law_1638 (by decide) rfl ?_
    refine x_lald C 1640 w1.length 3 lw_o rfl vp_in0 dL_law_1639 rfl ?_
    refine x_topq (show _ = Value.long v2.toInt64 from congrArg Value.long (hf1 z)) ?_
    refine x_iload C 1642 dL_law_1640 rfl rfl ?_
    refine x_i2l C 1643 dL_law_1642 rfl rfl ?_
    refine x_lcmp C 1644 dL_law_1643 rfl ?_
    refine x_top (lc_refl _) ?_
    refine x_if_eq C 1649 1647 dL_law_1644 (by decide) rfl (fun _ => ?_) (fun z => absurd rfl z)
    refine x_goto C 2274 dL_law_1649 (by decide) ?_
    refine x_dropn 6 ?_
    refine x_dropn 7 ?_
    refine x_ls (show _ = [some (.ref b), some (.ref x), some (.ref m), some (.ref o), some (.ref od), some (.int (nI i)), none, none, none, none] from rfl) ?_
    exact kk w1 f1 fd J e2 hRW1
end LW
section LW
variable {l : Launch} {φ : Fx} {D : va_G} {a : Nat → ClassId} {E0 x o m od b L i kc ns : Nat} {am : Nat → Nat} {w : va_W} {f : Nat → Int64} {fd : Nat → UInt64} {I : Nat → Nat → Int32} {e : Int64} {xs : Nat → Int32} {pc : Nat} {Lc : List (Option Value)} {rest : List Value} {ws : va_W}
set_option maxRecDepth 100000 in
set_option maxHeartbeats 4000000 in
theorem lc_park (hl : l.stackTraces = false) (C : Cb (gm D a E0) l φ cL_law 10 RL wsL_law room_1) (hS0 : lS φ b L xs) (hi : i + 6 ≤ L) (hL : L ≤ 3072) (hkc : kc + 4 ≤ 639004) (hns : ns + 48 ≤ 7099219) (h : RW a E0 x I e w) (kk : ∀ (w1 : va_W) (f1 : Nat → Int64) (fd1 : Nat → UInt64) (J : Nat → Nat → Int32) (e2 : Int64), RW a E0 x J e2 w1 → X φ 2274 [some (.ref b), some (.ref x), some (.ref m), some (.ref o), some (.ref od), some (.int (nI i)), none, none, none, none] [] (lW o m od am a w1 f1 fd1 J e2) (kc + 4) (ns + 48)) : X φ 1652 [some (.ref b), some (.ref x), some (.ref m), some (.ref o), some (.ref od), some (.int (nI i)), none, none, none, none] [] (lW o m od am a w f fd I e) kc ns := by
  obtain ⟨q9, fs9, hq9⟩ := h.xq
  refine x_aload_n C 1653 dL_law_1652 rfl rfl ?_
  refine x_aload_n C 1654 dL_law_1653 rfl rfl ?_
  refine x_iload C 1656 dL_law_1654 rfl rfl ?_
  refine x_iconst (v := (1)) C 1657 dL_law_1656 (by decide) rfl ?_
  refine x_iadd C 1658 dL_law_1657 rfl ?_
  refine x_top (show _ = nI (i + 1) from nI_add _ _) ?_
  refine x_sld hS0 C 1659 (vp_in_nI (by omega) (by omega)) dL_law_1658 rfl ?_
  refine x_top (show _ = xs (i + 1) from by rw [nI_clamp (by omega)]) ?_
  refine x_aload_n C 1660 dL_law_1659 rfl rfl ?_
  refine x_iload C 1662 dL_law_1660 rfl rfl ?_
  refine x_iconst (v := (2)) C 1663 dL_law_1662 (by decide) rfl ?_
  refine x_iadd C 1664 dL_law_1663 rfl ?_
  refine x_top (show _ = nI (i + 2) from nI_add _ _) ?_
  refine x_sld hS0 C 1665 (vp_in_nI (by omega) (by omega)) dL_law_1664 rfl ?_
  refine x_top (show _ = xs (i + 2) from by rw [nI_clamp (by omega)]) ?_
  obtain ⟨k, b2, J, e2, rmM, ⟨hr1, hr2, hr3, hr4⟩, hH, hM, hk⟩ := sm_park (m := m) (am := am) (o := o) (f := f) hl h (xs (i + 1)) (xs (i + 2))
  refine x_aload_n C 1666 dL_law_1665 rfl rfl ?_
  refine x_callW1_i C 1669 (kc + 4) (ns + 48) 4 hH rfl gL_law_L_park ⟨by decide, by decide, rfl⟩ ⟨Nat.le_of_ble_eq_true rfl, Nat.le_of_ble_eq_true rfl⟩ rfl rfl (Nat.le_of_ble_eq_true rfl) ⟨show kc + 4 ≤ 639004 by omega, show ns + 48 ≤ 7099219 by omega⟩ dL_law_1666 rfl rfl rfl (fun v1 w2 hv1 => ?_)
  obtain ⟨rfl, w1, f1, rfl, hRW1, hf1⟩ := hv1
  refine x_istore C 1671 dL_law_1669 (by decide) rfl rfl ?_
  refine x_aload_n C 1672 dL_law_1671 rfl rfl ?_
  refine x_aload_n C 1673 dL_law_1672 rfl rfl ?_
  refine x_iload C 1675 dL_law_1673 rfl rfl ?_
  refine x_iconst (v := (1)) C 1676 dL_law_1675 (by decide) rfl ?_
  refine x_iadd C 1677 dL_law_1676 rfl ?_
  refine x_top (show _ = nI (i + 1) from nI_add _ _) ?_
  refine x_sld hS0 C 1678 (vp_in_nI (by omega) (by omega)) dL_law_1677 rfl ?_
  refine x_top (show _ = xs (i + 1) from by rw [nI_clamp (by omega)]) ?_
  refine x_aload_n C 1679 dL_law_1678 rfl rfl ?_
  refine x_iload C 1681 dL_law_1679 rfl rfl ?_
  refine x_iconst (v := (2)) C 1682 dL_law_1681 (by decide) rfl ?_
  refine x_iadd C 1683 dL_law_1682 rfl ?_
  refine x_top (show _ = nI (i + 2) from nI_add _ _) ?_
  refine x_sld hS0 C 1684 (vp_in_nI (by omega) (by omega)) dL_law_1683 rfl ?_
  refine x_top (show _ = xs (i + 2) from by rw [nI_clamp (by omega)]) ?_
  refine x_perm lp_1 ?_
  refine x_callV1_i C 1687 (kc + 4) (ns + 48) 0 10 2 hM rfl gL_law_X6_park ⟨rfl, by decide, by decide, rfl⟩ ⟨show rmM.frames + 1 ≤ 2048 by omega, show 8 + (4 + 11) + rmM.locals ≤ 94400 by omega⟩ rfl rfl rfl rfl (Nat.le_of_ble_eq_true rfl) ⟨show kc + 4 + rmM.cells ≤ 639004 by omega, show ns + 48 + rmM.slots ≤ 7099219 by omega⟩ dL_law_1684 rfl (by omega) (by omega) (fun v2 w2 hv2 => ?_)
  obtain ⟨rfl, rfl⟩ := hv2
  refine x_perm lp_2 ?_
  refine x_istore C 1689 dL_law_1687 (by decide) rfl rfl ?_
  refine x_aload_n C 1690 dL_law_1689 rfl rfl ?_
  refine x_perm lp_1 ?_
  refine x_callV1_i C 1693 (kc + 4) (ns + 48) 0 10 0 (cM_thrown hl) rfl gL_law_X6_thrown ⟨rfl, by decide, by decide, rfl⟩ ⟨Nat.le_of_ble_eq_true rfl, Nat.le_of_ble_eq_true rfl⟩ rfl rfl rfl rfl (Nat.le_of_ble_eq_true rfl) ⟨show kc + 4 + 0 ≤ 639004 by omega, show ns + 48 + 0 ≤ 7099219 by omega⟩ dL_law_1690 rfl rfl rfl (fun v3 w3 hv3 => ?_)
  obtain ⟨rfl, rfl⟩ := hv3
  refine x_perm lp_2 ?_
  refine x_top hk ?_
  refine x_iload C 1695 dL_law_1693 rfl rfl ?_
  refine x_icmp_eq C 1700 1698 dL_law_1695 (by decide) rfl (fun _ => ?_) (fun z => absurd rfl z)
  refine x_iload C 1702 dL_law_1700 rfl rfl ?_
  refine x_if_ne C 1717 1705 dL_law_1702 (by decide) rfl (fun z => ?_) (fun z => ?_)
  · refine x_goto C 2274 dL_law_1717 (by decide) ?_
    refine x_dropn 6 ?_
    refine x_dropn 7 ?_
    refine x_ls (show _ = [some (.ref b), some (.ref x), some (.ref m), some (.ref o), some (.ref od), some (.int (nI i)), none, none, none, none] from rfl) ?_
    exact kk w1 f1 fd J e2 hRW1
  · refine x_aload_n C 1706 dL_law_1705 rfl rfl ?_
    refine x_iconst (v := (0)) C 1707 dL_law_1706 (by decide) rfl ?_
    refine x_lald C 1708 w1.length 3 lw_o rfl vp_in0 dL_law_1707 rfl ?_
    refine x_topq (show _ = Value.long v2.toInt64 from congrArg Value.long (hf1 z)) ?_
    refine x_iload C 1710 dL_law_1708 rfl rfl ?_
    refine x_i2l C 1711 dL_law_1710 rfl rfl ?_
    refine x_lcmp C 1712 dL_law_1711 rfl ?_
    refine x_top (lc_refl _) ?_
    refine x_if_eq C 1717 1715 dL_law_1712 (by decide) rfl (fun _ => ?_) (fun z => absurd rfl z)
    refine x_goto C 2274 dL_law_1717 (by decide) ?_
    refine x_dropn 6 ?_
    refine x_dropn 7 ?_
    refine x_ls (show _ = [some (.ref b), some (.ref x), some (.ref m), some (.ref o), some (.ref od), some (.int (nI i)), none, none, none, none] from rfl) ?_
    exact kk w1 f1 fd J e2 hRW1
set_option maxRecDepth 100000 in
set_option maxHeartbeats 4000000 in
theorem lc_unpark (hl : l.stackTraces = false) (C : Cb (gm D a E0) l φ cL_law 10 RL wsL_law room_1) (hS0 : lS φ b L xs) (hi : i + 6 ≤ L) (hL : L ≤ 3072) (hkc : kc + 4 ≤ 639004) (hns : ns + 48 ≤ 7099219) (h : RW a E0 x I e w) (kk : ∀ (w1 : va_W) (f1 : Nat → Int64) (fd1 : Nat → UInt64) (J : Nat → Nat → Int32) (e2 : Int64), RW a E0 x J e2 w1 → X φ 2274 [some (.ref b), some (.ref x), some (.ref m), some (.ref o), some (.ref od), some (.int (nI i)), none, none, none, none] [] (lW o m od am a w1 f1 fd1 J e2) (kc + 4) (ns + 48)) : X φ 1720 [some (.ref b), some (.ref x), some (.ref m), some (.ref o), some (.ref od), some (.int (nI i)), none, none, none, none] [] (lW o m od am a w f fd I e) kc ns := by
  obtain ⟨q9, fs9, hq9⟩ := h.xq
  refine x_aload_n C 1721 dL_law_1720 rfl rfl ?_
  refine x_aload_n C 1722 dL_law_1721 rfl rfl ?_
  refine x_iload C 1724 dL_law_1722 rfl rfl ?_
  refine x_iconst (v := (1)) C 1725 dL_law_1724 (by decide) rfl ?_
  refine x_iadd C 1726 dL_law_1725 rfl ?_
  refine x_top (show _ = nI (i + 1) from nI_add _ _) ?_
  refine x_sld hS0 C 1727 (vp_in_nI (by omega) (by omega)) dL_law_1726 rfl ?_
  refine x_top (show _ = xs (i + 1) from by rw [nI_clamp (by omega)]) ?_
  obtain ⟨k, b2, J, e2, rmM, ⟨hr1, hr2, hr3, hr4⟩, hH, hM, hk⟩ := sm_unpark (m := m) (am := am) (o := o) (f := f) hl h (xs (i + 1))
  refine x_aload_n C 1728 dL_law_1727 rfl rfl ?_
  refine x_callW1_i C 1731 (kc + 4) (ns + 48) 3 hH rfl gL_law_L_unpark ⟨by decide, by decide, rfl⟩ ⟨Nat.le_of_ble_eq_true rfl, Nat.le_of_ble_eq_true rfl⟩ rfl rfl (Nat.le_of_ble_eq_true rfl) ⟨show kc + 4 ≤ 639004 by omega, show ns + 48 ≤ 7099219 by omega⟩ dL_law_1728 rfl rfl rfl (fun v1 w2 hv1 => ?_)
  obtain ⟨rfl, w1, f1, rfl, hRW1, hf1⟩ := hv1
  refine x_istore C 1733 dL_law_1731 (by decide) rfl rfl ?_
  refine x_aload_n C 1734 dL_law_1733 rfl rfl ?_
  refine x_aload_n C 1735 dL_law_1734 rfl rfl ?_
  refine x_iload C 1737 dL_law_1735 rfl rfl ?_
  refine x_iconst (v := (1)) C 1738 dL_law_1737 (by decide) rfl ?_
  refine x_iadd C 1739 dL_law_1738 rfl ?_
  refine x_top (show _ = nI (i + 1) from nI_add _ _) ?_
  refine x_sld hS0 C 1740 (vp_in_nI (by omega) (by omega)) dL_law_1739 rfl ?_
  refine x_top (show _ = xs (i + 1) from by rw [nI_clamp (by omega)]) ?_
  refine x_perm lp_1 ?_
  refine x_callV1_i C 1743 (kc + 4) (ns + 48) 0 10 1 hM rfl gL_law_X6_unpark ⟨rfl, by decide, by decide, rfl⟩ ⟨show rmM.frames + 1 ≤ 2048 by omega, show 8 + (3 + 11) + rmM.locals ≤ 94400 by omega⟩ rfl rfl rfl rfl (Nat.le_of_ble_eq_true rfl) ⟨show kc + 4 + rmM.cells ≤ 639004 by omega, show ns + 48 + rmM.slots ≤ 7099219 by omega⟩ dL_law_1740 rfl (by omega) (by omega) (fun v2 w2 hv2 => ?_)
  obtain ⟨rfl, rfl⟩ := hv2
  refine x_perm lp_2 ?_
  refine x_istore C 1745 dL_law_1743 (by decide) rfl rfl ?_
  refine x_aload_n C 1746 dL_law_1745 rfl rfl ?_
  refine x_perm lp_1 ?_
  refine x_callV1_i C 1749 (kc + 4) (ns + 48) 0 10 0 (cM_thrown hl) rfl gL_law_X6_thrown ⟨rfl, by decide, by decide, rfl⟩ ⟨Nat.le_of_ble_eq_true rfl, Nat.le_of_ble_eq_true rfl⟩ rfl rfl rfl rfl (Nat.le_of_ble_eq_true rfl) ⟨show kc + 4 + 0 ≤ 639004 by omega, show ns + 48 + 0 ≤ 7099219 by omega⟩ dL_law_1746 rfl rfl rfl (fun v3 w3 hv3 => ?_)
  obtain ⟨rfl, rfl⟩ := hv3
  refine x_perm lp_2 ?_
  refine x_top hk ?_
  refine x_iload C 1751 dL_law_1749 rfl rfl ?_
  refine x_icmp_eq C 1756 1754 dL_law_1751 (by decide) rfl (fun _ => ?_) (fun z => absurd rfl z)
  refine x_iload C 1758 dL_law_1756 rfl rfl ?_
  refine x_if_ne C 1773 1761 dL_law_1758 (by decide) rfl (fun z => ?_) (fun z => ?_)
  · refine x_goto C 2274 dL_law_1773 (by decide) ?_
    refine x_dropn 6 ?_
    refine x_dropn 7 ?_
    refine x_ls (show _ = [some (.ref b), some (.ref x), some (.ref m), some (.ref o), some (.ref od), some (.int (nI i)), none, none, none, none] from rfl) ?_
    exact kk w1 f1 fd J e2 hRW1
  · refine x_aload_n C 1762 dL_law_1761 rfl rfl ?_
    refine x_iconst (v := (0)) C 1763 dL_law_1762 (by decide) rfl ?_
    refine x_lald C 1764 w1.length 3 lw_o rfl vp_in0 dL_law_1763 rfl ?_
    refine x_topq (show _ = Value.long v2.toInt64 from congrArg Value.long (hf1 z)) ?_
    refine x_iload C 1766 dL_law_1764 rfl rfl ?_
    refine x_i2l C 1767 dL_law_1766 rfl rfl ?_
    refine x_lcmp C 1768 dL_law_1767 rfl ?_
    refine x_top (lc_refl _) ?_
    refine x_if_eq C 1773 1771 dL_law_1768 (by decide) rfl (fun _ => ?_) (fun z => absurd rfl z)
    refine x_goto C 2274 dL_law_1773 (by decide) ?_
    refine x_dropn 6 ?_
    refine x_dropn 7 ?_
    refine x_ls (show _ = [some (.ref b), some (.ref x), some (.ref m), some (.ref o), some (.ref od), some (.int (nI i)), none, none, none, none] from rfl) ?_
    exact kk w1 f1 fd J e2 hRW1
set_option maxRecDepth 100000 in
set_option maxHeartbeats 4000000 in
theorem lc_setMaster (hl : l.stackTraces = false) (C : Cb (gm D a E0) l φ cL_law 10 RL wsL_law room_1) (hS0 : lS φ b L xs) (hi : i + 6 ≤ L) (hL : L ≤ 3072) (hkc : kc + 4 ≤ 639004) (hns : ns + 48 ≤ 7099219) (h : RW a E0 x I e w) (kk : ∀ (w1 : va_W) (f1 : Nat → Int64) (fd1 : Nat → UInt64) (J : Nat → Nat → Int32) (e2 : Int64), RW a E0 x J e2 w1 → X φ 2274 [some (.ref b), some (.ref x), some (.ref m), some (.ref o), some (.ref od), some (.int (nI i)), none, none, none, none] [] (lW o m od am a w1 f1 fd1 J e2) (kc + 4) (ns + 48)) : X φ 1776 [some (.ref b), some (.ref x), some (.ref m), some (.ref o), some (.ref od), some (.int (nI i)), none, none, none, none] [] (lW o m od am a w f fd I e) kc ns := by
  obtain ⟨q9, fs9, hq9⟩ := h.xq
  refine x_aload_n C 1777 dL_law_1776 rfl rfl ?_
  refine x_aload_n C 1778 dL_law_1777 rfl rfl ?_
  refine x_iload C 1780 dL_law_1778 rfl rfl ?_
  refine x_iconst (v := (1)) C 1781 dL_law_1780 (by decide) rfl ?_
  refine x_iadd C 1782 dL_law_1781 rfl ?_
  refine x_top (show _ = nI (i + 1) from nI_add _ _) ?_
  refine x_sld hS0 C 1783 (vp_in_nI (by omega) (by omega)) dL_law_1782 rfl ?_
  refine x_top (show _ = xs (i + 1) from by rw [nI_clamp (by omega)]) ?_
  obtain ⟨k, b2, J, e2, rmM, ⟨hr1, hr2, hr3, hr4⟩, hH, hM, hk⟩ := sm_setMaster (m := m) (am := am) (o := o) (f := f) hl h (xs (i + 1))
  refine x_aload_n C 1784 dL_law_1783 rfl rfl ?_
  refine x_callW1_i C 1787 (kc + 4) (ns + 48) 3 hH rfl gL_law_L_setMaster ⟨by decide, by decide, rfl⟩ ⟨Nat.le_of_ble_eq_true rfl, Nat.le_of_ble_eq_true rfl⟩ rfl rfl (Nat.le_of_ble_eq_true rfl) ⟨show kc + 4 ≤ 639004 by omega, show ns + 48 ≤ 7099219 by omega⟩ dL_law_1784 rfl rfl rfl (fun v1 w2 hv1 => ?_)
  obtain ⟨rfl, w1, f1, rfl, hRW1, hf1⟩ := hv1
  refine x_istore C 1789 dL_law_1787 (by decide) rfl rfl ?_
  refine x_aload_n C 1790 dL_law_1789 rfl rfl ?_
  refine x_aload_n C 1791 dL_law_1790 rfl rfl ?_
  refine x_iload C 1793 dL_law_1791 rfl rfl ?_
  refine x_iconst (v := (1)) C 1794 dL_law_1793 (by decide) rfl ?_
  refine x_iadd C 1795 dL_law_1794 rfl ?_
  refine x_top (show _ = nI (i + 1) from nI_add _ _) ?_
  refine x_sld hS0 C 1796 (vp_in_nI (by omega) (by omega)) dL_law_1795 rfl ?_
  refine x_top (show _ = xs (i + 1) from by rw [nI_clamp (by omega)]) ?_
  refine x_perm lp_1 ?_
  refine x_callV1_i C 1799 (kc + 4) (ns + 48) 0 10 1 hM rfl gL_law_X6_setMaster ⟨rfl, by decide, by decide, rfl⟩ ⟨show rmM.frames + 1 ≤ 2048 by omega, show 8 + (3 + 11) + rmM.locals ≤ 94400 by omega⟩ rfl rfl rfl rfl (Nat.le_of_ble_eq_true rfl) ⟨show kc + 4 + rmM.cells ≤ 639004 by omega, show ns + 48 + rmM.slots ≤ 7099219 by omega⟩ dL_law_1796 rfl (by omega) (by omega) (fun v2 w2 hv2 => ?_)
  obtain ⟨rfl, rfl⟩ := hv2
  refine x_perm lp_2 ?_
  refine x_istore C 1801 dL_law_1799 (by decide) rfl rfl ?_
  refine x_aload_n C 1802 dL_law_1801 rfl rfl ?_
  refine x_perm lp_1 ?_
  refine x_callV1_i C 1805 (kc + 4) (ns + 48) 0 10 0 (cM_thrown hl) rfl gL_law_X6_thrown ⟨rfl, by decide, by decide, rfl⟩ ⟨Nat.le_of_ble_eq_true rfl, Nat.le_of_ble_eq_true rfl⟩ rfl rfl rfl rfl (Nat.le_of_ble_eq_true rfl) ⟨show kc + 4 + 0 ≤ 639004 by omega, show ns + 48 + 0 ≤ 7099219 by omega⟩ dL_law_1802 rfl rfl rfl (fun v3 w3 hv3 => ?_)
  obtain ⟨rfl, rfl⟩ := hv3
  refine x_perm lp_2 ?_
  refine x_top hk ?_
  refine x_iload C 1807 dL_law_1805 rfl rfl ?_
  refine x_icmp_eq C 1812 1810 dL_law_1807 (by decide) rfl (fun _ => ?_) (fun z => absurd rfl z)
  refine x_iload C 1814 dL_law_1812 rfl rfl ?_
  refine x_if_ne C 1829 1817 dL_law_1814 (by decide) rfl (fun z => ?_) (fun z => ?_)
  · refine x_goto C 2274 dL_law_1829 (by decide) ?_
    refine x_dropn 6 ?_
    refine x_dropn 7 ?_
    refine x_ls (show _ = [some (.ref b), some (.ref x), some (.ref m), some (.ref o), some (.ref od), some (.int (nI i)), none, none, none, none] from rfl) ?_
    exact kk w1 f1 fd J e2 hRW1
  · refine x_aload_n C 1818 dL_law_1817 rfl rfl ?_
    refine x_iconst (v := (0)) C 1819 dL_law_1818 (by decide) rfl ?_
    refine x_lald C 1820 w1.length 3 lw_o rfl vp_in0 dL_law_1819 rfl ?_
    refine x_topq (show _ = Value.long v2.toInt64 from congrArg Value.long (hf1 z)) ?_
    refine x_iload C 1822 dL_law_1820 rfl rfl ?_
    refine x_i2l C 1823 dL_law_1822 rfl rfl ?_
    refine x_lcmp C 1824 dL_law_1823 rfl ?_
    refine x_top (lc_refl _) ?_
    refine x_if_eq C 1829 1827 dL_law_1824 (by decide) rfl (fun _ => ?_) (fun z => absurd rfl z)
    refine x_goto C 2274 dL_law_1829 (by decide) ?_
    refine x_dropn 6 ?_
    refine x_dropn 7 ?_
    refine x_ls (show _ = [some (.ref b), some (.ref x), some (.ref m), some (.ref o), some (.ref od), some (.int (nI i)), none, none, none, none] from rfl) ?_
    exact kk w1 f1 fd J e2 hRW1
set_option maxRecDepth 100000 in
set_option maxHeartbeats 4000000 in
theorem lc_level (hl : l.stackTraces = false) (C : Cb (gm D a E0) l φ cL_law 10 RL wsL_law room_1) (hS0 : lS φ b L xs) (hi : i + 6 ≤ L) (hL : L ≤ 3072) (hkc : kc + 4 ≤ 639004) (hns : ns + 48 ≤ 7099219) (h : RW a E0 x I e w) (kk : ∀ (w1 : va_W) (f1 : Nat → Int64) (fd1 : Nat → UInt64) (J : Nat → Nat → Int32) (e2 : Int64), RW a E0 x J e2 w1 → X φ 2274 [some (.ref b), some (.ref x), some (.ref m), some (.ref o), some (.ref od), some (.int (nI i)), none, none, none, none] [] (lW o m od am a w1 f1 fd1 J e2) (kc + 4) (ns + 48)) : X φ 1832 [some (.ref b), some (.ref x), some (.ref m), some (.ref o), some (.ref od), some (.int (nI i)), none, none, none, none] [] (lW o m od am a w f fd I e) kc ns := by
  obtain ⟨q9, fs9, hq9⟩ := h.xq
  refine x_aload_n C 1833 dL_law_1832 rfl rfl ?_
  refine x_aload_n C 1834 dL_law_1833 rfl rfl ?_
  refine x_iload C 1836 dL_law_1834 rfl rfl ?_
  refine x_iconst (v := (1)) C 1837 dL_law_1836 (by decide) rfl ?_
  refine x_iadd C 1838 dL_law_1837 rfl ?_
  refine x_top (show _ = nI (i + 1) from nI_add _ _) ?_
  refine x_sld hS0 C 1839 (vp_in_nI (by omega) (by omega)) dL_law_1838 rfl ?_
  refine x_top (show _ = xs (i + 1) from by rw [nI_clamp (by omega)]) ?_
  obtain ⟨k, b2, J, e2, rmM, ⟨hr1, hr2, hr3, hr4⟩, hH, hM, hk⟩ := sm_level (m := m) (am := am) (o := o) (f := f) hl h (xs (i + 1))
  refine x_aload_n C 1840 dL_law_1839 rfl rfl ?_
  refine x_callW1_i C 1843 (kc + 4) (ns + 48) 3 hH rfl gL_law_L_level ⟨by decide, by decide, rfl⟩ ⟨Nat.le_of_ble_eq_true rfl, Nat.le_of_ble_eq_true rfl⟩ rfl rfl (Nat.le_of_ble_eq_true rfl) ⟨show kc + 4 ≤ 639004 by omega, show ns + 48 ≤ 7099219 by omega⟩ dL_law_1840 rfl rfl rfl (fun v1 w2 hv1 => ?_)
  obtain ⟨rfl, w1, f1, rfl, hRW1, hf1⟩ := hv1
  refine x_istore C 1845 dL_law_1843 (by decide) rfl rfl ?_
  refine x_aload_n C 1846 dL_law_1845 rfl rfl ?_
  refine x_aload_n C 1847 dL_law_1846 rfl rfl ?_
  refine x_iload C 1849 dL_law_1847 rfl rfl ?_
  refine x_iconst (v := (1)) C 1850 dL_law_1849 (by decide) rfl ?_
  refine x_iadd C 1851 dL_law_1850 rfl ?_
  refine x_top (show _ = nI (i + 1) from nI_add _ _) ?_
  refine x_sld hS0 C 1852 (vp_in_nI (by omega) (by omega)) dL_law_1851 rfl ?_
  refine x_top (show _ = xs (i + 1) from by rw [nI_clamp (by omega)]) ?_
  refine x_perm lp_1 ?_
  refine x_callV1_i C 1855 (kc + 4) (ns + 48) 0 10 1 hM rfl gL_law_X6_level ⟨rfl, by decide, by decide, rfl⟩ ⟨show rmM.frames + 1 ≤ 2048 by omega, show 8 + (2 + 11) + rmM.locals ≤ 94400 by omega⟩ rfl rfl rfl rfl (Nat.le_of_ble_eq_true rfl) ⟨show kc + 4 + rmM.cells ≤ 639004 by omega, show ns + 48 + rmM.slots ≤ 7099219 by omega⟩ dL_law_1852 rfl (by omega) (by omega) (fun v2 w2 hv2 => ?_)
  obtain ⟨rfl, rfl⟩ := hv2
  refine x_perm lp_2 ?_
  refine x_istore C 1857 dL_law_1855 (by decide) rfl rfl ?_
  refine x_aload_n C 1858 dL_law_1857 rfl rfl ?_
  refine x_perm lp_1 ?_
  refine x_callV1_i C 1861 (kc + 4) (ns + 48) 0 10 0 (cM_thrown hl) rfl gL_law_X6_thrown ⟨rfl, by decide, by decide, rfl⟩ ⟨Nat.le_of_ble_eq_true rfl, Nat.le_of_ble_eq_true rfl⟩ rfl rfl rfl rfl (Nat.le_of_ble_eq_true rfl) ⟨show kc + 4 + 0 ≤ 639004 by omega, show ns + 48 + 0 ≤ 7099219 by omega⟩ dL_law_1858 rfl rfl rfl (fun v3 w3 hv3 => ?_)
  obtain ⟨rfl, rfl⟩ := hv3
  refine x_perm lp_2 ?_
  refine x_top hk ?_
  refine x_iload C 1863 dL_law_1861 rfl rfl ?_
  refine x_icmp_eq C 1868 1866 dL_law_1863 (by decide) rfl (fun _ => ?_) (fun z => absurd rfl z)
  refine x_iload C 1870 dL_law_1868 rfl rfl ?_
  refine x_if_ne C 1885 1873 dL_law_1870 (by decide) rfl (fun z => ?_) (fun z => ?_)
  · refine x_goto C 2274 dL_law_1885 (by decide) ?_
    refine x_dropn 6 ?_
    refine x_dropn 7 ?_
    refine x_ls (show _ = [some (.ref b), some (.ref x), some (.ref m), some (.ref o), some (.ref od), some (.int (nI i)), none, none, none, none] from rfl) ?_
    exact kk w1 f1 fd J e2 hRW1
  · refine x_aload_n C 1874 dL_law_1873 rfl rfl ?_
    refine x_iconst (v := (0)) C 1875 dL_law_1874 (by decide) rfl ?_
    refine x_lald C 1876 w1.length 3 lw_o rfl vp_in0 dL_law_1875 rfl ?_
    refine x_topq (show _ = Value.long v2.toInt64 from congrArg Value.long (hf1 z)) ?_
    refine x_iload C 1878 dL_law_1876 rfl rfl ?_
    refine x_i2l C 1879 dL_law_1878 rfl rfl ?_
    refine x_lcmp C 1880 dL_law_1879 rfl ?_
    refine x_top (lc_refl _) ?_
    refine x_if_eq C 1885 1883 dL_law_1880 (by decide) rfl (fun _ => ?_) (fun z => absurd rfl z)
    refine x_goto C 2274 dL_law_1885 (by decide) ?_
    refine x_dropn 6 ?_
    refine x_dropn 7 ?_
    refine x_ls (show _ = [some (.ref b), some (.ref x), some (.ref m), some (.ref o), some (.ref od), some (.int (nI i)), none, none, none, none] from rfl) ?_
    exact kk w1 f1 fd J e2 hRW1
set_option maxRecDepth 100000 in
set_option maxHeartbeats 4000000 in
theorem lc_levelAlone (hl : l.stackTraces = false) (C : Cb (gm D a E0) l φ cL_law 10 RL wsL_law room_1) (hS0 : lS φ b L xs) (hi : i + 6 ≤ L) (hL : L ≤ 3072) (hkc : kc + 4 ≤ 639004) (hns : ns + 48 ≤ 7099219) (h : RW a E0 x I e w) (kk : ∀ (w1 : va_W) (f1 : Nat → Int64) (fd1 : Nat → UInt64) (J : Nat → Nat → Int32) (e2 : Int64), RW a E0 x J e2 w1 → X φ 2274 [some (.ref b), some (.ref x), some (.ref m), some (.ref o), some (.ref od), some (.int (nI i)), none, none, none, none] [] (lW o m od am a w1 f1 fd1 J e2) (kc + 4) (ns + 48)) : X φ 1888 [some (.ref b), some (.ref x), some (.ref m), some (.ref o), some (.ref od), some (.int (nI i)), none, none, none, none] [] (lW o m od am a w f fd I e) kc ns := by
  obtain ⟨q9, fs9, hq9⟩ := h.xq
  refine x_aload_n C 1889 dL_law_1888 rfl rfl ?_
  refine x_aload_n C 1890 dL_law_1889 rfl rfl ?_
  refine x_iload C 1892 dL_law_1890 rfl rfl ?_
  refine x_iconst (v := (1)) C 1893 dL_law_1892 (by decide) rfl ?_
  refine x_iadd C 1894 dL_law_1893 rfl ?_
  refine x_top (show _ = nI (i + 1) from nI_add _ _) ?_
  refine x_sld hS0 C 1895 (vp_in_nI (by omega) (by omega)) dL_law_1894 rfl ?_
  refine x_top (show _ = xs (i + 1) from by rw [nI_clamp (by omega)]) ?_
  obtain ⟨k, b2, J, e2, rmM, ⟨hr1, hr2, hr3, hr4⟩, hH, hM, hk⟩ := sm_levelAlone (m := m) (am := am) (o := o) (f := f) hl h (xs (i + 1))
  refine x_aload_n C 1896 dL_law_1895 rfl rfl ?_
  refine x_callW1_i C 1899 (kc + 4) (ns + 48) 3 hH rfl gL_law_L_levelAlone ⟨by decide, by decide, rfl⟩ ⟨Nat.le_of_ble_eq_true rfl, Nat.le_of_ble_eq_true rfl⟩ rfl rfl (Nat.le_of_ble_eq_true rfl) ⟨show kc + 4 ≤ 639004 by omega, show ns + 48 ≤ 7099219 by omega⟩ dL_law_1896 rfl rfl rfl (fun v1 w2 hv1 => ?_)
  obtain ⟨rfl, w1, f1, rfl, hRW1, hf1⟩ := hv1
  refine x_istore C 1901 dL_law_1899 (by decide) rfl rfl ?_
  refine x_aload_n C 1902 dL_law_1901 rfl rfl ?_
  refine x_aload_n C 1903 dL_law_1902 rfl rfl ?_
  refine x_iload C 1905 dL_law_1903 rfl rfl ?_
  refine x_iconst (v := (1)) C 1906 dL_law_1905 (by decide) rfl ?_
  refine x_iadd C 1907 dL_law_1906 rfl ?_
  refine x_top (show _ = nI (i + 1) from nI_add _ _) ?_
  refine x_sld hS0 C 1908 (vp_in_nI (by omega) (by omega)) dL_law_1907 rfl ?_
  refine x_top (show _ = xs (i + 1) from by rw [nI_clamp (by omega)]) ?_
  refine x_perm lp_1 ?_
  refine x_callV1_i C 1911 (kc + 4) (ns + 48) 0 10 1 hM rfl gL_law_X6_levelAlone ⟨rfl, by decide, by decide, rfl⟩ ⟨show rmM.frames + 1 ≤ 2048 by omega, show 8 + (2 + 11) + rmM.locals ≤ 94400 by omega⟩ rfl rfl rfl rfl (Nat.le_of_ble_eq_true rfl) ⟨show kc + 4 + rmM.cells ≤ 639004 by omega, show ns + 48 + rmM.slots ≤ 7099219 by omega⟩ dL_law_1908 rfl (by omega) (by omega) (fun v2 w2 hv2 => ?_)
  obtain ⟨rfl, rfl⟩ := hv2
  refine x_perm lp_2 ?_
  refine x_istore C 1913 dL_law_1911 (by decide) rfl rfl ?_
  refine x_aload_n C 1914 dL_law_1913 rfl rfl ?_
  refine x_perm lp_1 ?_
  refine x_callV1_i C 1917 (kc + 4) (ns + 48) 0 10 0 (cM_thrown hl) rfl gL_law_X6_thrown ⟨rfl, by decide, by decide, rfl⟩ ⟨Nat.le_of_ble_eq_true rfl, Nat.le_of_ble_eq_true rfl⟩ rfl rfl rfl rfl (Nat.le_of_ble_eq_true rfl) ⟨show kc + 4 + 0 ≤ 639004 by omega, show ns + 48 + 0 ≤ 7099219 by omega⟩ dL_law_1914 rfl rfl rfl (fun v3 w3 hv3 => ?_)
  obtain ⟨rfl, rfl⟩ := hv3
  refine x_perm lp_2 ?_
  refine x_top hk ?_
  refine x_iload C 1919 dL_law_1917 rfl rfl ?_
  refine x_icmp_eq C 1924 1922 dL_law_1919 (by decide) rfl (fun _ => ?_) (fun z => absurd rfl z)
  refine x_iload C 1926 dL_law_1924 rfl rfl ?_
  refine x_if_ne C 1941 1929 dL_law_1926 (by decide) rfl (fun z => ?_) (fun z => ?_)
  · refine x_goto C 2274 dL_law_1941 (by decide) ?_
    refine x_dropn 6 ?_
    refine x_dropn 7 ?_
    refine x_ls (show _ = [some (.ref b), some (.ref x), some (.ref m), some (.ref o), some (.ref od), some (.int (nI i)), none, none, none, none] from rfl) ?_
    exact kk w1 f1 fd J e2 hRW1
  · refine x_aload_n C 1930 dL_law_1929 rfl rfl ?_
    refine x_iconst (v := (0)) C 1931 dL_law_1930 (by decide) rfl ?_
    refine x_lald C 1932 w1.length 3 lw_o rfl vp_in0 dL_law_1931 rfl ?_
    refine x_topq (show _ = Value.long v2.toInt64 from congrArg Value.long (hf1 z)) ?_
    refine x_iload C 1934 dL_law_1932 rfl rfl ?_
    refine x_i2l C 1935 dL_law_1934 rfl rfl ?_
    refine x_lcmp C 1936 dL_law_1935 rfl ?_
    refine x_top (lc_refl _) ?_
    refine x_if_eq C 1941 1939 dL_law_1936 (by decide) rfl (fun _ => ?_) (fun z => absurd rfl z)
    refine x_goto C 2274 dL_law_1941 (by decide) ?_
    refine x_dropn 6 ?_
    refine x_dropn 7 ?_
    refine x_ls (show _ = [some (.ref b), some (.ref x), some (.ref m), some (.ref o), some (.ref od), some (.int (nI i)), none, none, none, none] from rfl) ?_
    exact kk w1 f1 fd J e2 hRW1
set_option maxRecDepth 100000 in
set_option maxHeartbeats 4000000 in
theorem lc_channelByLevel (hl : l.stackTraces = false) (C : Cb (gm D a E0) l φ cL_law 10 RL wsL_law room_1) (hS0 : lS φ b L xs) (hi : i + 6 ≤ L) (hL : L ≤ 3072) (hkc : kc + 4 ≤ 639004) (hns : ns + 48 ≤ 7099219) (h : RW a E0 x I e w) (kk : ∀ (w1 : va_W) (f1 : Nat → Int64) (fd1 : Nat → UInt64) (J : Nat → Nat → Int32) (e2 : Int64), RW a E0 x J e2 w1 → X φ 2274 [some (.ref b), some (.ref x), some (.ref m), some (.ref o), some (.ref od), some (.int (nI i)), none, none, none, none] [] (lW o m od am a w1 f1 fd1 J e2) (kc + 4) (ns + 48)) : X φ 1944 [some (.ref b), some (.ref x), some (.ref m), some (.ref o), some (.ref od), some (.int (nI i)), none, none, none, none] [] (lW o m od am a w f fd I e) kc ns := by
  obtain ⟨q9, fs9, hq9⟩ := h.xq
  refine x_aload_n C 1945 dL_law_1944 rfl rfl ?_
  refine x_aload_n C 1946 dL_law_1945 rfl rfl ?_
  refine x_iload C 1948 dL_law_1946 rfl rfl ?_
  refine x_iconst (v := (1)) C 1949 dL_law_1948 (by decide) rfl ?_
  refine x_iadd C 1950 dL_law_1949 rfl ?_
  refine x_top (show _ = nI (i + 1) from nI_add _ _) ?_
  refine x_sld hS0 C 1951 (vp_in_nI (by omega) (by omega)) dL_law_1950 rfl ?_
  refine x_top (show _ = xs (i + 1) from by rw [nI_clamp (by omega)]) ?_
  obtain ⟨k, b2, J, e2, rmM, ⟨hr1, hr2, hr3, hr4⟩, hH, hM, hk⟩ := sm_channelByLevel (m := m) (am := am) (o := o) (f := f) hl h (xs (i + 1))
  refine x_aload_n C 1952 dL_law_1951 rfl rfl ?_
  refine x_callW1_i C 1955 (kc + 4) (ns + 48) 3 hH rfl gL_law_L_channelByLevel ⟨by decide, by decide, rfl⟩ ⟨Nat.le_of_ble_eq_true rfl, Nat.le_of_ble_eq_true rfl⟩ rfl rfl (Nat.le_of_ble_eq_true rfl) ⟨show kc + 4 ≤ 639004 by omega, show ns + 48 ≤ 7099219 by omega⟩ dL_law_1952 rfl rfl rfl (fun v1 w2 hv1 => ?_)
  obtain ⟨rfl, w1, f1, rfl, hRW1, hf1⟩ := hv1
  refine x_istore C 1957 dL_law_1955 (by decide) rfl rfl ?_
  refine x_aload_n C 1958 dL_law_1957 rfl rfl ?_
  refine x_aload_n C 1959 dL_law_1958 rfl rfl ?_
  refine x_iload C 1961 dL_law_1959 rfl rfl ?_
  refine x_iconst (v := (1)) C 1962 dL_law_1961 (by decide) rfl ?_
  refine x_iadd C 1963 dL_law_1962 rfl ?_
  refine x_top (show _ = nI (i + 1) from nI_add _ _) ?_
  refine x_sld hS0 C 1964 (vp_in_nI (by omega) (by omega)) dL_law_1963 rfl ?_
  refine x_top (show _ = xs (i + 1) from by rw [nI_clamp (by omega)]) ?_
  refine x_perm lp_1 ?_
  refine x_callV1_i C 1967 (kc + 4) (ns + 48) 0 10 1 hM rfl gL_law_X6_channelByLevel ⟨rfl, by decide, by decide, rfl⟩ ⟨show rmM.frames + 1 ≤ 2048 by omega, show 8 + (6 + 11) + rmM.locals ≤ 94400 by omega⟩ rfl rfl rfl rfl (Nat.le_of_ble_eq_true rfl) ⟨show kc + 4 + rmM.cells ≤ 639004 by omega, show ns + 48 + rmM.slots ≤ 7099219 by omega⟩ dL_law_1964 rfl (by omega) (by omega) (fun v2 w2 hv2 => ?_)
  obtain ⟨rfl, rfl⟩ := hv2
  refine x_perm lp_2 ?_
  refine x_istore C 1969 dL_law_1967 (by decide) rfl rfl ?_
  refine x_aload_n C 1970 dL_law_1969 rfl rfl ?_
  refine x_perm lp_1 ?_
  refine x_callV1_i C 1973 (kc + 4) (ns + 48) 0 10 0 (cM_thrown hl) rfl gL_law_X6_thrown ⟨rfl, by decide, by decide, rfl⟩ ⟨Nat.le_of_ble_eq_true rfl, Nat.le_of_ble_eq_true rfl⟩ rfl rfl rfl rfl (Nat.le_of_ble_eq_true rfl) ⟨show kc + 4 + 0 ≤ 639004 by omega, show ns + 48 + 0 ≤ 7099219 by omega⟩ dL_law_1970 rfl rfl rfl (fun v3 w3 hv3 => ?_)
  obtain ⟨rfl, rfl⟩ := hv3
  refine x_perm lp_2 ?_
  refine x_top hk ?_
  refine x_iload C 1975 dL_law_1973 rfl rfl ?_
  refine x_icmp_eq C 1980 1978 dL_law_1975 (by decide) rfl (fun _ => ?_) (fun z => absurd rfl z)
  refine x_iload C 1982 dL_law_1980 rfl rfl ?_
  refine x_if_ne C 1997 1985 dL_law_1982 (by decide) rfl (fun z => ?_) (fun z => ?_)
  · refine x_goto C 2274 dL_law_1997 (by decide) ?_
    refine x_dropn 6 ?_
    refine x_dropn 7 ?_
    refine x_ls (show _ = [some (.ref b), some (.ref x), some (.ref m), some (.ref o), some (.ref od), some (.int (nI i)), none, none, none, none] from rfl) ?_
    exact kk w1 f1 fd J e2 hRW1
  · refine x_aload_n C 1986 dL_law_1985 rfl rfl ?_
    refine x_iconst (v := (0)) C 1987 dL_law_1986 (by decide) rfl ?_
    refine x_lald C 1988 w1.length 3 lw_o rfl vp_in0 dL_law_1987 rfl ?_
    refine x_topq (show _ = Value.long v2.toInt64 from congrArg Value.long (hf1 z)) ?_
    refine x_iload C 1990 dL_law_1988 rfl rfl ?_
    refine x_i2l C 1991 dL_law_1990 rfl rfl ?_
    refine x_lcmp C 1992 dL_law_1991 rfl ?_
    refine x_top (lc_refl _) ?_
    refine x_if_eq C 1997 1995 dL_law_1992 (by decide) rfl (fun _ => ?_) (fun z => absurd rfl z)
    refine x_goto C 2274 dL_law_1997 (by decide) ?_
    refine x_dropn 6 ?_
    refine x_dropn 7 ?_
    refine x_ls (show _ = [some (.ref b), some (.ref x), some (.ref m), some (.ref o), some (.ref od), some (.int (nI i)), none, none, none, none] from rfl) ?_
    exact kk w1 f1 fd J e2 hRW1
set_option maxRecDepth 100000 in
set_option maxHeartbeats 4000000 in
theorem lc_energy (hl : l.stackTraces = false) (C : Cb (gm D a E0) l φ cL_law 10 RL wsL_law room_1) (hS0 : lS φ b L xs) (hi : i + 6 ≤ L) (hL : L ≤ 3072) (hkc : kc + 4 ≤ 639004) (hns : ns + 48 ≤ 7099219) (h : RW a E0 x I e w) (kk : ∀ (w1 : va_W) (f1 : Nat → Int64) (fd1 : Nat → UInt64) (J : Nat → Nat → Int32) (e2 : Int64), RW a E0 x J e2 w1 → X φ 2274 [some (.ref b), some (.ref x), some (.ref m), some (.ref o), some (.ref od), some (.int (nI i)), none, none, none, none] [] (lW o m od am a w1 f1 fd1 J e2) (kc + 4) (ns + 48)) : X φ 2000 [some (.ref b), some (.ref x), some (.ref m), some (.ref o), some (.ref od), some (.int (nI i)), none, none, none, none] [] (lW o m od am a w f fd I e) kc ns := by
  obtain ⟨q9, fs9, hq9⟩ := h.xq
  obtain ⟨b2, J, e2, rmC, rmM, hrC, ⟨hr1, hr2, hr3, hr4⟩, hH, hM⟩ := sd_energy (m := m) (am := am) hl h
  obtain ⟨hc1, hc2, hc3, hc4⟩ := hrC
  refine x_aload_n C 2001 dL_law_2000 rfl rfl ?_
  refine x_ws (show _ = w ++ (outL a o f ++ rsW m od am a fd I e) from List.append_assoc _ _ _) ?_
  refine x_callV1_j C 2004 kc ns q9 9 0 hH rfl gL_law_X5_energy ⟨rfl, by decide, by decide, rfl⟩ ⟨show rmC.frames + 1 ≤ 2048 by omega, show 8 + (1 + 11) + rmC.locals ≤ 94400 by omega⟩ rfl hq9 rfl rfl (Nat.le_of_ble_eq_true rfl) ⟨show kc + rmC.cells ≤ 639004 by omega, show ns + rmC.slots ≤ 7099219 by omega⟩ dL_law_2001 rfl (by omega) (by omega) (fun v1 w2 hv1 => ?_)
  obtain ⟨rfl, hRW1⟩ := hv1
  refine x_ws (show _ = (w2 ++ outL a o f) ++ rsW m od am a fd I e from (List.append_assoc _ _ _).symm) ?_
  refine x_aload_n C 2005 dL_law_2004 rfl rfl ?_
  refine x_perm lp_1 ?_
  refine x_callV1_j C 2008 kc ns 0 10 0 hM rfl gL_law_X6_energy ⟨rfl, by decide, by decide, rfl⟩ ⟨show rmM.frames + 1 ≤ 2048 by omega, show 8 + (1 + 11) + rmM.locals ≤ 94400 by omega⟩ rfl rfl rfl rfl (Nat.le_of_ble_eq_true rfl) ⟨show kc + rmM.cells ≤ 639004 by omega, show ns + rmM.slots ≤ 7099219 by omega⟩ dL_law_2005 rfl (by omega) (by omega) (fun v3 w3 hv3 => ?_)
  obtain ⟨rfl, rfl⟩ := hv3
  refine x_perm lp_2 ?_
  refine x_lcmp C 2009 dL_law_2008 rfl ?_
  refine x_top (lc_refl _) ?_
  refine x_if_eq C 2274 2012 dL_law_2009 (by decide) rfl (fun _ => ?_) (fun z => absurd rfl z)
  refine x_wide (kc' := kc + 4) (ns' := ns + 48) (by omega) (by omega) ?_
  refine x_ls (show _ = [some (.ref b), some (.ref x), some (.ref m), some (.ref o), some (.ref od), some (.int (nI i)), none, none, none, none] from rfl) ?_
  exact kk w2 f fd J e2 hRW1
set_option maxRecDepth 100000 in
set_option maxHeartbeats 4000000 in
theorem lc_litShare (hl : l.stackTraces = false) (C : Cb (gm D a E0) l φ cL_law 10 RL wsL_law room_1) (hS0 : lS φ b L xs) (hi : i + 6 ≤ L) (hL : L ≤ 3072) (hkc : kc + 4 ≤ 639004) (hns : ns + 48 ≤ 7099219) (h : RW a E0 x I e w) (kk : ∀ (w1 : va_W) (f1 : Nat → Int64) (fd1 : Nat → UInt64) (J : Nat → Nat → Int32) (e2 : Int64), RW a E0 x J e2 w1 → X φ 2274 [some (.ref b), some (.ref x), some (.ref m), some (.ref o), some (.ref od), some (.int (nI i)), none, none, none, none] [] (lW o m od am a w1 f1 fd1 J e2) (kc + 4) (ns + 48)) : X φ 2014 [some (.ref b), some (.ref x), some (.ref m), some (.ref o), some (.ref od), some (.int (nI i)), none, none, none, none] [] (lW o m od am a w f fd I e) kc ns := by
  obtain ⟨q9, fs9, hq9⟩ := h.xq
  obtain ⟨b2, J, e2, rmC, rmM, hrC, ⟨hr1, hr2, hr3, hr4⟩, hH, hM, hn2⟩ := sd_litShare (m := m) (am := am) hl h
  obtain ⟨hc1, hc2, hc3, hc4⟩ := hrC
  refine x_aload_n C 2015 dL_law_2014 rfl rfl ?_
  refine x_ws (show _ = w ++ (outL a o f ++ rsW m od am a fd I e) from List.append_assoc _ _ _) ?_
  refine x_callV1_f C 2018 kc ns q9 9 0 hH rfl gL_law_X5_litShare ⟨rfl, by decide, by decide, rfl⟩ ⟨show rmC.frames + 1 ≤ 2048 by omega, show 8 + (3 + 11) + rmC.locals ≤ 94400 by omega⟩ rfl hq9 rfl rfl (Nat.le_of_ble_eq_true rfl) ⟨show kc + rmC.cells ≤ 639004 by omega, show ns + rmC.slots ≤ 7099219 by omega⟩ dL_law_2015 rfl (by omega) (by omega) (fun v1 w2 hv1 => ?_)
  obtain ⟨rfl, hRW1⟩ := hv1
  refine x_ws (show _ = (w2 ++ outL a o f) ++ rsW m od am a fd I e from (List.append_assoc _ _ _).symm) ?_
  refine x_f2d C 2019 dL_law_2018 hn2 rfl ?_
  refine x_dstore C 2021 dL_law_2019 (by decide) rfl rfl ?_
  refine x_aload_n C 2022 dL_law_2021 rfl rfl ?_
  refine x_perm lp_1 ?_
  refine x_callV1_f C 2025 kc ns 0 10 0 hM rfl gL_law_X6_litShare ⟨rfl, by decide, by decide, rfl⟩ ⟨show rmM.frames + 1 ≤ 2048 by omega, show 8 + (3 + 11) + rmM.locals ≤ 94400 by omega⟩ rfl rfl rfl rfl (Nat.le_of_ble_eq_true rfl) ⟨show kc + rmM.cells ≤ 639004 by omega, show ns + rmM.slots ≤ 7099219 by omega⟩ dL_law_2022 rfl (by omega) (by omega) (fun v3 w3 hv3 => ?_)
  obtain ⟨rfl, rfl⟩ := hv3
  refine x_perm lp_2 ?_
  refine x_f2d C 2026 dL_law_2025 hn2 rfl ?_
  refine x_dstore C 2028 dL_law_2026 (by decide) rfl rfl ?_
  refine x_dload C 2030 dL_law_2028 rfl rfl ?_
  refine x_dload C 2032 dL_law_2030 rfl rfl ?_
  refine x_dcmp C 2033 dL_law_2032 rfl ?_
  refine x_top (dc_refl hn2) ?_
  refine x_if_eq C 2054 2036 dL_law_2033 (by decide) rfl (fun _ => ?_) (fun z => absurd rfl z)
  refine x_wide (kc' := kc + 4) (ns' := ns + 48) (by omega) (by omega) ?_
  refine x_goto C 2274 dL_law_2054 (by decide) ?_
  refine x_dropn 6 ?_
  refine x_dropn 7 ?_
  refine x_dropn 8 ?_
  refine x_dropn 9 ?_
  refine x_ls (show _ = [some (.ref b), some (.ref x), some (.ref m), some (.ref o), some (.ref od), some (.int (nI i)), none, none, none, none] from rfl) ?_
  exact kk w2 f fd J e2 hRW1
end LW
section LW
variable {l : Launch} {φ : Fx} {D : va_G} {a : Nat → ClassId} {E0 x o m od b L i kc ns : Nat} {am : Nat → Nat} {w : va_W} {f : Nat → Int64} {fd : Nat → UInt64} {I : Nat → Nat → Int32} {e : Int64} {xs : Nat → Int32} {pc : Nat} {Lc : List (Option Value)} {rest : List Value} {ws : va_W}
set_option maxRecDepth 100000 in
set_option maxHeartbeats 4000000 in
theorem lc_meanLevel (hl : l.stackTraces = false) (C : Cb (gm D a E0) l φ cL_law 10 RL wsL_law room_1) (hS0 : lS φ b L xs) (hi : i + 6 ≤ L) (hL : L ≤ 3072) (hkc : kc + 4 ≤ 639004) (hns : ns + 48 ≤ 7099219) (h : RW a E0 x I e w) (kk : ∀ (w1 : va_W) (f1 : Nat → Int64) (fd1 : Nat → UInt64) (J : Nat → Nat → Int32) (e2 : Int64), RW a E0 x J e2 w1 → X φ 2274 [some (.ref b), some (.ref x), some (.ref m), some (.ref o), some (.ref od), some (.int (nI i)), none, none, none, none] [] (lW o m od am a w1 f1 fd1 J e2) (kc + 4) (ns + 48)) : X φ 2057 [some (.ref b), some (.ref x), some (.ref m), some (.ref o), some (.ref od), some (.int (nI i)), none, none, none, none] [] (lW o m od am a w f fd I e) kc ns := by
  obtain ⟨q9, fs9, hq9⟩ := h.xq
  obtain ⟨k, b2, J, e2, rmM, ⟨hr1, hr2, hr3, hr4⟩, hH, hM, hk, hn2⟩ := sm_meanLevel (m := m) (am := am) (od := od) (fd := fd) hl h
  refine x_aload_n C 2058 dL_law_2057 rfl rfl ?_
  refine x_aload C 2060 dL_law_2058 rfl rfl ?_
  refine x_perm (lp_3 (o := o) (m := m) (am := am)) ?_
  refine x_callW1_i C 2063 (kc + 4) (ns + 48) 2 hH rfl gL_law_L_meanLevel ⟨by decide, by decide, rfl⟩ ⟨Nat.le_of_ble_eq_true rfl, Nat.le_of_ble_eq_true rfl⟩ rfl rfl (Nat.le_of_ble_eq_true rfl) ⟨show kc + 4 ≤ 639004 by omega, show ns + 48 ≤ 7099219 by omega⟩ dL_law_2060 rfl rfl rfl (fun v1 w2 hv1 => ?_)
  obtain ⟨rfl, w1, fd1, rfl, hRW1, hf1⟩ := hv1
  refine x_perm (lp_4 (o := o) (m := m) (am := am)) ?_
  refine x_istore C 2065 dL_law_2063 (by decide) rfl rfl ?_
  refine x_aload_n C 2066 dL_law_2065 rfl rfl ?_
  refine x_perm lp_1 ?_
  refine x_callV1_d C 2069 (kc + 4) (ns + 48) 0 10 0 hM rfl gL_law_X6_meanLevel ⟨rfl, by decide, by decide, rfl⟩ ⟨show rmM.frames + 1 ≤ 2048 by omega, show 8 + (4 + 11) + rmM.locals ≤ 94400 by omega⟩ rfl rfl rfl rfl (Nat.le_of_ble_eq_true rfl) ⟨show kc + 4 + rmM.cells ≤ 639004 by omega, show ns + 48 + rmM.slots ≤ 7099219 by omega⟩ dL_law_2066 rfl (by omega) (by omega) (fun v2 w2 hv2 => ?_)
  obtain ⟨rfl, rfl⟩ := hv2
  refine x_perm lp_2 ?_
  refine x_dstore C 2071 dL_law_2069 (by decide) rfl rfl ?_
  refine x_aload_n C 2072 dL_law_2071 rfl rfl ?_
  refine x_perm lp_1 ?_
  refine x_callV1_i C 2075 (kc + 4) (ns + 48) 0 10 0 (cM_thrown hl) rfl gL_law_X6_thrown ⟨rfl, by decide, by decide, rfl⟩ ⟨Nat.le_of_ble_eq_true rfl, Nat.le_of_ble_eq_true rfl⟩ rfl rfl rfl rfl (Nat.le_of_ble_eq_true rfl) ⟨show kc + 4 + 0 ≤ 639004 by omega, show ns + 48 + 0 ≤ 7099219 by omega⟩ dL_law_2072 rfl rfl rfl (fun v3 w3 hv3 => ?_)
  obtain ⟨rfl, rfl⟩ := hv3
  refine x_perm lp_2 ?_
  refine x_top hk ?_
  refine x_iload C 2077 dL_law_2075 rfl rfl ?_
  refine x_icmp_eq C 2082 2080 dL_law_2077 (by decide) rfl (fun _ => ?_) (fun z => absurd rfl z)
  refine x_iload C 2084 dL_law_2082 rfl rfl ?_
  refine x_if_ne C 2119 2087 dL_law_2084 (by decide) rfl (fun z => ?_) (fun z => ?_)
  · refine x_goto C 2274 dL_law_2119 (by decide) ?_
    refine x_dropn 6 ?_
    refine x_dropn 7 ?_
    refine x_dropn 8 ?_
    refine x_ls (show _ = [some (.ref b), some (.ref x), some (.ref m), some (.ref o), some (.ref od), some (.int (nI i)), none, none, none, none] from rfl) ?_
    exact kk w1 f fd1 J e2 hRW1
  · refine x_aload C 2089 dL_law_2087 rfl rfl ?_
    refine x_iconst (v := (0)) C 2090 dL_law_2089 (by decide) rfl ?_
    refine x_dald C 2091 (w1 ++ outL a o f).length 4 lw_d rfl vp_in0 dL_law_2090 rfl ?_
    refine x_topq (show _ = Value.double v2 from congrArg Value.double (hf1 z)) ?_
    refine x_dload C 2093 dL_law_2091 rfl rfl ?_
    refine x_dcmp C 2094 dL_law_2093 rfl ?_
    refine x_top (dc_refl (hn2 z)) ?_
    refine x_if_eq C 2119 2097 dL_law_2094 (by decide) rfl (fun _ => ?_) (fun z => absurd rfl z)
    refine x_goto C 2274 dL_law_2119 (by decide) ?_
    refine x_dropn 6 ?_
    refine x_dropn 7 ?_
    refine x_dropn 8 ?_
    refine x_ls (show _ = [some (.ref b), some (.ref x), some (.ref m), some (.ref o), some (.ref od), some (.int (nI i)), none, none, none, none] from rfl) ?_
    exact kk w1 f fd1 J e2 hRW1
set_option maxRecDepth 100000 in
set_option maxHeartbeats 4000000 in
theorem lc_addStep (hl : l.stackTraces = false) (C : Cb (gm D a E0) l φ cL_law 10 RL wsL_law room_1) (hS0 : lS φ b L xs) (hi : i + 6 ≤ L) (hL : L ≤ 3072) (hkc : kc + 4 ≤ 639004) (hns : ns + 48 ≤ 7099219) (h : RW a E0 x I e w) (kk : ∀ (w1 : va_W) (f1 : Nat → Int64) (fd1 : Nat → UInt64) (J : Nat → Nat → Int32) (e2 : Int64), RW a E0 x J e2 w1 → X φ 2274 [some (.ref b), some (.ref x), some (.ref m), some (.ref o), some (.ref od), some (.int (nI i)), none, none, none, none] [] (lW o m od am a w1 f1 fd1 J e2) (kc + 4) (ns + 48)) : X φ 2122 [some (.ref b), some (.ref x), some (.ref m), some (.ref o), some (.ref od), some (.int (nI i)), none, none, none, none] [] (lW o m od am a w f fd I e) kc ns := by
  obtain ⟨q9, fs9, hq9⟩ := h.xq
  refine x_aload_n C 2123 dL_law_2122 rfl rfl ?_
  refine x_aload_n C 2124 dL_law_2123 rfl rfl ?_
  refine x_iload C 2126 dL_law_2124 rfl rfl ?_
  refine x_iconst (v := (1)) C 2127 dL_law_2126 (by decide) rfl ?_
  refine x_iadd C 2128 dL_law_2127 rfl ?_
  refine x_top (show _ = nI (i + 1) from nI_add _ _) ?_
  refine x_sld hS0 C 2129 (vp_in_nI (by omega) (by omega)) dL_law_2128 rfl ?_
  refine x_top (show _ = xs (i + 1) from by rw [nI_clamp (by omega)]) ?_
  refine x_i2c (v := ((xs (i + 1)).toUInt32 % 65536).toInt32) C 2130 dL_law_2129 rfl rfl ?_
  refine x_aload_n C 2131 dL_law_2130 rfl rfl ?_
  refine x_iload C 2133 dL_law_2131 rfl rfl ?_
  refine x_iconst (v := (2)) C 2134 dL_law_2133 (by decide) rfl ?_
  refine x_iadd C 2135 dL_law_2134 rfl ?_
  refine x_top (show _ = nI (i + 2) from nI_add _ _) ?_
  refine x_sld hS0 C 2136 (vp_in_nI (by omega) (by omega)) dL_law_2135 rfl ?_
  refine x_top (show _ = xs (i + 2) from by rw [nI_clamp (by omega)]) ?_
  refine x_aload_n C 2137 dL_law_2136 rfl rfl ?_
  refine x_iload C 2139 dL_law_2137 rfl rfl ?_
  refine x_iconst (v := (3)) C 2140 dL_law_2139 (by decide) rfl ?_
  refine x_iadd C 2141 dL_law_2140 rfl ?_
  refine x_top (show _ = nI (i + 3) from nI_add _ _) ?_
  refine x_sld hS0 C 2142 (vp_in_nI (by omega) (by omega)) dL_law_2141 rfl ?_
  refine x_top (show _ = xs (i + 3) from by rw [nI_clamp (by omega)]) ?_
  obtain ⟨k, b2, J, e2, rmM, ⟨hr1, hr2, hr3, hr4⟩, hH, hM, hk⟩ := sm_addStep (m := m) (am := am) (o := o) (f := f) hl h (((xs (i + 1)).toUInt32 % 65536).toInt32) (xs (i + 2)) (xs (i + 3)) ⟨pk_nc _, pk_fc _⟩ (pk_vc _)
  refine x_aload_n C 2143 dL_law_2142 rfl rfl ?_
  refine x_callW1_i C 2146 (kc + 4) (ns + 48) 5 hH rfl gL_law_L_addStep ⟨by decide, by decide, rfl⟩ ⟨Nat.le_of_ble_eq_true rfl, Nat.le_of_ble_eq_true rfl⟩ rfl rfl (Nat.le_of_ble_eq_true rfl) ⟨show kc + 4 ≤ 639004 by omega, show ns + 48 ≤ 7099219 by omega⟩ dL_law_2143 rfl rfl rfl (fun v1 w2 hv1 => ?_)
  obtain ⟨rfl, w1, f1, rfl, hRW1, hf1⟩ := hv1
  refine x_istore C 2148 dL_law_2146 (by decide) rfl rfl ?_
  refine x_aload_n C 2149 dL_law_2148 rfl rfl ?_
  refine x_aload_n C 2150 dL_law_2149 rfl rfl ?_
  refine x_iload C 2152 dL_law_2150 rfl rfl ?_
  refine x_iconst (v := (1)) C 2153 dL_law_2152 (by decide) rfl ?_
  refine x_iadd C 2154 dL_law_2153 rfl ?_
  refine x_top (show _ = nI (i + 1) from nI_add _ _) ?_
  refine x_sld hS0 C 2155 (vp_in_nI (by omega) (by omega)) dL_law_2154 rfl ?_
  refine x_top (show _ = xs (i + 1) from by rw [nI_clamp (by omega)]) ?_
  refine x_i2c (v := ((xs (i + 1)).toUInt32 % 65536).toInt32) C 2156 dL_law_2155 rfl rfl ?_
  refine x_aload_n C 2157 dL_law_2156 rfl rfl ?_
  refine x_iload C 2159 dL_law_2157 rfl rfl ?_
  refine x_iconst (v := (2)) C 2160 dL_law_2159 (by decide) rfl ?_
  refine x_iadd C 2161 dL_law_2160 rfl ?_
  refine x_top (show _ = nI (i + 2) from nI_add _ _) ?_
  refine x_sld hS0 C 2162 (vp_in_nI (by omega) (by omega)) dL_law_2161 rfl ?_
  refine x_top (show _ = xs (i + 2) from by rw [nI_clamp (by omega)]) ?_
  refine x_aload_n C 2163 dL_law_2162 rfl rfl ?_
  refine x_iload C 2165 dL_law_2163 rfl rfl ?_
  refine x_iconst (v := (3)) C 2166 dL_law_2165 (by decide) rfl ?_
  refine x_iadd C 2167 dL_law_2166 rfl ?_
  refine x_top (show _ = nI (i + 3) from nI_add _ _) ?_
  refine x_sld hS0 C 2168 (vp_in_nI (by omega) (by omega)) dL_law_2167 rfl ?_
  refine x_top (show _ = xs (i + 3) from by rw [nI_clamp (by omega)]) ?_
  refine x_perm lp_1 ?_
  refine x_callV1_i C 2171 (kc + 4) (ns + 48) 0 10 3 hM rfl gL_law_X6_addStep ⟨rfl, by decide, by decide, rfl⟩ ⟨show rmM.frames + 1 ≤ 2048 by omega, show 8 + (4 + 11) + rmM.locals ≤ 94400 by omega⟩ rfl rfl rfl rfl (Nat.le_of_ble_eq_true rfl) ⟨show kc + 4 + rmM.cells ≤ 639004 by omega, show ns + 48 + rmM.slots ≤ 7099219 by omega⟩ dL_law_2168 rfl (by omega) (by omega) (fun v2 w2 hv2 => ?_)
  obtain ⟨rfl, rfl⟩ := hv2
  refine x_perm lp_2 ?_
  refine x_istore C 2173 dL_law_2171 (by decide) rfl rfl ?_
  refine x_aload_n C 2174 dL_law_2173 rfl rfl ?_
  refine x_perm lp_1 ?_
  refine x_callV1_i C 2177 (kc + 4) (ns + 48) 0 10 0 (cM_thrown hl) rfl gL_law_X6_thrown ⟨rfl, by decide, by decide, rfl⟩ ⟨Nat.le_of_ble_eq_true rfl, Nat.le_of_ble_eq_true rfl⟩ rfl rfl rfl rfl (Nat.le_of_ble_eq_true rfl) ⟨show kc + 4 + 0 ≤ 639004 by omega, show ns + 48 + 0 ≤ 7099219 by omega⟩ dL_law_2174 rfl rfl rfl (fun v3 w3 hv3 => ?_)
  obtain ⟨rfl, rfl⟩ := hv3
  refine x_perm lp_2 ?_
  refine x_top hk ?_
  refine x_iload C 2179 dL_law_2177 rfl rfl ?_
  refine x_icmp_eq C 2184 2182 dL_law_2179 (by decide) rfl (fun _ => ?_) (fun z => absurd rfl z)
  refine x_iload C 2186 dL_law_2184 rfl rfl ?_
  refine x_if_ne C 2201 2189 dL_law_2186 (by decide) rfl (fun z => ?_) (fun z => ?_)
  · refine x_goto C 2274 dL_law_2201 (by decide) ?_
    refine x_dropn 6 ?_
    refine x_dropn 7 ?_
    refine x_ls (show _ = [some (.ref b), some (.ref x), some (.ref m), some (.ref o), some (.ref od), some (.int (nI i)), none, none, none, none] from rfl) ?_
    exact kk w1 f1 fd J e2 hRW1
  · refine x_aload_n C 2190 dL_law_2189 rfl rfl ?_
    refine x_iconst (v := (0)) C 2191 dL_law_2190 (by decide) rfl ?_
    refine x_lald C 2192 w1.length 3 lw_o rfl vp_in0 dL_law_2191 rfl ?_
    refine x_topq (show _ = Value.long v2.toInt64 from congrArg Value.long (hf1 z)) ?_
    refine x_iload C 2194 dL_law_2192 rfl rfl ?_
    refine x_i2l C 2195 dL_law_2194 rfl rfl ?_
    refine x_lcmp C 2196 dL_law_2195 rfl ?_
    refine x_top (lc_refl _) ?_
    refine x_if_eq C 2201 2199 dL_law_2196 (by decide) rfl (fun _ => ?_) (fun z => absurd rfl z)
    refine x_goto C 2274 dL_law_2201 (by decide) ?_
    refine x_dropn 6 ?_
    refine x_dropn 7 ?_
    refine x_ls (show _ = [some (.ref b), some (.ref x), some (.ref m), some (.ref o), some (.ref od), some (.int (nI i)), none, none, none, none] from rfl) ?_
    exact kk w1 f1 fd J e2 hRW1
set_option maxRecDepth 100000 in
set_option maxHeartbeats 4000000 in
theorem lc_clearMacro (hl : l.stackTraces = false) (C : Cb (gm D a E0) l φ cL_law 10 RL wsL_law room_1) (hS0 : lS φ b L xs) (hi : i + 6 ≤ L) (hL : L ≤ 3072) (hkc : kc + 4 ≤ 639004) (hns : ns + 48 ≤ 7099219) (h : RW a E0 x I e w) (kk : ∀ (w1 : va_W) (f1 : Nat → Int64) (fd1 : Nat → UInt64) (J : Nat → Nat → Int32) (e2 : Int64), RW a E0 x J e2 w1 → X φ 2274 [some (.ref b), some (.ref x), some (.ref m), some (.ref o), some (.ref od), some (.int (nI i)), none, none, none, none] [] (lW o m od am a w1 f1 fd1 J e2) (kc + 4) (ns + 48)) : X φ 2204 [some (.ref b), some (.ref x), some (.ref m), some (.ref o), some (.ref od), some (.int (nI i)), none, none, none, none] [] (lW o m od am a w f fd I e) kc ns := by
  obtain ⟨q9, fs9, hq9⟩ := h.xq
  obtain ⟨b2, J, e2, rmC, rmM, hrC, ⟨hr1, hr2, hr3, hr4⟩, hH, hM⟩ := sd_clearMacro (m := m) (am := am) hl h
  obtain ⟨hc1, hc2, hc3, hc4⟩ := hrC
  refine x_aload_n C 2205 dL_law_2204 rfl rfl ?_
  refine x_ws (show _ = w ++ (outL a o f ++ rsW m od am a fd I e) from List.append_assoc _ _ _) ?_
  refine x_callV1_i C 2208 kc ns q9 9 0 hH rfl gL_law_X5_clearMacro ⟨rfl, by decide, by decide, rfl⟩ ⟨show rmC.frames + 1 ≤ 2048 by omega, show 8 + (2 + 11) + rmC.locals ≤ 94400 by omega⟩ rfl hq9 rfl rfl (Nat.le_of_ble_eq_true rfl) ⟨show kc + rmC.cells ≤ 639004 by omega, show ns + rmC.slots ≤ 7099219 by omega⟩ dL_law_2205 rfl (by omega) (by omega) (fun v1 w2 hv1 => ?_)
  obtain ⟨rfl, hRW1⟩ := hv1
  refine x_ws (show _ = (w2 ++ outL a o f) ++ rsW m od am a fd I e from (List.append_assoc _ _ _).symm) ?_
  refine x_aload_n C 2209 dL_law_2208 rfl rfl ?_
  refine x_perm lp_1 ?_
  refine x_callV1_i C 2212 kc ns 0 10 0 hM rfl gL_law_X6_clearMacro ⟨rfl, by decide, by decide, rfl⟩ ⟨show rmM.frames + 1 ≤ 2048 by omega, show 8 + (2 + 11) + rmM.locals ≤ 94400 by omega⟩ rfl rfl rfl rfl (Nat.le_of_ble_eq_true rfl) ⟨show kc + rmM.cells ≤ 639004 by omega, show ns + rmM.slots ≤ 7099219 by omega⟩ dL_law_2209 rfl (by omega) (by omega) (fun v3 w3 hv3 => ?_)
  obtain ⟨rfl, rfl⟩ := hv3
  refine x_perm lp_2 ?_
  refine x_icmp_eq C 2274 2215 dL_law_2212 (by decide) rfl (fun _ => ?_) (fun z => absurd rfl z)
  refine x_wide (kc' := kc + 4) (ns' := ns + 48) (by omega) (by omega) ?_
  refine x_ls (show _ = [some (.ref b), some (.ref x), some (.ref m), some (.ref o), some (.ref od), some (.int (nI i)), none, none, none, none] from rfl) ?_
  exact kk w2 f fd J e2 hRW1
set_option maxRecDepth 100000 in
set_option maxHeartbeats 4000000 in
theorem lc_runMacro (hl : l.stackTraces = false) (C : Cb (gm D a E0) l φ cL_law 10 RL wsL_law room_1) (hS0 : lS φ b L xs) (hi : i + 6 ≤ L) (hL : L ≤ 3072) (hkc : kc + 4 ≤ 639004) (hns : ns + 48 ≤ 7099219) (h : RW a E0 x I e w) (kk : ∀ (w1 : va_W) (f1 : Nat → Int64) (fd1 : Nat → UInt64) (J : Nat → Nat → Int32) (e2 : Int64), RW a E0 x J e2 w1 → X φ 2274 [some (.ref b), some (.ref x), some (.ref m), some (.ref o), some (.ref od), some (.int (nI i)), none, none, none, none] [] (lW o m od am a w1 f1 fd1 J e2) (kc + 4) (ns + 48)) : X φ 2217 [some (.ref b), some (.ref x), some (.ref m), some (.ref o), some (.ref od), some (.int (nI i)), none, none, none, none] [] (lW o m od am a w f fd I e) kc ns := by
  obtain ⟨q9, fs9, hq9⟩ := h.xq
  obtain ⟨b2, J, e2, rmC, rmM, hrC, ⟨hr1, hr2, hr3, hr4⟩, hH, hM⟩ := sd_runMacro (m := m) (am := am) hl h
  obtain ⟨hc1, hc2, hc3, hc4⟩ := hrC
  refine x_aload_n C 2218 dL_law_2217 rfl rfl ?_
  refine x_ws (show _ = w ++ (outL a o f ++ rsW m od am a fd I e) from List.append_assoc _ _ _) ?_
  refine x_callV1_i C 2221 kc ns q9 9 0 hH rfl gL_law_X5_runMacro ⟨rfl, by decide, by decide, rfl⟩ ⟨show rmC.frames + 1 ≤ 2048 by omega, show 8 + (2 + 11) + rmC.locals ≤ 94400 by omega⟩ rfl hq9 rfl rfl (Nat.le_of_ble_eq_true rfl) ⟨show kc + rmC.cells ≤ 639004 by omega, show ns + rmC.slots ≤ 7099219 by omega⟩ dL_law_2218 rfl (by omega) (by omega) (fun v1 w2 hv1 => ?_)
  obtain ⟨rfl, hRW1⟩ := hv1
  refine x_ws (show _ = (w2 ++ outL a o f) ++ rsW m od am a fd I e from (List.append_assoc _ _ _).symm) ?_
  refine x_aload_n C 2222 dL_law_2221 rfl rfl ?_
  refine x_perm lp_1 ?_
  refine x_callV1_i C 2225 kc ns 0 10 0 hM rfl gL_law_X6_runMacro ⟨rfl, by decide, by decide, rfl⟩ ⟨show rmM.frames + 1 ≤ 2048 by omega, show 8 + (2 + 11) + rmM.locals ≤ 94400 by omega⟩ rfl rfl rfl rfl (Nat.le_of_ble_eq_true rfl) ⟨show kc + rmM.cells ≤ 639004 by omega, show ns + rmM.slots ≤ 7099219 by omega⟩ dL_law_2222 rfl (by omega) (by omega) (fun v3 w3 hv3 => ?_)
  obtain ⟨rfl, rfl⟩ := hv3
  refine x_perm lp_2 ?_
  refine x_icmp_eq C 2274 2228 dL_law_2225 (by decide) rfl (fun _ => ?_) (fun z => absurd rfl z)
  refine x_wide (kc' := kc + 4) (ns' := ns + 48) (by omega) (by omega) ?_
  refine x_ls (show _ = [some (.ref b), some (.ref x), some (.ref m), some (.ref o), some (.ref od), some (.int (nI i)), none, none, none, none] from rfl) ?_
  exact kk w2 f fd J e2 hRW1
set_option maxRecDepth 100000 in
set_option maxHeartbeats 4000000 in
theorem lc_macroFault (hl : l.stackTraces = false) (C : Cb (gm D a E0) l φ cL_law 10 RL wsL_law room_1) (hS0 : lS φ b L xs) (hi : i + 6 ≤ L) (hL : L ≤ 3072) (hkc : kc + 4 ≤ 639004) (hns : ns + 48 ≤ 7099219) (h : RW a E0 x I e w) (kk : ∀ (w1 : va_W) (f1 : Nat → Int64) (fd1 : Nat → UInt64) (J : Nat → Nat → Int32) (e2 : Int64), RW a E0 x J e2 w1 → X φ 2274 [some (.ref b), some (.ref x), some (.ref m), some (.ref o), some (.ref od), some (.int (nI i)), none, none, none, none] [] (lW o m od am a w1 f1 fd1 J e2) (kc + 4) (ns + 48)) : X φ 2230 [some (.ref b), some (.ref x), some (.ref m), some (.ref o), some (.ref od), some (.int (nI i)), none, none, none, none] [] (lW o m od am a w f fd I e) kc ns := by
  obtain ⟨q9, fs9, hq9⟩ := h.xq
  refine x_aload_n C 2231 dL_law_2230 rfl rfl ?_
  obtain ⟨k, b2, J, e2, rmM, ⟨hr1, hr2, hr3, hr4⟩, hH, hM, hk⟩ := sm_macroFault (m := m) (am := am) (o := o) (f := f) hl h 
  refine x_aload_n C 2232 dL_law_2231 rfl rfl ?_
  refine x_callW1_i C 2235 (kc + 4) (ns + 48) 2 hH rfl gL_law_L_macroFault ⟨by decide, by decide, rfl⟩ ⟨Nat.le_of_ble_eq_true rfl, Nat.le_of_ble_eq_true rfl⟩ rfl rfl (Nat.le_of_ble_eq_true rfl) ⟨show kc + 4 ≤ 639004 by omega, show ns + 48 ≤ 7099219 by omega⟩ dL_law_2232 rfl rfl rfl (fun v1 w2 hv1 => ?_)
  obtain ⟨rfl, w1, f1, rfl, hRW1, hf1⟩ := hv1
  refine x_istore C 2237 dL_law_2235 (by decide) rfl rfl ?_
  refine x_aload_n C 2238 dL_law_2237 rfl rfl ?_
  refine x_perm lp_1 ?_
  refine x_callV1_i C 2241 (kc + 4) (ns + 48) 0 10 0 hM rfl gL_law_X6_macroFault ⟨rfl, by decide, by decide, rfl⟩ ⟨show rmM.frames + 1 ≤ 2048 by omega, show 8 + (1 + 11) + rmM.locals ≤ 94400 by omega⟩ rfl rfl rfl rfl (Nat.le_of_ble_eq_true rfl) ⟨show kc + 4 + rmM.cells ≤ 639004 by omega, show ns + 48 + rmM.slots ≤ 7099219 by omega⟩ dL_law_2238 rfl (by omega) (by omega) (fun v2 w2 hv2 => ?_)
  obtain ⟨rfl, rfl⟩ := hv2
  refine x_perm lp_2 ?_
  refine x_istore C 2243 dL_law_2241 (by decide) rfl rfl ?_
  refine x_aload_n C 2244 dL_law_2243 rfl rfl ?_
  refine x_perm lp_1 ?_
  refine x_callV1_i C 2247 (kc + 4) (ns + 48) 0 10 0 (cM_thrown hl) rfl gL_law_X6_thrown ⟨rfl, by decide, by decide, rfl⟩ ⟨Nat.le_of_ble_eq_true rfl, Nat.le_of_ble_eq_true rfl⟩ rfl rfl rfl rfl (Nat.le_of_ble_eq_true rfl) ⟨show kc + 4 + 0 ≤ 639004 by omega, show ns + 48 + 0 ≤ 7099219 by omega⟩ dL_law_2244 rfl rfl rfl (fun v3 w3 hv3 => ?_)
  obtain ⟨rfl, rfl⟩ := hv3
  refine x_perm lp_2 ?_
  refine x_top hk ?_
  refine x_iload C 2249 dL_law_2247 rfl rfl ?_
  refine x_icmp_eq C 2254 2252 dL_law_2249 (by decide) rfl (fun _ => ?_) (fun z => absurd rfl z)
  refine x_iload C 2256 dL_law_2254 rfl rfl ?_
  refine x_if_ne C 2271 2259 dL_law_2256 (by decide) rfl (fun z => ?_) (fun z => ?_)
  · refine x_goto C 2274 dL_law_2271 (by decide) ?_
    refine x_dropn 6 ?_
    refine x_dropn 7 ?_
    refine x_ls (show _ = [some (.ref b), some (.ref x), some (.ref m), some (.ref o), some (.ref od), some (.int (nI i)), none, none, none, none] from rfl) ?_
    exact kk w1 f1 fd J e2 hRW1
  · refine x_aload_n C 2260 dL_law_2259 rfl rfl ?_
    refine x_iconst (v := (0)) C 2261 dL_law_2260 (by decide) rfl ?_
    refine x_lald C 2262 w1.length 3 lw_o rfl vp_in0 dL_law_2261 rfl ?_
    refine x_topq (show _ = Value.long v2.toInt64 from congrArg Value.long (hf1 z)) ?_
    refine x_iload C 2264 dL_law_2262 rfl rfl ?_
    refine x_i2l C 2265 dL_law_2264 rfl rfl ?_
    refine x_lcmp C 2266 dL_law_2265 rfl ?_
    refine x_top (lc_refl _) ?_
    refine x_if_eq C 2271 2269 dL_law_2266 (by decide) rfl (fun _ => ?_) (fun z => absurd rfl z)
    refine x_goto C 2274 dL_law_2271 (by decide) ?_
    refine x_dropn 6 ?_
    refine x_dropn 7 ?_
    refine x_ls (show _ = [some (.ref b), some (.ref x), some (.ref m), some (.ref o), some (.ref od), some (.int (nI i)), none, none, none, none] from rfl) ?_
    exact kk w1 f1 fd J e2 hRW1
end LW
