section LW
variable {l : Launch} {φ : Fx} {D : va_G} {a : Nat → ClassId} {E0 x o m od b L i kc ns : Nat} {am : Nat → Nat} {w : va_W} {f : Nat → Int64} {fd : Nat → UInt64} {I : Nat → Nat → Int32} {e : Int64} {xs : Nat → Int32} {pc : Nat} {Lc : List (Option Value)} {rest : List Value} {ws : va_W}
set_option maxRecDepth 100000 in
set_option maxHeartbeats 4000000 in
theorem lc_meanLevel (hl : l.stackTraces = false) (C : Cb (gm D a E0) l φ cL_law 10 RL wsL_law room_1) (hS0 : lS φ b L xs) (hi : i + 6 ≤ L) (hL : L ≤ 3072) (hkc : kc + 4 ≤ 639004) (hns : ns + 48 ≤ 7099219) (h : RW a E0 x I e w) (kk : ∀ (w1 : va_W) (f1 : Nat → Int64) (fd1 : Nat → UInt64) (J : Nat → Nat → Int32) (e2 : Int64), RW a E0 x J e2 w1 → X φ 2274 [some (.ref b), some (.ref x), some (.ref m), some (.ref o), some (.ref od), some (.int (nI i)), none, none, none, none] [] (lW o m od am a w1 f1 fd1 J e2) (kc + 4) (ns + 48)) : X φ 2057 [some (.ref b), some (.ref x), some (.ref m), some (.ref o), some (.ref od), some (.int (nI i)), none, none, none, none] [] (lW o m od am a w f fd I e) kc ns := by
  obtain ⟨q9, fs9, hq9⟩ := h.xq
  obtain ⟨k, b2, J, e2, rmM, ⟨hr1, hr2, hr3, hr4⟩, hH, hM, hk, hn2⟩ := sm_meanLevel (m := m) (am := am) (od := od) (fd := fd) hl h
  refine x_aload_n C 2058 dL_law_2057 rfl rfl ?_
  refine x_aload C 2060 dL_law_2058 rfl rfl ?_
  refine x_perm (lp_3 (o := o) (m := m) (am := am)) ?_
  refine x_callW1_i C 2063 (kc + 4) (ns + 48) 2 hH rfl gL_law_L_meanLevel ⟨by decide, by decide, rfl⟩ ⟨Nat.le_of_ble_eq_true rfl, Nat.le_of_ble_eq_true rfl⟩ rfl rfl (Nat.le_of_ble_eq_true rfl) ⟨show kc + 4 ≤ 639004 by omega, show ns + 48 ≤ 7099219 by omega⟩ dL_law_2060 rfl rfl rfl (fun v1 w2 hv1 => ?_)
  obtain ⟨rfl, w1, fd1, rfl, hRW1, hf1⟩ := hv1
  refine x_perm (lp_4 (o := o) (m := m) (am := am)) ?_
  refine x_istore C 2065 dL_law_2063 (by decide) rfl rfl ?_
  refine x_aload_n C 2066 dL_law_2065 rfl rfl ?_
  refine x_perm lp_1 ?_
  refine x_callV1_d C 2069 (kc + 4) (ns + 48) 0 10 0 hM rfl gL_law_X6_meanLevel ⟨rfl, by decide, by decide, rfl⟩ ⟨show rmM.frames + 1 ≤ 2048 by omega, show 8 + (4 + 11) + rmM.locals ≤ 94400 by omega⟩ rfl rfl rfl rfl (Nat.le_of_ble_eq_true rfl) ⟨show kc + 4 + rmM.cells ≤ 639004 by omega, show ns + 48 + rmM.slots ≤ 7099219 by omega⟩ dL_law_2066 rfl (by omega) (by omega) (fun v2 w2 hv2 => ?_)
  obtain ⟨rfl, rfl⟩ := hv2
  refine x_perm lp_2 ?_
  refine x_dstore C 2071 dL_law_2069 (by decide) rfl rfl ?_
  refine x_aload_n C 2072 dL_law_2071 rfl rfl ?_
  refine x_perm lp_1 ?_
  refine x_callV1_i C 2075 (kc + 4) (ns + 48) 0 10 0 (cM_thrown hl) rfl gL_law_X6_thrown ⟨rfl, by decide, by decide, rfl⟩ ⟨Nat.le_of_ble_eq_true rfl, Nat.le_of_ble_eq_true rfl⟩ rfl rfl rfl rfl (Nat.le_of_ble_eq_true rfl) ⟨show kc + 4 + 0 ≤ 639004 by omega, show ns + 48 + 0 ≤ 7099219 by omega⟩ dL_law_2072 rfl rfl rfl (fun v3 w3 hv3 => ?_)
  obtain ⟨rfl, rfl⟩ := hv3
  refine x_perm lp_2 ?_
  refine x_top hk ?_
  refine x_iload C 2077 dL_law_2075 rfl rfl ?_
  refine x_icmp_eq C 2082 2080 dL_law_2077 (by decide) rfl (fun _ => ?_) (fun z => absurd rfl z)
  refine x_iload C 2084 dL_law_2082 rfl rfl ?_
  refine x_if_ne C 2119 2087 dL_law_2084 (by decide) rfl (fun z => ?_) (fun z => ?_)
  · refine x_goto C 2274 dL_law_2119 (by decide) ?_
    refine x_dropn 6 ?_
    refine x_dropn 7 ?_
    refine x_dropn 8 ?_
    refine x_ls (show _ = [some (.ref b), some (.ref x), some (.ref m), some (.ref o), some (.ref od), some (.int (nI i)), none, none, none, none] from rfl) ?_
    exact kk w1 f fd1 J e2 hRW1
  · refine x_aload C 2089 dL_law_2087 rfl rfl ?_
    refine x_iconst (v := (0)) C 2090 dL_law_2089 (by decide) rfl ?_
    refine x_dald C 2091 (w1 ++ outL a o f).length 4 lw_d rfl vp_in0 dL_law_2090 rfl ?_
    refine x_topq (show _ = Value.double v2 from congrArg Value.double (hf1 z)) ?_
    refine x_dload C 2093 dL_law_2091 rfl rfl ?_
    refine x_dcmp C 2094 dL_law_2093 rfl ?_
    refine x_top (dc_refl (hn2 z)) ?_
    refine x_if_eq C 2119 2097 dL_law_2094 (by decide) rfl (fun _ => ?_) (fun z => absurd rfl z)
    refine x_goto C 2274 dL_law_2119 (by decide) ?_
    refine x_dropn 6 ?_
    refine x_dropn 7 ?_
    refine x_dropn 8 ?_
    refine x_ls (show _ = [some (.ref b), some (.ref x), some (.ref m), some (.ref o), some (.ref od), some (.int (nI i)), none, none, none, none] from rfl) ?_
    exact kk w1 f fd1 J e2 hRW1
set_option maxRecDepth 100000 in
set_option maxHeartbeats 4000000 in
theorem lc_addStep (hl : l.stackTraces = false) (C : Cb (gm D a E0) l φ cL_law 10 RL wsL_law room_1) (hS0 : lS φ b L xs) (hi : i + 6 ≤ L) (hL : L ≤ 3072) (hkc : kc + 4 ≤ 639004) (hns : ns + 48 ≤ 7099219) (h : RW a E0 x I e w) (kk : ∀ (w1 : va_W) (f1 : Nat → Int64) (fd1 : Nat → UInt64) (J : Nat → Nat → Int32) (e2 : Int64), RW a E0 x J e2 w1 → X φ 2274 [some (.ref b), some (.ref x), some (.ref m), some (.ref o), some (.ref od), some (.int (nI i)), none, none, none, none] [] (lW o m od am a w1 f1 fd1 J e2) (kc + 4) (ns + 48)) : X φ 2122 [some (.ref b), some (.ref x), some (.ref m), some (.ref o), some (.ref od), some (.int (nI i)), none, none, none, none] [] (lW o m od am a w f fd I e) kc ns := by
  obtain ⟨q9, fs9, hq9⟩ := h.xq
  refine x_aload_n C 2123 dL_law_2122 rfl rfl ?_
  refine x_aload_n C 2124 dL_law_2123 rfl rfl ?_
  refine x_iload C 2126 dL_law_2124 rfl rfl ?_
  refine x_iconst (v := (1)) C 2127 dL_law_2126 (by decide) rfl ?_
  refine x_iadd C 2128 dL_law_2127 rfl ?_
  refine x_top (show _ = nI (i + 1) from nI_add _ _) ?_
  refine x_sld hS0 C 2129 (vp_in_nI (by omega) (by omega)) dL_law_2128 rfl ?_
  refine x_top (show _ = xs (i + 1) from by rw [nI_clamp (by omega)]) ?_
  refine x_i2c (v := ((xs (i + 1)).toUInt32 % 65536).toInt32) C 2130 dL_law_2129 rfl rfl ?_
  refine x_aload_n C 2131 dL_law_2130 rfl rfl ?_
  refine x_iload C 2133 dL_law_2131 rfl rfl ?_
  refine x_iconst (v := (2)) C 2134 dL_law_2133 (by decide) rfl ?_
  refine x_iadd C 2135 dL_law_2134 rfl ?_
  refine x_top (show _ = nI (i + 2) from nI_add _ _) ?_
  refine x_sld hS0 C 2136 (vp_in_nI (by omega) (by omega)) dL_law_2135 rfl ?_
  refine x_top (show _ = xs (i + 2) from by rw [nI_clamp (by omega)]) ?_
  refine x_aload_n C 2137 dL_law_2136 rfl rfl ?_
  refine x_iload C 2139 dL_law_2137 rfl rfl ?_
  refine x_iconst (v := (3)) C 2140 dL_law_2139 (by decide) rfl ?_
  refine x_iadd C 2141 dL_law_2140 rfl ?_
  refine x_top (show _ = nI (i + 3) from nI_add _ _) ?_
  refine x_sld hS0 C 2142 (vp_in_nI (by omega) (by omega)) dL_law_2141 rfl ?_
  refine x_top (show _ = xs (i + 3) from by rw [nI_clamp (by omega)]) ?_
  obtain ⟨k, b2, J, e2, rmM, ⟨hr1, hr2, hr3, hr4⟩, hH, hM, hk⟩ := sm_addStep (m := m) (am := am) (o := o) (f := f) hl h (((xs (i + 1)).toUInt32 % 65536).toInt32) (xs (i + 2)) (xs (i + 3)) ⟨pk_nc _, pk_fc _⟩ (pk_vc _)
  refine x_aload_n C 2143 dL_law_2142 rfl rfl ?_
  refine x_callW1_i C 2146 (kc + 4) (ns + 48) 5 hH rfl gL_law_L_addStep ⟨by decide, by decide, rfl⟩ ⟨Nat.le_of_ble_eq_true rfl, Nat.le_of_ble_eq_true rfl⟩ rfl rfl (Nat.le_of_ble_eq_true rfl) ⟨show kc + 4 ≤ 639004 by omega, show ns + 48 ≤ 7099219 by omega⟩ dL_law_2143 rfl rfl rfl (fun v1 w2 hv1 => ?_)
  obtain ⟨rfl, w1, f1, rfl, hRW1, hf1⟩ := hv1
  refine x_istore C 2148 dL_law_2146 (by decide) rfl rfl ?_
  refine x_aload_n C 2149 dL_law_2148 rfl rfl ?_
  refine x_aload_n C 2150 dL_law_2149 rfl rfl ?_
  refine x_iload C 2152 dL_law_2150 rfl rfl ?_
  refine x_iconst (v := (1)) C 2153 dL_law_2152 (by decide) rfl ?_
  refine x_iadd C 2154 dL_law_2153 rfl ?_
  refine x_top (show _ = nI (i + 1) from nI_add _ _) ?_
  refine x_sld hS0 C 2155 (vp_in_nI (by omega) (by omega)) dL_law_2154 rfl ?_
  refine x_top (show _ = xs (i + 1) from by rw [nI_clamp (by omega)]) ?_
  refine x_i2c (v := ((xs (i + 1)).toUInt32 % 65536).toInt32) C 2156 dL_law_2155 rfl rfl ?_
  refine x_aload_n C 2157 dL_law_2156 rfl rfl ?_
  refine x_iload C 2159 dL_law_2157 rfl rfl ?_
  refine x_iconst (v := (2)) C 2160 dL_law_2159 (by decide) rfl ?_
  refine x_iadd C 2161 dL_law_2160 rfl ?_
  refine x_top (show _ = nI (i + 2) from nI_add _ _) ?_
  refine x_sld hS0 C 2162 (vp_in_nI (by omega) (by omega)) dL_law_2161 rfl ?_
  refine x_top (show _ = xs (i + 2) from by rw [nI_clamp (by omega)]) ?_
  refine x_aload_n C 2163 dL_law_2162 rfl rfl ?_
  refine x_iload C 2165 dL_law_2163 rfl rfl ?_
  refine x_iconst (v := (3)) C 2166 dL_law_2165 (by decide) rfl ?_
  refine x_iadd C 2167 dL_law_2166 rfl ?_
  refine x_top (show _ = nI (i + 3) from nI_add _ _) ?_
  refine x_sld hS0 C 2168 (vp_in_nI (by omega) (by omega)) dL_law_2167 rfl ?_
  refine x_top (show _ = xs (i + 3) from by rw [nI_clamp (by omega)]) ?_
  refine x_perm lp_1 ?_
  refine x_callV1_i C 2171 (kc + 4) (ns + 48) 0 10 3 hM rfl gL_law_X6_addStep ⟨rfl, by decide, by decide, rfl⟩ ⟨show rmM.frames + 1 ≤ 2048 by omega, show 8 + (4 + 11) + rmM.locals ≤ 94400 by omega⟩ rfl rfl rfl rfl (Nat.le_of_ble_eq_true rfl) ⟨show kc + 4 + rmM.cells ≤ 639004 by omega, show ns + 48 + rmM.slots ≤ 7099219 by omega⟩ dL_law_2168 rfl (by omega) (by omega) (fun v2 w2 hv2 => ?_)
  obtain ⟨rfl, rfl⟩ := hv2
  refine x_perm lp_2 ?_
  refine x_istore C 2173 dL_law_2171 (by decide) rfl rfl ?_
  refine x_aload_n C 2174 dL_law_2173 rfl rfl ?_
  refine x_perm lp_1 ?_
  refine x_callV1_i C 2177 (kc + 4) (ns + 48) 0 10 0 (cM_thrown hl) rfl gL_law_X6_thrown ⟨rfl, by decide, by decide, rfl⟩ ⟨Nat.le_of_ble_eq_true rfl, Nat.le_of_ble_eq_true rfl⟩ rfl rfl rfl rfl (Nat.le_of_ble_eq_true rfl) ⟨show kc + 4 + 0 ≤ 639004 by omega, show ns + 48 + 0 ≤ 7099219 by omega⟩ dL_law_2174 rfl rfl rfl (fun v3 w3 hv3 => ?_)
  obtain ⟨rfl, rfl⟩ := hv3
  refine x_perm lp_2 ?_
  refine x_top hk ?_
  refine x_iload C 2179 dL_law_2177 rfl rfl ?_
  refine x_icmp_eq C 2184 2182 dL_law_2179 (by decide) rfl (fun _ => ?_) (fun z => absurd rfl z)
  refine x_iload C 2186 dL_law_2184 rfl rfl ?_
  refine x_if_ne C 2201 2189 dL_law_2186 (by decide) rfl (fun z => ?_) (fun z => ?_)
  · refine x_goto C 2274 dL_law_2201 (by decide) ?_
    refine x_dropn 6 ?_
    refine x_dropn 7 ?_
    refine x_ls (show _ = [some (.ref b), some (.ref x), some (.ref m), some (.ref o), some (.ref od), some (.int (nI i)), none, none, none, none] from rfl) ?_
    exact kk w1 f1 fd J e2 hRW1
  · refine x_aload_n C 2190 dL_law_2189 rfl rfl ?_
    refine x_iconst (v := (0)) C 2191 dL_law_2190 (by decide) rfl ?_
    refine x_lald C 2192 w1.length 3 lw_o rfl vp_in0 dL_law_2191 rfl ?_
    refine x_topq (show _ = Value.long v2.toInt64 from congrArg Value.long (hf1 z)) ?_
    refine x_iload C 2194 dL_law_2192 rfl rfl ?_
    refine x_i2l C 2195 dL_law_2194 rfl rfl ?_
    refine x_lcmp C 2196 dL_law_2195 rfl ?_
    refine x_top (lc_refl _) ?_
    refine x_if_eq C 2201 2199 dL_law_2196 (by decide) rfl (fun _ => ?_) (fun z => absurd rfl z)
    refine x_goto C 2274 dL_law_2201 (by decide) ?_
    refine x_dropn 6 ?_
    refine x_dropn 7 ?_
    refine x_ls (show _ = [some (.ref b), some (.ref x), some (.ref m), some (.ref o), some (.ref od), some (.int (nI i)), none, none, none, none] from rfl) ?_
    exact kk w1 f1 fd J e2 hRW1
set_option maxRecDepth 100000 in
set_option maxHeartbeats 4000000 in
theorem lc_clearMacro (hl : l.stackTraces = false) (C : Cb (gm D a E0) l φ cL_law 10 RL wsL_law room_1) (hS0 : lS φ b L xs) (hi : i + 6 ≤ L) (hL : L ≤ 3072) (hkc : kc + 4 ≤ 639004) (hns : ns + 48 ≤ 7099219) (h : RW a E0 x I e w) (kk : ∀ (w1 : va_W) (f1 : Nat → Int64) (fd1 : Nat → UInt64) (J : Nat → Nat → Int32) (e2 : Int64), RW a E0 x J e2 w1 → X φ 2274 [some (.ref b), some (.ref x), some (.ref m), some (.ref o), some (.ref od), some (.int (nI i)), none, none, none, none] [] (lW o m od am a w1 f1 fd1 J e2) (kc + 4) (ns + 48)) : X φ 2204 [some (.ref b), some (.ref x), some (.ref m), some (.ref o), some (.ref od), some (.int (nI i)), none, none, none, none] [] (lW o m od am a w f fd I e) kc ns := by
  obtain ⟨q9, fs9, hq9⟩ := h.xq
  obtain ⟨b2, J, e2, rmC, rmM, hrC, ⟨hr1, hr2, hr3, hr4⟩, hH, hM⟩ := sd_clearMacro (m := m) (am := am) hl h
  obtain ⟨hc1, hc2, hc3, hc4⟩ := hrC
  refine x_aload_n C 2205 dL_law_2204 rfl rfl ?_
  refine x_ws (show _ = w ++ (outL a o f ++ rsW m od am a fd I e) from List.append_assoc _ _ _) ?_
  refine x_callV1_i C 2208 kc ns q9 9 0 hH rfl gL_law_X5_clearMacro ⟨rfl, by decide, by decide, rfl⟩ ⟨show rmC.frames + 1 ≤ 2048 by omega, show 8 + (2 + 11) + rmC.locals ≤ 94400 by omega⟩ rfl hq9 rfl rfl (Nat.le_of_ble_eq_true rfl) ⟨show kc + rmC.cells ≤ 639004 by omega, show ns + rmC.slots ≤ 7099219 by omega⟩ dL_law_2205 rfl (by omega) (by omega) (fun v1 w2 hv1 => ?_)
  obtain ⟨rfl, hRW1⟩ := hv1
  refine x_ws (show _ = (w2 ++ outL a o f) ++ rsW m od am a fd I e from (List.append_assoc _ _ _).symm) ?_
  refine x_aload_n C 2209 dL_law_2208 rfl rfl ?_
  refine x_perm lp_1 ?_
  refine x_callV1_i C 2212 kc ns 0 10 0 hM rfl gL_law_X6_clearMacro ⟨rfl, by decide, by decide, rfl⟩ ⟨show rmM.frames + 1 ≤ 2048 by omega, show 8 + (2 + 11) + rmM.locals ≤ 94400 by omega⟩ rfl rfl rfl rfl (Nat.le_of_ble_eq_true rfl) ⟨show kc + rmM.cells ≤ 639004 by omega, show ns + rmM.slots ≤ 7099219 by omega⟩ dL_law_2209 rfl (by omega) (by omega) (fun v3 w3 hv3 => ?_)
  obtain ⟨rfl, rfl⟩ := hv3
  refine x_perm lp_2 ?_
  refine x_icmp_eq C 2274 2215 dL_law_2212 (by decide) rfl (fun _ => ?_) (fun z => absurd rfl z)
  refine x_wide (kc' := kc + 4) (ns' := ns + 48) (by omega) (by omega) ?_
  refine x_ls (show _ = [some (.ref b), some (.ref x), some (.ref m), some (.ref o), some (.ref od), some (.int (nI i)), none, none, none, none] from rfl) ?_
  exact kk w2 f fd J e2 hRW1
set_option maxRecDepth 100000 in
set_option maxHeartbeats 4000000 in
theorem lc_runMacro (hl : l.stackTraces = false) (C : Cb (gm D a E0) l φ cL_law 10 RL wsL_law room_1) (hS0 : lS φ b L xs) (hi : i + 6 ≤ L) (hL : L ≤ 3072) (hkc : kc + 4 ≤ 639004) (hns : ns + 48 ≤ 7099219) (h : RW a E0 x I e w) (kk : ∀ (w1 : va_W) (f1 : Nat → Int64) (fd1 : Nat → UInt64) (J : Nat → Nat → Int32) (e2 : Int64), RW a E0 x J e2 w1 → X φ 2274 [some (.ref b), some (.ref x), some (.ref m), some (.ref o), some (.ref od), some (.int (nI i)), none, none, none, none] [] (lW o m od am a w1 f1 fd1 J e2) (kc + 4) (ns + 48)) : X φ 2217 [some (.ref b), some (.ref x), some (.ref m), some (.ref o), some (.ref od), some (.int (nI i)), none, none, none, none] [] (lW o m od am a w f fd I e) kc ns := by
  obtain ⟨q9, fs9, hq9⟩ := h.xq
  obtain ⟨b2, J, e2, rmC, rmM, hrC, ⟨hr1, hr2, hr3, hr4⟩, hH, hM⟩ := sd_runMacro (m := m) (am := am) hl h
  obtain ⟨hc1, hc2, hc3, hc4⟩ := hrC
  refine x_aload_n C 2218 dL_law_2217 rfl rfl ?_
  refine x_ws (show _ = w ++ (outL a o f ++ rsW m od am a fd I e) from List.append_assoc _ _ _) ?_
  refine x_callV1_i C 2221 kc ns q9 9 0 hH rfl gL_law_X5_runMacro ⟨rfl, by decide, by decide, rfl⟩ ⟨show rmC.frames + 1 ≤ 2048 by omega, show 8 + (2 + 11) + rmC.locals ≤ 94400 by omega⟩ rfl hq9 rfl rfl (Nat.le_of_ble_eq_true rfl) ⟨show kc + rmC.cells ≤ 639004 by omega, show ns + rmC.slots ≤ 7099219 by omega⟩ dL_law_2218 rfl (by omega) (by omega) (fun v1 w2 hv1 => ?_)
  obtain ⟨rfl, hRW1⟩ := hv1
  refine x_ws (show _ = (w2 ++ outL a o f) ++ rsW m od am a fd I e from (List.append_assoc _ _ _).symm) ?_
  refine x_aload_n C 2222 dL_law_2221 rfl rfl ?_
  refine x_perm lp_1 ?_
  refine x_callV1_i C 2225 kc ns 0 10 0 hM rfl gL_law_X6_runMacro ⟨rfl, by decide, by decide, rfl⟩ ⟨show rmM.frames + 1 ≤ 2048 by omega, show 8 + (2 + 11) + rmM.locals ≤ 94400 by omega⟩ rfl rfl rfl rfl (Nat.le_of_ble_eq_true rfl) ⟨show kc + rmM.cells ≤ 639004 by omega, show ns + rmM.slots ≤ 7099219 by omega⟩ dL_law_2222 rfl (by omega) (by omega) (fun v3 w3 hv3 => ?_)
  obtain ⟨rfl, rfl⟩ := hv3
  refine x_perm lp_2 ?_
  refine x_icmp_eq C 2274 2228 dL_law_2225 (by decide) rfl (fun _ => ?_) (fun z => absurd rfl z)
  refine x_wide (kc' := kc + 4) (ns' := ns + 48) (by omega) (by omega) ?_
  refine x_ls (show _ = [some (.ref b), some (.ref x), some (.ref m), some (.ref o), some (.ref od), some (.int (nI i)), none, none, none, none] from rfl) ?_
  exact kk w2 f fd J e2 hRW1
set_option maxRecDepth 100000 in
set_option maxHeartbeats 4000000 in
theorem lc_macroFault (hl : l.stackTraces = false) (C : Cb (gm D a E0) l φ cL_law 10 RL wsL_law room_1) (hS0 : lS φ b L xs) (hi : i + 6 ≤ L) (hL : L ≤ 3072) (hkc : kc + 4 ≤ 639004) (hns : ns + 48 ≤ 7099219) (h : RW a E0 x I e w) (kk : ∀ (w1 : va_W) (f1 : Nat → Int64) (fd1 : Nat → UInt64) (J : Nat → Nat → Int32) (e2 : Int64), RW a E0 x J e2 w1 → X φ 2274 [some (.ref b), some (.ref x), some (.ref m), some (.ref o), some (.ref od), some (.int (nI i)), none, none, none, none] [] (lW o m od am a w1 f1 fd1 J e2) (kc + 4) (ns + 48)) : X φ 2230 [some (.ref b), some (.ref x), some (.ref m), some (.ref o), some (.ref od), some (.int (nI i)), none, none, none, none] [] (lW o m od am a w f fd I e) kc ns := by
  obtain ⟨q9, fs9, hq9⟩ := h.xq
  refine x_aload_n C 2231 dL_law_2230 rfl rfl ?_
  obtain ⟨k, b2, J, e2, rmM, ⟨hr1, hr2, hr3, hr4⟩, hH, hM, hk⟩ := sm_macroFault (m := m) (am := am) (o := o) (f := f) hl h 
  refine x_aload_n C 2232 dL_law_2231 rfl rfl ?_
  refine x_callW1_i C 2235 (kc + 4) (ns + 48) 2 hH rfl gL_law_L_macroFault ⟨by decide, by decide, rfl⟩ ⟨Nat.le_of_ble_eq_true rfl, Nat.le_of_ble_eq_true rfl⟩ rfl rfl (Nat.le_of_ble_eq_true rfl) ⟨show kc + 4 ≤ 639004 by omega, show ns + 48 ≤ 7099219 by omega⟩ dL_law_2232 rfl rfl rfl (fun v1 w2 hv1 => ?_)
  obtain ⟨rfl, w1, f1, rfl, hRW1, hf1⟩ := hv1
  refine x_istore C 2237 dL_law_2235 (by decide) rfl rfl ?_
  refine x_aload_n C 2238 dL_law_2237 rfl rfl ?_
  refine x_perm lp_1 ?_
  refine x_callV1_i C 2241 (kc + 4) (ns + 48) 0 10 0 hM rfl gL_law_X6_macroFault ⟨rfl, by decide, by decide, rfl⟩ ⟨show rmM.frames + 1 ≤ 2048 by omega, show 8 + (1 + 11) + rmM.locals ≤ 94400 by omega⟩ rfl rfl rfl rfl (Nat.le_of_ble_eq_true rfl) ⟨show kc + 4 + rmM.cells ≤ 639004 by omega, show ns + 48 + rmM.slots ≤ 7099219 by omega⟩ dL_law_2238 rfl (by omega) (by omega) (fun v2 w2 hv2 => ?_)
  obtain ⟨rfl, rfl⟩ := hv2
  refine x_perm lp_2 ?_
  refine x_istore C 2243 dL_law_2241 (by decide) rfl rfl ?_
  refine x_aload_n C 2244 dL_law_2243 rfl rfl ?_
  refine x_perm lp_1 ?_
  refine x_callV1_i C 2247 (kc + 4) (ns + 48) 0 10 0 (cM_thrown hl) rfl gL_law_X6_thrown ⟨rfl, by decide, by decide, rfl⟩ ⟨Nat.le_of_ble_eq_true rfl, Nat.le_of_ble_eq_true rfl⟩ rfl rfl rfl rfl (Nat.le_of_ble_eq_true rfl) ⟨show kc + 4 + 0 ≤ 639004 by omega, show ns + 48 + 0 ≤ 7099219 by omega⟩ dL_law_2244 rfl rfl rfl (fun v3 w3 hv3 => ?_)
  obtain ⟨rfl, rfl⟩ := hv3
  refine x_perm lp_2 ?_
  refine x_top hk ?_
  refine x_iload C 2249 dL_law_2247 rfl rfl ?_
  refine x_icmp_eq C 2254 2252 dL_law_2249 (by decide) rfl (fun _ => ?_) (fun z => absurd rfl z)
  refine x_iload C 2256 dL_law_2254 rfl rfl ?_
  refine x_if_ne C 2271 2259 dL_law_2256 (by decide) rfl (fun z => ?_) (fun z => ?_)
  · refine x_goto C 2274 dL_law_2271 (by decide) ?_
    refine x_dropn 6 ?_
    refine x_dropn 7 ?_
    refine x_ls (show _ = [some (.ref b), some (.ref x), some (.ref m), some (.ref o), some (.ref od), some (.int (nI i)), none, none, none, none] from rfl) ?_
    exact kk w1 f1 fd J e2 hRW1
  · refine x_aload_n C 2260 dL_law_2259 rfl rfl ?_
    refine x_iconst (v := (0)) C 2261 dL_law_2260 (by decide) rfl ?_
    refine x_lald C 2262 w1.length 3 lw_o rfl vp_in0 dL_law_2261 rfl ?_
    refine x_topq (show _ = Value.long v2.toInt64 from congrArg Value.long (hf1 z)) ?_
    refine x_iload C 2264 dL_law_2262 rfl rfl ?_
    refine x_i2l C 2265 dL_law_2264 rfl rfl ?_
    refine x_lcmp C 2266 dL_law_2265 rfl ?_
    refine x_top (lc_refl _) ?_
    refine x_if_eq C 2271 2269 dL_law_2266 (by decide) rfl (fun _ => ?_) (fun z => absurd rfl z)
    refine x_goto C 2274 dL_law_2271 (by decide) ?_
    refine x_dropn 6 ?_
    refine x_dropn 7 ?_
    refine x_ls (show _ = [some (.ref b), some (.ref x), some (.ref m), some (.ref o), some (.ref od), some (.int (nI i)), none, none, none, none] from rfl) ?_
    exact kk w1 f1 fd J e2 hRW1
end LW
