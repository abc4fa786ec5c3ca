/-! the law's calls, one by one; by wip/whole/genW.py -/
section HW
variable {Γ : Gm} {l : Launch} {φ : Fx} {cc : ByteArray} {nL : Nat} {own : String} {wl : List Cond} {rm : Room} {pc : Nat} {L : List (Option Value)} {st rest : List Value} {ws : va_W} {kc ns : Nat}
/-- a call of a static method with a table of handlers -/
theorem x_callW1_i (C : Cb Γ l φ cc nL own wl rm) (pc' kc' ns' n : Nat) {y : MethodName} {wy wy' : List Cond} {rm' : Room} {idx maxL : Nat} {As : List Value} {wsc wr : va_W} {P' : Int32 → va_W → Prop} {bytes : ByteArray} {ret : Option FieldType} {hh : List (Nat × Nat × Nat × Nat)}
    (hC : Ct Γ l y wy rm' As wsc (qI P') noX) (hw : wy = Cond.codeWith y bytes maxL ret hh :: wy') (hG : GoodIn wl (va_wsS own idx y wy)) (hdd : y.cls ≠ "java/lang/invoke/MethodHandle" ∧ y.cls ≠ "java/lang/invoke/VarHandle" ∧ (parseMethodDescriptor y.desc).map (fun d => d.parameters.length) = some n) (hR : rm'.frames + 1 ≤ rm.frames ∧ 8 + (maxL + 11) + rm'.locals ≤ rm.locals)
    (hn : As.length = n) (hs0 : st = As.reverse ++ rest) (hcat : (rest.map fun v => v.category).sum ≤ 8) (hf : kc + rm'.cells ≤ rm.cells ∧ ns + rm'.slots ≤ rm.slots) (hd : decode cc pc = .ok (.invokestatic idx, 3)) (hpc : pc + 3 = pc') (hk : kc + rm'.cells = kc') (hn' : ns + rm'.slots = ns')
    (kk : ∀ (v : Int32) (ws' : va_W), P' v ws' → X φ pc' L (.int v :: rest) (ws' ++ wr) kc' ns') : X φ pc L st (wsc ++ wr) kc ns := by
  obtain ⟨p, l', e, R, s, m, args, below, meth, c, A, Q, Γ'⟩ := φ
  obtain ⟨hx, hb, hml, hown, hts, hK, hA, hZ, rfl, rfl, rfl, hst⟩ := C
  intro H locs ls hP hD hS hl
  subst hs0
  subst hpc
  refine w_run hP hD hS hA (vx_runSW (As := As) (rest := rest) ⟨hx, hb, hml, hown, hts⟩ (hC.met H.size) (vx_cwSW n hts hG hw rfl rfl hdd hR) ⟨cP.blind, fun U hU hW => ⟨rfl, by rw [hU], by rw [hU]; exact va_wsc_P hP, va_K.moved hW.alike hK, (va_wsc_D hD).weaken (fun _ _ _ _ => trivial), hZ.call hW hU hS (va_wsc_free hD hS hA)⟩⟩ rfl hn (hml ▸ hl.1) rfl (lv_room hcat) hd hf) (fun r ws' H1 locs1 h1 h2 h3 h4 => ?_)
  obtain ⟨v, rfl, h⟩ := h1
  subst hk hn'
  exact kk v ws' h H1 locs1 ls h2 h3 h4 hl
theorem x_wide {kc' ns' : Nat} (h1 : kc ≤ kc') (h2 : ns ≤ ns') (kk : X φ pc L st ws kc' ns') : X φ pc L st ws kc ns := by
  obtain ⟨p, l', e, R, s, m, args, below, meth, c, A, Q, Γ'⟩ := φ
  intro H locs ls hP hD hS hl
  exact W.widen h1 h2 (kk H locs ls hP hD hS hl)
end HW
theorem lc_refl (x : Int64) : lg_cmp x x = 0 := by
  unfold lg_cmp
  rw [if_neg (by rw [gt_iff_lt, Int64.lt_iff_toInt_lt]; omega), if_pos rfl]
/-- the law's world -/
def rsW (m od : Nat) (am : Nat → Nat) (a : Nat → ClassId) (fd : Nat → UInt64) (I : Nat → Nat → Int32) (e : Int64) : va_W := outD a od fd ++ wM m am a I e
def lW (o m od : Nat) (am : Nat → Nat) (a : Nat → ClassId) (w : va_W) (f : Nat → Int64) (fd : Nat → UInt64) (I : Nat → Nat → Int32) (e : Int64) : va_W := (w ++ outL a o f) ++ rsW m od am a fd I e
/-- what the walk rests on: the script -/
def lS (φ : Fx) (b L : Nat) (xs : Nat → Int32) : Prop := match φ with
  | (p, l', e, R, s, m, args, below, meth, c, A, Q, Γ') => va_X b L xs s s.heap ∧ b < s.heap.size ∧ ¬ A b
section LW
variable {l : Launch} {φ : Fx} {D : va_G} {a : Nat → ClassId} {E0 x o m od b L i kc ns : Nat} {am : Nat → Nat} {w : va_W} {f : Nat → Int64} {fd : Nat → UInt64} {I : Nat → Nat → Int32} {e : Int64} {xs : Nat → Int32} {pc : Nat} {Lc : List (Option Value)} {rest : List Value} {ws : va_W}
theorem x_sld (hS0 : lS φ b L xs) (C : Cb (gm D a E0) l φ cL_law 10 RL wsL_law room_1) (pc' : Nat) {j : Int32} (hin : vp_in j L) (hd : decode cL_law pc = .ok (.iaload, 1)) (hpc : pc + 1 = pc') (kk : X φ pc' Lc (.int (xs j.toNatClampNeg) :: rest) ws kc ns) : X φ pc Lc (.int j :: .ref b :: rest) ws kc ns := by
  obtain ⟨p, l', e, R, s, m, args, below, meth, c, A, Q, Γ'⟩ := φ
  obtain ⟨hX, hbl, hbA⟩ := hS0
  obtain ⟨hx, hb, hml, hown, hts, hK, hA, hZ, rfl, rfl, rfl, hst⟩ := C
  intro H locs ls hP hD hS hl
  exact va_sld hx hb hX hbl hbA hS hin hd (by subst hpc; exact kk H locs ls hP hD hS hl)
theorem x_slen (hS0 : lS φ b L xs) (C : Cb (gm D a E0) l φ cL_law 10 RL wsL_law room_1) (pc' : Nat) (hd : decode cL_law pc = .ok (.arraylength, 1)) (hpc : pc + 1 = pc') (kk : X φ pc' Lc (.int (nI L) :: rest) ws kc ns) : X φ pc Lc (.ref b :: rest) ws kc ns := by
  obtain ⟨p, l', e, R, s, m, args, below, meth, c, A, Q, Γ'⟩ := φ
  obtain ⟨hX, hbl, hbA⟩ := hS0
  obtain ⟨hx, hb, hml, hown, hts, hK, hA, hZ, rfl, rfl, rfl, hst⟩ := C
  intro H locs ls hP hD hS hl
  exact va_slen hx hb hX hbl hbA hS hd (by subst hpc; exact kk H locs ls hP hD hS hl)
theorem lp_1 {J : Nat → Nat → Int32} {e2 : Int64} {A : va_W} : (A ++ rsW m od am a fd J e2).Perm (wM m am a J e2 ++ (A ++ outD a od fd)) := by
  unfold rsW
  rw [← List.append_assoc]
  exact List.perm_append_comm
theorem lp_2 {J : Nat → Nat → Int32} {e2 : Int64} {A : va_W} : (wM m am a J e2 ++ (A ++ outD a od fd)).Perm (A ++ rsW m od am a fd J e2) := lp_1.symm
theorem lp_3 : ((w ++ outL a o f) ++ rsW m od am a fd I e).Perm ((w ++ outD a od fd) ++ (outL a o f ++ wM m am a I e)) := by
  unfold rsW
  rw [List.append_assoc, List.append_assoc]
  refine List.Perm.append_left w ?_
  rw [← List.append_assoc, ← List.append_assoc]
  exact List.Perm.append_right _ List.perm_append_comm
theorem lp_4 : ((w ++ outD a od fd) ++ (outL a o f ++ wM m am a I e)).Perm ((w ++ outL a o f) ++ rsW m od am a fd I e) := lp_3.symm
theorem lw_o {w1 : va_W} {f1 : Nat → Int64} {R : va_W} : ((w1 ++ outL a o f1) ++ R)[w1.length]? = some (o, .inl (a 3, 1, .inr (.inl f1))) := by
  unfold outL
  simp
theorem lw_d {w1 : va_W} {f1 : Nat → Int64} : ((w1 ++ outL a o f1) ++ rsW m od am a fd I e)[(w1 ++ outL a o f1).length]? = some (od, .inl (a 4, 1, .inr (.inr (.inr (.inl fd))))) := by
  unfold rsW outD
  simp
theorem RW.xq (h : RW a E0 x I e w) : ∃ (q0 : Nat) (fs : List Value), w[q0]? = some (x, .inr (9, fs)) := by
  obtain ⟨n, cap, A, g, en, S, rfl, rfl, -⟩ := h
  exact wC_x
set_option maxRecDepth 100000 in
set_option maxHeartbeats 4000000 in
theorem lc_addCue (hl : l.stackTraces = false) (C : Cb (gm D a E0) l φ cL_law 10 RL wsL_law room_1) (hS0 : lS φ b L xs) (hi : i + 6 ≤ L) (hL : L ≤ 3072) (hkc : kc + 4 ≤ 639004) (hns : ns + 48 ≤ 7099219) (h : RW a E0 x I e w) (kk : ∀ (w1 : va_W) (f1 : Nat → Int64) (fd1 : Nat → UInt64) (J : Nat → Nat → Int32) (e2 : Int64), RW a E0 x J e2 w1 → X φ 2274 [some (.ref b), some (.ref x), some (.ref m), some (.ref o), some (.ref od), some (.int (nI i)), none, none, none, none] [] (lW o m od am a w1 f1 fd1 J e2) (kc + 4) (ns + 48)) : X φ 208 [some (.ref b), some (.ref x), some (.ref m), some (.ref o), some (.ref od), some (.int (nI i)), none, none, none, none] [] (lW o m od am a w f fd I e) kc ns := by
  obtain ⟨q9, fs9, hq9⟩ := h.xq
  refine x_aload_n C 209 dL_law_208 rfl rfl ?_
  refine x_aload_n C 210 dL_law_209 rfl rfl ?_
  refine x_iload C 212 dL_law_210 rfl rfl ?_
  refine x_iconst (v := (1)) C 213 dL_law_212 (by decide) rfl ?_
  refine x_iadd C 214 dL_law_213 rfl ?_
  refine x_top (show _ = nI (i + 1) from nI_add _ _) ?_
  refine x_sld hS0 C 215 (vp_in_nI (by omega) (by omega)) dL_law_214 rfl ?_
  refine x_top (show _ = xs (i + 1) from by rw [nI_clamp (by omega)]) ?_
  refine x_aload_n C 216 dL_law_215 rfl rfl ?_
  refine x_iload C 218 dL_law_216 rfl rfl ?_
  refine x_iconst (v := (2)) C 219 dL_law_218 (by decide) rfl ?_
  refine x_iadd C 220 dL_law_219 rfl ?_
  refine x_top (show _ = nI (i + 2) from nI_add _ _) ?_
  refine x_sld hS0 C 221 (vp_in_nI (by omega) (by omega)) dL_law_220 rfl ?_
  refine x_top (show _ = xs (i + 2) from by rw [nI_clamp (by omega)]) ?_
  refine x_aload_n C 222 dL_law_221 rfl rfl ?_
  refine x_iload C 224 dL_law_222 rfl rfl ?_
  refine x_iconst (v := (3)) C 225 dL_law_224 (by decide) rfl ?_
  refine x_iadd C 226 dL_law_225 rfl ?_
  refine x_top (show _ = nI (i + 3) from nI_add _ _) ?_
  refine x_sld hS0 C 227 (vp_in_nI (by omega) (by omega)) dL_law_226 rfl ?_
  refine x_top (show _ = xs (i + 3) from by rw [nI_clamp (by omega)]) ?_
  refine x_i2c (v := ((xs (i + 3)).toUInt32 % 65536).toInt32) C 228 dL_law_227 rfl rfl ?_
  obtain ⟨k, b2, J, e2, rmM, ⟨hr1, hr2, hr3, hr4⟩, hH, hM, hk⟩ := sm_addCue (m := m) (am := am) (o := o) (f := f) hl h (xs (i + 1)) (xs (i + 2)) (((xs (i + 3)).toUInt32 % 65536).toInt32) ⟨pk_nc _, pk_fc _⟩ (pk_vc _)
  refine x_aload_n C 229 dL_law_228 rfl rfl ?_
  refine x_callW1_i C 232 (kc + 4) (ns + 48) 5 hH rfl gL_law_L_addCue ⟨by decide, by decide, rfl⟩ ⟨Nat.le_of_ble_eq_true rfl, Nat.le_of_ble_eq_true rfl⟩ rfl rfl (Nat.le_of_ble_eq_true rfl) ⟨show kc + 4 ≤ 639004 by omega, show ns + 48 ≤ 7099219 by omega⟩ dL_law_229 rfl rfl rfl (fun v1 w2 hv1 => ?_)
  obtain ⟨rfl, w1, f1, rfl, hRW1, hf1⟩ := hv1
  refine x_istore C 234 dL_law_232 (by decide) rfl rfl ?_
  refine x_aload_n C 235 dL_law_234 rfl rfl ?_
  refine x_aload_n C 236 dL_law_235 rfl rfl ?_
  refine x_iload C 238 dL_law_236 rfl rfl ?_
  refine x_iconst (v := (1)) C 239 dL_law_238 (by decide) rfl ?_
  refine x_iadd C 240 dL_law_239 rfl ?_
  refine x_top (show _ = nI (i + 1) from nI_add _ _) ?_
  refine x_sld hS0 C 241 (vp_in_nI (by omega) (by omega)) dL_law_240 rfl ?_
  refine x_top (show _ = xs (i + 1) from by rw [nI_clamp (by omega)]) ?_
  refine x_aload_n C 242 dL_law_241 rfl rfl ?_
  refine x_iload C 244 dL_law_242 rfl rfl ?_
  refine x_iconst (v := (2)) C 245 dL_law_244 (by decide) rfl ?_
  refine x_iadd C 246 dL_law_245 rfl ?_
  refine x_top (show _ = nI (i + 2) from nI_add _ _) ?_
  refine x_sld hS0 C 247 (vp_in_nI (by omega) (by omega)) dL_law_246 rfl ?_
  refine x_top (show _ = xs (i + 2) from by rw [nI_clamp (by omega)]) ?_
  refine x_aload_n C 248 dL_law_247 rfl rfl ?_
  refine x_iload C 250 dL_law_248 rfl rfl ?_
  refine x_iconst (v := (3)) C 251 dL_law_250 (by decide) rfl ?_
  refine x_iadd C 252 dL_law_251 rfl ?_
  refine x_top (show _ = nI (i + 3) from nI_add _ _) ?_
  refine x_sld hS0 C 253 (vp_in_nI (by omega) (by omega)) dL_law_252 rfl ?_
  refine x_top (show _ = xs (i + 3) from by rw [nI_clamp (by omega)]) ?_
  refine x_i2c (v := ((xs (i + 3)).toUInt32 % 65536).toInt32) C 254 dL_law_253 rfl rfl ?_
  refine x_perm lp_1 ?_
  refine x_callV1_i C 257 (kc + 4) (ns + 48) 0 10 3 hM rfl gL_law_X6_addCue ⟨rfl, by decide, by decide, rfl⟩ ⟨show rmM.frames + 1 ≤ 2048 by omega, show 8 + (7 + 11) + rmM.locals ≤ 94400 by omega⟩ rfl rfl rfl rfl (Nat.le_of_ble_eq_true rfl) ⟨show kc + 4 + rmM.cells ≤ 639004 by omega, show ns + 48 + rmM.slots ≤ 7099219 by omega⟩ dL_law_254 rfl (by omega) (by omega) (fun v2 w2 hv2 => ?_)
  obtain ⟨rfl, rfl⟩ := hv2
  refine x_perm lp_2 ?_
  refine x_istore C 259 dL_law_257 (by decide) rfl rfl ?_
  refine x_aload_n C 260 dL_law_259 rfl rfl ?_
  refine x_perm lp_1 ?_
  refine x_callV1_i C 263 (kc + 4) (ns + 48) 0 10 0 (cM_thrown hl) rfl gL_law_X6_thrown ⟨rfl, by decide, by decide, rfl⟩ ⟨Nat.le_of_ble_eq_true rfl, Nat.le_of_ble_eq_true rfl⟩ rfl rfl rfl rfl (Nat.le_of_ble_eq_true rfl) ⟨show kc + 4 + 0 ≤ 639004 by omega, show ns + 48 + 0 ≤ 7099219 by omega⟩ dL_law_260 rfl rfl rfl (fun v3 w3 hv3 => ?_)
  obtain ⟨rfl, rfl⟩ := hv3
  refine x_perm lp_2 ?_
  refine x_top hk ?_
  refine x_iload C 265 dL_law_263 rfl rfl ?_
  refine x_icmp_eq C 270 268 dL_law_265 (by decide) rfl (fun _ => ?_) (fun z => absurd rfl z)
  refine x_iload C 272 dL_law_270 rfl rfl ?_
  refine x_if_ne C 287 275 dL_law_272 (by decide) rfl (fun z => ?_) (fun z => ?_)
  · refine x_goto C 2274 dL_law_287 (by decide) ?_
    refine x_dropn 6 ?_
    refine x_dropn 7 ?_
    refine x_ls (show _ = [some (.ref b), some (.ref x), some (.ref m), some (.ref o), some (.ref od), some (.int (nI i)), none, none, none, none] from rfl) ?_
    exact kk w1 f1 fd J e2 hRW1
  · refine x_aload_n C 276 dL_law_275 rfl rfl ?_
    refine x_iconst (v := (0)) C 277 dL_law_276 (by decide) rfl ?_
    refine x_lald C 278 w1.length 3 lw_o rfl vp_in0 dL_law_277 rfl ?_
    refine x_topq (show _ = Value.long v2.toInt64 from congrArg Value.long (hf1 z)) ?_
    refine x_iload C 280 dL_law_278 rfl rfl ?_
    refine x_i2l C 281 dL_law_280 rfl rfl ?_
    refine x_lcmp C 282 dL_law_281 rfl ?_
    refine x_top (lc_refl _) ?_
    refine x_if_eq C 287 285 dL_law_282 (by decide) rfl (fun _ => ?_) (fun z => absurd rfl z)
    refine x_goto C 2274 dL_law_287 (by decide) ?_
    refine x_dropn 6 ?_
    refine x_dropn 7 ?_
    refine x_ls (show _ = [some (.ref b), some (.ref x), some (.ref m), some (.ref o), some (.ref od), some (.int (nI i)), none, none, none, none] from rfl) ?_
    exact kk w1 f1 fd J e2 hRW1
set_option maxRecDepth 100000 in
set_option maxHeartbeats 4000000 in
theorem lc_removeCue (hl : l.stackTraces = false) (C : Cb (gm D a E0) l φ cL_law 10 RL wsL_law room_1) (hS0 : lS φ b L xs) (hi : i + 6 ≤ L) (hL : L ≤ 3072) (hkc : kc + 4 ≤ 639004) (hns : ns + 48 ≤ 7099219) (h : RW a E0 x I e w) (kk : ∀ (w1 : va_W) (f1 : Nat → Int64) (fd1 : Nat → UInt64) (J : Nat → Nat → Int32) (e2 : Int64), RW a E0 x J e2 w1 → X φ 2274 [some (.ref b), some (.ref x), some (.ref m), some (.ref o), some (.ref od), some (.int (nI i)), none, none, none, none] [] (lW o m od am a w1 f1 fd1 J e2) (kc + 4) (ns + 48)) : X φ 290 [some (.ref b), some (.ref x), some (.ref m), some (.ref o), some (.ref od), some (.int (nI i)), none, none, none, none] [] (lW o m od am a w f fd I e) kc ns := by
  obtain ⟨q9, fs9, hq9⟩ := h.xq
  refine x_aload_n C 291 dL_law_290 rfl rfl ?_
  refine x_aload_n C 292 dL_law_291 rfl rfl ?_
  refine x_iload C 294 dL_law_292 rfl rfl ?_
  refine x_iconst (v := (1)) C 295 dL_law_294 (by decide) rfl ?_
  refine x_iadd C 296 dL_law_295 rfl ?_
  refine x_top (show _ = nI (i + 1) from nI_add _ _) ?_
  refine x_sld hS0 C 297 (vp_in_nI (by omega) (by omega)) dL_law_296 rfl ?_
  refine x_top (show _ = xs (i + 1) from by rw [nI_clamp (by omega)]) ?_
  obtain ⟨k, b2, J, e2, rmM, ⟨hr1, hr2, hr3, hr4⟩, hH, hM, hk⟩ := sm_removeCue (m := m) (am := am) (o := o) (f := f) hl h (xs (i + 1))
  refine x_aload_n C 298 dL_law_297 rfl rfl ?_
  refine x_callW1_i C 301 (kc + 4) (ns + 48) 3 hH rfl gL_law_L_removeCue ⟨by decide, by decide, rfl⟩ ⟨Nat.le_of_ble_eq_true rfl, Nat.le_of_ble_eq_true rfl⟩ rfl rfl (Nat.le_of_ble_eq_true rfl) ⟨show kc + 4 ≤ 639004 by omega, show ns + 48 ≤ 7099219 by omega⟩ dL_law_298 rfl rfl rfl (fun v1 w2 hv1 => ?_)
  obtain ⟨rfl, w1, f1, rfl, hRW1, hf1⟩ := hv1
  refine x_istore C 303 dL_law_301 (by decide) rfl rfl ?_
  refine x_aload_n C 304 dL_law_303 rfl rfl ?_
  refine x_aload_n C 305 dL_law_304 rfl rfl ?_
  refine x_iload C 307 dL_law_305 rfl rfl ?_
  refine x_iconst (v := (1)) C 308 dL_law_307 (by decide) rfl ?_
  refine x_iadd C 309 dL_law_308 rfl ?_
  refine x_top (show _ = nI (i + 1) from nI_add _ _) ?_
  refine x_sld hS0 C 310 (vp_in_nI (by omega) (by omega)) dL_law_309 rfl ?_
  refine x_top (show _ = xs (i + 1) from by rw [nI_clamp (by omega)]) ?_
  refine x_perm lp_1 ?_
  refine x_callV1_i C 313 (kc + 4) (ns + 48) 0 10 1 hM rfl gL_law_X6_removeCue ⟨rfl, by decide, by decide, rfl⟩ ⟨show rmM.frames + 1 ≤ 2048 by omega, show 8 + (4 + 11) + rmM.locals ≤ 94400 by omega⟩ rfl rfl rfl rfl (Nat.le_of_ble_eq_true rfl) ⟨show kc + 4 + rmM.cells ≤ 639004 by omega, show ns + 48 + rmM.slots ≤ 7099219 by omega⟩ dL_law_310 rfl (by omega) (by omega) (fun v2 w2 hv2 => ?_)
  obtain ⟨rfl, rfl⟩ := hv2
  refine x_perm lp_2 ?_
  refine x_istore C 315 dL_law_313 (by decide) rfl rfl ?_
  refine x_aload_n C 316 dL_law_315 rfl rfl ?_
  refine x_perm lp_1 ?_
  refine x_callV1_i C 319 (kc + 4) (ns + 48) 0 10 0 (cM_thrown hl) rfl gL_law_X6_thrown ⟨rfl, by decide, by decide, rfl⟩ ⟨Nat.le_of_ble_eq_true rfl, Nat.le_of_ble_eq_true rfl⟩ rfl rfl rfl rfl (Nat.le_of_ble_eq_true rfl) ⟨show kc + 4 + 0 ≤ 639004 by omega, show ns + 48 + 0 ≤ 7099219 by omega⟩ dL_law_316 rfl rfl rfl (fun v3 w3 hv3 => ?_)
  obtain ⟨rfl, rfl⟩ := hv3
  refine x_perm lp_2 ?_
  refine x_top hk ?_
  refine x_iload C 321 dL_law_319 rfl rfl ?_
  refine x_icmp_eq C 326 324 dL_law_321 (by decide) rfl (fun _ => ?_) (fun z => absurd rfl z)
  refine x_iload C 328 dL_law_326 rfl rfl ?_
  refine x_if_ne C 343 331 dL_law_328 (by decide) rfl (fun z => ?_) (fun z => ?_)
  · refine x_goto C 2274 dL_law_343 (by decide) ?_
    refine x_dropn 6 ?_
    refine x_dropn 7 ?_
    refine x_ls (show _ = [some (.ref b), some (.ref x), some (.ref m), some (.ref o), some (.ref od), some (.int (nI i)), none, none, none, none] from rfl) ?_
    exact kk w1 f1 fd J e2 hRW1
  · refine x_aload_n C 332 dL_law_331 rfl rfl ?_
    refine x_iconst (v := (0)) C 333 dL_law_332 (by decide) rfl ?_
    refine x_lald C 334 w1.length 3 lw_o rfl vp_in0 dL_law_333 rfl ?_
    refine x_topq (show _ = Value.long v2.toInt64 from congrArg Value.long (hf1 z)) ?_
    refine x_iload C 336 dL_law_334 rfl rfl ?_
    refine x_i2l C 337 dL_law_336 rfl rfl ?_
    refine x_lcmp C 338 dL_law_337 rfl ?_
    refine x_top (lc_refl _) ?_
    refine x_if_eq C 343 341 dL_law_338 (by decide) rfl (fun _ => ?_) (fun z => absurd rfl z)
    refine x_goto C 2274 dL_law_343 (by decide) ?_
    refine x_dropn 6 ?_
    refine x_dropn 7 ?_
    refine x_ls (show _ = [some (.ref b), some (.ref x), some (.ref m), some (.ref o), some (.ref od), some (.int (nI i)), none, none, none, none] from rfl) ?_
    exact kk w1 f1 fd J e2 hRW1
set_option maxRecDepth 100000 in
set_option maxHeartbeats 4000000 in
theorem lc_setChange (hl : l.stackTraces = false) (C : Cb (gm D a E0) l φ cL_law 10 RL wsL_law room_1) (hS0 : lS φ b L xs) (hi : i + 6 ≤ L) (hL : L ≤ 3072) (hkc : kc + 4 ≤ 639004) (hns : ns + 48 ≤ 7099219) (h : RW a E0 x I e w) (kk : ∀ (w1 : va_W) (f1 : Nat → Int64) (fd1 : Nat → UInt64) (J : Nat → Nat → Int32) (e2 : Int64), RW a E0 x J e2 w1 → X φ 2274 [some (.ref b), some (.ref x), some (.ref m), some (.ref o), some (.ref od), some (.int (nI i)), none, none, none, none] [] (lW o m od am a w1 f1 fd1 J e2) (kc + 4) (ns + 48)) : X φ 346 [some (.ref b), some (.ref x), some (.ref m), some (.ref o), some (.ref od), some (.int (nI i)), none, none, none, none] [] (lW o m od am a w f fd I e) kc ns := by
  obtain ⟨q9, fs9, hq9⟩ := h.xq
  refine x_aload_n C 347 dL_law_346 rfl rfl ?_
  refine x_aload_n C 348 dL_law_347 rfl rfl ?_
  refine x_iload C 350 dL_law_348 rfl rfl ?_
  refine x_iconst (v := (1)) C 351 dL_law_350 (by decide) rfl ?_
  refine x_iadd C 352 dL_law_351 rfl ?_
  refine x_top (show _ = nI (i + 1) from nI_add _ _) ?_
  refine x_sld hS0 C 353 (vp_in_nI (by omega) (by omega)) dL_law_352 rfl ?_
  refine x_top (show _ = xs (i + 1) from by rw [nI_clamp (by omega)]) ?_
  refine x_aload_n C 354 dL_law_353 rfl rfl ?_
  refine x_iload C 356 dL_law_354 rfl rfl ?_
  refine x_iconst (v := (2)) C 357 dL_law_356 (by decide) rfl ?_
  refine x_iadd C 358 dL_law_357 rfl ?_
  refine x_top (show _ = nI (i + 2) from nI_add _ _) ?_
  refine x_sld hS0 C 359 (vp_in_nI (by omega) (by omega)) dL_law_358 rfl ?_
  refine x_top (show _ = xs (i + 2) from by rw [nI_clamp (by omega)]) ?_
  refine x_aload_n C 360 dL_law_359 rfl rfl ?_
  refine x_iload C 362 dL_law_360 rfl rfl ?_
  refine x_iconst (v := (3)) C 363 dL_law_362 (by decide) rfl ?_
  refine x_iadd C 364 dL_law_363 rfl ?_
  refine x_top (show _ = nI (i + 3) from nI_add _ _) ?_
  refine x_sld hS0 C 365 (vp_in_nI (by omega) (by omega)) dL_law_364 rfl ?_
  refine x_top (show _ = xs (i + 3) from by rw [nI_clamp (by omega)]) ?_
  obtain ⟨k, b2, J, e2, rmM, ⟨hr1, hr2, hr3, hr4⟩, hH, hM, hk⟩ := sm_setChange (m := m) (am := am) (o := o) (f := f) hl h (xs (i + 1)) (xs (i + 2)) (xs (i + 3))
  refine x_aload_n C 366 dL_law_365 rfl rfl ?_
  refine x_callW1_i C 369 (kc + 4) (ns + 48) 5 hH rfl gL_law_L_setChange ⟨by decide, by decide, rfl⟩ ⟨Nat.le_of_ble_eq_true rfl, Nat.le_of_ble_eq_true rfl⟩ rfl rfl (Nat.le_of_ble_eq_true rfl) ⟨show kc + 4 ≤ 639004 by omega, show ns + 48 ≤ 7099219 by omega⟩ dL_law_366 rfl rfl rfl (fun v1 w2 hv1 => ?_)
  obtain ⟨rfl, w1, f1, rfl, hRW1, hf1⟩ := hv1
  refine x_istore C 371 dL_law_369 (by decide) rfl rfl ?_
  refine x_aload_n C 372 dL_law_371 rfl rfl ?_
  refine x_aload_n C 373 dL_law_372 rfl rfl ?_
  refine x_iload C 375 dL_law_373 rfl rfl ?_
  refine x_iconst (v := (1)) C 376 dL_law_375 (by decide) rfl ?_
  refine x_iadd C 377 dL_law_376 rfl ?_
  refine x_top (show _ = nI (i + 1) from nI_add _ _) ?_
  refine x_sld hS0 C 378 (vp_in_nI (by omega) (by omega)) dL_law_377 rfl ?_
  refine x_top (show _ = xs (i + 1) from by rw [nI_clamp (by omega)]) ?_
  refine x_aload_n C 379 dL_law_378 rfl rfl ?_
  refine x_iload C 381 dL_law_379 rfl rfl ?_
  refine x_iconst (v := (2)) C 382 dL_law_381 (by decide) rfl ?_
  refine x_iadd C 383 dL_law_382 rfl ?_
  refine x_top (show _ = nI (i + 2) from nI_add _ _) ?_
  refine x_sld hS0 C 384 (vp_in_nI (by omega) (by omega)) dL_law_383 rfl ?_
  refine x_top (show _ = xs (i + 2) from by rw [nI_clamp (by omega)]) ?_
  refine x_aload_n C 385 dL_law_384 rfl rfl ?_
  refine x_iload C 387 dL_law_385 rfl rfl ?_
  refine x_iconst (v := (3)) C 388 dL_law_387 (by decide) rfl ?_
  refine x_iadd C 389 dL_law_388 rfl ?_
  refine x_top (show _ = nI (i + 3) from nI_add _ _) ?_
  refine x_sld hS0 C 390 (vp_in_nI (by omega) (by omega)) dL_law_389 rfl ?_
  refine x_top (show _ = xs (i + 3) from by rw [nI_clamp (by omega)]) ?_
  refine x_perm lp_1 ?_
  refine x_callV1_i C 393 (kc + 4) (ns + 48) 0 10 3 hM rfl gL_law_X6_setChange ⟨rfl, by decide, by decide, rfl⟩ ⟨show rmM.frames + 1 ≤ 2048 by omega, show 8 + (6 + 11) + rmM.locals ≤ 94400 by omega⟩ rfl rfl rfl rfl (Nat.le_of_ble_eq_true rfl) ⟨show kc + 4 + rmM.cells ≤ 639004 by omega, show ns + 48 + rmM.slots ≤ 7099219 by omega⟩ dL_law_390 rfl (by omega) (by omega) (fun v2 w2 hv2 => ?_)
  obtain ⟨rfl, rfl⟩ := hv2
  refine x_perm lp_2 ?_
  refine x_istore C 395 dL_law_393 (by decide) rfl rfl ?_
  refine x_aload_n C 396 dL_law_395 rfl rfl ?_
  refine x_perm lp_1 ?_
  refine x_callV1_i C 399 (kc + 4) (ns + 48) 0 10 0 (cM_thrown hl) rfl gL_law_X6_thrown ⟨rfl, by decide, by decide, rfl⟩ ⟨Nat.le_of_ble_eq_true rfl, Nat.le_of_ble_eq_true rfl⟩ rfl rfl rfl rfl (Nat.le_of_ble_eq_true rfl) ⟨show kc + 4 + 0 ≤ 639004 by omega, show ns + 48 + 0 ≤ 7099219 by omega⟩ dL_law_396 rfl rfl rfl (fun v3 w3 hv3 => ?_)
  obtain ⟨rfl, rfl⟩ := hv3
  refine x_perm lp_2 ?_
  refine x_top hk ?_
  refine x_iload C 401 dL_law_399 rfl rfl ?_
  refine x_icmp_eq C 406 404 dL_law_401 (by decide) rfl (fun _ => ?_) (fun z => absurd rfl z)
  refine x_iload C 408 dL_law_406 rfl rfl ?_
  refine x_if_ne C 423 411 dL_law_408 (by decide) rfl (fun z => ?_) (fun z => ?_)
  · refine x_goto C 2274 dL_law_423 (by decide) ?_
    refine x_dropn 6 ?_
    refine x_dropn 7 ?_
    refine x_ls (show _ = [some (.ref b), some (.ref x), some (.ref m), some (.ref o), some (.ref od), some (.int (nI i)), none, none, none, none] from rfl) ?_
    exact kk w1 f1 fd J e2 hRW1
  · refine x_aload_n C 412 dL_law_411 rfl rfl ?_
    refine x_iconst (v := (0)) C 413 dL_law_412 (by decide) rfl ?_
    refine x_lald C 414 w1.length 3 lw_o rfl vp_in0 dL_law_413 rfl ?_
    refine x_topq (show _ = Value.long v2.toInt64 from congrArg Value.long (hf1 z)) ?_
    refine x_iload C 416 dL_law_414 rfl rfl ?_
    refine x_i2l C 417 dL_law_416 rfl rfl ?_
    refine x_lcmp C 418 dL_law_417 rfl ?_
    refine x_top (lc_refl _) ?_
    refine x_if_eq C 423 421 dL_law_418 (by decide) rfl (fun _ => ?_) (fun z => absurd rfl z)
    refine x_goto C 2274 dL_law_423 (by decide) ?_
    refine x_dropn 6 ?_
    refine x_dropn 7 ?_
    refine x_ls (show _ = [some (.ref b), some (.ref x), some (.ref m), some (.ref o), some (.ref od), some (.int (nI i)), none, none, none, none] from rfl) ?_
    exact kk w1 f1 fd J e2 hRW1
set_option maxRecDepth 100000 in
set_option maxHeartbeats 4000000 in
theorem lc_removeChange (hl : l.stackTraces = false) (C : Cb (gm D a E0) l φ cL_law 10 RL wsL_law room_1) (hS0 : lS φ b L xs) (hi : i + 6 ≤ L) (hL : L ≤ 3072) (hkc : kc + 4 ≤ 639004) (hns : ns + 48 ≤ 7099219) (h : RW a E0 x I e w) (kk : ∀ (w1 : va_W) (f1 : Nat → Int64) (fd1 : Nat → UInt64) (J : Nat → Nat → Int32) (e2 : Int64), RW a E0 x J e2 w1 → X φ 2274 [some (.ref b), some (.ref x), some (.ref m), some (.ref o), some (.ref od), some (.int (nI i)), none, none, none, none] [] (lW o m od am a w1 f1 fd1 J e2) (kc + 4) (ns + 48)) : X φ 426 [some (.ref b), some (.ref x), some (.ref m), some (.ref o), some (.ref od), some (.int (nI i)), none, none, none, none] [] (lW o m od am a w f fd I e) kc ns := by
  obtain ⟨q9, fs9, hq9⟩ := h.xq
  refine x_aload_n C 427 dL_law_426 rfl rfl ?_
  refine x_aload_n C 428 dL_law_427 rfl rfl ?_
  refine x_iload C 430 dL_law_428 rfl rfl ?_
  refine x_iconst (v := (1)) C 431 dL_law_430 (by decide) rfl ?_
  refine x_iadd C 432 dL_law_431 rfl ?_
  refine x_top (show _ = nI (i + 1) from nI_add _ _) ?_
  refine x_sld hS0 C 433 (vp_in_nI (by omega) (by omega)) dL_law_432 rfl ?_
  refine x_top (show _ = xs (i + 1) from by rw [nI_clamp (by omega)]) ?_
  refine x_aload_n C 434 dL_law_433 rfl rfl ?_
  refine x_iload C 436 dL_law_434 rfl rfl ?_
  refine x_iconst (v := (2)) C 437 dL_law_436 (by decide) rfl ?_
  refine x_iadd C 438 dL_law_437 rfl ?_
  refine x_top (show _ = nI (i + 2) from nI_add _ _) ?_
  refine x_sld hS0 C 439 (vp_in_nI (by omega) (by omega)) dL_law_438 rfl ?_
  refine x_top (show _ = xs (i + 2) from by rw [nI_clamp (by omega)]) ?_
  obtain ⟨k, b2, J, e2, rmM, ⟨hr1, hr2, hr3, hr4⟩, hH, hM, hk⟩ := sm_removeChange (m := m) (am := am) (o := o) (f := f) hl h (xs (i + 1)) (xs (i + 2))
  refine x_aload_n C 440 dL_law_439 rfl rfl ?_
  refine x_callW1_i C 443 (kc + 4) (ns + 48) 4 hH rfl gL_law_L_removeChange ⟨by decide, by decide, rfl⟩ ⟨Nat.le_of_ble_eq_true rfl, Nat.le_of_ble_eq_true rfl⟩ rfl rfl (Nat.le_of_ble_eq_true rfl) ⟨show kc + 4 ≤ 639004 by omega, show ns + 48 ≤ 7099219 by omega⟩ dL_law_440 rfl rfl rfl (fun v1 w2 hv1 => ?_)
  obtain ⟨rfl, w1, f1, rfl, hRW1, hf1⟩ := hv1
  refine x_istore C 445 dL_law_443 (by decide) rfl rfl ?_
  refine x_aload_n C 446 dL_law_445 rfl rfl ?_
  refine x_aload_n C 447 dL_law_446 rfl rfl ?_
  refine x_iload C 449 dL_law_447 rfl rfl ?_
  refine x_iconst (v := (1)) C 450 dL_law_449 (by decide) rfl ?_
  refine x_iadd C 451 dL_law_450 rfl ?_
  refine x_top (show _ = nI (i + 1) from nI_add _ _) ?_
  refine x_sld hS0 C 452 (vp_in_nI (by omega) (by omega)) dL_law_451 rfl ?_
  refine x_top (show _ = xs (i + 1) from by rw [nI_clamp (by omega)]) ?_
  refine x_aload_n C 453 dL_law_452 rfl rfl ?_
  refine x_iload C 455 dL_law_453 rfl rfl ?_
  refine x_iconst (v := (2)) C 456 dL_law_455 (by decide) rfl ?_
  refine x_iadd C 457 dL_law_456 rfl ?_
  refine x_top (show _ = nI (i + 2) from nI_add _ _) ?_
  refine x_sld hS0 C 458 (vp_in_nI (by omega) (by omega)) dL_law_457 rfl ?_
  refine x_top (show _ = xs (i + 2) from by rw [nI_clamp (by omega)]) ?_
  refine x_perm lp_1 ?_
  refine x_callV1_i C 461 (kc + 4) (ns + 48) 0 10 2 hM rfl gL_law_X6_removeChange ⟨rfl, by decide, by decide, rfl⟩ ⟨show rmM.frames + 1 ≤ 2048 by omega, show 8 + (5 + 11) + rmM.locals ≤ 94400 by omega⟩ rfl rfl rfl rfl (Nat.le_of_ble_eq_true rfl) ⟨show kc + 4 + rmM.cells ≤ 639004 by omega, show ns + 48 + rmM.slots ≤ 7099219 by omega⟩ dL_law_458 rfl (by omega) (by omega) (fun v2 w2 hv2 => ?_)
  obtain ⟨rfl, rfl⟩ := hv2
  refine x_perm lp_2 ?_
  refine x_istore C 463 dL_law_461 (by decide) rfl rfl ?_
  refine x_aload_n C 464 dL_law_463 rfl rfl ?_
  refine x_perm lp_1 ?_
  refine x_callV1_i C 467 (kc + 4) (ns + 48) 0 10 0 (cM_thrown hl) rfl gL_law_X6_thrown ⟨rfl, by decide, by decide, rfl⟩ ⟨Nat.le_of_ble_eq_true rfl, Nat.le_of_ble_eq_true rfl⟩ rfl rfl rfl rfl (Nat.le_of_ble_eq_true rfl) ⟨show kc + 4 + 0 ≤ 639004 by omega, show ns + 48 + 0 ≤ 7099219 by omega⟩ dL_law_464 rfl rfl rfl (fun v3 w3 hv3 => ?_)
  obtain ⟨rfl, rfl⟩ := hv3
  refine x_perm lp_2 ?_
  refine x_top hk ?_
  refine x_iload C 469 dL_law_467 rfl rfl ?_
  refine x_icmp_eq C 474 472 dL_law_469 (by decide) rfl (fun _ => ?_) (fun z => absurd rfl z)
  refine x_iload C 476 dL_law_474 rfl rfl ?_
  refine x_if_ne C 491 479 dL_law_476 (by decide) rfl (fun z => ?_) (fun z => ?_)
  · refine x_goto C 2274 dL_law_491 (by decide) ?_
    refine x_dropn 6 ?_
    refine x_dropn 7 ?_
    refine x_ls (show _ = [some (.ref b), some (.ref x), some (.ref m), some (.ref o), some (.ref od), some (.int (nI i)), none, none, none, none] from rfl) ?_
    exact kk w1 f1 fd J e2 hRW1
  · refine x_aload_n C 480 dL_law_479 rfl rfl ?_
    refine x_iconst (v := (0)) C 481 dL_law_480 (by decide) rfl ?_
    refine x_lald C 482 w1.length 3 lw_o rfl vp_in0 dL_law_481 rfl ?_
    refine x_topq (show _ = Value.long v2.toInt64 from congrArg Value.long (hf1 z)) ?_
    refine x_iload C 484 dL_law_482 rfl rfl ?_
    refine x_i2l C 485 dL_law_484 rfl rfl ?_
    refine x_lcmp C 486 dL_law_485 rfl ?_
    refine x_top (lc_refl _) ?_
    refine x_if_eq C 491 489 dL_law_486 (by decide) rfl (fun _ => ?_) (fun z => absurd rfl z)
    refine x_goto C 2274 dL_law_491 (by decide) ?_
    refine x_dropn 6 ?_
    refine x_dropn 7 ?_
    refine x_ls (show _ = [some (.ref b), some (.ref x), some (.ref m), some (.ref o), some (.ref od), some (.int (nI i)), none, none, none, none] from rfl) ?_
    exact kk w1 f1 fd J e2 hRW1
set_option maxRecDepth 100000 in
set_option maxHeartbeats 4000000 in
theorem lc_setBlock (hl : l.stackTraces = false) (C : Cb (gm D a E0) l φ cL_law 10 RL wsL_law room_1) (hS0 : lS φ b L xs) (hi : i + 6 ≤ L) (hL : L ≤ 3072) (hkc : kc + 4 ≤ 639004) (hns : ns + 48 ≤ 7099219) (h : RW a E0 x I e w) (kk : ∀ (w1 : va_W) (f1 : Nat → Int64) (fd1 : Nat → UInt64) (J : Nat → Nat → Int32) (e2 : Int64), RW a E0 x J e2 w1 → X φ 2274 [some (.ref b), some (.ref x), some (.ref m), some (.ref o), some (.ref od), some (.int (nI i)), none, none, none, none] [] (lW o m od am a w1 f1 fd1 J e2) (kc + 4) (ns + 48)) : X φ 494 [some (.ref b), some (.ref x), some (.ref m), some (.ref o), some (.ref od), some (.int (nI i)), none, none, none, none] [] (lW o m od am a w f fd I e) kc ns := by
  obtain ⟨q9, fs9, hq9⟩ := h.xq
  refine x_aload_n C 495 dL_law_494 rfl rfl ?_
  refine x_aload_n C 496 dL_law_495 rfl rfl ?_
  refine x_iload C 498 dL_law_496 rfl rfl ?_
  refine x_iconst (v := (1)) C 499 dL_law_498 (by decide) rfl ?_
  refine x_iadd C 500 dL_law_499 rfl ?_
  refine x_top (show _ = nI (i + 1) from nI_add _ _) ?_
  refine x_sld hS0 C 501 (vp_in_nI (by omega) (by omega)) dL_law_500 rfl ?_
  refine x_top (show _ = xs (i + 1) from by rw [nI_clamp (by omega)]) ?_
  refine x_aload_n C 502 dL_law_501 rfl rfl ?_
  refine x_iload C 504 dL_law_502 rfl rfl ?_
  refine x_iconst (v := (2)) C 505 dL_law_504 (by decide) rfl ?_
  refine x_iadd C 506 dL_law_505 rfl ?_
  refine x_top (show _ = nI (i + 2) from nI_add _ _) ?_
  refine x_sld hS0 C 507 (vp_in_nI (by omega) (by omega)) dL_law_506 rfl ?_
  refine x_top (show _ = xs (i + 2) from by rw [nI_clamp (by omega)]) ?_
  refine x_if_eq C 514 510 dL_law_507 (by decide) rfl (fun zb16 => ?_) (fun zb16 => ?_)
  · refine x_iconst (v := (0)) C 515 dL_law_514 (by decide) rfl ?_
    obtain ⟨k, b2, J, e2, rmM, ⟨hr1, hr2, hr3, hr4⟩, hH, hM, hk⟩ := sm_setBlock (m := m) (am := am) (o := o) (f := f) hl h (xs (i + 1)) false
    refine x_aload_n C 516 dL_law_515 rfl rfl ?_
    refine x_callW1_i C 519 (kc + 4) (ns + 48) 4 hH rfl gL_law_L_setBlock ⟨by decide, by decide, rfl⟩ ⟨Nat.le_of_ble_eq_true rfl, Nat.le_of_ble_eq_true rfl⟩ rfl rfl (Nat.le_of_ble_eq_true rfl) ⟨show kc + 4 ≤ 639004 by omega, show ns + 48 ≤ 7099219 by omega⟩ dL_law_516 rfl rfl rfl (fun v1 w2 hv1 => ?_)
    obtain ⟨rfl, w1, f1, rfl, hRW1, hf1⟩ := hv1
    refine x_istore C 521 dL_law_519 (by decide) rfl rfl ?_
    refine x_aload_n C 522 dL_law_521 rfl rfl ?_
    refine x_aload_n C 523 dL_law_522 rfl rfl ?_
    refine x_iload C 525 dL_law_523 rfl rfl ?_
    refine x_iconst (v := (1)) C 526 dL_law_525 (by decide) rfl ?_
    refine x_iadd C 527 dL_law_526 rfl ?_
    refine x_top (show _ = nI (i + 1) from nI_add _ _) ?_
    refine x_sld hS0 C 528 (vp_in_nI (by omega) (by omega)) dL_law_527 rfl ?_
    refine x_top (show _ = xs (i + 1) from by rw [nI_clamp (by omega)]) ?_
    refine x_aload_n C 529 dL_law_528 rfl rfl ?_
    refine x_iload C 531 dL_law_529 rfl rfl ?_
    refine x_iconst (v := (2)) C 532 dL_law_531 (by decide) rfl ?_
    refine x_iadd C 533 dL_law_532 rfl ?_
    refine x_top (show _ = nI (i + 2) from nI_add _ _) ?_
    refine x_sld hS0 C 534 (vp_in_nI (by omega) (by omega)) dL_law_533 rfl ?_
    refine x_top (show _ = xs (i + 2) from by rw [nI_clamp (by omega)]) ?_
    refine x_if_eq C 541 537 dL_law_534 (by decide) rfl (fun zb38 => ?_) (fun zb38 => absurd zb16 zb38)
    refine x_iconst (v := (0)) C 542 dL_law_541 (by decide) rfl ?_
    refine x_perm lp_1 ?_
    refine x_callV1_i C 545 (kc + 4) (ns + 48) 0 10 2 hM rfl gL_law_X6_setBlock ⟨rfl, by decide, by decide, rfl⟩ ⟨show rmM.frames + 1 ≤ 2048 by omega, show 8 + (5 + 11) + rmM.locals ≤ 94400 by omega⟩ rfl rfl rfl rfl (Nat.le_of_ble_eq_true rfl) ⟨show kc + 4 + rmM.cells ≤ 639004 by omega, show ns + 48 + rmM.slots ≤ 7099219 by omega⟩ dL_law_542 rfl (by omega) (by omega) (fun v2 w2 hv2 => ?_)
    obtain ⟨rfl, rfl⟩ := hv2
    refine x_perm lp_2 ?_
    refine x_istore C 547 dL_law_545 (by decide) rfl rfl ?_
    refine x_aload_n C 548 dL_law_547 rfl rfl ?_
    refine x_perm lp_1 ?_
    refine x_callV1_i C 551 (kc + 4) (ns + 48) 0 10 0 (cM_thrown hl) rfl gL_law_X6_thrown ⟨rfl, by decide, by decide, rfl⟩ ⟨Nat.le_of_ble_eq_true rfl, Nat.le_of_ble_eq_true rfl⟩ rfl rfl rfl rfl (Nat.le_of_ble_eq_true rfl) ⟨show kc + 4 + 0 ≤ 639004 by omega, show ns + 48 + 0 ≤ 7099219 by omega⟩ dL_law_548 rfl rfl rfl (fun v3 w3 hv3 => ?_)
    obtain ⟨rfl, rfl⟩ := hv3
    refine x_perm lp_2 ?_
    refine x_top hk ?_
    refine x_iload C 553 dL_law_551 rfl rfl ?_
    refine x_icmp_eq C 558 556 dL_law_553 (by decide) rfl (fun _ => ?_) (fun z => absurd rfl z)
    refine x_iload C 560 dL_law_558 rfl rfl ?_
    refine x_if_ne C 582 563 dL_law_560 (by decide) rfl (fun z => ?_) (fun z => ?_)
    · refine x_goto C 2274 dL_law_582 (by decide) ?_
      refine x_dropn 6 ?_
      refine x_dropn 7 ?_
      refine x_ls (show _ = [some (.ref b), some (.ref x), some (.ref m), some (.ref o), some (.ref od), some (.int (nI i)), none, none, none, none] from rfl) ?_
      exact kk w1 f1 fd J e2 hRW1
    · refine x_aload_n C 564 dL_law_563 rfl rfl ?_
      refine x_iconst (v := (0)) C 565 dL_law_564 (by decide) rfl ?_
      refine x_lald C 566 w1.length 3 lw_o rfl vp_in0 dL_law_565 rfl ?_
      refine x_topq (show _ = Value.long (zB v2) from congrArg Value.long (hf1 z)) ?_
      refine x_iload C 568 dL_law_566 rfl rfl ?_
      refine x_if_eq C 575 571 dL_law_568 (by decide) rfl (fun z2 => ?_) (fun z2 => ?_)
      · refine x_lconst (v := 0) C 576 dL_law_575 (by decide) rfl ?_
        refine x_topq (show _ = Value.long (zB v2) from congrArg Value.long (if_pos z2).symm) ?_
        refine x_lcmp C 577 dL_law_576 rfl ?_
        refine x_top (lc_refl _) ?_
        refine x_if_eq C 582 580 dL_law_577 (by decide) rfl (fun _ => ?_) (fun z => absurd rfl z)
        refine x_goto C 2274 dL_law_582 (by decide) ?_
        refine x_dropn 6 ?_
        refine x_dropn 7 ?_
        refine x_ls (show _ = [some (.ref b), some (.ref x), some (.ref m), some (.ref o), some (.ref od), some (.int (nI i)), none, none, none, none] from rfl) ?_
        exact kk w1 f1 fd J e2 hRW1
      · refine x_lconst (v := 1) C 572 dL_law_571 (by decide) rfl ?_
        refine x_goto C 576 dL_law_572 (by decide) ?_
        refine x_topq (show _ = Value.long (zB v2) from congrArg Value.long (if_neg z2).symm) ?_
        refine x_lcmp C 577 dL_law_576 rfl ?_
        refine x_top (lc_refl _) ?_
        refine x_if_eq C 582 580 dL_law_577 (by decide) rfl (fun _ => ?_) (fun z => absurd rfl z)
        refine x_goto C 2274 dL_law_582 (by decide) ?_
        refine x_dropn 6 ?_
        refine x_dropn 7 ?_
        refine x_ls (show _ = [some (.ref b), some (.ref x), some (.ref m), some (.ref o), some (.ref od), some (.int (nI i)), none, none, none, none] from rfl) ?_
        exact kk w1 f1 fd J e2 hRW1
  · refine x_iconst (v := (1)) C 511 dL_law_510 (by decide) rfl ?_
    refine x_goto C 515 dL_law_511 (by decide) ?_
    obtain ⟨k, b2, J, e2, rmM, ⟨hr1, hr2, hr3, hr4⟩, hH, hM, hk⟩ := sm_setBlock (m := m) (am := am) (o := o) (f := f) hl h (xs (i + 1)) true
    refine x_aload_n C 516 dL_law_515 rfl rfl ?_
    refine x_callW1_i C 519 (kc + 4) (ns + 48) 4 hH rfl gL_law_L_setBlock ⟨by decide, by decide, rfl⟩ ⟨Nat.le_of_ble_eq_true rfl, Nat.le_of_ble_eq_true rfl⟩ rfl rfl (Nat.le_of_ble_eq_true rfl) ⟨show kc + 4 ≤ 639004 by omega, show ns + 48 ≤ 7099219 by omega⟩ dL_law_516 rfl rfl rfl (fun v1 w2 hv1 => ?_)
    obtain ⟨rfl, w1, f1, rfl, hRW1, hf1⟩ := hv1
    refine x_istore C 521 dL_law_519 (by decide) rfl rfl ?_
    refine x_aload_n C 522 dL_law_521 rfl rfl ?_
    refine x_aload_n C 523 dL_law_522 rfl rfl ?_
    refine x_iload C 525 dL_law_523 rfl rfl ?_
    refine x_iconst (v := (1)) C 526 dL_law_525 (by decide) rfl ?_
    refine x_iadd C 527 dL_law_526 rfl ?_
    refine x_top (show _ = nI (i + 1) from nI_add _ _) ?_
    refine x_sld hS0 C 528 (vp_in_nI (by omega) (by omega)) dL_law_527 rfl ?_
    refine x_top (show _ = xs (i + 1) from by rw [nI_clamp (by omega)]) ?_
    refine x_aload_n C 529 dL_law_528 rfl rfl ?_
    refine x_iload C 531 dL_law_529 rfl rfl ?_
    refine x_iconst (v := (2)) C 532 dL_law_531 (by decide) rfl ?_
    refine x_iadd C 533 dL_law_532 rfl ?_
    refine x_top (show _ = nI (i + 2) from nI_add _ _) ?_
    refine x_sld hS0 C 534 (vp_in_nI (by omega) (by omega)) dL_law_533 rfl ?_
    refine x_top (show _ = xs (i + 2) from by rw [nI_clamp (by omega)]) ?_
    refine x_if_eq C 541 537 dL_law_534 (by decide) rfl (fun zb109 => absurd zb109 zb16) (fun zb109 => ?_)
    refine x_iconst (v := (1)) C 538 dL_law_537 (by decide) rfl ?_
    refine x_goto C 542 dL_law_538 (by decide) ?_
    refine x_perm lp_1 ?_
    refine x_callV1_i C 545 (kc + 4) (ns + 48) 0 10 2 hM rfl gL_law_X6_setBlock ⟨rfl, by decide, by decide, rfl⟩ ⟨show rmM.frames + 1 ≤ 2048 by omega, show 8 + (5 + 11) + rmM.locals ≤ 94400 by omega⟩ rfl rfl rfl rfl (Nat.le_of_ble_eq_true rfl) ⟨show kc + 4 + rmM.cells ≤ 639004 by omega, show ns + 48 + rmM.slots ≤ 7099219 by omega⟩ dL_law_542 rfl (by omega) (by omega) (fun v2 w2 hv2 => ?_)
    obtain ⟨rfl, rfl⟩ := hv2
    refine x_perm lp_2 ?_
    refine x_istore C 547 dL_law_545 (by decide) rfl rfl ?_
    refine x_aload_n C 548 dL_law_547 rfl rfl ?_
    refine x_perm lp_1 ?_
    refine x_callV1_i C 551 (kc + 4) (ns + 48) 0 10 0 (cM_thrown hl) rfl gL_law_X6_thrown ⟨rfl, by decide, by decide, rfl⟩ ⟨Nat.le_of_ble_eq_true rfl, Nat.le_of_ble_eq_true rfl⟩ rfl rfl rfl rfl (Nat.le_of_ble_eq_true rfl) ⟨show kc + 4 + 0 ≤ 639004 by omega, show ns + 48 + 0 ≤ 7099219 by omega⟩ dL_law_548 rfl rfl rfl (fun v3 w3 hv3 => ?_)
    obtain ⟨rfl, rfl⟩ := hv3
    refine x_perm lp_2 ?_
    refine x_top hk ?_
    refine x_iload C 553 dL_law_551 rfl rfl ?_
    refine x_icmp_eq C 558 556 dL_law_553 (by decide) rfl (fun _ => ?_) (fun z => absurd rfl z)
    refine x_iload C 560 dL_law_558 rfl rfl ?_
    refine x_if_ne C 582 563 dL_law_560 (by decide) rfl (fun z => ?_) (fun z => ?_)
    · refine x_goto C 2274 dL_law_582 (by decide) ?_
      refine x_dropn 6 ?_
      refine x_dropn 7 ?_
      refine x_ls (show _ = [some (.ref b), some (.ref x), some (.ref m), some (.ref o), some (.ref od), some (.int (nI i)), none, none, none, none] from rfl) ?_
      exact kk w1 f1 fd J e2 hRW1
    · refine x_aload_n C 564 dL_law_563 rfl rfl ?_
      refine x_iconst (v := (0)) C 565 dL_law_564 (by decide) rfl ?_
      refine x_lald C 566 w1.length 3 lw_o rfl vp_in0 dL_law_565 rfl ?_
      refine x_topq (show _ = Value.long (zB v2) from congrArg Value.long (hf1 z)) ?_
      refine x_iload C 568 dL_law_566 rfl rfl ?_
      refine x_if_eq C 575 571 dL_law_568 (by decide) rfl (fun z2 => ?_) (fun z2 => ?_)
      · refine x_lconst (v := 0) C 576 dL_law_575 (by decide) rfl ?_
        refine x_topq (show _ = Value.long (zB v2) from congrArg Value.long (if_pos z2).symm) ?_
        refine x_lcmp C 577 dL_law_576 rfl ?_
        refine x_top (lc_refl _) ?_
        refine x_if_eq C 582 580 dL_law_577 (by decide) rfl (fun _ => ?_) (fun z => absurd rfl z)
        refine x_goto C 2274 dL_law_582 (by decide) ?_
        refine x_dropn 6 ?_
        refine x_dropn 7 ?_
        refine x_ls (show _ = [some (.ref b), some (.ref x), some (.ref m), some (.ref o), some (.ref od), some (.int (nI i)), none, none, none, none] from rfl) ?_
        exact kk w1 f1 fd J e2 hRW1
      · refine x_lconst (v := 1) C 572 dL_law_571 (by decide) rfl ?_
        refine x_goto C 576 dL_law_572 (by decide) ?_
        refine x_topq (show _ = Value.long (zB v2) from congrArg Value.long (if_neg z2).symm) ?_
        refine x_lcmp C 577 dL_law_576 rfl ?_
        refine x_top (lc_refl _) ?_
        refine x_if_eq C 582 580 dL_law_577 (by decide) rfl (fun _ => ?_) (fun z => absurd rfl z)
        refine x_goto C 2274 dL_law_582 (by decide) ?_
        refine x_dropn 6 ?_
        refine x_dropn 7 ?_
        refine x_ls (show _ = [some (.ref b), some (.ref x), some (.ref m), some (.ref o), some (.ref od), some (.int (nI i)), none, none, none, none] from rfl) ?_
        exact kk w1 f1 fd J e2 hRW1
set_option maxRecDepth 100000 in
set_option maxHeartbeats 4000000 in
theorem lc_trackedLevel (hl : l.stackTraces = false) (C : Cb (gm D a E0) l φ cL_law 10 RL wsL_law room_1) (hS0 : lS φ b L xs) (hi : i + 6 ≤ L) (hL : L ≤ 3072) (hkc : kc + 4 ≤ 639004) (hns : ns + 48 ≤ 7099219) (h : RW a E0 x I e w) (kk : ∀ (w1 : va_W) (f1 : Nat → Int64) (fd1 : Nat → UInt64) (J : Nat → Nat → Int32) (e2 : Int64), RW a E0 x J e2 w1 → X φ 2274 [some (.ref b), some (.ref x), some (.ref m), some (.ref o), some (.ref od), some (.int (nI i)), none, none, none, none] [] (lW o m od am a w1 f1 fd1 J e2) (kc + 4) (ns + 48)) : X φ 585 [some (.ref b), some (.ref x), some (.ref m), some (.ref o), some (.ref od), some (.int (nI i)), none, none, none, none] [] (lW o m od am a w f fd I e) kc ns := by
  obtain ⟨q9, fs9, hq9⟩ := h.xq
  refine x_aload_n C 586 dL_law_585 rfl rfl ?_
  refine x_aload_n C 587 dL_law_586 rfl rfl ?_
  refine x_iload C 589 dL_law_587 rfl rfl ?_
  refine x_iconst (v := (1)) C 590 dL_law_589 (by decide) rfl ?_
  refine x_iadd C 591 dL_law_590 rfl ?_
  refine x_top (show _ = nI (i + 1) from nI_add _ _) ?_
  refine x_sld hS0 C 592 (vp_in_nI (by omega) (by omega)) dL_law_591 rfl ?_
  refine x_top (show _ = xs (i + 1) from by rw [nI_clamp (by omega)]) ?_
  refine x_aload_n C 593 dL_law_592 rfl rfl ?_
  refine x_iload C 595 dL_law_593 rfl rfl ?_
  refine x_iconst (v := (2)) C 596 dL_law_595 (by decide) rfl ?_
  refine x_iadd C 597 dL_law_596 rfl ?_
  refine x_top (show _ = nI (i + 2) from nI_add _ _) ?_
  refine x_sld hS0 C 598 (vp_in_nI (by omega) (by omega)) dL_law_597 rfl ?_
  refine x_top (show _ = xs (i + 2) from by rw [nI_clamp (by omega)]) ?_
  obtain ⟨k, b2, J, e2, rmM, ⟨hr1, hr2, hr3, hr4⟩, hH, hM, hk⟩ := sm_trackedLevel (m := m) (am := am) (o := o) (f := f) hl h (xs (i + 1)) (xs (i + 2))
  refine x_aload_n C 599 dL_law_598 rfl rfl ?_
  refine x_callW1_i C 602 (kc + 4) (ns + 48) 4 hH rfl gL_law_L_trackedLevel ⟨by decide, by decide, rfl⟩ ⟨Nat.le_of_ble_eq_true rfl, Nat.le_of_ble_eq_true rfl⟩ rfl rfl (Nat.le_of_ble_eq_true rfl) ⟨show kc + 4 ≤ 639004 by omega, show ns + 48 ≤ 7099219 by omega⟩ dL_law_599 rfl rfl rfl (fun v1 w2 hv1 => ?_)
  obtain ⟨rfl, w1, f1, rfl, hRW1, hf1⟩ := hv1
  refine x_istore C 604 dL_law_602 (by decide) rfl rfl ?_
  refine x_aload_n C 605 dL_law_604 rfl rfl ?_
  refine x_aload_n C 606 dL_law_605 rfl rfl ?_
  refine x_iload C 608 dL_law_606 rfl rfl ?_
  refine x_iconst (v := (1)) C 609 dL_law_608 (by decide) rfl ?_
  refine x_iadd C 610 dL_law_609 rfl ?_
  refine x_top (show _ = nI (i + 1) from nI_add _ _) ?_
  refine x_sld hS0 C 611 (vp_in_nI (by omega) (by omega)) dL_law_610 rfl ?_
  refine x_top (show _ = xs (i + 1) from by rw [nI_clamp (by omega)]) ?_
  refine x_aload_n C 612 dL_law_611 rfl rfl ?_
  refine x_iload C 614 dL_law_612 rfl rfl ?_
  refine x_iconst (v := (2)) C 615 dL_law_614 (by decide) rfl ?_
  refine x_iadd C 616 dL_law_615 rfl ?_
  refine x_top (show _ = nI (i + 2) from nI_add _ _) ?_
  refine x_sld hS0 C 617 (vp_in_nI (by omega) (by omega)) dL_law_616 rfl ?_
  refine x_top (show _ = xs (i + 2) from by rw [nI_clamp (by omega)]) ?_
  refine x_perm lp_1 ?_
  refine x_callV1_i C 620 (kc + 4) (ns + 48) 0 10 2 hM rfl gL_law_X6_trackedLevel ⟨rfl, by decide, by decide, rfl⟩ ⟨show rmM.frames + 1 ≤ 2048 by omega, show 8 + (4 + 11) + rmM.locals ≤ 94400 by omega⟩ rfl rfl rfl rfl (Nat.le_of_ble_eq_true rfl) ⟨show kc + 4 + rmM.cells ≤ 639004 by omega, show ns + 48 + rmM.slots ≤ 7099219 by omega⟩ dL_law_617 rfl (by omega) (by omega) (fun v2 w2 hv2 => ?_)
  obtain ⟨rfl, rfl⟩ := hv2
  refine x_perm lp_2 ?_
  refine x_istore C 622 dL_law_620 (by decide) rfl rfl ?_
  refine x_aload_n C 623 dL_law_622 rfl rfl ?_
  refine x_perm lp_1 ?_
  refine x_callV1_i C 626 (kc + 4) (ns + 48) 0 10 0 (cM_thrown hl) rfl gL_law_X6_thrown ⟨rfl, by decide, by decide, rfl⟩ ⟨Nat.le_of_ble_eq_true rfl, Nat.le_of_ble_eq_true rfl⟩ rfl rfl rfl rfl (Nat.le_of_ble_eq_true rfl) ⟨show kc + 4 + 0 ≤ 639004 by omega, show ns + 48 + 0 ≤ 7099219 by omega⟩ dL_law_623 rfl rfl rfl (fun v3 w3 hv3 => ?_)
  obtain ⟨rfl, rfl⟩ := hv3
  refine x_perm lp_2 ?_
  refine x_top hk ?_
  refine x_iload C 628 dL_law_626 rfl rfl ?_
  refine x_icmp_eq C 633 631 dL_law_628 (by decide) rfl (fun _ => ?_) (fun z => absurd rfl z)
  refine x_iload C 635 dL_law_633 rfl rfl ?_
  refine x_if_ne C 650 638 dL_law_635 (by decide) rfl (fun z => ?_) (fun z => ?_)
  · refine x_goto C 2274 dL_law_650 (by decide) ?_
    refine x_dropn 6 ?_
    refine x_dropn 7 ?_
    refine x_ls (show _ = [some (.ref b), some (.ref x), some (.ref m), some (.ref o), some (.ref od), some (.int (nI i)), none, none, none, none] from rfl) ?_
    exact kk w1 f1 fd J e2 hRW1
  · refine x_aload_n C 639 dL_law_638 rfl rfl ?_
    refine x_iconst (v := (0)) C 640 dL_law_639 (by decide) rfl ?_
    refine x_lald C 641 w1.length 3 lw_o rfl vp_in0 dL_law_640 rfl ?_
    refine x_topq (show _ = Value.long v2.toInt64 from congrArg Value.long (hf1 z)) ?_
    refine x_iload C 643 dL_law_641 rfl rfl ?_
    refine x_i2l C 644 dL_law_643 rfl rfl ?_
    refine x_lcmp C 645 dL_law_644 rfl ?_
    refine x_top (lc_refl _) ?_
    refine x_if_eq C 650 648 dL_law_645 (by decide) rfl (fun _ => ?_) (fun z => absurd rfl z)
    refine x_goto C 2274 dL_law_650 (by decide) ?_
    refine x_dropn 6 ?_
    refine x_dropn 7 ?_
    refine x_ls (show _ = [some (.ref b), some (.ref x), some (.ref m), some (.ref o), some (.ref od), some (.int (nI i)), none, none, none, none] from rfl) ?_
    exact kk w1 f1 fd J e2 hRW1
set_option maxRecDepth 100000 in
set_option maxHeartbeats 4000000 in
theorem lc_cues (hl : l.stackTraces = false) (C : Cb (gm D a E0) l φ cL_law 10 RL wsL_law room_1) (hS0 : lS φ b L xs) (hi : i + 6 ≤ L) (hL : L ≤ 3072) (hkc : kc + 4 ≤ 639004) (hns : ns + 48 ≤ 7099219) (h : RW a E0 x I e w) (kk : ∀ (w1 : va_W) (f1 : Nat → Int64) (fd1 : Nat → UInt64) (J : Nat → Nat → Int32) (e2 : Int64), RW a E0 x J e2 w1 → X φ 2274 [some (.ref b), some (.ref x), some (.ref m), some (.ref o), some (.ref od), some (.int (nI i)), none, none, none, none] [] (lW o m od am a w1 f1 fd1 J e2) (kc + 4) (ns + 48)) : X φ 653 [some (.ref b), some (.ref x), some (.ref m), some (.ref o), some (.ref od), some (.int (nI i)), none, none, none, none] [] (lW o m od am a w f fd I e) kc ns := by
  obtain ⟨q9, fs9, hq9⟩ := h.xq
  obtain ⟨b2, J, e2, rmC, rmM, hrC, ⟨hr1, hr2, hr3, hr4⟩, hH, hM⟩ := sd_cues (m := m) (am := am) hl h
  obtain ⟨hc1, hc2, hc3, hc4⟩ := hrC
  refine x_aload_n C 654 dL_law_653 rfl rfl ?_
  refine x_ws (show _ = w ++ (outL a o f ++ rsW m od am a fd I e) from List.append_assoc _ _ _) ?_
  refine x_callV1_i C 657 kc ns q9 9 0 hH rfl gL_law_X5_cues ⟨rfl, by decide, by decide, rfl⟩ ⟨show rmC.frames + 1 ≤ 2048 by omega, show 8 + (1 + 11) + rmC.locals ≤ 94400 by omega⟩ rfl hq9 rfl rfl (Nat.le_of_ble_eq_true rfl) ⟨show kc + rmC.cells ≤ 639004 by omega, show ns + rmC.slots ≤ 7099219 by omega⟩ dL_law_654 rfl (by omega) (by omega) (fun v1 w2 hv1 => ?_)
  obtain ⟨rfl, hRW1⟩ := hv1
  refine x_ws (show _ = (w2 ++ outL a o f) ++ rsW m od am a fd I e from (List.append_assoc _ _ _).symm) ?_
  refine x_aload_n C 658 dL_law_657 rfl rfl ?_
  refine x_perm lp_1 ?_
  refine x_callV1_i C 661 kc ns 0 10 0 hM rfl gL_law_X6_cues ⟨rfl, by decide, by decide, rfl⟩ ⟨show rmM.frames + 1 ≤ 2048 by omega, show 8 + (1 + 11) + rmM.locals ≤ 94400 by omega⟩ rfl rfl rfl rfl (Nat.le_of_ble_eq_true rfl) ⟨show kc + rmM.cells ≤ 639004 by omega, show ns + rmM.slots ≤ 7099219 by omega⟩ dL_law_658 rfl (by omega) (by omega) (fun v3 w3 hv3 => ?_)
  obtain ⟨rfl, rfl⟩ := hv3
  refine x_perm lp_2 ?_
  refine x_icmp_eq C 2274 664 dL_law_661 (by decide) rfl (fun _ => ?_) (fun z => absurd rfl z)
  refine x_wide (kc' := kc + 4) (ns' := ns + 48) (by omega) (by omega) ?_
  refine x_ls (show _ = [some (.ref b), some (.ref x), some (.ref m), some (.ref o), some (.ref od), some (.int (nI i)), none, none, none, none] from rfl) ?_
  exact kk w2 f fd J e2 hRW1
set_option maxRecDepth 100000 in
set_option maxHeartbeats 4000000 in
theorem lc_go (hl : l.stackTraces = false) (C : Cb (gm D a E0) l φ cL_law 10 RL wsL_law room_1) (hS0 : lS φ b L xs) (hi : i + 6 ≤ L) (hL : L ≤ 3072) (hkc : kc + 4 ≤ 639004) (hns : ns + 48 ≤ 7099219) (h : RW a E0 x I e w) (kk : ∀ (w1 : va_W) (f1 : Nat → Int64) (fd1 : Nat → UInt64) (J : Nat → Nat → Int32) (e2 : Int64), RW a E0 x J e2 w1 → X φ 2274 [some (.ref b), some (.ref x), some (.ref m), some (.ref o), some (.ref od), some (.int (nI i)), none, none, none, none] [] (lW o m od am a w1 f1 fd1 J e2) (kc + 4) (ns + 48)) : X φ 666 [some (.ref b), some (.ref x), some (.ref m), some (.ref o), some (.ref od), some (.int (nI i)), none, none, none, none] [] (lW o m od am a w f fd I e) kc ns := by
  obtain ⟨q9, fs9, hq9⟩ := h.xq
  refine x_aload_n C 667 dL_law_666 rfl rfl ?_
  obtain ⟨k, b2, J, e2, rmM, ⟨hr1, hr2, hr3, hr4⟩, hH, hM, hk⟩ := sm_go (m := m) (am := am) (o := o) (f := f) hl h 
  refine x_aload_n C 668 dL_law_667 rfl rfl ?_
  refine x_callW1_i C 671 (kc + 4) (ns + 48) 2 hH rfl gL_law_L_go ⟨by decide, by decide, rfl⟩ ⟨Nat.le_of_ble_eq_true rfl, Nat.le_of_ble_eq_true rfl⟩ rfl rfl (Nat.le_of_ble_eq_true rfl) ⟨show kc + 4 ≤ 639004 by omega, show ns + 48 ≤ 7099219 by omega⟩ dL_law_668 rfl rfl rfl (fun v1 w2 hv1 => ?_)
  obtain ⟨rfl, w1, f1, rfl, hRW1, hf1⟩ := hv1
  refine x_istore C 673 dL_law_671 (by decide) rfl rfl ?_
  refine x_aload_n C 674 dL_law_673 rfl rfl ?_
  refine x_perm lp_1 ?_
  refine x_callV1_i C 677 (kc + 4) (ns + 48) 0 10 0 hM rfl gL_law_X6_go ⟨rfl, by decide, by decide, rfl⟩ ⟨show rmM.frames + 1 ≤ 2048 by omega, show 8 + (3 + 11) + rmM.locals ≤ 94400 by omega⟩ rfl rfl rfl rfl (Nat.le_of_ble_eq_true rfl) ⟨show kc + 4 + rmM.cells ≤ 639004 by omega, show ns + 48 + rmM.slots ≤ 7099219 by omega⟩ dL_law_674 rfl (by omega) (by omega) (fun v2 w2 hv2 => ?_)
  obtain ⟨rfl, rfl⟩ := hv2
  refine x_perm lp_2 ?_
  refine x_istore C 679 dL_law_677 (by decide) rfl rfl ?_
  refine x_aload_n C 680 dL_law_679 rfl rfl ?_
  refine x_perm lp_1 ?_
  refine x_callV1_i C 683 (kc + 4) (ns + 48) 0 10 0 (cM_thrown hl) rfl gL_law_X6_thrown ⟨rfl, by decide, by decide, rfl⟩ ⟨Nat.le_of_ble_eq_true rfl, Nat.le_of_ble_eq_true rfl⟩ rfl rfl rfl rfl (Nat.le_of_ble_eq_true rfl) ⟨show kc + 4 + 0 ≤ 639004 by omega, show ns + 48 + 0 ≤ 7099219 by omega⟩ dL_law_680 rfl rfl rfl (fun v3 w3 hv3 => ?_)
  obtain ⟨rfl, rfl⟩ := hv3
  refine x_perm lp_2 ?_
  refine x_top hk ?_
  refine x_iload C 685 dL_law_683 rfl rfl ?_
  refine x_icmp_eq C 690 688 dL_law_685 (by decide) rfl (fun _ => ?_) (fun z => absurd rfl z)
  refine x_iload C 692 dL_law_690 rfl rfl ?_
  refine x_if_ne C 707 695 dL_law_692 (by decide) rfl (fun z => ?_) (fun z => ?_)
  · refine x_goto C 2274 dL_law_707 (by decide) ?_
    refine x_dropn 6 ?_
    refine x_dropn 7 ?_
    refine x_ls (show _ = [some (.ref b), some (.ref x), some (.ref m), some (.ref o), some (.ref od), some (.int (nI i)), none, none, none, none] from rfl) ?_
    exact kk w1 f1 fd J e2 hRW1
  · refine x_aload_n C 696 dL_law_695 rfl rfl ?_
    refine x_iconst (v := (0)) C 697 dL_law_696 (by decide) rfl ?_
    refine x_lald C 698 w1.length 3 lw_o rfl vp_in0 dL_law_697 rfl ?_
    refine x_topq (show _ = Value.long v2.toInt64 from congrArg Value.long (hf1 z)) ?_
    refine x_iload C 700 dL_law_698 rfl rfl ?_
    refine x_i2l C 701 dL_law_700 rfl rfl ?_
    refine x_lcmp C 702 dL_law_701 rfl ?_
    refine x_top (lc_refl _) ?_
    refine x_if_eq C 707 705 dL_law_702 (by decide) rfl (fun _ => ?_) (fun z => absurd rfl z)
    refine x_goto C 2274 dL_law_707 (by decide) ?_
    refine x_dropn 6 ?_
    refine x_dropn 7 ?_
    refine x_ls (show _ = [some (.ref b), some (.ref x), some (.ref m), some (.ref o), some (.ref od), some (.int (nI i)), none, none, none, none] from rfl) ?_
    exact kk w1 f1 fd J e2 hRW1
end LW
section LW
variable {l : Launch} {φ : Fx} {D : va_G} {a : Nat → ClassId} {E0 x o m od b L i kc ns : Nat} {am : Nat → Nat} {w : va_W} {f : Nat → Int64} {fd : Nat → UInt64} {I : Nat → Nat → Int32} {e : Int64} {xs : Nat → Int32} {pc : Nat} {Lc : List (Option Value)} {rest : List Value} {ws : va_W}
set_option maxRecDepth 100000 in
set_option maxHeartbeats 4000000 in
theorem lc_back (hl : l.stackTraces = false) (C : Cb (gm D a E0) l φ cL_law 10 RL wsL_law room_1) (hS0 : lS φ b L xs) (hi : i + 6 ≤ L) (hL : L ≤ 3072) (hkc : kc + 4 ≤ 639004) (hns : ns + 48 ≤ 7099219) (h : RW a E0 x I e w) (kk : ∀ (w1 : va_W) (f1 : Nat → Int64) (fd1 : Nat → UInt64) (J : Nat → Nat → Int32) (e2 : Int64), RW a E0 x J e2 w1 → X φ 2274 [some (.ref b), some (.ref x), some (.ref m), some (.ref o), some (.ref od), some (.int (nI i)), none, none, none, none] [] (lW o m od am a w1 f1 fd1 J e2) (kc + 4) (ns + 48)) : X φ 710 [some (.ref b), some (.ref x), some (.ref m), some (.ref o), some (.ref od), some (.int (nI i)), none, none, none, none] [] (lW o m od am a w f fd I e) kc ns := by
  obtain ⟨q9, fs9, hq9⟩ := h.xq
  refine x_aload_n C 711 dL_law_710 rfl rfl ?_
  obtain ⟨k, b2, J, e2, rmM, ⟨hr1, hr2, hr3, hr4⟩, hH, hM, hk⟩ := sm_back (m := m) (am := am) (o := o) (f := f) hl h 
  refine x_aload_n C 712 dL_law_711 rfl rfl ?_
  refine x_callW1_i C 715 (kc + 4) (ns + 48) 2 hH rfl gL_law_L_back ⟨by decide, by decide, rfl⟩ ⟨Nat.le_of_ble_eq_true rfl, Nat.le_of_ble_eq_true rfl⟩ rfl rfl (Nat.le_of_ble_eq_true rfl) ⟨show kc + 4 ≤ 639004 by omega, show ns + 48 ≤ 7099219 by omega⟩ dL_law_712 rfl rfl rfl (fun v1 w2 hv1 => ?_)
  obtain ⟨rfl, w1, f1, rfl, hRW1, hf1⟩ := hv1
  refine x_istore C 717 dL_law_715 (by decide) rfl rfl ?_
  refine x_aload_n C 718 dL_law_717 rfl rfl ?_
  refine x_perm lp_1 ?_
  refine x_callV1_i C 721 (kc + 4) (ns + 48) 0 10 0 hM rfl gL_law_X6_back ⟨rfl, by decide, by decide, rfl⟩ ⟨show rmM.frames + 1 ≤ 2048 by omega, show 8 + (3 + 11) + rmM.locals ≤ 94400 by omega⟩ rfl rfl rfl rfl (Nat.le_of_ble_eq_true rfl) ⟨show kc + 4 + rmM.cells ≤ 639004 by omega, show ns + 48 + rmM.slots ≤ 7099219 by omega⟩ dL_law_718 rfl (by omega) (by omega) (fun v2 w2 hv2 => ?_)
  obtain ⟨rfl, rfl⟩ := hv2
  refine x_perm lp_2 ?_
  refine x_istore C 723 dL_law_721 (by decide) rfl rfl ?_
  refine x_aload_n C 724 dL_law_723 rfl rfl ?_
  refine x_perm lp_1 ?_
  refine x_callV1_i C 727 (kc + 4) (ns + 48) 0 10 0 (cM_thrown hl) rfl gL_law_X6_thrown ⟨rfl, by decide, by decide, rfl⟩ ⟨Nat.le_of_ble_eq_true rfl, Nat.le_of_ble_eq_true rfl⟩ rfl rfl rfl rfl (Nat.le_of_ble_eq_true rfl) ⟨show kc + 4 + 0 ≤ 639004 by omega, show ns + 48 + 0 ≤ 7099219 by omega⟩ dL_law_724 rfl rfl rfl (fun v3 w3 hv3 => ?_)
  obtain ⟨rfl, rfl⟩ := hv3
  refine x_perm lp_2 ?_
  refine x_top hk ?_
  refine x_iload C 729 dL_law_727 rfl rfl ?_
  refine x_icmp_eq C 734 732 dL_law_729 (by decide) rfl (fun _ => ?_) (fun z => absurd rfl z)
  refine x_iload C 736 dL_law_734 rfl rfl ?_
  refine x_if_ne C 751 739 dL_law_736 (by decide) rfl (fun z => ?_) (fun z => ?_)
  · refine x_goto C 2274 dL_law_751 (by decide) ?_
    refine x_dropn 6 ?_
    refine x_dropn 7 ?_
    refine x_ls (show _ = [some (.ref b), some (.ref x), some (.ref m), some (.ref o), some (.ref od), some (.int (nI i)), none, none, none, none] from rfl) ?_
    exact kk w1 f1 fd J e2 hRW1
  · refine x_aload_n C 740 dL_law_739 rfl rfl ?_
    refine x_iconst (v := (0)) C 741 dL_law_740 (by decide) rfl ?_
    refine x_lald C 742 w1.length 3 lw_o rfl vp_in0 dL_law_741 rfl ?_
    refine x_topq (show _ = Value.long v2.toInt64 from congrArg Value.long (hf1 z)) ?_
    refine x_iload C 744 dL_law_742 rfl rfl ?_
    refine x_i2l C 745 dL_law_744 rfl rfl ?_
    refine x_lcmp C 746 dL_law_745 rfl ?_
    refine x_top (lc_refl _) ?_
    refine x_if_eq C 751 749 dL_law_746 (by decide) rfl (fun _ => ?_) (fun z => absurd rfl z)
    refine x_goto C 2274 dL_law_751 (by decide) ?_
    refine x_dropn 6 ?_
    refine x_dropn 7 ?_
    refine x_ls (show _ = [some (.ref b), some (.ref x), some (.ref m), some (.ref o), some (.ref od), some (.int (nI i)), none, none, none, none] from rfl) ?_
    exact kk w1 f1 fd J e2 hRW1
set_option maxRecDepth 100000 in
set_option maxHeartbeats 4000000 in
theorem lc_goTo (hl : l.stackTraces = false) (C : Cb (gm D a E0) l φ cL_law 10 RL wsL_law room_1) (hS0 : lS φ b L xs) (hi : i + 6 ≤ L) (hL : L ≤ 3072) (hkc : kc + 4 ≤ 639004) (hns : ns + 48 ≤ 7099219) (h : RW a E0 x I e w) (kk : ∀ (w1 : va_W) (f1 : Nat → Int64) (fd1 : Nat → UInt64) (J : Nat → Nat → Int32) (e2 : Int64), RW a E0 x J e2 w1 → X φ 2274 [some (.ref b), some (.ref x), some (.ref m), some (.ref o), some (.ref od), some (.int (nI i)), none, none, none, none] [] (lW o m od am a w1 f1 fd1 J e2) (kc + 4) (ns + 48)) : X φ 754 [some (.ref b), some (.ref x), some (.ref m), some (.ref o), some (.ref od), some (.int (nI i)), none, none, none, none] [] (lW o m od am a w f fd I e) kc ns := by
  obtain ⟨q9, fs9, hq9⟩ := h.xq
  refine x_aload_n C 755 dL_law_754 rfl rfl ?_
  refine x_aload_n C 756 dL_law_755 rfl rfl ?_
  refine x_iload C 758 dL_law_756 rfl rfl ?_
  refine x_iconst (v := (1)) C 759 dL_law_758 (by decide) rfl ?_
  refine x_iadd C 760 dL_law_759 rfl ?_
  refine x_top (show _ = nI (i + 1) from nI_add _ _) ?_
  refine x_sld hS0 C 761 (vp_in_nI (by omega) (by omega)) dL_law_760 rfl ?_
  refine x_top (show _ = xs (i + 1) from by rw [nI_clamp (by omega)]) ?_
  obtain ⟨k, b2, J, e2, rmM, ⟨hr1, hr2, hr3, hr4⟩, hH, hM, hk⟩ := sm_goTo (m := m) (am := am) (o := o) (f := f) hl h (xs (i + 1))
  refine x_aload_n C 762 dL_law_761 rfl rfl ?_
  refine x_callW1_i C 765 (kc + 4) (ns + 48) 3 hH rfl gL_law_L_goTo ⟨by decide, by decide, rfl⟩ ⟨Nat.le_of_ble_eq_true rfl, Nat.le_of_ble_eq_true rfl⟩ rfl rfl (Nat.le_of_ble_eq_true rfl) ⟨show kc + 4 ≤ 639004 by omega, show ns + 48 ≤ 7099219 by omega⟩ dL_law_762 rfl rfl rfl (fun v1 w2 hv1 => ?_)
  obtain ⟨rfl, w1, f1, rfl, hRW1, hf1⟩ := hv1
  refine x_istore C 767 dL_law_765 (by decide) rfl rfl ?_
  refine x_aload_n C 768 dL_law_767 rfl rfl ?_
  refine x_aload_n C 769 dL_law_768 rfl rfl ?_
  refine x_iload C 771 dL_law_769 rfl rfl ?_
  refine x_iconst (v := (1)) C 772 dL_law_771 (by decide) rfl ?_
  refine x_iadd C 773 dL_law_772 rfl ?_
  refine x_top (show _ = nI (i + 1) from nI_add _ _) ?_
  refine x_sld hS0 C 774 (vp_in_nI (by omega) (by omega)) dL_law_773 rfl ?_
  refine x_top (show _ = xs (i + 1) from by rw [nI_clamp (by omega)]) ?_
  refine x_perm lp_1 ?_
  refine x_callV1_i C 777 (kc + 4) (ns + 48) 0 10 1 hM rfl gL_law_X6_goTo ⟨rfl, by decide, by decide, rfl⟩ ⟨show rmM.frames + 1 ≤ 2048 by omega, show 8 + (4 + 11) + rmM.locals ≤ 94400 by omega⟩ rfl rfl rfl rfl (Nat.le_of_ble_eq_true rfl) ⟨show kc + 4 + rmM.cells ≤ 639004 by omega, show ns + 48 + rmM.slots ≤ 7099219 by omega⟩ dL_law_774 rfl (by omega) (by omega) (fun v2 w2 hv2 => ?_)
  obtain ⟨rfl, rfl⟩ := hv2
  refine x_perm lp_2 ?_
  refine x_istore C 779 dL_law_777 (by decide) rfl rfl ?_
  refine x_aload_n C 780 dL_law_779 rfl rfl ?_
  refine x_perm lp_1 ?_
  refine x_callV1_i C 783 (kc + 4) (ns + 48) 0 10 0 (cM_thrown hl) rfl gL_law_X6_thrown ⟨rfl, by decide, by decide, rfl⟩ ⟨Nat.le_of_ble_eq_true rfl, Nat.le_of_ble_eq_true rfl⟩ rfl rfl rfl rfl (Nat.le_of_ble_eq_true rfl) ⟨show kc + 4 + 0 ≤ 639004 by omega, show ns + 48 + 0 ≤ 7099219 by omega⟩ dL_law_780 rfl rfl rfl (fun v3 w3 hv3 => ?_)
  obtain ⟨rfl, rfl⟩ := hv3
  refine x_perm lp_2 ?_
  refine x_top hk ?_
  refine x_iload C 785 dL_law_783 rfl rfl ?_
  refine x_icmp_eq C 790 788 dL_law_785 (by decide) rfl (fun _ => ?_) (fun z => absurd rfl z)
  refine x_iload C 792 dL_law_790 rfl rfl ?_
  refine x_if_ne C 807 795 dL_law_792 (by decide) rfl (fun z => ?_) (fun z => ?_)
  · refine x_goto C 2274 dL_law_807 (by decide) ?_
    refine x_dropn 6 ?_
    refine x_dropn 7 ?_
    refine x_ls (show _ = [some (.ref b), some (.ref x), some (.ref m), some (.ref o), some (.ref od), some (.int (nI i)), none, none, none, none] from rfl) ?_
    exact kk w1 f1 fd J e2 hRW1
  · refine x_aload_n C 796 dL_law_795 rfl rfl ?_
    refine x_iconst (v := (0)) C 797 dL_law_796 (by decide) rfl ?_
    refine x_lald C 798 w1.length 3 lw_o rfl vp_in0 dL_law_797 rfl ?_
    refine x_topq (show _ = Value.long v2.toInt64 from congrArg Value.long (hf1 z)) ?_
    refine x_iload C 800 dL_law_798 rfl rfl ?_
    refine x_i2l C 801 dL_law_800 rfl rfl ?_
    refine x_lcmp C 802 dL_law_801 rfl ?_
    refine x_top (lc_refl _) ?_
    refine x_if_eq C 807 805 dL_law_802 (by decide) rfl (fun _ => ?_) (fun z => absurd rfl z)
    refine x_goto C 2274 dL_law_807 (by decide) ?_
    refine x_dropn 6 ?_
    refine x_dropn 7 ?_
    refine x_ls (show _ = [some (.ref b), some (.ref x), some (.ref m), some (.ref o), some (.ref od), some (.int (nI i)), none, none, none, none] from rfl) ?_
    exact kk w1 f1 fd J e2 hRW1
set_option maxRecDepth 100000 in
set_option maxHeartbeats 4000000 in
theorem lc_pass (hl : l.stackTraces = false) (C : Cb (gm D a E0) l φ cL_law 10 RL wsL_law room_1) (hS0 : lS φ b L xs) (hi : i + 6 ≤ L) (hL : L ≤ 3072) (hkc : kc + 4 ≤ 639004) (hns : ns + 48 ≤ 7099219) (h : RW a E0 x I e w) (kk : ∀ (w1 : va_W) (f1 : Nat → Int64) (fd1 : Nat → UInt64) (J : Nat → Nat → Int32) (e2 : Int64), RW a E0 x J e2 w1 → X φ 2274 [some (.ref b), some (.ref x), some (.ref m), some (.ref o), some (.ref od), some (.int (nI i)), none, none, none, none] [] (lW o m od am a w1 f1 fd1 J e2) (kc + 4) (ns + 48)) : X φ 810 [some (.ref b), some (.ref x), some (.ref m), some (.ref o), some (.ref od), some (.int (nI i)), none, none, none, none] [] (lW o m od am a w f fd I e) kc ns := by
  obtain ⟨q9, fs9, hq9⟩ := h.xq
  refine x_aload_n C 811 dL_law_810 rfl rfl ?_
  refine x_aload_n C 812 dL_law_811 rfl rfl ?_
  refine x_iload C 814 dL_law_812 rfl rfl ?_
  refine x_iconst (v := (1)) C 815 dL_law_814 (by decide) rfl ?_
  refine x_iadd C 816 dL_law_815 rfl ?_
  refine x_top (show _ = nI (i + 1) from nI_add _ _) ?_
  refine x_sld hS0 C 817 (vp_in_nI (by omega) (by omega)) dL_law_816 rfl ?_
  refine x_top (show _ = xs (i + 1) from by rw [nI_clamp (by omega)]) ?_
  obtain ⟨k, b2, J, e2, rmM, ⟨hr1, hr2, hr3, hr4⟩, hH, hM, hk⟩ := sm_pass (m := m) (am := am) (o := o) (f := f) hl h (xs (i + 1))
  refine x_aload_n C 818 dL_law_817 rfl rfl ?_
  refine x_callW1_i C 821 (kc + 4) (ns + 48) 3 hH rfl gL_law_L_pass ⟨by decide, by decide, rfl⟩ ⟨Nat.le_of_ble_eq_true rfl, Nat.le_of_ble_eq_true rfl⟩ rfl rfl (Nat.le_of_ble_eq_true rfl) ⟨show kc + 4 ≤ 639004 by omega, show ns + 48 ≤ 7099219 by omega⟩ dL_law_818 rfl rfl rfl (fun v1 w2 hv1 => ?_)
  obtain ⟨rfl, w1, f1, rfl, hRW1, hf1⟩ := hv1
  refine x_istore C 823 dL_law_821 (by decide) rfl rfl ?_
  refine x_aload_n C 824 dL_law_823 rfl rfl ?_
  refine x_aload_n C 825 dL_law_824 rfl rfl ?_
  refine x_iload C 827 dL_law_825 rfl rfl ?_
  refine x_iconst (v := (1)) C 828 dL_law_827 (by decide) rfl ?_
  refine x_iadd C 829 dL_law_828 rfl ?_
  refine x_top (show _ = nI (i + 1) from nI_add _ _) ?_
  refine x_sld hS0 C 830 (vp_in_nI (by omega) (by omega)) dL_law_829 rfl ?_
  refine x_top (show _ = xs (i + 1) from by rw [nI_clamp (by omega)]) ?_
  refine x_perm lp_1 ?_
  refine x_callV1_i C 833 (kc + 4) (ns + 48) 0 10 1 hM rfl gL_law_X6_pass ⟨rfl, by decide, by decide, rfl⟩ ⟨show rmM.frames + 1 ≤ 2048 by omega, show 8 + (4 + 11) + rmM.locals ≤ 94400 by omega⟩ rfl rfl rfl rfl (Nat.le_of_ble_eq_true rfl) ⟨show kc + 4 + rmM.cells ≤ 639004 by omega, show ns + 48 + rmM.slots ≤ 7099219 by omega⟩ dL_law_830 rfl (by omega) (by omega) (fun v2 w2 hv2 => ?_)
  obtain ⟨rfl, rfl⟩ := hv2
  refine x_perm lp_2 ?_
  refine x_istore C 835 dL_law_833 (by decide) rfl rfl ?_
  refine x_aload_n C 836 dL_law_835 rfl rfl ?_
  refine x_perm lp_1 ?_
  refine x_callV1_i C 839 (kc + 4) (ns + 48) 0 10 0 (cM_thrown hl) rfl gL_law_X6_thrown ⟨rfl, by decide, by decide, rfl⟩ ⟨Nat.le_of_ble_eq_true rfl, Nat.le_of_ble_eq_true rfl⟩ rfl rfl rfl rfl (Nat.le_of_ble_eq_true rfl) ⟨show kc + 4 + 0 ≤ 639004 by omega, show ns + 48 + 0 ≤ 7099219 by omega⟩ dL_law_836 rfl rfl rfl (fun v3 w3 hv3 => ?_)
  obtain ⟨rfl, rfl⟩ := hv3
  refine x_perm lp_2 ?_
  refine x_top hk ?_
  refine x_iload C 841 dL_law_839 rfl rfl ?_
  refine x_icmp_eq C 846 844 dL_law_841 (by decide) rfl (fun _ => ?_) (fun z => absurd rfl z)
  refine x_iload C 848 dL_law_846 rfl rfl ?_
  refine x_if_ne C 863 851 dL_law_848 (by decide) rfl (fun z => ?_) (fun z => ?_)
  · refine x_goto C 2274 dL_law_863 (by decide) ?_
    refine x_dropn 6 ?_
    refine x_dropn 7 ?_
    refine x_ls (show _ = [some (.ref b), some (.ref x), some (.ref m), some (.ref o), some (.ref od), some (.int (nI i)), none, none, none, none] from rfl) ?_
    exact kk w1 f1 fd J e2 hRW1
  · refine x_aload_n C 852 dL_law_851 rfl rfl ?_
    refine x_iconst (v := (0)) C 853 dL_law_852 (by decide) rfl ?_
    refine x_lald C 854 w1.length 3 lw_o rfl vp_in0 dL_law_853 rfl ?_
    refine x_topq (show _ = Value.long v2.toInt64 from congrArg Value.long (hf1 z)) ?_
    refine x_iload C 856 dL_law_854 rfl rfl ?_
    refine x_i2l C 857 dL_law_856 rfl rfl ?_
    refine x_lcmp C 858 dL_law_857 rfl ?_
    refine x_top (lc_refl _) ?_
    refine x_if_eq C 863 861 dL_law_858 (by decide) rfl (fun _ => ?_) (fun z => absurd rfl z)
    refine x_goto C 2274 dL_law_863 (by decide) ?_
    refine x_dropn 6 ?_
    refine x_dropn 7 ?_
    refine x_ls (show _ = [some (.ref b), some (.ref x), some (.ref m), some (.ref o), some (.ref od), some (.int (nI i)), none, none, none, none] from rfl) ?_
    exact kk w1 f1 fd J e2 hRW1
set_option maxRecDepth 100000 in
set_option maxHeartbeats 4000000 in
theorem lc_currentCue (hl : l.stackTraces = false) (C : Cb (gm D a E0) l φ cL_law 10 RL wsL_law room_1) (hS0 : lS φ b L xs) (hi : i + 6 ≤ L) (hL : L ≤ 3072) (hkc : kc + 4 ≤ 639004) (hns : ns + 48 ≤ 7099219) (h : RW a E0 x I e w) (kk : ∀ (w1 : va_W) (f1 : Nat → Int64) (fd1 : Nat → UInt64) (J : Nat → Nat → Int32) (e2 : Int64), RW a E0 x J e2 w1 → X φ 2274 [some (.ref b), some (.ref x), some (.ref m), some (.ref o), some (.ref od), some (.int (nI i)), none, none, none, none] [] (lW o m od am a w1 f1 fd1 J e2) (kc + 4) (ns + 48)) : X φ 866 [some (.ref b), some (.ref x), some (.ref m), some (.ref o), some (.ref od), some (.int (nI i)), none, none, none, none] [] (lW o m od am a w f fd I e) kc ns := by
  obtain ⟨q9, fs9, hq9⟩ := h.xq
  obtain ⟨b2, J, e2, rmC, rmM, hrC, ⟨hr1, hr2, hr3, hr4⟩, hH, hM⟩ := sd_currentCue (m := m) (am := am) hl h
  obtain ⟨hc1, hc2, hc3, hc4⟩ := hrC
  refine x_aload_n C 867 dL_law_866 rfl rfl ?_
  refine x_ws (show _ = w ++ (outL a o f ++ rsW m od am a fd I e) from List.append_assoc _ _ _) ?_
  refine x_callV1_i C 870 kc ns q9 9 0 hH rfl gL_law_X5_currentCue ⟨rfl, by decide, by decide, rfl⟩ ⟨show rmC.frames + 1 ≤ 2048 by omega, show 8 + (1 + 11) + rmC.locals ≤ 94400 by omega⟩ rfl hq9 rfl rfl (Nat.le_of_ble_eq_true rfl) ⟨show kc + rmC.cells ≤ 639004 by omega, show ns + rmC.slots ≤ 7099219 by omega⟩ dL_law_867 rfl (by omega) (by omega) (fun v1 w2 hv1 => ?_)
  obtain ⟨rfl, hRW1⟩ := hv1
  refine x_ws (show _ = (w2 ++ outL a o f) ++ rsW m od am a fd I e from (List.append_assoc _ _ _).symm) ?_
  refine x_aload_n C 871 dL_law_870 rfl rfl ?_
  refine x_perm lp_1 ?_
  refine x_callV1_i C 874 kc ns 0 10 0 hM rfl gL_law_X6_currentCue ⟨rfl, by decide, by decide, rfl⟩ ⟨show rmM.frames + 1 ≤ 2048 by omega, show 8 + (1 + 11) + rmM.locals ≤ 94400 by omega⟩ rfl rfl rfl rfl (Nat.le_of_ble_eq_true rfl) ⟨show kc + rmM.cells ≤ 639004 by omega, show ns + rmM.slots ≤ 7099219 by omega⟩ dL_law_871 rfl (by omega) (by omega) (fun v3 w3 hv3 => ?_)
  obtain ⟨rfl, rfl⟩ := hv3
  refine x_perm lp_2 ?_
  refine x_icmp_eq C 2274 877 dL_law_874 (by decide) rfl (fun _ => ?_) (fun z => absurd rfl z)
  refine x_wide (kc' := kc + 4) (ns' := ns + 48) (by omega) (by omega) ?_
  refine x_ls (show _ = [some (.ref b), some (.ref x), some (.ref m), some (.ref o), some (.ref od), some (.int (nI i)), none, none, none, none] from rfl) ?_
  exact kk w2 f fd J e2 hRW1
set_option maxRecDepth 100000 in
set_option maxHeartbeats 4000000 in
theorem lc_cueLevel (hl : l.stackTraces = false) (C : Cb (gm D a E0) l φ cL_law 10 RL wsL_law room_1) (hS0 : lS φ b L xs) (hi : i + 6 ≤ L) (hL : L ≤ 3072) (hkc : kc + 4 ≤ 639004) (hns : ns + 48 ≤ 7099219) (h : RW a E0 x I e w) (kk : ∀ (w1 : va_W) (f1 : Nat → Int64) (fd1 : Nat → UInt64) (J : Nat → Nat → Int32) (e2 : Int64), RW a E0 x J e2 w1 → X φ 2274 [some (.ref b), some (.ref x), some (.ref m), some (.ref o), some (.ref od), some (.int (nI i)), none, none, none, none] [] (lW o m od am a w1 f1 fd1 J e2) (kc + 4) (ns + 48)) : X φ 879 [some (.ref b), some (.ref x), some (.ref m), some (.ref o), some (.ref od), some (.int (nI i)), none, none, none, none] [] (lW o m od am a w f fd I e) kc ns := by
  obtain ⟨q9, fs9, hq9⟩ := h.xq
  refine x_aload_n C 880 dL_law_879 rfl rfl ?_
  refine x_aload_n C 881 dL_law_880 rfl rfl ?_
  refine x_iload C 883 dL_law_881 rfl rfl ?_
  refine x_iconst (v := (1)) C 884 dL_law_883 (by decide) rfl ?_
  refine x_iadd C 885 dL_law_884 rfl ?_
  refine x_top (show _ = nI (i + 1) from nI_add _ _) ?_
  refine x_sld hS0 C 886 (vp_in_nI (by omega) (by omega)) dL_law_885 rfl ?_
  refine x_top (show _ = xs (i + 1) from by rw [nI_clamp (by omega)]) ?_
  obtain ⟨k, b2, J, e2, rmM, ⟨hr1, hr2, hr3, hr4⟩, hH, hM, hk⟩ := sm_cueLevel (m := m) (am := am) (o := o) (f := f) hl h (xs (i + 1))
  refine x_aload_n C 887 dL_law_886 rfl rfl ?_
  refine x_callW1_i C 890 (kc + 4) (ns + 48) 3 hH rfl gL_law_L_cueLevel ⟨by decide, by decide, rfl⟩ ⟨Nat.le_of_ble_eq_true rfl, Nat.le_of_ble_eq_true rfl⟩ rfl rfl (Nat.le_of_ble_eq_true rfl) ⟨show kc + 4 ≤ 639004 by omega, show ns + 48 ≤ 7099219 by omega⟩ dL_law_887 rfl rfl rfl (fun v1 w2 hv1 => ?_)
  obtain ⟨rfl, w1, f1, rfl, hRW1, hf1⟩ := hv1
  refine x_istore C 892 dL_law_890 (by decide) rfl rfl ?_
  refine x_aload_n C 893 dL_law_892 rfl rfl ?_
  refine x_aload_n C 894 dL_law_893 rfl rfl ?_
  refine x_iload C 896 dL_law_894 rfl rfl ?_
  refine x_iconst (v := (1)) C 897 dL_law_896 (by decide) rfl ?_
  refine x_iadd C 898 dL_law_897 rfl ?_
  refine x_top (show _ = nI (i + 1) from nI_add _ _) ?_
  refine x_sld hS0 C 899 (vp_in_nI (by omega) (by omega)) dL_law_898 rfl ?_
  refine x_top (show _ = xs (i + 1) from by rw [nI_clamp (by omega)]) ?_
  refine x_perm lp_1 ?_
  refine x_callV1_i C 902 (kc + 4) (ns + 48) 0 10 1 hM rfl gL_law_X6_cueLevel ⟨rfl, by decide, by decide, rfl⟩ ⟨show rmM.frames + 1 ≤ 2048 by omega, show 8 + (2 + 11) + rmM.locals ≤ 94400 by omega⟩ rfl rfl rfl rfl (Nat.le_of_ble_eq_true rfl) ⟨show kc + 4 + rmM.cells ≤ 639004 by omega, show ns + 48 + rmM.slots ≤ 7099219 by omega⟩ dL_law_899 rfl (by omega) (by omega) (fun v2 w2 hv2 => ?_)
  obtain ⟨rfl, rfl⟩ := hv2
  refine x_perm lp_2 ?_
  refine x_istore C 904 dL_law_902 (by decide) rfl rfl ?_
  refine x_aload_n C 905 dL_law_904 rfl rfl ?_
  refine x_perm lp_1 ?_
  refine x_callV1_i C 908 (kc + 4) (ns + 48) 0 10 0 (cM_thrown hl) rfl gL_law_X6_thrown ⟨rfl, by decide, by decide, rfl⟩ ⟨Nat.le_of_ble_eq_true rfl, Nat.le_of_ble_eq_true rfl⟩ rfl rfl rfl rfl (Nat.le_of_ble_eq_true rfl) ⟨show kc + 4 + 0 ≤ 639004 by omega, show ns + 48 + 0 ≤ 7099219 by omega⟩ dL_law_905 rfl rfl rfl (fun v3 w3 hv3 => ?_)
  obtain ⟨rfl, rfl⟩ := hv3
  refine x_perm lp_2 ?_
  refine x_top hk ?_
  refine x_iload C 910 dL_law_908 rfl rfl ?_
  refine x_icmp_eq C 915 913 dL_law_910 (by decide) rfl (fun _ => ?_) (fun z => absurd rfl z)
  refine x_iload C 917 dL_law_915 rfl rfl ?_
  refine x_if_ne C 932 920 dL_law_917 (by decide) rfl (fun z => ?_) (fun z => ?_)
  · refine x_goto C 2274 dL_law_932 (by decide) ?_
    refine x_dropn 6 ?_
    refine x_dropn 7 ?_
    refine x_ls (show _ = [some (.ref b), some (.ref x), some (.ref m), some (.ref o), some (.ref od), some (.int (nI i)), none, none, none, none] from rfl) ?_
    exact kk w1 f1 fd J e2 hRW1
  · refine x_aload_n C 921 dL_law_920 rfl rfl ?_
    refine x_iconst (v := (0)) C 922 dL_law_921 (by decide) rfl ?_
    refine x_lald C 923 w1.length 3 lw_o rfl vp_in0 dL_law_922 rfl ?_
    refine x_topq (show _ = Value.long v2.toInt64 from congrArg Value.long (hf1 z)) ?_
    refine x_iload C 925 dL_law_923 rfl rfl ?_
    refine x_i2l C 926 dL_law_925 rfl rfl ?_
    refine x_lcmp C 927 dL_law_926 rfl ?_
    refine x_top (lc_refl _) ?_
    refine x_if_eq C 932 930 dL_law_927 (by decide) rfl (fun _ => ?_) (fun z => absurd rfl z)
    refine x_goto C 2274 dL_law_932 (by decide) ?_
    refine x_dropn 6 ?_
    refine x_dropn 7 ?_
    refine x_ls (show _ = [some (.ref b), some (.ref x), some (.ref m), some (.ref o), some (.ref od), some (.int (nI i)), none, none, none, none] from rfl) ?_
    exact kk w1 f1 fd J e2 hRW1
set_option maxRecDepth 100000 in
set_option maxHeartbeats 4000000 in
theorem lc_ticksLeft (hl : l.stackTraces = false) (C : Cb (gm D a E0) l φ cL_law 10 RL wsL_law room_1) (hS0 : lS φ b L xs) (hi : i + 6 ≤ L) (hL : L ≤ 3072) (hkc : kc + 4 ≤ 639004) (hns : ns + 48 ≤ 7099219) (h : RW a E0 x I e w) (kk : ∀ (w1 : va_W) (f1 : Nat → Int64) (fd1 : Nat → UInt64) (J : Nat → Nat → Int32) (e2 : Int64), RW a E0 x J e2 w1 → X φ 2274 [some (.ref b), some (.ref x), some (.ref m), some (.ref o), some (.ref od), some (.int (nI i)), none, none, none, none] [] (lW o m od am a w1 f1 fd1 J e2) (kc + 4) (ns + 48)) : X φ 935 [some (.ref b), some (.ref x), some (.ref m), some (.ref o), some (.ref od), some (.int (nI i)), none, none, none, none] [] (lW o m od am a w f fd I e) kc ns := by
  obtain ⟨q9, fs9, hq9⟩ := h.xq
  obtain ⟨b2, J, e2, rmC, rmM, hrC, ⟨hr1, hr2, hr3, hr4⟩, hH, hM⟩ := sd_ticksLeft (m := m) (am := am) hl h
  obtain ⟨hc1, hc2, hc3, hc4⟩ := hrC
  refine x_aload_n C 936 dL_law_935 rfl rfl ?_
  refine x_ws (show _ = w ++ (outL a o f ++ rsW m od am a fd I e) from List.append_assoc _ _ _) ?_
  refine x_callV1_i C 939 kc ns q9 9 0 hH rfl gL_law_X5_ticksLeft ⟨rfl, by decide, by decide, rfl⟩ ⟨show rmC.frames + 1 ≤ 2048 by omega, show 8 + (3 + 11) + rmC.locals ≤ 94400 by omega⟩ rfl hq9 rfl rfl (Nat.le_of_ble_eq_true rfl) ⟨show kc + rmC.cells ≤ 639004 by omega, show ns + rmC.slots ≤ 7099219 by omega⟩ dL_law_936 rfl (by omega) (by omega) (fun v1 w2 hv1 => ?_)
  obtain ⟨rfl, hRW1⟩ := hv1
  refine x_ws (show _ = (w2 ++ outL a o f) ++ rsW m od am a fd I e from (List.append_assoc _ _ _).symm) ?_
  refine x_aload_n C 940 dL_law_939 rfl rfl ?_
  refine x_perm lp_1 ?_
  refine x_callV1_i C 943 kc ns 0 10 0 hM rfl gL_law_X6_ticksLeft ⟨rfl, by decide, by decide, rfl⟩ ⟨show rmM.frames + 1 ≤ 2048 by omega, show 8 + (3 + 11) + rmM.locals ≤ 94400 by omega⟩ rfl rfl rfl rfl (Nat.le_of_ble_eq_true rfl) ⟨show kc + rmM.cells ≤ 639004 by omega, show ns + rmM.slots ≤ 7099219 by omega⟩ dL_law_940 rfl (by omega) (by omega) (fun v3 w3 hv3 => ?_)
  obtain ⟨rfl, rfl⟩ := hv3
  refine x_perm lp_2 ?_
  refine x_icmp_eq C 2274 946 dL_law_943 (by decide) rfl (fun _ => ?_) (fun z => absurd rfl z)
  refine x_wide (kc' := kc + 4) (ns' := ns + 48) (by omega) (by omega) ?_
  refine x_ls (show _ = [some (.ref b), some (.ref x), some (.ref m), some (.ref o), some (.ref od), some (.int (nI i)), none, none, none, none] from rfl) ?_
  exact kk w2 f fd J e2 hRW1
set_option maxRecDepth 100000 in
set_option maxHeartbeats 4000000 in
theorem lc_addGroup (hl : l.stackTraces = false) (C : Cb (gm D a E0) l φ cL_law 10 RL wsL_law room_1) (hS0 : lS φ b L xs) (hi : i + 6 ≤ L) (hL : L ≤ 3072) (hkc : kc + 4 ≤ 639004) (hns : ns + 48 ≤ 7099219) (h : RW a E0 x I e w) (kk : ∀ (w1 : va_W) (f1 : Nat → Int64) (fd1 : Nat → UInt64) (J : Nat → Nat → Int32) (e2 : Int64), RW a E0 x J e2 w1 → X φ 2274 [some (.ref b), some (.ref x), some (.ref m), some (.ref o), some (.ref od), some (.int (nI i)), none, none, none, none] [] (lW o m od am a w1 f1 fd1 J e2) (kc + 4) (ns + 48)) : X φ 948 [some (.ref b), some (.ref x), some (.ref m), some (.ref o), some (.ref od), some (.int (nI i)), none, none, none, none] [] (lW o m od am a w f fd I e) kc ns := by
  obtain ⟨q9, fs9, hq9⟩ := h.xq
  refine x_aload_n C 949 dL_law_948 rfl rfl ?_
  obtain ⟨k, b2, J, e2, rmM, ⟨hr1, hr2, hr3, hr4⟩, hH, hM, hk⟩ := sm_addGroup (m := m) (am := am) (o := o) (f := f) hl h 
  refine x_aload_n C 950 dL_law_949 rfl rfl ?_
  refine x_callW1_i C 953 (kc + 4) (ns + 48) 2 hH rfl gL_law_L_addGroup ⟨by decide, by decide, rfl⟩ ⟨Nat.le_of_ble_eq_true rfl, Nat.le_of_ble_eq_true rfl⟩ rfl rfl (Nat.le_of_ble_eq_true rfl) ⟨show kc + 4 ≤ 639004 by omega, show ns + 48 ≤ 7099219 by omega⟩ dL_law_950 rfl rfl rfl (fun v1 w2 hv1 => ?_)
  obtain ⟨rfl, w1, f1, rfl, hRW1, hf1⟩ := hv1
  refine x_istore C 955 dL_law_953 (by decide) rfl rfl ?_
  refine x_aload_n C 956 dL_law_955 rfl rfl ?_
  refine x_perm lp_1 ?_
  refine x_callV1_i C 959 (kc + 4) (ns + 48) 0 10 0 hM rfl gL_law_X6_addGroup ⟨rfl, by decide, by decide, rfl⟩ ⟨show rmM.frames + 1 ≤ 2048 by omega, show 8 + (1 + 11) + rmM.locals ≤ 94400 by omega⟩ rfl rfl rfl rfl (Nat.le_of_ble_eq_true rfl) ⟨show kc + 4 + rmM.cells ≤ 639004 by omega, show ns + 48 + rmM.slots ≤ 7099219 by omega⟩ dL_law_956 rfl (by omega) (by omega) (fun v2 w2 hv2 => ?_)
  obtain ⟨rfl, rfl⟩ := hv2
  refine x_perm lp_2 ?_
  refine x_istore C 961 dL_law_959 (by decide) rfl rfl ?_
  refine x_aload_n C 962 dL_law_961 rfl rfl ?_
  refine x_perm lp_1 ?_
  refine x_callV1_i C 965 (kc + 4) (ns + 48) 0 10 0 (cM_thrown hl) rfl gL_law_X6_thrown ⟨rfl, by decide, by decide, rfl⟩ ⟨Nat.le_of_ble_eq_true rfl, Nat.le_of_ble_eq_true rfl⟩ rfl rfl rfl rfl (Nat.le_of_ble_eq_true rfl) ⟨show kc + 4 + 0 ≤ 639004 by omega, show ns + 48 + 0 ≤ 7099219 by omega⟩ dL_law_962 rfl rfl rfl (fun v3 w3 hv3 => ?_)
  obtain ⟨rfl, rfl⟩ := hv3
  refine x_perm lp_2 ?_
  refine x_top hk ?_
  refine x_iload C 967 dL_law_965 rfl rfl ?_
  refine x_icmp_eq C 972 970 dL_law_967 (by decide) rfl (fun _ => ?_) (fun z => absurd rfl z)
  refine x_iload C 974 dL_law_972 rfl rfl ?_
  refine x_if_ne C 989 977 dL_law_974 (by decide) rfl (fun z => ?_) (fun z => ?_)
  · refine x_goto C 2274 dL_law_989 (by decide) ?_
    refine x_dropn 6 ?_
    refine x_dropn 7 ?_
    refine x_ls (show _ = [some (.ref b), some (.ref x), some (.ref m), some (.ref o), some (.ref od), some (.int (nI i)), none, none, none, none] from rfl) ?_
    exact kk w1 f1 fd J e2 hRW1
  · refine x_aload_n C 978 dL_law_977 rfl rfl ?_
    refine x_iconst (v := (0)) C 979 dL_law_978 (by decide) rfl ?_
    refine x_lald C 980 w1.length 3 lw_o rfl vp_in0 dL_law_979 rfl ?_
    refine x_topq (show _ = Value.long v2.toInt64 from congrArg Value.long (hf1 z)) ?_
    refine x_iload C 982 dL_law_980 rfl rfl ?_
    refine x_i2l C 983 dL_law_982 rfl rfl ?_
    refine x_lcmp C 984 dL_law_983 rfl ?_
    refine x_top (lc_refl _) ?_
    refine x_if_eq C 989 987 dL_law_984 (by decide) rfl (fun _ => ?_) (fun z => absurd rfl z)
    refine x_goto C 2274 dL_law_989 (by decide) ?_
    refine x_dropn 6 ?_
    refine x_dropn 7 ?_
    refine x_ls (show _ = [some (.ref b), some (.ref x), some (.ref m), some (.ref o), some (.ref od), some (.int (nI i)), none, none, none, none] from rfl) ?_
    exact kk w1 f1 fd J e2 hRW1
set_option maxRecDepth 100000 in
set_option maxHeartbeats 4000000 in
theorem lc_setMember (hl : l.stackTraces = false) (C : Cb (gm D a E0) l φ cL_law 10 RL wsL_law room_1) (hS0 : lS φ b L xs) (hi : i + 6 ≤ L) (hL : L ≤ 3072) (hkc : kc + 4 ≤ 639004) (hns : ns + 48 ≤ 7099219) (h : RW a E0 x I e w) (kk : ∀ (w1 : va_W) (f1 : Nat → Int64) (fd1 : Nat → UInt64) (J : Nat → Nat → Int32) (e2 : Int64), RW a E0 x J e2 w1 → X φ 2274 [some (.ref b), some (.ref x), some (.ref m), some (.ref o), some (.ref od), some (.int (nI i)), none, none, none, none] [] (lW o m od am a w1 f1 fd1 J e2) (kc + 4) (ns + 48)) : X φ 992 [some (.ref b), some (.ref x), some (.ref m), some (.ref o), some (.ref od), some (.int (nI i)), none, none, none, none] [] (lW o m od am a w f fd I e) kc ns := by
  obtain ⟨q9, fs9, hq9⟩ := h.xq
  refine x_aload_n C 993 dL_law_992 rfl rfl ?_
  refine x_aload_n C 994 dL_law_993 rfl rfl ?_
  refine x_iload C 996 dL_law_994 rfl rfl ?_
  refine x_iconst (v := (1)) C 997 dL_law_996 (by decide) rfl ?_
  refine x_iadd C 998 dL_law_997 rfl ?_
  refine x_top (show _ = nI (i + 1) from nI_add _ _) ?_
  refine x_sld hS0 C 999 (vp_in_nI (by omega) (by omega)) dL_law_998 rfl ?_
  refine x_top (show _ = xs (i + 1) from by rw [nI_clamp (by omega)]) ?_
  refine x_aload_n C 1000 dL_law_999 rfl rfl ?_
  refine x_iload C 1002 dL_law_1000 rfl rfl ?_
  refine x_iconst (v := (2)) C 1003 dL_law_1002 (by decide) rfl ?_
  refine x_iadd C 1004 dL_law_1003 rfl ?_
  refine x_top (show _ = nI (i + 2) from nI_add _ _) ?_
  refine x_sld hS0 C 1005 (vp_in_nI (by omega) (by omega)) dL_law_1004 rfl ?_
  refine x_top (show _ = xs (i + 2) from by rw [nI_clamp (by omega)]) ?_
  refine x_aload_n C 1006 dL_law_1005 rfl rfl ?_
  refine x_iload C 1008 dL_law_1006 rfl rfl ?_
  refine x_iconst (v := (3)) C 1009 dL_law_1008 (by decide) rfl ?_
  refine x_iadd C 1010 dL_law_1009 rfl ?_
  refine x_top (show _ = nI (i + 3) from nI_add _ _) ?_
  refine x_sld hS0 C 1011 (vp_in_nI (by omega) (by omega)) dL_law_1010 rfl ?_
  refine x_top (show _ = xs (i + 3) from by rw [nI_clamp (by omega)]) ?_
  refine x_if_eq C 1018 1014 dL_law_1011 (by decide) rfl (fun zb23 => ?_) (fun zb23 => ?_)
  · refine x_iconst (v := (0)) C 1019 dL_law_1018 (by decide) rfl ?_
    obtain ⟨k, b2, J, e2, rmM, ⟨hr1, hr2, hr3, hr4⟩, hH, hM, hk⟩ := sm_setMember (m := m) (am := am) (o := o) (f := f) hl h (xs (i + 1)) (xs (i + 2)) false
    refine x_aload_n C 1020 dL_law_1019 rfl rfl ?_
    refine x_callW1_i C 1023 (kc + 4) (ns + 48) 5 hH rfl gL_law_L_setMember ⟨by decide, by decide, rfl⟩ ⟨Nat.le_of_ble_eq_true rfl, Nat.le_of_ble_eq_true rfl⟩ rfl rfl (Nat.le_of_ble_eq_true rfl) ⟨show kc + 4 ≤ 639004 by omega, show ns + 48 ≤ 7099219 by omega⟩ dL_law_1020 rfl rfl rfl (fun v1 w2 hv1 => ?_)
    obtain ⟨rfl, w1, f1, rfl, hRW1, hf1⟩ := hv1
    refine x_istore C 1025 dL_law_1023 (by decide) rfl rfl ?_
    refine x_aload_n C 1026 dL_law_1025 rfl rfl ?_
    refine x_aload_n C 1027 dL_law_1026 rfl rfl ?_
    refine x_iload C 1029 dL_law_1027 rfl rfl ?_
    refine x_iconst (v := (1)) C 1030 dL_law_1029 (by decide) rfl ?_
    refine x_iadd C 1031 dL_law_1030 rfl ?_
    refine x_top (show _ = nI (i + 1) from nI_add _ _) ?_
    refine x_sld hS0 C 1032 (vp_in_nI (by omega) (by omega)) dL_law_1031 rfl ?_
    refine x_top (show _ = xs (i + 1) from by rw [nI_clamp (by omega)]) ?_
    refine x_aload_n C 1033 dL_law_1032 rfl rfl ?_
    refine x_iload C 1035 dL_law_1033 rfl rfl ?_
    refine x_iconst (v := (2)) C 1036 dL_law_1035 (by decide) rfl ?_
    refine x_iadd C 1037 dL_law_1036 rfl ?_
    refine x_top (show _ = nI (i + 2) from nI_add _ _) ?_
    refine x_sld hS0 C 1038 (vp_in_nI (by omega) (by omega)) dL_law_1037 rfl ?_
    refine x_top (show _ = xs (i + 2) from by rw [nI_clamp (by omega)]) ?_
    refine x_aload_n C 1039 dL_law_1038 rfl rfl ?_
    refine x_iload C 1041 dL_law_1039 rfl rfl ?_
    refine x_iconst (v := (3)) C 1042 dL_law_1041 (by decide) rfl ?_
    refine x_iadd C 1043 dL_law_1042 rfl ?_
    refine x_top (show _ = nI (i + 3) from nI_add _ _) ?_
    refine x_sld hS0 C 1044 (vp_in_nI (by omega) (by omega)) dL_law_1043 rfl ?_
    refine x_top (show _ = xs (i + 3) from by rw [nI_clamp (by omega)]) ?_
    refine x_if_eq C 1051 1047 dL_law_1044 (by decide) rfl (fun zb52 => ?_) (fun zb52 => absurd zb23 zb52)
    refine x_iconst (v := (0)) C 1052 dL_law_1051 (by decide) rfl ?_
    refine x_perm lp_1 ?_
    refine x_callV1_i C 1055 (kc + 4) (ns + 48) 0 10 3 hM rfl gL_law_X6_setMember ⟨rfl, by decide, by decide, rfl⟩ ⟨show rmM.frames + 1 ≤ 2048 by omega, show 8 + (5 + 11) + rmM.locals ≤ 94400 by omega⟩ rfl rfl rfl rfl (Nat.le_of_ble_eq_true rfl) ⟨show kc + 4 + rmM.cells ≤ 639004 by omega, show ns + 48 + rmM.slots ≤ 7099219 by omega⟩ dL_law_1052 rfl (by omega) (by omega) (fun v2 w2 hv2 => ?_)
    obtain ⟨rfl, rfl⟩ := hv2
    refine x_perm lp_2 ?_
    refine x_istore C 1057 dL_law_1055 (by decide) rfl rfl ?_
    refine x_aload_n C 1058 dL_law_1057 rfl rfl ?_
    refine x_perm lp_1 ?_
    refine x_callV1_i C 1061 (kc + 4) (ns + 48) 0 10 0 (cM_thrown hl) rfl gL_law_X6_thrown ⟨rfl, by decide, by decide, rfl⟩ ⟨Nat.le_of_ble_eq_true rfl, Nat.le_of_ble_eq_true rfl⟩ rfl rfl rfl rfl (Nat.le_of_ble_eq_true rfl) ⟨show kc + 4 + 0 ≤ 639004 by omega, show ns + 48 + 0 ≤ 7099219 by omega⟩ dL_law_1058 rfl rfl rfl (fun v3 w3 hv3 => ?_)
    obtain ⟨rfl, rfl⟩ := hv3
    refine x_perm lp_2 ?_
    refine x_top hk ?_
    refine x_iload C 1063 dL_law_1061 rfl rfl ?_
    refine x_icmp_eq C 1068 1066 dL_law_1063 (by decide) rfl (fun _ => ?_) (fun z => absurd rfl z)
    refine x_iload C 1070 dL_law_1068 rfl rfl ?_
    refine x_if_ne C 1092 1073 dL_law_1070 (by decide) rfl (fun z => ?_) (fun z => ?_)
    · refine x_goto C 2274 dL_law_1092 (by decide) ?_
      refine x_dropn 6 ?_
      refine x_dropn 7 ?_
      refine x_ls (show _ = [some (.ref b), some (.ref x), some (.ref m), some (.ref o), some (.ref od), some (.int (nI i)), none, none, none, none] from rfl) ?_
      exact kk w1 f1 fd J e2 hRW1
    · refine x_aload_n C 1074 dL_law_1073 rfl rfl ?_
      refine x_iconst (v := (0)) C 1075 dL_law_1074 (by decide) rfl ?_
      refine x_lald C 1076 w1.length 3 lw_o rfl vp_in0 dL_law_1075 rfl ?_
      refine x_topq (show _ = Value.long (zB v2) from congrArg Value.long (hf1 z)) ?_
      refine x_iload C 1078 dL_law_1076 rfl rfl ?_
      refine x_if_eq C 1085 1081 dL_law_1078 (by decide) rfl (fun z2 => ?_) (fun z2 => ?_)
      · refine x_lconst (v := 0) C 1086 dL_law_1085 (by decide) rfl ?_
        refine x_topq (show _ = Value.long (zB v2) from congrArg Value.long (if_pos z2).symm) ?_
        refine x_lcmp C 1087 dL_law_1086 rfl ?_
        refine x_top (lc_refl _) ?_
        refine x_if_eq C 1092 1090 dL_law_1087 (by decide) rfl (fun _ => ?_) (fun z => absurd rfl z)
        refine x_goto C 2274 dL_law_1092 (by decide) ?_
        refine x_dropn 6 ?_
        refine x_dropn 7 ?_
        refine x_ls (show _ = [some (.ref b), some (.ref x), some (.ref m), some (.ref o), some (.ref od), some (.int (nI i)), none, none, none, none] from rfl) ?_
        exact kk w1 f1 fd J e2 hRW1
      · refine x_lconst (v := 1) C 1082 dL_law_1081 (by decide) rfl ?_
        refine x_goto C 1086 dL_law_1082 (by decide) ?_
        refine x_topq (show _ = Value.long (zB v2) from congrArg Value.long (if_neg z2).symm) ?_
        refine x_lcmp C 1087 dL_law_1086 rfl ?_
        refine x_top (lc_refl _) ?_
        refine x_if_eq C 1092 1090 dL_law_1087 (by decide) rfl (fun _ => ?_) (fun z => absurd rfl z)
        refine x_goto C 2274 dL_law_1092 (by decide) ?_
        refine x_dropn 6 ?_
        refine x_dropn 7 ?_
        refine x_ls (show _ = [some (.ref b), some (.ref x), some (.ref m), some (.ref o), some (.ref od), some (.int (nI i)), none, none, none, none] from rfl) ?_
        exact kk w1 f1 fd J e2 hRW1
  · refine x_iconst (v := (1)) C 1015 dL_law_1014 (by decide) rfl ?_
    refine x_goto C 1019 dL_law_1015 (by decide) ?_
    obtain ⟨k, b2, J, e2, rmM, ⟨hr1, hr2, hr3, hr4⟩, hH, hM, hk⟩ := sm_setMember (m := m) (am := am) (o := o) (f := f) hl h (xs (i + 1)) (xs (i + 2)) true
    refine x_aload_n C 1020 dL_law_1019 rfl rfl ?_
    refine x_callW1_i C 1023 (kc + 4) (ns + 48) 5 hH rfl gL_law_L_setMember ⟨by decide, by decide, rfl⟩ ⟨Nat.le_of_ble_eq_true rfl, Nat.le_of_ble_eq_true rfl⟩ rfl rfl (Nat.le_of_ble_eq_true rfl) ⟨show kc + 4 ≤ 639004 by omega, show ns + 48 ≤ 7099219 by omega⟩ dL_law_1020 rfl rfl rfl (fun v1 w2 hv1 => ?_)
    obtain ⟨rfl, w1, f1, rfl, hRW1, hf1⟩ := hv1
    refine x_istore C 1025 dL_law_1023 (by decide) rfl rfl ?_
    refine x_aload_n C 1026 dL_law_1025 rfl rfl ?_
    refine x_aload_n C 1027 dL_law_1026 rfl rfl ?_
    refine x_iload C 1029 dL_law_1027 rfl rfl ?_
    refine x_iconst (v := (1)) C 1030 dL_law_1029 (by decide) rfl ?_
    refine x_iadd C 1031 dL_law_1030 rfl ?_
    refine x_top (show _ = nI (i + 1) from nI_add _ _) ?_
    refine x_sld hS0 C 1032 (vp_in_nI (by omega) (by omega)) dL_law_1031 rfl ?_
    refine x_top (show _ = xs (i + 1) from by rw [nI_clamp (by omega)]) ?_
    refine x_aload_n C 1033 dL_law_1032 rfl rfl ?_
    refine x_iload C 1035 dL_law_1033 rfl rfl ?_
    refine x_iconst (v := (2)) C 1036 dL_law_1035 (by decide) rfl ?_
    refine x_iadd C 1037 dL_law_1036 rfl ?_
    refine x_top (show _ = nI (i + 2) from nI_add _ _) ?_
    refine x_sld hS0 C 1038 (vp_in_nI (by omega) (by omega)) dL_law_1037 rfl ?_
    refine x_top (show _ = xs (i + 2) from by rw [nI_clamp (by omega)]) ?_
    refine x_aload_n C 1039 dL_law_1038 rfl rfl ?_
    refine x_iload C 1041 dL_law_1039 rfl rfl ?_
    refine x_iconst (v := (3)) C 1042 dL_law_1041 (by decide) rfl ?_
    refine x_iadd C 1043 dL_law_1042 rfl ?_
    refine x_top (show _ = nI (i + 3) from nI_add _ _) ?_
    refine x_sld hS0 C 1044 (vp_in_nI (by omega) (by omega)) dL_law_1043 rfl ?_
    refine x_top (show _ = xs (i + 3) from by rw [nI_clamp (by omega)]) ?_
    refine x_if_eq C 1051 1047 dL_law_1044 (by decide) rfl (fun zb130 => absurd zb130 zb23) (fun zb130 => ?_)
    refine x_iconst (v := (1)) C 1048 dL_law_1047 (by decide) rfl ?_
    refine x_goto C 1052 dL_law_1048 (by decide) ?_
    refine x_perm lp_1 ?_
    refine x_callV1_i C 1055 (kc + 4) (ns + 48) 0 10 3 hM rfl gL_law_X6_setMember ⟨rfl, by decide, by decide, rfl⟩ ⟨show rmM.frames + 1 ≤ 2048 by omega, show 8 + (5 + 11) + rmM.locals ≤ 94400 by omega⟩ rfl rfl rfl rfl (Nat.le_of_ble_eq_true rfl) ⟨show kc + 4 + rmM.cells ≤ 639004 by omega, show ns + 48 + rmM.slots ≤ 7099219 by omega⟩ dL_law_1052 rfl (by omega) (by omega) (fun v2 w2 hv2 => ?_)
    obtain ⟨rfl, rfl⟩ := hv2
    refine x_perm lp_2 ?_
    refine x_istore C 1057 dL_law_1055 (by decide) rfl rfl ?_
    refine x_aload_n C 1058 dL_law_1057 rfl rfl ?_
    refine x_perm lp_1 ?_
    refine x_callV1_i C 1061 (kc + 4) (ns + 48) 0 10 0 (cM_thrown hl) rfl gL_law_X6_thrown ⟨rfl, by decide, by decide, rfl⟩ ⟨Nat.le_of_ble_eq_true rfl, Nat.le_of_ble_eq_true rfl⟩ rfl rfl rfl rfl (Nat.le_of_ble_eq_true rfl) ⟨show kc + 4 + 0 ≤ 639004 by omega, show ns + 48 + 0 ≤ 7099219 by omega⟩ dL_law_1058 rfl rfl rfl (fun v3 w3 hv3 => ?_)
    obtain ⟨rfl, rfl⟩ := hv3
    refine x_perm lp_2 ?_
    refine x_top hk ?_
    refine x_iload C 1063 dL_law_1061 rfl rfl ?_
    refine x_icmp_eq C 1068 1066 dL_law_1063 (by decide) rfl (fun _ => ?_) (fun z => absurd rfl z)
    refine x_iload C 1070 dL_law_1068 rfl rfl ?_
    refine x_if_ne C 1092 1073 dL_law_1070 (by decide) rfl (fun z => ?_) (fun z => ?_)
    · refine x_goto C 2274 dL_law_1092 (by decide) ?_
      refine x_dropn 6 ?_
      refine x_dropn 7 ?_
      refine x_ls (show _ = [some (.ref b), some (.ref x), some (.ref m), some (.ref o), some (.ref od), some (.int (nI i)), none, none, none, none] from rfl) ?_
      exact kk w1 f1 fd J e2 hRW1
    · refine x_aload_n C 1074 dL_law_1073 rfl rfl ?_
      refine x_iconst (v := (0)) C 1075 dL_law_1074 (by decide) rfl ?_
      refine x_lald C 1076 w1.length 3 lw_o rfl vp_in0 dL_law_1075 rfl ?_
      refine x_topq (show _ = Value.long (zB v2) from congrArg Value.long (hf1 z)) ?_
      refine x_iload C 1078 dL_law_1076 rfl rfl ?_
      refine x_if_eq C 1085 1081 dL_law_1078 (by decide) rfl (fun z2 => ?_) (fun z2 => ?_)
      · refine x_lconst (v := 0) C 1086 dL_law_1085 (by decide) rfl ?_
        refine x_topq (show _ = Value.long (zB v2) from congrArg Value.long (if_pos z2).symm) ?_
        refine x_lcmp C 1087 dL_law_1086 rfl ?_
        refine x_top (lc_refl _) ?_
        refine x_if_eq C 1092 1090 dL_law_1087 (by decide) rfl (fun _ => ?_) (fun z => absurd rfl z)
        refine x_goto C 2274 dL_law_1092 (by decide) ?_
        refine x_dropn 6 ?_
        refine x_dropn 7 ?_
        refine x_ls (show _ = [some (.ref b), some (.ref x), some (.ref m), some (.ref o), some (.ref od), some (.int (nI i)), none, none, none, none] from rfl) ?_
        exact kk w1 f1 fd J e2 hRW1
      · refine x_lconst (v := 1) C 1082 dL_law_1081 (by decide) rfl ?_
        refine x_goto C 1086 dL_law_1082 (by decide) ?_
        refine x_topq (show _ = Value.long (zB v2) from congrArg Value.long (if_neg z2).symm) ?_
        refine x_lcmp C 1087 dL_law_1086 rfl ?_
        refine x_top (lc_refl _) ?_
        refine x_if_eq C 1092 1090 dL_law_1087 (by decide) rfl (fun _ => ?_) (fun z => absurd rfl z)
        refine x_goto C 2274 dL_law_1092 (by decide) ?_
        refine x_dropn 6 ?_
        refine x_dropn 7 ?_
        refine x_ls (show _ = [some (.ref b), some (.ref x), some (.ref m), some (.ref o), some (.ref od), some (.int (nI i)), none, none, none, none] from rfl) ?_
        exact kk w1 f1 fd J e2 hRW1
end LW
