/-! the law's helpers: a call, its exceptions told as numbers; by wip/whole/genH.py -/
/-- how a method with a table of handlers stands -/
def Ch (Γ : Gm) (l : Launch) (φ : Fx) (cc : ByteArray) (nL : Nat) (own : String) (wl : List Cond) (rm : Room) (nm : String) (rt : Option FieldType) (Post : Option Value → va_W → Prop) (PostX : String → va_W → Prop) (hh : List (Nat × Nat × Nat × Nat)) : Prop := Cb Γ l φ cc nL own wl rm ∧ match φ with
  | (p, l', e, R, s, m, args, below, meth, c, A, Q, Γ') => meth.name = nm ∧ meth.sig.returnType = rt ∧ meth.locks = false ∧ Q = vx_MQ below (cQ Γ.1 Post A) (cE Γ.1 PostX A) args s rm.cells rm.slots A ∧ c.exceptionTable.toList = tableOf hh
theorem Ct.ofH {Γ : Gm} {l : Launch} {y : MethodName} {wy wy' : List Cond} {rm : Room} {av : List Value} {ws : va_W} {Post : Option Value → va_W → Prop} {PostX : String → va_W → Prop} {cc : ByteArray} {maxL : Nat} {rt : Option FieldType} {hh : List (Nat × Nat × Nat × Nat)} (L0 : List (Option Value))
    (hw : wy = Cond.codeWith y cc maxL rt hh :: wy') (hl : l.stackTraces = false) (hy : plainName y.cls = true) (hen : (lg_sl av).length ≤ maxL) (hL : lsv 0 L0 = lv_args 0 av)
    (body : ∀ φ : Fx, Ch Γ l φ cc maxL y.cls wy rm y.name rt Post PostX hh → X φ 0 L0 [] ws 0 0) : Ct Γ l y wy rm av ws Post PostX := by
  intro sz
  refine vx_ofWH (cc := cc) (maxL := maxL) (ret := rt) hy hw ?_
  intro p e s m args below meth c s₁ B hml hv
  obtain ⟨rfl, hsz, hP, hK, hD, hZ⟩ := hv
  have hts := atoms_spec (ws := wy) B.pre
  have htab := vx_table (x := y) B (hts _ (by rw [hw]; exact List.mem_cons_self))
  have K := body (p, l, e, (headSpec wy rm).room, s, m, av.toArray, below, meth, c, va_A ws sz, vx_MQ below (cQ Γ.1 Post (va_A ws sz)) (cE Γ.1 PostX (va_A ws sz)) av.toArray s rm.cells rm.slots (va_A ws sz), Γ) ⟨⟨B.exec, B.bytes, hml, findClass_of_methodNamed B.named, hts, hK, fun q h => Or.inr (hsz ▸ h), hZ, rfl, rfl, rfl, hl⟩, (name_of_methodNamed B.named B.method).1, B.returns, B.notSynchronized, rfl, htab⟩
  have hl0 := lv_entry av (n := maxL) hen
  rw [lg_entry_eq]
  exact K s.heap [] _ hP hD.self va_S.rf (by rw [hL, hml]; exact hl0)
section HX
variable {Γ : Gm} {l : Launch} {φ : Fx} {cc : ByteArray} {nL : Nat} {own : String} {wl : List Cond} {rm : Room} {pc : Nat} {L : List (Option Value)} {st rest : List Value} {ws : va_W} {kc ns : Nat} {nm : String} {rt : Option FieldType} {Post : Option Value → va_W → Prop} {PostX : String → va_W → Prop} {hh : List (Nat × Nat × Nat × Nat)}
theorem x_hret (C : Ch Γ l φ cc nL own wl rm nm (some .int) Post PostX hh) {v : Int32} (hd : decode cc pc = .ok (.ireturn, 1)) (hc : kc ≤ rm.cells) (hs : ns ≤ rm.slots) (hP : Post (some (.int v)) ws) : X φ pc L [.int v] ws kc ns := by
  obtain ⟨p, l', e, R, s, m, args, below, meth, c, A, Q, Γ'⟩ := φ
  obtain ⟨⟨hx, hb, hml, hown, hts, hK, hA, hZ, rfl, rfl, rfl, hst⟩, hname, hret, hlocks, rfl, htab⟩ := C
  intro H locs ls hP0 hD hS hl
  exact vx_ret (W.widen hc hs (W.zret hx hb hret rfl (fun t ht _ => ⟨⟨_, ws, rfl, hP, by rw [ht]; exact hP0, hD⟩, hS.F ht⟩) hS.2.2 hd hlocks))
/-- a call that may throw; a handler takes it -/
theorem x_callVc (C : Ch Γ l φ cc nL own wl rm nm rt Post PostX hh) (pc' q0 ci n : Nat) {y : MethodName} {wy wy' : List Cond} {rm' : Room} {b idx maxL : Nat} {As : List Value} {wsc wr : va_W} {P' : Option Value → va_W → Prop} {PX' : String → va_W → Prop} {bytes : ByteArray} {ret : Option FieldType} {Cn : String} {T : u_T} {N : Nat} {fs : List Value}
    (hC : Ct Γ l y wy rm' (.ref b :: As) wsc P' PX') (hw : wy = Cond.code y bytes maxL ret :: wy') (hG : GoodIn wl (wsV own idx Cn y wy)) (hdd : y.cls = Cn ∧ y.cls ≠ "java/lang/invoke/MethodHandle" ∧ y.cls ≠ "java/lang/invoke/VarHandle" ∧ (parseMethodDescriptor y.desc).map (fun d => d.parameters.length) = some n) (hR : rm'.frames + 1 ≤ rm.frames ∧ 8 + (maxL + 11) + rm'.locals ≤ rm.locals)
    (hc : vwCl[ci]? = some (Cn, T, N)) (hq : wsc[q0]? = some (b, .inr (ci, fs))) (hn : As.length = n) (hs0 : st = As.reverse ++ .ref b :: rest) (hcat : (rest.map fun v => v.category).sum ≤ 8) (hf : kc + rm'.cells ≤ rm.cells ∧ ns + rm'.slots ≤ rm.slots) (hd : decode cc pc = .ok (.invokevirtual idx, 3)) (hpc : pc + 3 = pc')
    (kk : ∀ (r : Option Value) (ws' : va_W), P' r ws' → X φ pc' L (r.toList ++ rest) (ws' ++ wr) (kc + rm'.cells) (ns + rm'.slots))
    (kx : ∀ (E : String) (ws' : va_W), PX' E ws' → ∃ (pre suf : List (Nat × Nat × Nat × Nat)) (z : Nat × Nat × Nat × Nat), hh = pre ++ z :: suf ∧ (∀ y ∈ pre, y.2.2.2 ≠ 0 ∧ ∃ nm : String, Cond.classLink own y.2.2.2 nm ∈ wl ∧ nm ∈ cEx ∧ E ≠ nm) ∧ covers ⟨z.1, z.2.1, z.2.2.1, z.2.2.2⟩ pc = true ∧ z.2.2.2 ≠ 0 ∧ Cond.classLink own z.2.2.2 E ∈ wl ∧ E ∈ cEx ∧ ∀ q : Nat, X φ z.2.2.1 L [.ref q] (ws' ++ wr) (kc + rm'.cells) (ns + rm'.slots)) : X φ pc L st (wsc ++ wr) kc ns := by
  obtain ⟨p, l', e, R, s, m, args, below, meth, c, A, Q, Γ'⟩ := φ
  obtain ⟨⟨hx, hb, hml, hown, hts, hK, hA, hZ, rfl, rfl, rfl, hst⟩, hname, hret, hlocks, rfl, htab⟩ := C
  intro H locs ls hP hD hS hl
  subst hs0
  subst hpc
  refine w_runx hP hD hS hA (vx_runV (As := As) (rest := rest) ⟨hx, hb, hml, hown, hts⟩ (hC H.size) (cwV n hts hG hw rfl rfl hdd hR) ⟨cP.blind, va_recv hK (va_wsc_P hP) hc hq, fun U hU hW => ⟨rfl, by rw [hU], by rw [hU]; exact va_wsc_P hP, va_K.moved hW.alike hK, (va_wsc_D hD).weaken (fun _ _ _ _ => trivial), hZ.call hW hU hS (va_wsc_free hD hS hA)⟩⟩ rfl hn (hml ▸ hl.1) rfl (lv_room hcat) hd hf) (fun r ws' H1 locs1 h1 h2 h3 h4 => kk r ws' h1 H1 locs1 ls h2 h3 h4 hl) (fun E ce q9 ws' H1 locs1 h1 h2 h3 h4 h5 h6 h7 => ?_)
  obtain ⟨pre, suf, z, e1, e2, e3, e4, e5, e6, e7⟩ := kx E ws' h1
  have hV := hZ.2.2.2.2.2
  refine vx_catch hown (tableOf pre) ⟨z.1, z.2.1, z.2.2.1, z.2.2.2⟩ (tableOf suf) (by rw [htab, e1]; unfold tableOf; rw [List.map_append, List.map_cons]) (fun w hw9 => ?_) e3 e4 (hts _ e5) (va_Nw.use rfl (hV.1 E e6)) h5 h6 h7 (e7 q9 H1 locs1 ls h2 h3 h4 hl)
  obtain ⟨y9, hy, rfl⟩ := List.mem_map.mp hw9
  obtain ⟨n0, nm9, n1, n2, n3⟩ := e2 y9 hy
  exact Or.inr ⟨n0, nm9, hts _ n1, hV.2.2.1 E e6 nm9 n2 n3⟩
end HX
theorem vp_in0 : vp_in (0 : Int32) 1 := vp_in_iff.mpr ⟨by decide, by decide⟩
theorem set_end {w : va_W} {x y : Nat × va_E} : (w ++ [x]).set w.length y = w ++ [y] := by simp
theorem at_end {w : va_W} {x : Nat × va_E} : (w ++ [x])[w.length]? = some x := by simp
def outL (a : Nat → ClassId) (o : Nat) (f : Nat → Int64) : va_W := [(o, .inl (a 3, 1, .inr (.inl f)))]
def outD (a : Nat → ClassId) (o : Nat) (f : Nat → UInt64) : va_W := [(o, .inl (a 4, 1, .inr (.inr (.inr (.inl f)))))]
section HH
variable {l : Launch} {D : va_G} {a : Nat → ClassId} {E0 x o : Nat} {w : va_W} {f : Nat → Int64} {fd : Nat → UInt64} {rm' : Room} {PX : String → va_W → Prop}
set_option maxRecDepth 100000 in
set_option maxHeartbeats 4000000 in
theorem tL_addCue (hl : l.stackTraces = false) {p0 p1 p2 : Int32} {P : (Int32 → va_W → Prop)} (hR : rm'.frames ≤ 58 ∧ rm'.locals ≤ 1400) (hf : rm'.cells ≤ 4 ∧ rm'.slots ≤ 48) (h : Ct (gm D a E0) l yX5_addCue wsX5_addCue rm' [.ref x, .int p0, .int p1, .int p2] w (qI P) PX) (hx : ∃ (q0 : Nat) (fs : List Value), w[q0]? = some (x, .inr (9, fs))) (hE : ∀ E w1, PX E w1 → E = "java/lang/IllegalArgumentException" ∨ E = "java/lang/UnsupportedOperationException" ∨ E = "java/lang/IllegalStateException") : Ct (gm D a E0) l yL_addCue wsL_addCue { frames := 60, cells := 4, slots := 48, locals := 1500 } [.ref x, .int p0, .int p1, .int p2, .ref o] (w ++ outL a o f) (qI fun v w2 => (v = 0 ∧ ∃ r w1, P r w1 ∧ w2 = w1 ++ outL a o (vp_updL f 0 r.toInt64)) ∨ ∃ w1, ((PX "java/lang/IllegalArgumentException" w1 ∧ v = 1) ∨ (PX "java/lang/UnsupportedOperationException" w1 ∧ v = 2) ∨ (PX "java/lang/IllegalStateException" w1 ∧ v = 3)) ∧ w2 = w1 ++ outL a o f) noX := by
  obtain ⟨q0, fs, hq0⟩ := hx
  refine Ct.ofH [some (.ref x), some (.int p0), some (.int p1), some (.int p2), some (.ref o), none] rfl hl (by decide) (Nat.le_of_ble_eq_true rfl) rfl (fun φ C0 => ?_)
  have C := C0.1
  refine x_aload C 2 dL_addCue_0 rfl rfl ?_
  refine x_iconst (v := (0)) C 3 dL_addCue_2 (by decide) rfl ?_
  refine x_aload_n C 4 dL_addCue_3 rfl rfl ?_
  refine x_iload_n C 5 dL_addCue_4 rfl rfl ?_
  refine x_iload_n C 6 dL_addCue_5 rfl rfl ?_
  refine x_iload_n C 7 dL_addCue_6 rfl rfl ?_
  refine x_callVc C0 10 q0 9 3 h rfl gL_addCue_X5_addCue ⟨rfl, by decide, by decide, rfl⟩ ⟨show rm'.frames + 1 ≤ 60 by omega, show 8 + (4 + 11) + rm'.locals ≤ 1500 by omega⟩ rfl hq0 rfl rfl (Nat.le_of_ble_eq_true rfl) ⟨show 0 + rm'.cells ≤ 4 by omega, show 0 + rm'.slots ≤ 48 by omega⟩ dL_addCue_7 rfl (fun rv w1 hr => ?_) (fun E w1 hX => ?_)
  · obtain ⟨r, rfl, hr⟩ := hr
    refine x_i2l C 11 dL_addCue_10 rfl rfl ?_
    refine x_last C 12 w1.length 3 at_end rfl vp_in0 dL_addCue_11 rfl ?_
    rw [show ∀ z, (w1 ++ outL a o f).set w1.length z = w1 ++ [z] from fun _ => set_end]
    refine x_goto C 27 dL_addCue_12 (by decide) ?_
    refine x_iconst (v := (0)) C 28 dL_addCue_27 (by decide) rfl ?_
    exact x_hret C0 dL_addCue_28 (show 0 + rm'.cells ≤ 4 by omega) (show 0 + rm'.slots ≤ 48 by omega) ⟨_, rfl, Or.inl ⟨rfl, r, w1, hr, rfl⟩⟩
  · have hE2 := hE E w1 hX
    rcases hE2 with rfl | rfl | rfl
    · refine ⟨[], [(0, 12, 19, 15), (0, 12, 23, 17)], (0, 12, 15, 13), rfl, (fun y hy => nomatch hy), rfl, by decide, (List.mem_cons_of_mem _ (List.mem_append_left _ (List.mem_append_left _ (List.mem_append_left _ (List.mem_append_left _ (List.mem_append_left _ (List.mem_append_left _ (List.mem_append_left _ (List.mem_append_left _ (List.mem_of_getElem? (i := 0) rfl)))))))))), by decide, fun q => ?_⟩
      refine x_astore C 17 dL_addCue_15 (by decide) rfl rfl ?_
      refine x_iconst (v := (1)) C 18 dL_addCue_17 (by decide) rfl ?_
      exact x_hret C0 dL_addCue_18 (show 0 + rm'.cells ≤ 4 by omega) (show 0 + rm'.slots ≤ 48 by omega) ⟨_, rfl, Or.inr ⟨w1, Or.inl ⟨hX, rfl⟩, rfl⟩⟩
    · refine ⟨[(0, 12, 15, 13)], [(0, 12, 23, 17)], (0, 12, 19, 15), rfl, List.forall_mem_cons.mpr ⟨⟨by decide, "java/lang/IllegalArgumentException", (List.mem_cons_of_mem _ (List.mem_append_left _ (List.mem_append_left _ (List.mem_append_left _ (List.mem_append_left _ (List.mem_append_left _ (List.mem_append_left _ (List.mem_append_left _ (List.mem_append_left _ (List.mem_of_getElem? (i := 0) rfl)))))))))), by decide, by decide⟩, fun _ h => nomatch h⟩, rfl, by decide, (List.mem_cons_of_mem _ (List.mem_append_left _ (List.mem_append_left _ (List.mem_append_left _ (List.mem_append_left _ (List.mem_append_left _ (List.mem_append_left _ (List.mem_append_left _ (List.mem_append_left _ (List.mem_of_getElem? (i := 1) rfl)))))))))), by decide, fun q => ?_⟩
      refine x_astore C 21 dL_addCue_19 (by decide) rfl rfl ?_
      refine x_iconst (v := (2)) C 22 dL_addCue_21 (by decide) rfl ?_
      exact x_hret C0 dL_addCue_22 (show 0 + rm'.cells ≤ 4 by omega) (show 0 + rm'.slots ≤ 48 by omega) ⟨_, rfl, Or.inr ⟨w1, Or.inr (Or.inl ⟨hX, rfl⟩), rfl⟩⟩
    · refine ⟨[(0, 12, 15, 13), (0, 12, 19, 15)], [], (0, 12, 23, 17), rfl, List.forall_mem_cons.mpr ⟨⟨by decide, "java/lang/IllegalArgumentException", (List.mem_cons_of_mem _ (List.mem_append_left _ (List.mem_append_left _ (List.mem_append_left _ (List.mem_append_left _ (List.mem_append_left _ (List.mem_append_left _ (List.mem_append_left _ (List.mem_append_left _ (List.mem_of_getElem? (i := 0) rfl)))))))))), by decide, by decide⟩, List.forall_mem_cons.mpr ⟨⟨by decide, "java/lang/UnsupportedOperationException", (List.mem_cons_of_mem _ (List.mem_append_left _ (List.mem_append_left _ (List.mem_append_left _ (List.mem_append_left _ (List.mem_append_left _ (List.mem_append_left _ (List.mem_append_left _ (List.mem_append_left _ (List.mem_of_getElem? (i := 1) rfl)))))))))), by decide, by decide⟩, fun _ h => nomatch h⟩⟩, rfl, by decide, (List.mem_cons_of_mem _ (List.mem_append_left _ (List.mem_append_left _ (List.mem_append_left _ (List.mem_append_left _ (List.mem_append_left _ (List.mem_append_left _ (List.mem_append_left _ (List.mem_append_left _ (List.mem_of_getElem? (i := 2) rfl)))))))))), by decide, fun q => ?_⟩
      refine x_astore C 25 dL_addCue_23 (by decide) rfl rfl ?_
      refine x_iconst (v := (3)) C 26 dL_addCue_25 (by decide) rfl ?_
      exact x_hret C0 dL_addCue_26 (show 0 + rm'.cells ≤ 4 by omega) (show 0 + rm'.slots ≤ 48 by omega) ⟨_, rfl, Or.inr ⟨w1, Or.inr (Or.inr (⟨hX, rfl⟩)), rfl⟩⟩
set_option maxRecDepth 100000 in
set_option maxHeartbeats 4000000 in
theorem tL_removeCue (hl : l.stackTraces = false) {p0 : Int32} {P : (Int32 → va_W → Prop)} (hR : rm'.frames ≤ 58 ∧ rm'.locals ≤ 1400) (hf : rm'.cells ≤ 4 ∧ rm'.slots ≤ 48) (h : Ct (gm D a E0) l yX5_removeCue wsX5_removeCue rm' [.ref x, .int p0] w (qI P) PX) (hx : ∃ (q0 : Nat) (fs : List Value), w[q0]? = some (x, .inr (9, fs))) (hE : ∀ E w1, PX E w1 → E = "java/util/NoSuchElementException") : Ct (gm D a E0) l yL_removeCue wsL_removeCue { frames := 60, cells := 4, slots := 48, locals := 1500 } [.ref x, .int p0, .ref o] (w ++ outL a o f) (qI fun v w2 => (v = 0 ∧ ∃ r w1, P r w1 ∧ w2 = w1 ++ outL a o (vp_updL f 0 r.toInt64)) ∨ ∃ w1, ((PX "java/util/NoSuchElementException" w1 ∧ v = 1)) ∧ w2 = w1 ++ outL a o f) noX := by
  obtain ⟨q0, fs, hq0⟩ := hx
  refine Ct.ofH [some (.ref x), some (.int p0), some (.ref o), none] rfl hl (by decide) (Nat.le_of_ble_eq_true rfl) rfl (fun φ C0 => ?_)
  have C := C0.1
  refine x_aload_n C 1 dL_removeCue_0 rfl rfl ?_
  refine x_iconst (v := (0)) C 2 dL_removeCue_1 (by decide) rfl ?_
  refine x_aload_n C 3 dL_removeCue_2 rfl rfl ?_
  refine x_iload_n C 4 dL_removeCue_3 rfl rfl ?_
  refine x_callVc C0 7 q0 9 1 h rfl gL_removeCue_X5_removeCue ⟨rfl, by decide, by decide, rfl⟩ ⟨show rm'.frames + 1 ≤ 60 by omega, show 8 + (2 + 11) + rm'.locals ≤ 1500 by omega⟩ rfl hq0 rfl rfl (Nat.le_of_ble_eq_true rfl) ⟨show 0 + rm'.cells ≤ 4 by omega, show 0 + rm'.slots ≤ 48 by omega⟩ dL_removeCue_4 rfl (fun rv w1 hr => ?_) (fun E w1 hX => ?_)
  · obtain ⟨r, rfl, hr⟩ := hr
    refine x_i2l C 8 dL_removeCue_7 rfl rfl ?_
    refine x_last C 9 w1.length 3 at_end rfl vp_in0 dL_removeCue_8 rfl ?_
    rw [show ∀ z, (w1 ++ outL a o f).set w1.length z = w1 ++ [z] from fun _ => set_end]
    refine x_goto C 15 dL_removeCue_9 (by decide) ?_
    refine x_iconst (v := (0)) C 16 dL_removeCue_15 (by decide) rfl ?_
    exact x_hret C0 dL_removeCue_16 (show 0 + rm'.cells ≤ 4 by omega) (show 0 + rm'.slots ≤ 48 by omega) ⟨_, rfl, Or.inl ⟨rfl, r, w1, hr, rfl⟩⟩
  · have hE2 := hE E w1 hX
    subst hE2
    refine ⟨[], [], (0, 9, 12, 23), rfl, (fun y hy => nomatch hy), rfl, by decide, (List.mem_cons_of_mem _ (List.mem_append_left _ (List.mem_append_left _ (List.mem_append_left _ (List.mem_append_left _ (List.mem_append_left _ (List.mem_append_left _ (List.mem_of_getElem? (i := 0) rfl)))))))), by decide, fun q => ?_⟩
    refine x_astore_n C 13 dL_removeCue_12 (by decide) rfl rfl ?_
    refine x_iconst (v := (1)) C 14 dL_removeCue_13 (by decide) rfl ?_
    exact x_hret C0 dL_removeCue_14 (show 0 + rm'.cells ≤ 4 by omega) (show 0 + rm'.slots ≤ 48 by omega) ⟨_, rfl, Or.inr ⟨w1, ⟨hX, rfl⟩, rfl⟩⟩
set_option maxRecDepth 100000 in
set_option maxHeartbeats 4000000 in
theorem tL_setChange (hl : l.stackTraces = false) {p0 p1 p2 : Int32} {P : (Int32 → va_W → Prop)} (hR : rm'.frames ≤ 58 ∧ rm'.locals ≤ 1400) (hf : rm'.cells ≤ 4 ∧ rm'.slots ≤ 48) (h : Ct (gm D a E0) l yX5_setChange wsX5_setChange rm' [.ref x, .int p0, .int p1, .int p2] w (qI P) PX) (hx : ∃ (q0 : Nat) (fs : List Value), w[q0]? = some (x, .inr (9, fs))) (hE : ∀ E w1, PX E w1 → E = "java/util/NoSuchElementException" ∨ E = "java/lang/IndexOutOfBoundsException" ∨ E = "java/lang/IllegalArgumentException") : Ct (gm D a E0) l yL_setChange wsL_setChange { frames := 60, cells := 4, slots := 48, locals := 1500 } [.ref x, .int p0, .int p1, .int p2, .ref o] (w ++ outL a o f) (qI fun v w2 => (v = 0 ∧ ∃ r w1, P r w1 ∧ w2 = w1 ++ outL a o (vp_updL f 0 r.toInt64)) ∨ ∃ w1, ((PX "java/util/NoSuchElementException" w1 ∧ v = 1) ∨ (PX "java/lang/IndexOutOfBoundsException" w1 ∧ v = 2) ∨ (PX "java/lang/IllegalArgumentException" w1 ∧ v = 3)) ∧ w2 = w1 ++ outL a o f) noX := by
  obtain ⟨q0, fs, hq0⟩ := hx
  refine Ct.ofH [some (.ref x), some (.int p0), some (.int p1), some (.int p2), some (.ref o), none] rfl hl (by decide) (Nat.le_of_ble_eq_true rfl) rfl (fun φ C0 => ?_)
  have C := C0.1
  refine x_aload C 2 dL_setChange_0 rfl rfl ?_
  refine x_iconst (v := (0)) C 3 dL_setChange_2 (by decide) rfl ?_
  refine x_aload_n C 4 dL_setChange_3 rfl rfl ?_
  refine x_iload_n C 5 dL_setChange_4 rfl rfl ?_
  refine x_iload_n C 6 dL_setChange_5 rfl rfl ?_
  refine x_iload_n C 7 dL_setChange_6 rfl rfl ?_
  refine x_callVc C0 10 q0 9 3 h rfl gL_setChange_X5_setChange ⟨rfl, by decide, by decide, rfl⟩ ⟨show rm'.frames + 1 ≤ 60 by omega, show 8 + (7 + 11) + rm'.locals ≤ 1500 by omega⟩ rfl hq0 rfl rfl (Nat.le_of_ble_eq_true rfl) ⟨show 0 + rm'.cells ≤ 4 by omega, show 0 + rm'.slots ≤ 48 by omega⟩ dL_setChange_7 rfl (fun rv w1 hr => ?_) (fun E w1 hX => ?_)
  · obtain ⟨r, rfl, hr⟩ := hr
    refine x_i2l C 11 dL_setChange_10 rfl rfl ?_
    refine x_last C 12 w1.length 3 at_end rfl vp_in0 dL_setChange_11 rfl ?_
    rw [show ∀ z, (w1 ++ outL a o f).set w1.length z = w1 ++ [z] from fun _ => set_end]
    refine x_goto C 27 dL_setChange_12 (by decide) ?_
    refine x_iconst (v := (0)) C 28 dL_setChange_27 (by decide) rfl ?_
    exact x_hret C0 dL_setChange_28 (show 0 + rm'.cells ≤ 4 by omega) (show 0 + rm'.slots ≤ 48 by omega) ⟨_, rfl, Or.inl ⟨rfl, r, w1, hr, rfl⟩⟩
  · have hE2 := hE E w1 hX
    rcases hE2 with rfl | rfl | rfl
    · refine ⟨[], [(0, 12, 19, 29), (0, 12, 23, 13)], (0, 12, 15, 23), rfl, (fun y hy => nomatch hy), rfl, by decide, (List.mem_cons_of_mem _ (List.mem_append_left _ (List.mem_append_left _ (List.mem_append_left _ (List.mem_append_left _ (List.mem_append_left _ (List.mem_append_left _ (List.mem_append_left _ (List.mem_append_left _ (List.mem_of_getElem? (i := 0) rfl)))))))))), by decide, fun q => ?_⟩
      refine x_astore C 17 dL_setChange_15 (by decide) rfl rfl ?_
      refine x_iconst (v := (1)) C 18 dL_setChange_17 (by decide) rfl ?_
      exact x_hret C0 dL_setChange_18 (show 0 + rm'.cells ≤ 4 by omega) (show 0 + rm'.slots ≤ 48 by omega) ⟨_, rfl, Or.inr ⟨w1, Or.inl ⟨hX, rfl⟩, rfl⟩⟩
    · refine ⟨[(0, 12, 15, 23)], [(0, 12, 23, 13)], (0, 12, 19, 29), rfl, List.forall_mem_cons.mpr ⟨⟨by decide, "java/util/NoSuchElementException", (List.mem_cons_of_mem _ (List.mem_append_left _ (List.mem_append_left _ (List.mem_append_left _ (List.mem_append_left _ (List.mem_append_left _ (List.mem_append_left _ (List.mem_append_left _ (List.mem_append_left _ (List.mem_of_getElem? (i := 0) rfl)))))))))), by decide, by decide⟩, fun _ h => nomatch h⟩, rfl, by decide, (List.mem_cons_of_mem _ (List.mem_append_left _ (List.mem_append_left _ (List.mem_append_left _ (List.mem_append_left _ (List.mem_append_left _ (List.mem_append_left _ (List.mem_append_left _ (List.mem_append_left _ (List.mem_of_getElem? (i := 1) rfl)))))))))), by decide, fun q => ?_⟩
      refine x_astore C 21 dL_setChange_19 (by decide) rfl rfl ?_
      refine x_iconst (v := (2)) C 22 dL_setChange_21 (by decide) rfl ?_
      exact x_hret C0 dL_setChange_22 (show 0 + rm'.cells ≤ 4 by omega) (show 0 + rm'.slots ≤ 48 by omega) ⟨_, rfl, Or.inr ⟨w1, Or.inr (Or.inl ⟨hX, rfl⟩), rfl⟩⟩
    · refine ⟨[(0, 12, 15, 23), (0, 12, 19, 29)], [], (0, 12, 23, 13), rfl, List.forall_mem_cons.mpr ⟨⟨by decide, "java/util/NoSuchElementException", (List.mem_cons_of_mem _ (List.mem_append_left _ (List.mem_append_left _ (List.mem_append_left _ (List.mem_append_left _ (List.mem_append_left _ (List.mem_append_left _ (List.mem_append_left _ (List.mem_append_left _ (List.mem_of_getElem? (i := 0) rfl)))))))))), by decide, by decide⟩, List.forall_mem_cons.mpr ⟨⟨by decide, "java/lang/IndexOutOfBoundsException", (List.mem_cons_of_mem _ (List.mem_append_left _ (List.mem_append_left _ (List.mem_append_left _ (List.mem_append_left _ (List.mem_append_left _ (List.mem_append_left _ (List.mem_append_left _ (List.mem_append_left _ (List.mem_of_getElem? (i := 1) rfl)))))))))), by decide, by decide⟩, fun _ h => nomatch h⟩⟩, rfl, by decide, (List.mem_cons_of_mem _ (List.mem_append_left _ (List.mem_append_left _ (List.mem_append_left _ (List.mem_append_left _ (List.mem_append_left _ (List.mem_append_left _ (List.mem_append_left _ (List.mem_append_left _ (List.mem_of_getElem? (i := 2) rfl)))))))))), by decide, fun q => ?_⟩
      refine x_astore C 25 dL_setChange_23 (by decide) rfl rfl ?_
      refine x_iconst (v := (3)) C 26 dL_setChange_25 (by decide) rfl ?_
      exact x_hret C0 dL_setChange_26 (show 0 + rm'.cells ≤ 4 by omega) (show 0 + rm'.slots ≤ 48 by omega) ⟨_, rfl, Or.inr ⟨w1, Or.inr (Or.inr (⟨hX, rfl⟩)), rfl⟩⟩
set_option maxRecDepth 100000 in
set_option maxHeartbeats 4000000 in
theorem tL_removeChange (hl : l.stackTraces = false) {p0 p1 : Int32} {P : (Int32 → va_W → Prop)} (hR : rm'.frames ≤ 58 ∧ rm'.locals ≤ 1400) (hf : rm'.cells ≤ 4 ∧ rm'.slots ≤ 48) (h : Ct (gm D a E0) l yX5_removeChange wsX5_removeChange rm' [.ref x, .int p0, .int p1] w (qI P) PX) (hx : ∃ (q0 : Nat) (fs : List Value), w[q0]? = some (x, .inr (9, fs))) (hE : ∀ E w1, PX E w1 → E = "java/util/NoSuchElementException" ∨ E = "java/lang/IndexOutOfBoundsException") : Ct (gm D a E0) l yL_removeChange wsL_removeChange { frames := 60, cells := 4, slots := 48, locals := 1500 } [.ref x, .int p0, .int p1, .ref o] (w ++ outL a o f) (qI fun v w2 => (v = 0 ∧ ∃ r w1, P r w1 ∧ w2 = w1 ++ outL a o (vp_updL f 0 r.toInt64)) ∨ ∃ w1, ((PX "java/util/NoSuchElementException" w1 ∧ v = 1) ∨ (PX "java/lang/IndexOutOfBoundsException" w1 ∧ v = 2)) ∧ w2 = w1 ++ outL a o f) noX := by
  obtain ⟨q0, fs, hq0⟩ := hx
  refine Ct.ofH [some (.ref x), some (.int p0), some (.int p1), some (.ref o), none] rfl hl (by decide) (Nat.le_of_ble_eq_true rfl) rfl (fun φ C0 => ?_)
  have C := C0.1
  refine x_aload_n C 1 dL_removeChange_0 rfl rfl ?_
  refine x_iconst (v := (0)) C 2 dL_removeChange_1 (by decide) rfl ?_
  refine x_aload_n C 3 dL_removeChange_2 rfl rfl ?_
  refine x_iload_n C 4 dL_removeChange_3 rfl rfl ?_
  refine x_iload_n C 5 dL_removeChange_4 rfl rfl ?_
  refine x_callVc C0 8 q0 9 2 h rfl gL_removeChange_X5_removeChange ⟨rfl, by decide, by decide, rfl⟩ ⟨show rm'.frames + 1 ≤ 60 by omega, show 8 + (6 + 11) + rm'.locals ≤ 1500 by omega⟩ rfl hq0 rfl rfl (Nat.le_of_ble_eq_true rfl) ⟨show 0 + rm'.cells ≤ 4 by omega, show 0 + rm'.slots ≤ 48 by omega⟩ dL_removeChange_5 rfl (fun rv w1 hr => ?_) (fun E w1 hX => ?_)
  · obtain ⟨r, rfl, hr⟩ := hr
    refine x_i2l C 9 dL_removeChange_8 rfl rfl ?_
    refine x_last C 10 w1.length 3 at_end rfl vp_in0 dL_removeChange_9 rfl ?_
    rw [show ∀ z, (w1 ++ outL a o f).set w1.length z = w1 ++ [z] from fun _ => set_end]
    refine x_goto C 21 dL_removeChange_10 (by decide) ?_
    refine x_iconst (v := (0)) C 22 dL_removeChange_21 (by decide) rfl ?_
    exact x_hret C0 dL_removeChange_22 (show 0 + rm'.cells ≤ 4 by omega) (show 0 + rm'.slots ≤ 48 by omega) ⟨_, rfl, Or.inl ⟨rfl, r, w1, hr, rfl⟩⟩
  · have hE2 := hE E w1 hX
    rcases hE2 with rfl | rfl
    · refine ⟨[], [(0, 10, 17, 29)], (0, 10, 13, 23), rfl, (fun y hy => nomatch hy), rfl, by decide, (List.mem_cons_of_mem _ (List.mem_append_left _ (List.mem_append_left _ (List.mem_append_left _ (List.mem_append_left _ (List.mem_append_left _ (List.mem_append_left _ (List.mem_append_left _ (List.mem_of_getElem? (i := 0) rfl))))))))), by decide, fun q => ?_⟩
      refine x_astore C 15 dL_removeChange_13 (by decide) rfl rfl ?_
      refine x_iconst (v := (1)) C 16 dL_removeChange_15 (by decide) rfl ?_
      exact x_hret C0 dL_removeChange_16 (show 0 + rm'.cells ≤ 4 by omega) (show 0 + rm'.slots ≤ 48 by omega) ⟨_, rfl, Or.inr ⟨w1, Or.inl ⟨hX, rfl⟩, rfl⟩⟩
    · refine ⟨[(0, 10, 13, 23)], [], (0, 10, 17, 29), rfl, List.forall_mem_cons.mpr ⟨⟨by decide, "java/util/NoSuchElementException", (List.mem_cons_of_mem _ (List.mem_append_left _ (List.mem_append_left _ (List.mem_append_left _ (List.mem_append_left _ (List.mem_append_left _ (List.mem_append_left _ (List.mem_append_left _ (List.mem_of_getElem? (i := 0) rfl))))))))), by decide, by decide⟩, fun _ h => nomatch h⟩, rfl, by decide, (List.mem_cons_of_mem _ (List.mem_append_left _ (List.mem_append_left _ (List.mem_append_left _ (List.mem_append_left _ (List.mem_append_left _ (List.mem_append_left _ (List.mem_append_left _ (List.mem_of_getElem? (i := 1) rfl))))))))), by decide, fun q => ?_⟩
      refine x_astore C 19 dL_removeChange_17 (by decide) rfl rfl ?_
      refine x_iconst (v := (2)) C 20 dL_removeChange_19 (by decide) rfl ?_
      exact x_hret C0 dL_removeChange_20 (show 0 + rm'.cells ≤ 4 by omega) (show 0 + rm'.slots ≤ 48 by omega) ⟨_, rfl, Or.inr ⟨w1, Or.inr (⟨hX, rfl⟩), rfl⟩⟩
set_option maxRecDepth 100000 in
set_option maxHeartbeats 4000000 in
theorem tL_setBlock (hl : l.stackTraces = false) {p0 p1 : Int32} {P : (Int32 → va_W → Prop)} (hR : rm'.frames ≤ 58 ∧ rm'.locals ≤ 1400) (hf : rm'.cells ≤ 4 ∧ rm'.slots ≤ 48) (h : Ct (gm D a E0) l yX5_setBlock wsX5_setBlock rm' [.ref x, .int p0, .int p1] w (qI P) PX) (hx : ∃ (q0 : Nat) (fs : List Value), w[q0]? = some (x, .inr (9, fs))) (hE : ∀ E w1, PX E w1 → E = "java/util/NoSuchElementException") : Ct (gm D a E0) l yL_setBlock wsL_setBlock { frames := 60, cells := 4, slots := 48, locals := 1500 } [.ref x, .int p0, .int p1, .ref o] (w ++ outL a o f) (qI fun v w2 => (v = 0 ∧ ∃ r w1, P r w1 ∧ w2 = w1 ++ outL a o (vp_updL f 0 (if r = 0 then 0 else 1))) ∨ ∃ w1, ((PX "java/util/NoSuchElementException" w1 ∧ v = 1)) ∧ w2 = w1 ++ outL a o f) noX := by
  obtain ⟨q0, fs, hq0⟩ := hx
  refine Ct.ofH [some (.ref x), some (.int p0), some (.int p1), some (.ref o), none] rfl hl (by decide) (Nat.le_of_ble_eq_true rfl) rfl (fun φ C0 => ?_)
  have C := C0.1
  refine x_aload_n C 1 dL_setBlock_0 rfl rfl ?_
  refine x_iconst (v := (0)) C 2 dL_setBlock_1 (by decide) rfl ?_
  refine x_aload_n C 3 dL_setBlock_2 rfl rfl ?_
  refine x_iload_n C 4 dL_setBlock_3 rfl rfl ?_
  refine x_iload_n C 5 dL_setBlock_4 rfl rfl ?_
  refine x_callVc C0 8 q0 9 2 h rfl gL_setBlock_X5_setBlock ⟨rfl, by decide, by decide, rfl⟩ ⟨show rm'.frames + 1 ≤ 60 by omega, show 8 + (5 + 11) + rm'.locals ≤ 1500 by omega⟩ rfl hq0 rfl rfl (Nat.le_of_ble_eq_true rfl) ⟨show 0 + rm'.cells ≤ 4 by omega, show 0 + rm'.slots ≤ 48 by omega⟩ dL_setBlock_5 rfl (fun rv w1 hr => ?_) (fun E w1 hX => ?_)
  · obtain ⟨r, rfl, hr⟩ := hr
    refine x_if_eq C 15 11 dL_setBlock_8 (by decide) rfl (fun z => ?_) (fun z => ?_)
    · refine x_lconst (v := 0) C 16 dL_setBlock_15 (by decide) rfl ?_
      refine x_last C 17 w1.length 3 at_end rfl vp_in0 dL_setBlock_16 rfl ?_
      rw [show ∀ z, (w1 ++ outL a o f).set w1.length z = w1 ++ [z] from fun _ => set_end]
      refine x_goto C 24 dL_setBlock_17 (by decide) ?_
      refine x_iconst (v := (0)) C 25 dL_setBlock_24 (by decide) rfl ?_
      exact x_hret C0 dL_setBlock_25 (show 0 + rm'.cells ≤ 4 by omega) (show 0 + rm'.slots ≤ 48 by omega) ⟨_, rfl, Or.inl ⟨rfl, r, w1, hr, by rw [if_pos z]; rfl⟩⟩
    · refine x_lconst (v := 1) C 12 dL_setBlock_11 (by decide) rfl ?_
      refine x_goto C 16 dL_setBlock_12 (by decide) ?_
      refine x_last C 17 w1.length 3 at_end rfl vp_in0 dL_setBlock_16 rfl ?_
      rw [show ∀ z, (w1 ++ outL a o f).set w1.length z = w1 ++ [z] from fun _ => set_end]
      refine x_goto C 24 dL_setBlock_17 (by decide) ?_
      refine x_iconst (v := (0)) C 25 dL_setBlock_24 (by decide) rfl ?_
      exact x_hret C0 dL_setBlock_25 (show 0 + rm'.cells ≤ 4 by omega) (show 0 + rm'.slots ≤ 48 by omega) ⟨_, rfl, Or.inl ⟨rfl, r, w1, hr, by rw [if_neg z]; rfl⟩⟩
  · have hE2 := hE E w1 hX
    subst hE2
    refine ⟨[], [], (0, 17, 20, 23), rfl, (fun y hy => nomatch hy), rfl, by decide, (List.mem_cons_of_mem _ (List.mem_append_left _ (List.mem_append_left _ (List.mem_append_left _ (List.mem_append_left _ (List.mem_append_left _ (List.mem_append_left _ (List.mem_of_getElem? (i := 0) rfl)))))))), by decide, fun q => ?_⟩
    refine x_astore C 22 dL_setBlock_20 (by decide) rfl rfl ?_
    refine x_iconst (v := (1)) C 23 dL_setBlock_22 (by decide) rfl ?_
    exact x_hret C0 dL_setBlock_23 (show 0 + rm'.cells ≤ 4 by omega) (show 0 + rm'.slots ≤ 48 by omega) ⟨_, rfl, Or.inr ⟨w1, ⟨hX, rfl⟩, rfl⟩⟩
set_option maxRecDepth 100000 in
set_option maxHeartbeats 4000000 in
theorem tL_trackedLevel (hl : l.stackTraces = false) {p0 p1 : Int32} {P : (Int32 → va_W → Prop)} (hR : rm'.frames ≤ 58 ∧ rm'.locals ≤ 1400) (hf : rm'.cells ≤ 4 ∧ rm'.slots ≤ 48) (h : Ct (gm D a E0) l yX5_trackedLevel wsX5_trackedLevel rm' [.ref x, .int p0, .int p1] w (qI P) PX) (hx : ∃ (q0 : Nat) (fs : List Value), w[q0]? = some (x, .inr (9, fs))) (hE : ∀ E w1, PX E w1 → E = "java/util/NoSuchElementException" ∨ E = "java/lang/IndexOutOfBoundsException") : Ct (gm D a E0) l yL_trackedLevel wsL_trackedLevel { frames := 60, cells := 4, slots := 48, locals := 1500 } [.ref x, .int p0, .int p1, .ref o] (w ++ outL a o f) (qI fun v w2 => (v = 0 ∧ ∃ r w1, P r w1 ∧ w2 = w1 ++ outL a o (vp_updL f 0 r.toInt64)) ∨ ∃ w1, ((PX "java/util/NoSuchElementException" w1 ∧ v = 1) ∨ (PX "java/lang/IndexOutOfBoundsException" w1 ∧ v = 2)) ∧ w2 = w1 ++ outL a o f) noX := by
  obtain ⟨q0, fs, hq0⟩ := hx
  refine Ct.ofH [some (.ref x), some (.int p0), some (.int p1), some (.ref o), none] rfl hl (by decide) (Nat.le_of_ble_eq_true rfl) rfl (fun φ C0 => ?_)
  have C := C0.1
  refine x_aload_n C 1 dL_trackedLevel_0 rfl rfl ?_
  refine x_iconst (v := (0)) C 2 dL_trackedLevel_1 (by decide) rfl ?_
  refine x_aload_n C 3 dL_trackedLevel_2 rfl rfl ?_
  refine x_iload_n C 4 dL_trackedLevel_3 rfl rfl ?_
  refine x_iload_n C 5 dL_trackedLevel_4 rfl rfl ?_
  refine x_callVc C0 8 q0 9 2 h rfl gL_trackedLevel_X5_trackedLevel ⟨rfl, by decide, by decide, rfl⟩ ⟨show rm'.frames + 1 ≤ 60 by omega, show 8 + (4 + 11) + rm'.locals ≤ 1500 by omega⟩ rfl hq0 rfl rfl (Nat.le_of_ble_eq_true rfl) ⟨show 0 + rm'.cells ≤ 4 by omega, show 0 + rm'.slots ≤ 48 by omega⟩ dL_trackedLevel_5 rfl (fun rv w1 hr => ?_) (fun E w1 hX => ?_)
  · obtain ⟨r, rfl, hr⟩ := hr
    refine x_i2l C 9 dL_trackedLevel_8 rfl rfl ?_
    refine x_last C 10 w1.length 3 at_end rfl vp_in0 dL_trackedLevel_9 rfl ?_
    rw [show ∀ z, (w1 ++ outL a o f).set w1.length z = w1 ++ [z] from fun _ => set_end]
    refine x_goto C 21 dL_trackedLevel_10 (by decide) ?_
    refine x_iconst (v := (0)) C 22 dL_trackedLevel_21 (by decide) rfl ?_
    exact x_hret C0 dL_trackedLevel_22 (show 0 + rm'.cells ≤ 4 by omega) (show 0 + rm'.slots ≤ 48 by omega) ⟨_, rfl, Or.inl ⟨rfl, r, w1, hr, rfl⟩⟩
  · have hE2 := hE E w1 hX
    rcases hE2 with rfl | rfl
    · refine ⟨[], [(0, 10, 17, 29)], (0, 10, 13, 23), rfl, (fun y hy => nomatch hy), rfl, by decide, (List.mem_cons_of_mem _ (List.mem_append_left _ (List.mem_append_left _ (List.mem_append_left _ (List.mem_append_left _ (List.mem_append_left _ (List.mem_append_left _ (List.mem_append_left _ (List.mem_of_getElem? (i := 0) rfl))))))))), by decide, fun q => ?_⟩
      refine x_astore C 15 dL_trackedLevel_13 (by decide) rfl rfl ?_
      refine x_iconst (v := (1)) C 16 dL_trackedLevel_15 (by decide) rfl ?_
      exact x_hret C0 dL_trackedLevel_16 (show 0 + rm'.cells ≤ 4 by omega) (show 0 + rm'.slots ≤ 48 by omega) ⟨_, rfl, Or.inr ⟨w1, Or.inl ⟨hX, rfl⟩, rfl⟩⟩
    · refine ⟨[(0, 10, 13, 23)], [], (0, 10, 17, 29), rfl, List.forall_mem_cons.mpr ⟨⟨by decide, "java/util/NoSuchElementException", (List.mem_cons_of_mem _ (List.mem_append_left _ (List.mem_append_left _ (List.mem_append_left _ (List.mem_append_left _ (List.mem_append_left _ (List.mem_append_left _ (List.mem_append_left _ (List.mem_of_getElem? (i := 0) rfl))))))))), by decide, by decide⟩, fun _ h => nomatch h⟩, rfl, by decide, (List.mem_cons_of_mem _ (List.mem_append_left _ (List.mem_append_left _ (List.mem_append_left _ (List.mem_append_left _ (List.mem_append_left _ (List.mem_append_left _ (List.mem_append_left _ (List.mem_of_getElem? (i := 1) rfl))))))))), by decide, fun q => ?_⟩
      refine x_astore C 19 dL_trackedLevel_17 (by decide) rfl rfl ?_
      refine x_iconst (v := (2)) C 20 dL_trackedLevel_19 (by decide) rfl ?_
      exact x_hret C0 dL_trackedLevel_20 (show 0 + rm'.cells ≤ 4 by omega) (show 0 + rm'.slots ≤ 48 by omega) ⟨_, rfl, Or.inr ⟨w1, Or.inr (⟨hX, rfl⟩), rfl⟩⟩
set_option maxRecDepth 100000 in
set_option maxHeartbeats 4000000 in
theorem tL_go (hl : l.stackTraces = false) {P : (Int32 → va_W → Prop)} (hR : rm'.frames ≤ 58 ∧ rm'.locals ≤ 1400) (hf : rm'.cells ≤ 4 ∧ rm'.slots ≤ 48) (h : Ct (gm D a E0) l yX5_go wsX5_go rm' [.ref x] w (qI P) PX) (hx : ∃ (q0 : Nat) (fs : List Value), w[q0]? = some (x, .inr (9, fs))) (hE : ∀ E w1, PX E w1 → E = "java/util/NoSuchElementException") : Ct (gm D a E0) l yL_go wsL_go { frames := 60, cells := 4, slots := 48, locals := 1500 } [.ref x, .ref o] (w ++ outL a o f) (qI fun v w2 => (v = 0 ∧ ∃ r w1, P r w1 ∧ w2 = w1 ++ outL a o (vp_updL f 0 r.toInt64)) ∨ ∃ w1, ((PX "java/util/NoSuchElementException" w1 ∧ v = 1)) ∧ w2 = w1 ++ outL a o f) noX := by
  obtain ⟨q0, fs, hq0⟩ := hx
  refine Ct.ofH [some (.ref x), some (.ref o), none] rfl hl (by decide) (Nat.le_of_ble_eq_true rfl) rfl (fun φ C0 => ?_)
  have C := C0.1
  refine x_aload_n C 1 dL_go_0 rfl rfl ?_
  refine x_iconst (v := (0)) C 2 dL_go_1 (by decide) rfl ?_
  refine x_aload_n C 3 dL_go_2 rfl rfl ?_
  refine x_callVc C0 6 q0 9 0 h rfl gL_go_X5_go ⟨rfl, by decide, by decide, rfl⟩ ⟨show rm'.frames + 1 ≤ 60 by omega, show 8 + (1 + 11) + rm'.locals ≤ 1500 by omega⟩ rfl hq0 rfl rfl (Nat.le_of_ble_eq_true rfl) ⟨show 0 + rm'.cells ≤ 4 by omega, show 0 + rm'.slots ≤ 48 by omega⟩ dL_go_3 rfl (fun rv w1 hr => ?_) (fun E w1 hX => ?_)
  · obtain ⟨r, rfl, hr⟩ := hr
    refine x_i2l C 7 dL_go_6 rfl rfl ?_
    refine x_last C 8 w1.length 3 at_end rfl vp_in0 dL_go_7 rfl ?_
    rw [show ∀ z, (w1 ++ outL a o f).set w1.length z = w1 ++ [z] from fun _ => set_end]
    refine x_goto C 14 dL_go_8 (by decide) ?_
    refine x_iconst (v := (0)) C 15 dL_go_14 (by decide) rfl ?_
    exact x_hret C0 dL_go_15 (show 0 + rm'.cells ≤ 4 by omega) (show 0 + rm'.slots ≤ 48 by omega) ⟨_, rfl, Or.inl ⟨rfl, r, w1, hr, rfl⟩⟩
  · have hE2 := hE E w1 hX
    subst hE2
    refine ⟨[], [], (0, 8, 11, 23), rfl, (fun y hy => nomatch hy), rfl, by decide, (List.mem_cons_of_mem _ (List.mem_append_left _ (List.mem_append_left _ (List.mem_append_left _ (List.mem_append_left _ (List.mem_append_left _ (List.mem_append_left _ (List.mem_append_left _ (List.mem_of_getElem? (i := 0) rfl))))))))), by decide, fun q => ?_⟩
    refine x_astore_n C 12 dL_go_11 (by decide) rfl rfl ?_
    refine x_iconst (v := (1)) C 13 dL_go_12 (by decide) rfl ?_
    exact x_hret C0 dL_go_13 (show 0 + rm'.cells ≤ 4 by omega) (show 0 + rm'.slots ≤ 48 by omega) ⟨_, rfl, Or.inr ⟨w1, ⟨hX, rfl⟩, rfl⟩⟩
set_option maxRecDepth 100000 in
set_option maxHeartbeats 4000000 in
theorem tL_back (hl : l.stackTraces = false) {P : (Int32 → va_W → Prop)} (hR : rm'.frames ≤ 58 ∧ rm'.locals ≤ 1400) (hf : rm'.cells ≤ 4 ∧ rm'.slots ≤ 48) (h : Ct (gm D a E0) l yX5_back wsX5_back rm' [.ref x] w (qI P) PX) (hx : ∃ (q0 : Nat) (fs : List Value), w[q0]? = some (x, .inr (9, fs))) (hE : ∀ E w1, PX E w1 → E = "java/util/NoSuchElementException") : Ct (gm D a E0) l yL_back wsL_back { frames := 60, cells := 4, slots := 48, locals := 1500 } [.ref x, .ref o] (w ++ outL a o f) (qI fun v w2 => (v = 0 ∧ ∃ r w1, P r w1 ∧ w2 = w1 ++ outL a o (vp_updL f 0 r.toInt64)) ∨ ∃ w1, ((PX "java/util/NoSuchElementException" w1 ∧ v = 1)) ∧ w2 = w1 ++ outL a o f) noX := by
  obtain ⟨q0, fs, hq0⟩ := hx
  refine Ct.ofH [some (.ref x), some (.ref o), none] rfl hl (by decide) (Nat.le_of_ble_eq_true rfl) rfl (fun φ C0 => ?_)
  have C := C0.1
  refine x_aload_n C 1 dL_back_0 rfl rfl ?_
  refine x_iconst (v := (0)) C 2 dL_back_1 (by decide) rfl ?_
  refine x_aload_n C 3 dL_back_2 rfl rfl ?_
  refine x_callVc C0 6 q0 9 0 h rfl gL_back_X5_back ⟨rfl, by decide, by decide, rfl⟩ ⟨show rm'.frames + 1 ≤ 60 by omega, show 8 + (1 + 11) + rm'.locals ≤ 1500 by omega⟩ rfl hq0 rfl rfl (Nat.le_of_ble_eq_true rfl) ⟨show 0 + rm'.cells ≤ 4 by omega, show 0 + rm'.slots ≤ 48 by omega⟩ dL_back_3 rfl (fun rv w1 hr => ?_) (fun E w1 hX => ?_)
  · obtain ⟨r, rfl, hr⟩ := hr
    refine x_i2l C 7 dL_back_6 rfl rfl ?_
    refine x_last C 8 w1.length 3 at_end rfl vp_in0 dL_back_7 rfl ?_
    rw [show ∀ z, (w1 ++ outL a o f).set w1.length z = w1 ++ [z] from fun _ => set_end]
    refine x_goto C 14 dL_back_8 (by decide) ?_
    refine x_iconst (v := (0)) C 15 dL_back_14 (by decide) rfl ?_
    exact x_hret C0 dL_back_15 (show 0 + rm'.cells ≤ 4 by omega) (show 0 + rm'.slots ≤ 48 by omega) ⟨_, rfl, Or.inl ⟨rfl, r, w1, hr, rfl⟩⟩
  · have hE2 := hE E w1 hX
    subst hE2
    refine ⟨[], [], (0, 8, 11, 23), rfl, (fun y hy => nomatch hy), rfl, by decide, (List.mem_cons_of_mem _ (List.mem_append_left _ (List.mem_append_left _ (List.mem_append_left _ (List.mem_append_left _ (List.mem_append_left _ (List.mem_append_left _ (List.mem_append_left _ (List.mem_of_getElem? (i := 0) rfl))))))))), by decide, fun q => ?_⟩
    refine x_astore_n C 12 dL_back_11 (by decide) rfl rfl ?_
    refine x_iconst (v := (1)) C 13 dL_back_12 (by decide) rfl ?_
    exact x_hret C0 dL_back_13 (show 0 + rm'.cells ≤ 4 by omega) (show 0 + rm'.slots ≤ 48 by omega) ⟨_, rfl, Or.inr ⟨w1, ⟨hX, rfl⟩, rfl⟩⟩
set_option maxRecDepth 100000 in
set_option maxHeartbeats 4000000 in
theorem tL_goTo (hl : l.stackTraces = false) {p0 : Int32} {P : (Int32 → va_W → Prop)} (hR : rm'.frames ≤ 58 ∧ rm'.locals ≤ 1400) (hf : rm'.cells ≤ 4 ∧ rm'.slots ≤ 48) (h : Ct (gm D a E0) l yX5_goTo wsX5_goTo rm' [.ref x, .int p0] w (qI P) PX) (hx : ∃ (q0 : Nat) (fs : List Value), w[q0]? = some (x, .inr (9, fs))) (hE : ∀ E w1, PX E w1 → E = "java/util/NoSuchElementException") : Ct (gm D a E0) l yL_goTo wsL_goTo { frames := 60, cells := 4, slots := 48, locals := 1500 } [.ref x, .int p0, .ref o] (w ++ outL a o f) (qI fun v w2 => (v = 0 ∧ ∃ r w1, P r w1 ∧ w2 = w1 ++ outL a o (vp_updL f 0 r.toInt64)) ∨ ∃ w1, ((PX "java/util/NoSuchElementException" w1 ∧ v = 1)) ∧ w2 = w1 ++ outL a o f) noX := by
  obtain ⟨q0, fs, hq0⟩ := hx
  refine Ct.ofH [some (.ref x), some (.int p0), some (.ref o), none] rfl hl (by decide) (Nat.le_of_ble_eq_true rfl) rfl (fun φ C0 => ?_)
  have C := C0.1
  refine x_aload_n C 1 dL_goTo_0 rfl rfl ?_
  refine x_iconst (v := (0)) C 2 dL_goTo_1 (by decide) rfl ?_
  refine x_aload_n C 3 dL_goTo_2 rfl rfl ?_
  refine x_iload_n C 4 dL_goTo_3 rfl rfl ?_
  refine x_callVc C0 7 q0 9 1 h rfl gL_goTo_X5_goTo ⟨rfl, by decide, by decide, rfl⟩ ⟨show rm'.frames + 1 ≤ 60 by omega, show 8 + (2 + 11) + rm'.locals ≤ 1500 by omega⟩ rfl hq0 rfl rfl (Nat.le_of_ble_eq_true rfl) ⟨show 0 + rm'.cells ≤ 4 by omega, show 0 + rm'.slots ≤ 48 by omega⟩ dL_goTo_4 rfl (fun rv w1 hr => ?_) (fun E w1 hX => ?_)
  · obtain ⟨r, rfl, hr⟩ := hr
    refine x_i2l C 8 dL_goTo_7 rfl rfl ?_
    refine x_last C 9 w1.length 3 at_end rfl vp_in0 dL_goTo_8 rfl ?_
    rw [show ∀ z, (w1 ++ outL a o f).set w1.length z = w1 ++ [z] from fun _ => set_end]
    refine x_goto C 15 dL_goTo_9 (by decide) ?_
    refine x_iconst (v := (0)) C 16 dL_goTo_15 (by decide) rfl ?_
    exact x_hret C0 dL_goTo_16 (show 0 + rm'.cells ≤ 4 by omega) (show 0 + rm'.slots ≤ 48 by omega) ⟨_, rfl, Or.inl ⟨rfl, r, w1, hr, rfl⟩⟩
  · have hE2 := hE E w1 hX
    subst hE2
    refine ⟨[], [], (0, 9, 12, 23), rfl, (fun y hy => nomatch hy), rfl, by decide, (List.mem_cons_of_mem _ (List.mem_append_left _ (List.mem_append_left _ (List.mem_append_left _ (List.mem_append_left _ (List.mem_append_left _ (List.mem_append_left _ (List.mem_append_left _ (List.mem_of_getElem? (i := 0) rfl))))))))), by decide, fun q => ?_⟩
    refine x_astore_n C 13 dL_goTo_12 (by decide) rfl rfl ?_
    refine x_iconst (v := (1)) C 14 dL_goTo_13 (by decide) rfl ?_
    exact x_hret C0 dL_goTo_14 (show 0 + rm'.cells ≤ 4 by omega) (show 0 + rm'.slots ≤ 48 by omega) ⟨_, rfl, Or.inr ⟨w1, ⟨hX, rfl⟩, rfl⟩⟩
set_option maxRecDepth 100000 in
set_option maxHeartbeats 4000000 in
theorem tL_pass (hl : l.stackTraces = false) {p0 : Int32} {P : (Int32 → va_W → Prop)} (hR : rm'.frames ≤ 58 ∧ rm'.locals ≤ 1400) (hf : rm'.cells ≤ 4 ∧ rm'.slots ≤ 48) (h : Ct (gm D a E0) l yX5_pass wsX5_pass rm' [.ref x, .int p0] w (qI P) PX) (hx : ∃ (q0 : Nat) (fs : List Value), w[q0]? = some (x, .inr (9, fs))) (hE : ∀ E w1, PX E w1 → E = "java/lang/IllegalArgumentException") : Ct (gm D a E0) l yL_pass wsL_pass { frames := 60, cells := 4, slots := 48, locals := 1500 } [.ref x, .int p0, .ref o] (w ++ outL a o f) (qI fun v w2 => (v = 0 ∧ ∃ r w1, P r w1 ∧ w2 = w1 ++ outL a o (vp_updL f 0 r.toInt64)) ∨ ∃ w1, ((PX "java/lang/IllegalArgumentException" w1 ∧ v = 1)) ∧ w2 = w1 ++ outL a o f) noX := by
  obtain ⟨q0, fs, hq0⟩ := hx
  refine Ct.ofH [some (.ref x), some (.int p0), some (.ref o), none] rfl hl (by decide) (Nat.le_of_ble_eq_true rfl) rfl (fun φ C0 => ?_)
  have C := C0.1
  refine x_aload_n C 1 dL_pass_0 rfl rfl ?_
  refine x_iconst (v := (0)) C 2 dL_pass_1 (by decide) rfl ?_
  refine x_aload_n C 3 dL_pass_2 rfl rfl ?_
  refine x_iload_n C 4 dL_pass_3 rfl rfl ?_
  refine x_callVc C0 7 q0 9 1 h rfl gL_pass_X5_pass ⟨rfl, by decide, by decide, rfl⟩ ⟨show rm'.frames + 1 ≤ 60 by omega, show 8 + (2 + 11) + rm'.locals ≤ 1500 by omega⟩ rfl hq0 rfl rfl (Nat.le_of_ble_eq_true rfl) ⟨show 0 + rm'.cells ≤ 4 by omega, show 0 + rm'.slots ≤ 48 by omega⟩ dL_pass_4 rfl (fun rv w1 hr => ?_) (fun E w1 hX => ?_)
  · obtain ⟨r, rfl, hr⟩ := hr
    refine x_i2l C 8 dL_pass_7 rfl rfl ?_
    refine x_last C 9 w1.length 3 at_end rfl vp_in0 dL_pass_8 rfl ?_
    rw [show ∀ z, (w1 ++ outL a o f).set w1.length z = w1 ++ [z] from fun _ => set_end]
    refine x_goto C 15 dL_pass_9 (by decide) ?_
    refine x_iconst (v := (0)) C 16 dL_pass_15 (by decide) rfl ?_
    exact x_hret C0 dL_pass_16 (show 0 + rm'.cells ≤ 4 by omega) (show 0 + rm'.slots ≤ 48 by omega) ⟨_, rfl, Or.inl ⟨rfl, r, w1, hr, rfl⟩⟩
  · have hE2 := hE E w1 hX
    subst hE2
    refine ⟨[], [], (0, 9, 12, 13), rfl, (fun y hy => nomatch hy), rfl, by decide, (List.mem_cons_of_mem _ (List.mem_append_left _ (List.mem_append_left _ (List.mem_append_left _ (List.mem_append_left _ (List.mem_append_left _ (List.mem_append_left _ (List.mem_append_left _ (List.mem_append_left _ (List.mem_append_left _ (List.mem_of_getElem? (i := 0) rfl))))))))))), by decide, fun q => ?_⟩
    refine x_astore_n C 13 dL_pass_12 (by decide) rfl rfl ?_
    refine x_iconst (v := (1)) C 14 dL_pass_13 (by decide) rfl ?_
    exact x_hret C0 dL_pass_14 (show 0 + rm'.cells ≤ 4 by omega) (show 0 + rm'.slots ≤ 48 by omega) ⟨_, rfl, Or.inr ⟨w1, ⟨hX, rfl⟩, rfl⟩⟩
set_option maxRecDepth 100000 in
set_option maxHeartbeats 4000000 in
theorem tL_cueLevel (hl : l.stackTraces = false) {p0 : Int32} {P : (Int32 → va_W → Prop)} (hR : rm'.frames ≤ 58 ∧ rm'.locals ≤ 1400) (hf : rm'.cells ≤ 4 ∧ rm'.slots ≤ 48) (h : Ct (gm D a E0) l yX5_cueLevel wsX5_cueLevel rm' [.ref x, .int p0] w (qI P) PX) (hx : ∃ (q0 : Nat) (fs : List Value), w[q0]? = some (x, .inr (9, fs))) (hE : ∀ E w1, PX E w1 → E = "java/lang/IndexOutOfBoundsException") : Ct (gm D a E0) l yL_cueLevel wsL_cueLevel { frames := 60, cells := 4, slots := 48, locals := 1500 } [.ref x, .int p0, .ref o] (w ++ outL a o f) (qI fun v w2 => (v = 0 ∧ ∃ r w1, P r w1 ∧ w2 = w1 ++ outL a o (vp_updL f 0 r.toInt64)) ∨ ∃ w1, ((PX "java/lang/IndexOutOfBoundsException" w1 ∧ v = 1)) ∧ w2 = w1 ++ outL a o f) noX := by
  obtain ⟨q0, fs, hq0⟩ := hx
  refine Ct.ofH [some (.ref x), some (.int p0), some (.ref o), none] rfl hl (by decide) (Nat.le_of_ble_eq_true rfl) rfl (fun φ C0 => ?_)
  have C := C0.1
  refine x_aload_n C 1 dL_cueLevel_0 rfl rfl ?_
  refine x_iconst (v := (0)) C 2 dL_cueLevel_1 (by decide) rfl ?_
  refine x_aload_n C 3 dL_cueLevel_2 rfl rfl ?_
  refine x_iload_n C 4 dL_cueLevel_3 rfl rfl ?_
  refine x_callVc C0 7 q0 9 1 h rfl gL_cueLevel_X5_cueLevel ⟨rfl, by decide, by decide, rfl⟩ ⟨show rm'.frames + 1 ≤ 60 by omega, show 8 + (2 + 11) + rm'.locals ≤ 1500 by omega⟩ rfl hq0 rfl rfl (Nat.le_of_ble_eq_true rfl) ⟨show 0 + rm'.cells ≤ 4 by omega, show 0 + rm'.slots ≤ 48 by omega⟩ dL_cueLevel_4 rfl (fun rv w1 hr => ?_) (fun E w1 hX => ?_)
  · obtain ⟨r, rfl, hr⟩ := hr
    refine x_i2l C 8 dL_cueLevel_7 rfl rfl ?_
    refine x_last C 9 w1.length 3 at_end rfl vp_in0 dL_cueLevel_8 rfl ?_
    rw [show ∀ z, (w1 ++ outL a o f).set w1.length z = w1 ++ [z] from fun _ => set_end]
    refine x_goto C 15 dL_cueLevel_9 (by decide) ?_
    refine x_iconst (v := (0)) C 16 dL_cueLevel_15 (by decide) rfl ?_
    exact x_hret C0 dL_cueLevel_16 (show 0 + rm'.cells ≤ 4 by omega) (show 0 + rm'.slots ≤ 48 by omega) ⟨_, rfl, Or.inl ⟨rfl, r, w1, hr, rfl⟩⟩
  · have hE2 := hE E w1 hX
    subst hE2
    refine ⟨[], [], (0, 9, 12, 29), rfl, (fun y hy => nomatch hy), rfl, by decide, (List.mem_cons_of_mem _ (List.mem_append_left _ (List.mem_append_left _ (List.mem_append_left _ (List.mem_append_left _ (List.mem_of_getElem? (i := 0) rfl)))))), by decide, fun q => ?_⟩
    refine x_astore_n C 13 dL_cueLevel_12 (by decide) rfl rfl ?_
    refine x_iconst (v := (1)) C 14 dL_cueLevel_13 (by decide) rfl ?_
    exact x_hret C0 dL_cueLevel_14 (show 0 + rm'.cells ≤ 4 by omega) (show 0 + rm'.slots ≤ 48 by omega) ⟨_, rfl, Or.inr ⟨w1, ⟨hX, rfl⟩, rfl⟩⟩
set_option maxRecDepth 100000 in
set_option maxHeartbeats 4000000 in
theorem tL_addGroup (hl : l.stackTraces = false) {P : (Int32 → va_W → Prop)} (hR : rm'.frames ≤ 58 ∧ rm'.locals ≤ 1400) (hf : rm'.cells ≤ 4 ∧ rm'.slots ≤ 48) (h : Ct (gm D a E0) l yX5_addGroup wsX5_addGroup rm' [.ref x] w (qI P) PX) (hx : ∃ (q0 : Nat) (fs : List Value), w[q0]? = some (x, .inr (9, fs))) (hE : ∀ E w1, PX E w1 → E = "java/lang/IllegalStateException") : Ct (gm D a E0) l yL_addGroup wsL_addGroup { frames := 60, cells := 4, slots := 48, locals := 1500 } [.ref x, .ref o] (w ++ outL a o f) (qI fun v w2 => (v = 0 ∧ ∃ r w1, P r w1 ∧ w2 = w1 ++ outL a o (vp_updL f 0 r.toInt64)) ∨ ∃ w1, ((PX "java/lang/IllegalStateException" w1 ∧ v = 1)) ∧ w2 = w1 ++ outL a o f) noX := by
  obtain ⟨q0, fs, hq0⟩ := hx
  refine Ct.ofH [some (.ref x), some (.ref o), none] rfl hl (by decide) (Nat.le_of_ble_eq_true rfl) rfl (fun φ C0 => ?_)
  have C := C0.1
  refine x_aload_n C 1 dL_addGroup_0 rfl rfl ?_
  refine x_iconst (v := (0)) C 2 dL_addGroup_1 (by decide) rfl ?_
  refine x_aload_n C 3 dL_addGroup_2 rfl rfl ?_
  refine x_callVc C0 6 q0 9 0 h rfl gL_addGroup_X5_addGroup ⟨rfl, by decide, by decide, rfl⟩ ⟨show rm'.frames + 1 ≤ 60 by omega, show 8 + (1 + 11) + rm'.locals ≤ 1500 by omega⟩ rfl hq0 rfl rfl (Nat.le_of_ble_eq_true rfl) ⟨show 0 + rm'.cells ≤ 4 by omega, show 0 + rm'.slots ≤ 48 by omega⟩ dL_addGroup_3 rfl (fun rv w1 hr => ?_) (fun E w1 hX => ?_)
  · obtain ⟨r, rfl, hr⟩ := hr
    refine x_i2l C 7 dL_addGroup_6 rfl rfl ?_
    refine x_last C 8 w1.length 3 at_end rfl vp_in0 dL_addGroup_7 rfl ?_
    rw [show ∀ z, (w1 ++ outL a o f).set w1.length z = w1 ++ [z] from fun _ => set_end]
    refine x_goto C 14 dL_addGroup_8 (by decide) ?_
    refine x_iconst (v := (0)) C 15 dL_addGroup_14 (by decide) rfl ?_
    exact x_hret C0 dL_addGroup_15 (show 0 + rm'.cells ≤ 4 by omega) (show 0 + rm'.slots ≤ 48 by omega) ⟨_, rfl, Or.inl ⟨rfl, r, w1, hr, rfl⟩⟩
  · have hE2 := hE E w1 hX
    subst hE2
    refine ⟨[], [], (0, 8, 11, 17), rfl, (fun y hy => nomatch hy), rfl, by decide, (List.mem_cons_of_mem _ (List.mem_append_left _ (List.mem_append_left _ (List.mem_append_left _ (List.mem_append_left _ (List.mem_append_left _ (List.mem_append_left _ (List.mem_of_getElem? (i := 0) rfl)))))))), by decide, fun q => ?_⟩
    refine x_astore_n C 12 dL_addGroup_11 (by decide) rfl rfl ?_
    refine x_iconst (v := (1)) C 13 dL_addGroup_12 (by decide) rfl ?_
    exact x_hret C0 dL_addGroup_13 (show 0 + rm'.cells ≤ 4 by omega) (show 0 + rm'.slots ≤ 48 by omega) ⟨_, rfl, Or.inr ⟨w1, ⟨hX, rfl⟩, rfl⟩⟩
set_option maxRecDepth 100000 in
set_option maxHeartbeats 4000000 in
theorem tL_setMember (hl : l.stackTraces = false) {p0 p1 p2 : Int32} {P : (Int32 → va_W → Prop)} (hR : rm'.frames ≤ 58 ∧ rm'.locals ≤ 1400) (hf : rm'.cells ≤ 4 ∧ rm'.slots ≤ 48) (h : Ct (gm D a E0) l yX5_setMember wsX5_setMember rm' [.ref x, .int p0, .int p1, .int p2] w (qI P) PX) (hx : ∃ (q0 : Nat) (fs : List Value), w[q0]? = some (x, .inr (9, fs))) (hE : ∀ E w1, PX E w1 → E = "java/lang/IndexOutOfBoundsException") : Ct (gm D a E0) l yL_setMember wsL_setMember { frames := 60, cells := 4, slots := 48, locals := 1500 } [.ref x, .int p0, .int p1, .int p2, .ref o] (w ++ outL a o f) (qI fun v w2 => (v = 0 ∧ ∃ r w1, P r w1 ∧ w2 = w1 ++ outL a o (vp_updL f 0 (if r = 0 then 0 else 1))) ∨ ∃ w1, ((PX "java/lang/IndexOutOfBoundsException" w1 ∧ v = 1)) ∧ w2 = w1 ++ outL a o f) noX := by
  obtain ⟨q0, fs, hq0⟩ := hx
  refine Ct.ofH [some (.ref x), some (.int p0), some (.int p1), some (.int p2), some (.ref o), none] rfl hl (by decide) (Nat.le_of_ble_eq_true rfl) rfl (fun φ C0 => ?_)
  have C := C0.1
  refine x_aload C 2 dL_setMember_0 rfl rfl ?_
  refine x_iconst (v := (0)) C 3 dL_setMember_2 (by decide) rfl ?_
  refine x_aload_n C 4 dL_setMember_3 rfl rfl ?_
  refine x_iload_n C 5 dL_setMember_4 rfl rfl ?_
  refine x_iload_n C 6 dL_setMember_5 rfl rfl ?_
  refine x_iload_n C 7 dL_setMember_6 rfl rfl ?_
  refine x_callVc C0 10 q0 9 3 h rfl gL_setMember_X5_setMember ⟨rfl, by decide, by decide, rfl⟩ ⟨show rm'.frames + 1 ≤ 60 by omega, show 8 + (6 + 11) + rm'.locals ≤ 1500 by omega⟩ rfl hq0 rfl rfl (Nat.le_of_ble_eq_true rfl) ⟨show 0 + rm'.cells ≤ 4 by omega, show 0 + rm'.slots ≤ 48 by omega⟩ dL_setMember_7 rfl (fun rv w1 hr => ?_) (fun E w1 hX => ?_)
  · obtain ⟨r, rfl, hr⟩ := hr
    refine x_if_eq C 17 13 dL_setMember_10 (by decide) rfl (fun z => ?_) (fun z => ?_)
    · refine x_lconst (v := 0) C 18 dL_setMember_17 (by decide) rfl ?_
      refine x_last C 19 w1.length 3 at_end rfl vp_in0 dL_setMember_18 rfl ?_
      rw [show ∀ z, (w1 ++ outL a o f).set w1.length z = w1 ++ [z] from fun _ => set_end]
      refine x_goto C 26 dL_setMember_19 (by decide) ?_
      refine x_iconst (v := (0)) C 27 dL_setMember_26 (by decide) rfl ?_
      exact x_hret C0 dL_setMember_27 (show 0 + rm'.cells ≤ 4 by omega) (show 0 + rm'.slots ≤ 48 by omega) ⟨_, rfl, Or.inl ⟨rfl, r, w1, hr, by rw [if_pos z]; rfl⟩⟩
    · refine x_lconst (v := 1) C 14 dL_setMember_13 (by decide) rfl ?_
      refine x_goto C 18 dL_setMember_14 (by decide) ?_
      refine x_last C 19 w1.length 3 at_end rfl vp_in0 dL_setMember_18 rfl ?_
      rw [show ∀ z, (w1 ++ outL a o f).set w1.length z = w1 ++ [z] from fun _ => set_end]
      refine x_goto C 26 dL_setMember_19 (by decide) ?_
      refine x_iconst (v := (0)) C 27 dL_setMember_26 (by decide) rfl ?_
      exact x_hret C0 dL_setMember_27 (show 0 + rm'.cells ≤ 4 by omega) (show 0 + rm'.slots ≤ 48 by omega) ⟨_, rfl, Or.inl ⟨rfl, r, w1, hr, by rw [if_neg z]; rfl⟩⟩
  · have hE2 := hE E w1 hX
    subst hE2
    refine ⟨[], [], (0, 19, 22, 29), rfl, (fun y hy => nomatch hy), rfl, by decide, (List.mem_cons_of_mem _ (List.mem_append_left _ (List.mem_append_left _ (List.mem_append_left _ (List.mem_append_left _ (List.mem_append_left _ (List.mem_append_left _ (List.mem_of_getElem? (i := 0) rfl)))))))), by decide, fun q => ?_⟩
    refine x_astore C 24 dL_setMember_22 (by decide) rfl rfl ?_
    refine x_iconst (v := (1)) C 25 dL_setMember_24 (by decide) rfl ?_
    exact x_hret C0 dL_setMember_25 (show 0 + rm'.cells ≤ 4 by omega) (show 0 + rm'.slots ≤ 48 by omega) ⟨_, rfl, Or.inr ⟨w1, ⟨hX, rfl⟩, rfl⟩⟩
set_option maxRecDepth 100000 in
set_option maxHeartbeats 4000000 in
theorem tL_setFader (hl : l.stackTraces = false) {p0 p1 : Int32} {P : (Int32 → va_W → Prop)} (hR : rm'.frames ≤ 58 ∧ rm'.locals ≤ 1400) (hf : rm'.cells ≤ 4 ∧ rm'.slots ≤ 48) (h : Ct (gm D a E0) l yX5_setFader wsX5_setFader rm' [.ref x, .int p0, .int p1] w (qI P) PX) (hx : ∃ (q0 : Nat) (fs : List Value), w[q0]? = some (x, .inr (9, fs))) (hE : ∀ E w1, PX E w1 → E = "java/lang/IndexOutOfBoundsException" ∨ E = "java/lang/IllegalArgumentException") : Ct (gm D a E0) l yL_setFader wsL_setFader { frames := 60, cells := 4, slots := 48, locals := 1500 } [.ref x, .int p0, .int p1, .ref o] (w ++ outL a o f) (qI fun v w2 => (v = 0 ∧ ∃ r w1, P r w1 ∧ w2 = w1 ++ outL a o (vp_updL f 0 r.toInt64)) ∨ ∃ w1, ((PX "java/lang/IndexOutOfBoundsException" w1 ∧ v = 1) ∨ (PX "java/lang/IllegalArgumentException" w1 ∧ v = 2)) ∧ w2 = w1 ++ outL a o f) noX := by
  obtain ⟨q0, fs, hq0⟩ := hx
  refine Ct.ofH [some (.ref x), some (.int p0), some (.int p1), some (.ref o), none] rfl hl (by decide) (Nat.le_of_ble_eq_true rfl) rfl (fun φ C0 => ?_)
  have C := C0.1
  refine x_aload_n C 1 dL_setFader_0 rfl rfl ?_
  refine x_iconst (v := (0)) C 2 dL_setFader_1 (by decide) rfl ?_
  refine x_aload_n C 3 dL_setFader_2 rfl rfl ?_
  refine x_iload_n C 4 dL_setFader_3 rfl rfl ?_
  refine x_iload_n C 5 dL_setFader_4 rfl rfl ?_
  refine x_callVc C0 8 q0 9 2 h rfl gL_setFader_X5_setFader ⟨rfl, by decide, by decide, rfl⟩ ⟨show rm'.frames + 1 ≤ 60 by omega, show 8 + (3 + 11) + rm'.locals ≤ 1500 by omega⟩ rfl hq0 rfl rfl (Nat.le_of_ble_eq_true rfl) ⟨show 0 + rm'.cells ≤ 4 by omega, show 0 + rm'.slots ≤ 48 by omega⟩ dL_setFader_5 rfl (fun rv w1 hr => ?_) (fun E w1 hX => ?_)
  · obtain ⟨r, rfl, hr⟩ := hr
    refine x_i2l C 9 dL_setFader_8 rfl rfl ?_
    refine x_last C 10 w1.length 3 at_end rfl vp_in0 dL_setFader_9 rfl ?_
    rw [show ∀ z, (w1 ++ outL a o f).set w1.length z = w1 ++ [z] from fun _ => set_end]
    refine x_goto C 21 dL_setFader_10 (by decide) ?_
    refine x_iconst (v := (0)) C 22 dL_setFader_21 (by decide) rfl ?_
    exact x_hret C0 dL_setFader_22 (show 0 + rm'.cells ≤ 4 by omega) (show 0 + rm'.slots ≤ 48 by omega) ⟨_, rfl, Or.inl ⟨rfl, r, w1, hr, rfl⟩⟩
  · have hE2 := hE E w1 hX
    rcases hE2 with rfl | rfl
    · refine ⟨[], [(0, 10, 17, 13)], (0, 10, 13, 29), rfl, (fun y hy => nomatch hy), rfl, by decide, (List.mem_cons_of_mem _ (List.mem_append_left _ (List.mem_append_left _ (List.mem_append_left _ (List.mem_append_left _ (List.mem_append_left _ (List.mem_append_left _ (List.mem_append_left _ (List.mem_append_left _ (List.mem_of_getElem? (i := 0) rfl)))))))))), by decide, fun q => ?_⟩
      refine x_astore C 15 dL_setFader_13 (by decide) rfl rfl ?_
      refine x_iconst (v := (1)) C 16 dL_setFader_15 (by decide) rfl ?_
      exact x_hret C0 dL_setFader_16 (show 0 + rm'.cells ≤ 4 by omega) (show 0 + rm'.slots ≤ 48 by omega) ⟨_, rfl, Or.inr ⟨w1, Or.inl ⟨hX, rfl⟩, rfl⟩⟩
    · refine ⟨[(0, 10, 13, 29)], [], (0, 10, 17, 13), rfl, List.forall_mem_cons.mpr ⟨⟨by decide, "java/lang/IndexOutOfBoundsException", (List.mem_cons_of_mem _ (List.mem_append_left _ (List.mem_append_left _ (List.mem_append_left _ (List.mem_append_left _ (List.mem_append_left _ (List.mem_append_left _ (List.mem_append_left _ (List.mem_append_left _ (List.mem_of_getElem? (i := 0) rfl)))))))))), by decide, by decide⟩, fun _ h => nomatch h⟩, rfl, by decide, (List.mem_cons_of_mem _ (List.mem_append_left _ (List.mem_append_left _ (List.mem_append_left _ (List.mem_append_left _ (List.mem_append_left _ (List.mem_append_left _ (List.mem_append_left _ (List.mem_append_left _ (List.mem_of_getElem? (i := 1) rfl)))))))))), by decide, fun q => ?_⟩
      refine x_astore C 19 dL_setFader_17 (by decide) rfl rfl ?_
      refine x_iconst (v := (2)) C 20 dL_setFader_19 (by decide) rfl ?_
      exact x_hret C0 dL_setFader_20 (show 0 + rm'.cells ≤ 4 by omega) (show 0 + rm'.slots ≤ 48 by omega) ⟨_, rfl, Or.inr ⟨w1, Or.inr (⟨hX, rfl⟩), rfl⟩⟩
set_option maxRecDepth 100000 in
set_option maxHeartbeats 4000000 in
theorem tL_setLatest (hl : l.stackTraces = false) {p0 p1 : Int32} {P : (Int32 → va_W → Prop)} (hR : rm'.frames ≤ 58 ∧ rm'.locals ≤ 1400) (hf : rm'.cells ≤ 4 ∧ rm'.slots ≤ 48) (h : Ct (gm D a E0) l yX5_setLatest wsX5_setLatest rm' [.ref x, .int p0, .int p1] w (qI P) PX) (hx : ∃ (q0 : Nat) (fs : List Value), w[q0]? = some (x, .inr (9, fs))) (hE : ∀ E w1, PX E w1 → E = "java/lang/IndexOutOfBoundsException") : Ct (gm D a E0) l yL_setLatest wsL_setLatest { frames := 60, cells := 4, slots := 48, locals := 1500 } [.ref x, .int p0, .int p1, .ref o] (w ++ outL a o f) (qI fun v w2 => (v = 0 ∧ ∃ r w1, P r w1 ∧ w2 = w1 ++ outL a o (vp_updL f 0 (if r = 0 then 0 else 1))) ∨ ∃ w1, ((PX "java/lang/IndexOutOfBoundsException" w1 ∧ v = 1)) ∧ w2 = w1 ++ outL a o f) noX := by
  obtain ⟨q0, fs, hq0⟩ := hx
  refine Ct.ofH [some (.ref x), some (.int p0), some (.int p1), some (.ref o), none] rfl hl (by decide) (Nat.le_of_ble_eq_true rfl) rfl (fun φ C0 => ?_)
  have C := C0.1
  refine x_aload_n C 1 dL_setLatest_0 rfl rfl ?_
  refine x_iconst (v := (0)) C 2 dL_setLatest_1 (by decide) rfl ?_
  refine x_aload_n C 3 dL_setLatest_2 rfl rfl ?_
  refine x_iload_n C 4 dL_setLatest_3 rfl rfl ?_
  refine x_iload_n C 5 dL_setLatest_4 rfl rfl ?_
  refine x_callVc C0 8 q0 9 2 h rfl gL_setLatest_X5_setLatest ⟨rfl, by decide, by decide, rfl⟩ ⟨show rm'.frames + 1 ≤ 60 by omega, show 8 + (4 + 11) + rm'.locals ≤ 1500 by omega⟩ rfl hq0 rfl rfl (Nat.le_of_ble_eq_true rfl) ⟨show 0 + rm'.cells ≤ 4 by omega, show 0 + rm'.slots ≤ 48 by omega⟩ dL_setLatest_5 rfl (fun rv w1 hr => ?_) (fun E w1 hX => ?_)
  · obtain ⟨r, rfl, hr⟩ := hr
    refine x_if_eq C 15 11 dL_setLatest_8 (by decide) rfl (fun z => ?_) (fun z => ?_)
    · refine x_lconst (v := 0) C 16 dL_setLatest_15 (by decide) rfl ?_
      refine x_last C 17 w1.length 3 at_end rfl vp_in0 dL_setLatest_16 rfl ?_
      rw [show ∀ z, (w1 ++ outL a o f).set w1.length z = w1 ++ [z] from fun _ => set_end]
      refine x_goto C 24 dL_setLatest_17 (by decide) ?_
      refine x_iconst (v := (0)) C 25 dL_setLatest_24 (by decide) rfl ?_
      exact x_hret C0 dL_setLatest_25 (show 0 + rm'.cells ≤ 4 by omega) (show 0 + rm'.slots ≤ 48 by omega) ⟨_, rfl, Or.inl ⟨rfl, r, w1, hr, by rw [if_pos z]; rfl⟩⟩
    · refine x_lconst (v := 1) C 12 dL_setLatest_11 (by decide) rfl ?_
      refine x_goto C 16 dL_setLatest_12 (by decide) ?_
      refine x_last C 17 w1.length 3 at_end rfl vp_in0 dL_setLatest_16 rfl ?_
      rw [show ∀ z, (w1 ++ outL a o f).set w1.length z = w1 ++ [z] from fun _ => set_end]
      refine x_goto C 24 dL_setLatest_17 (by decide) ?_
      refine x_iconst (v := (0)) C 25 dL_setLatest_24 (by decide) rfl ?_
      exact x_hret C0 dL_setLatest_25 (show 0 + rm'.cells ≤ 4 by omega) (show 0 + rm'.slots ≤ 48 by omega) ⟨_, rfl, Or.inl ⟨rfl, r, w1, hr, by rw [if_neg z]; rfl⟩⟩
  · have hE2 := hE E w1 hX
    subst hE2
    refine ⟨[], [], (0, 17, 20, 29), rfl, (fun y hy => nomatch hy), rfl, by decide, (List.mem_cons_of_mem _ (List.mem_append_left _ (List.mem_append_left _ (List.mem_append_left _ (List.mem_append_left _ (List.mem_of_getElem? (i := 0) rfl)))))), by decide, fun q => ?_⟩
    refine x_astore C 22 dL_setLatest_20 (by decide) rfl rfl ?_
    refine x_iconst (v := (1)) C 23 dL_setLatest_22 (by decide) rfl ?_
    exact x_hret C0 dL_setLatest_23 (show 0 + rm'.cells ≤ 4 by omega) (show 0 + rm'.slots ≤ 48 by omega) ⟨_, rfl, Or.inr ⟨w1, ⟨hX, rfl⟩, rfl⟩⟩
set_option maxRecDepth 100000 in
set_option maxHeartbeats 4000000 in
theorem tL_latestSource (hl : l.stackTraces = false) {p0 : Int32} {P : (Int32 → va_W → Prop)} (hR : rm'.frames ≤ 58 ∧ rm'.locals ≤ 1400) (hf : rm'.cells ≤ 4 ∧ rm'.slots ≤ 48) (h : Ct (gm D a E0) l yX5_latestSource wsX5_latestSource rm' [.ref x, .int p0] w (qI P) PX) (hx : ∃ (q0 : Nat) (fs : List Value), w[q0]? = some (x, .inr (9, fs))) (hE : ∀ E w1, PX E w1 → E = "java/lang/IndexOutOfBoundsException" ∨ E = "java/util/NoSuchElementException") : Ct (gm D a E0) l yL_latestSource wsL_latestSource { frames := 60, cells := 4, slots := 48, locals := 1500 } [.ref x, .int p0, .ref o] (w ++ outL a o f) (qI fun v w2 => (v = 0 ∧ ∃ r w1, P r w1 ∧ w2 = w1 ++ outL a o (vp_updL f 0 r.toInt64)) ∨ ∃ w1, ((PX "java/lang/IndexOutOfBoundsException" w1 ∧ v = 1) ∨ (PX "java/util/NoSuchElementException" w1 ∧ v = 2)) ∧ w2 = w1 ++ outL a o f) noX := by
  obtain ⟨q0, fs, hq0⟩ := hx
  refine Ct.ofH [some (.ref x), some (.int p0), some (.ref o), none] rfl hl (by decide) (Nat.le_of_ble_eq_true rfl) rfl (fun φ C0 => ?_)
  have C := C0.1
  refine x_aload_n C 1 dL_latestSource_0 rfl rfl ?_
  refine x_iconst (v := (0)) C 2 dL_latestSource_1 (by decide) rfl ?_
  refine x_aload_n C 3 dL_latestSource_2 rfl rfl ?_
  refine x_iload_n C 4 dL_latestSource_3 rfl rfl ?_
  refine x_callVc C0 7 q0 9 1 h rfl gL_latestSource_X5_latestSource ⟨rfl, by decide, by decide, rfl⟩ ⟨show rm'.frames + 1 ≤ 60 by omega, show 8 + (3 + 11) + rm'.locals ≤ 1500 by omega⟩ rfl hq0 rfl rfl (Nat.le_of_ble_eq_true rfl) ⟨show 0 + rm'.cells ≤ 4 by omega, show 0 + rm'.slots ≤ 48 by omega⟩ dL_latestSource_4 rfl (fun rv w1 hr => ?_) (fun E w1 hX => ?_)
  · obtain ⟨r, rfl, hr⟩ := hr
    refine x_i2l C 8 dL_latestSource_7 rfl rfl ?_
    refine x_last C 9 w1.length 3 at_end rfl vp_in0 dL_latestSource_8 rfl ?_
    rw [show ∀ z, (w1 ++ outL a o f).set w1.length z = w1 ++ [z] from fun _ => set_end]
    refine x_goto C 18 dL_latestSource_9 (by decide) ?_
    refine x_iconst (v := (0)) C 19 dL_latestSource_18 (by decide) rfl ?_
    exact x_hret C0 dL_latestSource_19 (show 0 + rm'.cells ≤ 4 by omega) (show 0 + rm'.slots ≤ 48 by omega) ⟨_, rfl, Or.inl ⟨rfl, r, w1, hr, rfl⟩⟩
  · have hE2 := hE E w1 hX
    rcases hE2 with rfl | rfl
    · refine ⟨[], [(0, 9, 15, 23)], (0, 9, 12, 29), rfl, (fun y hy => nomatch hy), rfl, by decide, (List.mem_cons_of_mem _ (List.mem_append_left _ (List.mem_append_left _ (List.mem_append_left _ (List.mem_append_left _ (List.mem_append_left _ (List.mem_of_getElem? (i := 0) rfl))))))), by decide, fun q => ?_⟩
      refine x_astore_n C 13 dL_latestSource_12 (by decide) rfl rfl ?_
      refine x_iconst (v := (1)) C 14 dL_latestSource_13 (by decide) rfl ?_
      exact x_hret C0 dL_latestSource_14 (show 0 + rm'.cells ≤ 4 by omega) (show 0 + rm'.slots ≤ 48 by omega) ⟨_, rfl, Or.inr ⟨w1, Or.inl ⟨hX, rfl⟩, rfl⟩⟩
    · refine ⟨[(0, 9, 12, 29)], [], (0, 9, 15, 23), rfl, List.forall_mem_cons.mpr ⟨⟨by decide, "java/lang/IndexOutOfBoundsException", (List.mem_cons_of_mem _ (List.mem_append_left _ (List.mem_append_left _ (List.mem_append_left _ (List.mem_append_left _ (List.mem_append_left _ (List.mem_of_getElem? (i := 0) rfl))))))), by decide, by decide⟩, fun _ h => nomatch h⟩, rfl, by decide, (List.mem_cons_of_mem _ (List.mem_append_left _ (List.mem_append_left _ (List.mem_append_left _ (List.mem_append_left _ (List.mem_append_left _ (List.mem_of_getElem? (i := 1) rfl))))))), by decide, fun q => ?_⟩
      refine x_astore_n C 16 dL_latestSource_15 (by decide) rfl rfl ?_
      refine x_iconst (v := (2)) C 17 dL_latestSource_16 (by decide) rfl ?_
      exact x_hret C0 dL_latestSource_17 (show 0 + rm'.cells ≤ 4 by omega) (show 0 + rm'.slots ≤ 48 by omega) ⟨_, rfl, Or.inr ⟨w1, Or.inr (⟨hX, rfl⟩), rfl⟩⟩
set_option maxRecDepth 100000 in
set_option maxHeartbeats 4000000 in
theorem tL_baseLevel (hl : l.stackTraces = false) {p0 : Int32} {P : (Int32 → va_W → Prop)} (hR : rm'.frames ≤ 58 ∧ rm'.locals ≤ 1400) (hf : rm'.cells ≤ 4 ∧ rm'.slots ≤ 48) (h : Ct (gm D a E0) l yX5_baseLevel wsX5_baseLevel rm' [.ref x, .int p0] w (qI P) PX) (hx : ∃ (q0 : Nat) (fs : List Value), w[q0]? = some (x, .inr (9, fs))) (hE : ∀ E w1, PX E w1 → E = "java/lang/IndexOutOfBoundsException") : Ct (gm D a E0) l yL_baseLevel wsL_baseLevel { frames := 60, cells := 4, slots := 48, locals := 1500 } [.ref x, .int p0, .ref o] (w ++ outL a o f) (qI fun v w2 => (v = 0 ∧ ∃ r w1, P r w1 ∧ w2 = w1 ++ outL a o (vp_updL f 0 r.toInt64)) ∨ ∃ w1, ((PX "java/lang/IndexOutOfBoundsException" w1 ∧ v = 1)) ∧ w2 = w1 ++ outL a o f) noX := by
  obtain ⟨q0, fs, hq0⟩ := hx
  refine Ct.ofH [some (.ref x), some (.int p0), some (.ref o), none] rfl hl (by decide) (Nat.le_of_ble_eq_true rfl) rfl (fun φ C0 => ?_)
  have C := C0.1
  refine x_aload_n C 1 dL_baseLevel_0 rfl rfl ?_
  refine x_iconst (v := (0)) C 2 dL_baseLevel_1 (by decide) rfl ?_
  refine x_aload_n C 3 dL_baseLevel_2 rfl rfl ?_
  refine x_iload_n C 4 dL_baseLevel_3 rfl rfl ?_
  refine x_callVc C0 7 q0 9 1 h rfl gL_baseLevel_X5_baseLevel ⟨rfl, by decide, by decide, rfl⟩ ⟨show rm'.frames + 1 ≤ 60 by omega, show 8 + (2 + 11) + rm'.locals ≤ 1500 by omega⟩ rfl hq0 rfl rfl (Nat.le_of_ble_eq_true rfl) ⟨show 0 + rm'.cells ≤ 4 by omega, show 0 + rm'.slots ≤ 48 by omega⟩ dL_baseLevel_4 rfl (fun rv w1 hr => ?_) (fun E w1 hX => ?_)
  · obtain ⟨r, rfl, hr⟩ := hr
    refine x_i2l C 8 dL_baseLevel_7 rfl rfl ?_
    refine x_last C 9 w1.length 3 at_end rfl vp_in0 dL_baseLevel_8 rfl ?_
    rw [show ∀ z, (w1 ++ outL a o f).set w1.length z = w1 ++ [z] from fun _ => set_end]
    refine x_goto C 15 dL_baseLevel_9 (by decide) ?_
    refine x_iconst (v := (0)) C 16 dL_baseLevel_15 (by decide) rfl ?_
    exact x_hret C0 dL_baseLevel_16 (show 0 + rm'.cells ≤ 4 by omega) (show 0 + rm'.slots ≤ 48 by omega) ⟨_, rfl, Or.inl ⟨rfl, r, w1, hr, rfl⟩⟩
  · have hE2 := hE E w1 hX
    subst hE2
    refine ⟨[], [], (0, 9, 12, 29), rfl, (fun y hy => nomatch hy), rfl, by decide, (List.mem_cons_of_mem _ (List.mem_append_left _ (List.mem_append_left _ (List.mem_append_left _ (List.mem_append_left _ (List.mem_append_left _ (List.mem_append_left _ (List.mem_append_left _ (List.mem_of_getElem? (i := 0) rfl))))))))), by decide, fun q => ?_⟩
    refine x_astore_n C 13 dL_baseLevel_12 (by decide) rfl rfl ?_
    refine x_iconst (v := (1)) C 14 dL_baseLevel_13 (by decide) rfl ?_
    exact x_hret C0 dL_baseLevel_14 (show 0 + rm'.cells ≤ 4 by omega) (show 0 + rm'.slots ≤ 48 by omega) ⟨_, rfl, Or.inr ⟨w1, ⟨hX, rfl⟩, rfl⟩⟩
set_option maxRecDepth 100000 in
set_option maxHeartbeats 4000000 in
theorem tL_addEffect (hl : l.stackTraces = false) {p0 p1 p2 p3 p4 : Int32} {P : (Int32 → va_W → Prop)} (hR : rm'.frames ≤ 58 ∧ rm'.locals ≤ 1400) (hf : rm'.cells ≤ 4 ∧ rm'.slots ≤ 48) (h : Ct (gm D a E0) l yX5_addEffect wsX5_addEffect rm' [.ref x, .int p0, .int p1, .int p2, .int p3, .int p4] w (qI P) PX) (hx : ∃ (q0 : Nat) (fs : List Value), w[q0]? = some (x, .inr (9, fs))) (hE : ∀ E w1, PX E w1 → E = "java/lang/IndexOutOfBoundsException" ∨ E = "java/lang/IllegalArgumentException" ∨ E = "java/lang/IllegalStateException") : Ct (gm D a E0) l yL_addEffect wsL_addEffect { frames := 60, cells := 4, slots := 48, locals := 1500 } [.ref x, .int p0, .int p1, .int p2, .int p3, .int p4, .ref o] (w ++ outL a o f) (qI fun v w2 => (v = 0 ∧ ∃ r w1, P r w1 ∧ w2 = w1 ++ outL a o (vp_updL f 0 r.toInt64)) ∨ ∃ w1, ((PX "java/lang/IndexOutOfBoundsException" w1 ∧ v = 1) ∨ (PX "java/lang/IllegalArgumentException" w1 ∧ v = 2) ∨ (PX "java/lang/IllegalStateException" w1 ∧ v = 3)) ∧ w2 = w1 ++ outL a o f) noX := by
  obtain ⟨q0, fs, hq0⟩ := hx
  refine Ct.ofH [some (.ref x), some (.int p0), some (.int p1), some (.int p2), some (.int p3), some (.int p4), some (.ref o), none] rfl hl (by decide) (Nat.le_of_ble_eq_true rfl) rfl (fun φ C0 => ?_)
  have C := C0.1
  refine x_aload C 2 dL_addEffect_0 rfl rfl ?_
  refine x_iconst (v := (0)) C 3 dL_addEffect_2 (by decide) rfl ?_
  refine x_aload_n C 4 dL_addEffect_3 rfl rfl ?_
  refine x_iload_n C 5 dL_addEffect_4 rfl rfl ?_
  refine x_iload_n C 6 dL_addEffect_5 rfl rfl ?_
  refine x_iload_n C 7 dL_addEffect_6 rfl rfl ?_
  refine x_iload C 9 dL_addEffect_7 rfl rfl ?_
  refine x_iload C 11 dL_addEffect_9 rfl rfl ?_
  refine x_callVc C0 14 q0 9 5 h rfl gL_addEffect_X5_addEffect ⟨rfl, by decide, by decide, rfl⟩ ⟨show rm'.frames + 1 ≤ 60 by omega, show 8 + (6 + 11) + rm'.locals ≤ 1500 by omega⟩ rfl hq0 rfl rfl (Nat.le_of_ble_eq_true rfl) ⟨show 0 + rm'.cells ≤ 4 by omega, show 0 + rm'.slots ≤ 48 by omega⟩ dL_addEffect_11 rfl (fun rv w1 hr => ?_) (fun E w1 hX => ?_)
  · obtain ⟨r, rfl, hr⟩ := hr
    refine x_i2l C 15 dL_addEffect_14 rfl rfl ?_
    refine x_last C 16 w1.length 3 at_end rfl vp_in0 dL_addEffect_15 rfl ?_
    rw [show ∀ z, (w1 ++ outL a o f).set w1.length z = w1 ++ [z] from fun _ => set_end]
    refine x_goto C 31 dL_addEffect_16 (by decide) ?_
    refine x_iconst (v := (0)) C 32 dL_addEffect_31 (by decide) rfl ?_
    exact x_hret C0 dL_addEffect_32 (show 0 + rm'.cells ≤ 4 by omega) (show 0 + rm'.slots ≤ 48 by omega) ⟨_, rfl, Or.inl ⟨rfl, r, w1, hr, rfl⟩⟩
  · have hE2 := hE E w1 hX
    rcases hE2 with rfl | rfl | rfl
    · refine ⟨[], [(0, 16, 23, 13), (0, 16, 27, 17)], (0, 16, 19, 29), rfl, (fun y hy => nomatch hy), rfl, by decide, (List.mem_cons_of_mem _ (List.mem_append_left _ (List.mem_append_left _ (List.mem_append_left _ (List.mem_append_left _ (List.mem_append_left _ (List.mem_append_left _ (List.mem_append_left _ (List.mem_append_left _ (List.mem_of_getElem? (i := 0) rfl)))))))))), by decide, fun q => ?_⟩
      refine x_astore C 21 dL_addEffect_19 (by decide) rfl rfl ?_
      refine x_iconst (v := (1)) C 22 dL_addEffect_21 (by decide) rfl ?_
      exact x_hret C0 dL_addEffect_22 (show 0 + rm'.cells ≤ 4 by omega) (show 0 + rm'.slots ≤ 48 by omega) ⟨_, rfl, Or.inr ⟨w1, Or.inl ⟨hX, rfl⟩, rfl⟩⟩
    · refine ⟨[(0, 16, 19, 29)], [(0, 16, 27, 17)], (0, 16, 23, 13), rfl, List.forall_mem_cons.mpr ⟨⟨by decide, "java/lang/IndexOutOfBoundsException", (List.mem_cons_of_mem _ (List.mem_append_left _ (List.mem_append_left _ (List.mem_append_left _ (List.mem_append_left _ (List.mem_append_left _ (List.mem_append_left _ (List.mem_append_left _ (List.mem_append_left _ (List.mem_of_getElem? (i := 0) rfl)))))))))), by decide, by decide⟩, fun _ h => nomatch h⟩, rfl, by decide, (List.mem_cons_of_mem _ (List.mem_append_left _ (List.mem_append_left _ (List.mem_append_left _ (List.mem_append_left _ (List.mem_append_left _ (List.mem_append_left _ (List.mem_append_left _ (List.mem_append_left _ (List.mem_of_getElem? (i := 1) rfl)))))))))), by decide, fun q => ?_⟩
      refine x_astore C 25 dL_addEffect_23 (by decide) rfl rfl ?_
      refine x_iconst (v := (2)) C 26 dL_addEffect_25 (by decide) rfl ?_
      exact x_hret C0 dL_addEffect_26 (show 0 + rm'.cells ≤ 4 by omega) (show 0 + rm'.slots ≤ 48 by omega) ⟨_, rfl, Or.inr ⟨w1, Or.inr (Or.inl ⟨hX, rfl⟩), rfl⟩⟩
    · refine ⟨[(0, 16, 19, 29), (0, 16, 23, 13)], [], (0, 16, 27, 17), rfl, List.forall_mem_cons.mpr ⟨⟨by decide, "java/lang/IndexOutOfBoundsException", (List.mem_cons_of_mem _ (List.mem_append_left _ (List.mem_append_left _ (List.mem_append_left _ (List.mem_append_left _ (List.mem_append_left _ (List.mem_append_left _ (List.mem_append_left _ (List.mem_append_left _ (List.mem_of_getElem? (i := 0) rfl)))))))))), by decide, by decide⟩, List.forall_mem_cons.mpr ⟨⟨by decide, "java/lang/IllegalArgumentException", (List.mem_cons_of_mem _ (List.mem_append_left _ (List.mem_append_left _ (List.mem_append_left _ (List.mem_append_left _ (List.mem_append_left _ (List.mem_append_left _ (List.mem_append_left _ (List.mem_append_left _ (List.mem_of_getElem? (i := 1) rfl)))))))))), by decide, by decide⟩, fun _ h => nomatch h⟩⟩, rfl, by decide, (List.mem_cons_of_mem _ (List.mem_append_left _ (List.mem_append_left _ (List.mem_append_left _ (List.mem_append_left _ (List.mem_append_left _ (List.mem_append_left _ (List.mem_append_left _ (List.mem_append_left _ (List.mem_of_getElem? (i := 2) rfl)))))))))), by decide, fun q => ?_⟩
      refine x_astore C 29 dL_addEffect_27 (by decide) rfl rfl ?_
      refine x_iconst (v := (3)) C 30 dL_addEffect_29 (by decide) rfl ?_
      exact x_hret C0 dL_addEffect_30 (show 0 + rm'.cells ≤ 4 by omega) (show 0 + rm'.slots ≤ 48 by omega) ⟨_, rfl, Or.inr ⟨w1, Or.inr (Or.inr (⟨hX, rfl⟩)), rfl⟩⟩
set_option maxRecDepth 100000 in
set_option maxHeartbeats 4000000 in
theorem tL_startEffect (hl : l.stackTraces = false) {p0 : Int32} {P : (Int32 → va_W → Prop)} (hR : rm'.frames ≤ 58 ∧ rm'.locals ≤ 1400) (hf : rm'.cells ≤ 4 ∧ rm'.slots ≤ 48) (h : Ct (gm D a E0) l yX5_startEffect wsX5_startEffect rm' [.ref x, .int p0] w (qI P) PX) (hx : ∃ (q0 : Nat) (fs : List Value), w[q0]? = some (x, .inr (9, fs))) (hE : ∀ E w1, PX E w1 → E = "java/lang/IndexOutOfBoundsException" ∨ E = "java/lang/IllegalStateException") : Ct (gm D a E0) l yL_startEffect wsL_startEffect { frames := 60, cells := 4, slots := 48, locals := 1500 } [.ref x, .int p0, .ref o] (w ++ outL a o f) (qI fun v w2 => (v = 0 ∧ ∃ r w1, P r w1 ∧ w2 = w1 ++ outL a o (vp_updL f 0 r.toInt64)) ∨ ∃ w1, ((PX "java/lang/IndexOutOfBoundsException" w1 ∧ v = 1) ∨ (PX "java/lang/IllegalStateException" w1 ∧ v = 2)) ∧ w2 = w1 ++ outL a o f) noX := by
  obtain ⟨q0, fs, hq0⟩ := hx
  refine Ct.ofH [some (.ref x), some (.int p0), some (.ref o), none] rfl hl (by decide) (Nat.le_of_ble_eq_true rfl) rfl (fun φ C0 => ?_)
  have C := C0.1
  refine x_aload_n C 1 dL_startEffect_0 rfl rfl ?_
  refine x_iconst (v := (0)) C 2 dL_startEffect_1 (by decide) rfl ?_
  refine x_aload_n C 3 dL_startEffect_2 rfl rfl ?_
  refine x_iload_n C 4 dL_startEffect_3 rfl rfl ?_
  refine x_callVc C0 7 q0 9 1 h rfl gL_startEffect_X5_startEffect ⟨rfl, by decide, by decide, rfl⟩ ⟨show rm'.frames + 1 ≤ 60 by omega, show 8 + (3 + 11) + rm'.locals ≤ 1500 by omega⟩ rfl hq0 rfl rfl (Nat.le_of_ble_eq_true rfl) ⟨show 0 + rm'.cells ≤ 4 by omega, show 0 + rm'.slots ≤ 48 by omega⟩ dL_startEffect_4 rfl (fun rv w1 hr => ?_) (fun E w1 hX => ?_)
  · obtain ⟨r, rfl, hr⟩ := hr
    refine x_i2l C 8 dL_startEffect_7 rfl rfl ?_
    refine x_last C 9 w1.length 3 at_end rfl vp_in0 dL_startEffect_8 rfl ?_
    rw [show ∀ z, (w1 ++ outL a o f).set w1.length z = w1 ++ [z] from fun _ => set_end]
    refine x_goto C 18 dL_startEffect_9 (by decide) ?_
    refine x_iconst (v := (0)) C 19 dL_startEffect_18 (by decide) rfl ?_
    exact x_hret C0 dL_startEffect_19 (show 0 + rm'.cells ≤ 4 by omega) (show 0 + rm'.slots ≤ 48 by omega) ⟨_, rfl, Or.inl ⟨rfl, r, w1, hr, rfl⟩⟩
  · have hE2 := hE E w1 hX
    rcases hE2 with rfl | rfl
    · refine ⟨[], [(0, 9, 15, 17)], (0, 9, 12, 29), rfl, (fun y hy => nomatch hy), rfl, by decide, (List.mem_cons_of_mem _ (List.mem_append_left _ (List.mem_append_left _ (List.mem_append_left _ (List.mem_append_left _ (List.mem_append_left _ (List.mem_append_left _ (List.mem_append_left _ (List.mem_of_getElem? (i := 0) rfl))))))))), by decide, fun q => ?_⟩
      refine x_astore_n C 13 dL_startEffect_12 (by decide) rfl rfl ?_
      refine x_iconst (v := (1)) C 14 dL_startEffect_13 (by decide) rfl ?_
      exact x_hret C0 dL_startEffect_14 (show 0 + rm'.cells ≤ 4 by omega) (show 0 + rm'.slots ≤ 48 by omega) ⟨_, rfl, Or.inr ⟨w1, Or.inl ⟨hX, rfl⟩, rfl⟩⟩
    · refine ⟨[(0, 9, 12, 29)], [], (0, 9, 15, 17), rfl, List.forall_mem_cons.mpr ⟨⟨by decide, "java/lang/IndexOutOfBoundsException", (List.mem_cons_of_mem _ (List.mem_append_left _ (List.mem_append_left _ (List.mem_append_left _ (List.mem_append_left _ (List.mem_append_left _ (List.mem_append_left _ (List.mem_append_left _ (List.mem_of_getElem? (i := 0) rfl))))))))), by decide, by decide⟩, fun _ h => nomatch h⟩, rfl, by decide, (List.mem_cons_of_mem _ (List.mem_append_left _ (List.mem_append_left _ (List.mem_append_left _ (List.mem_append_left _ (List.mem_append_left _ (List.mem_append_left _ (List.mem_append_left _ (List.mem_of_getElem? (i := 1) rfl))))))))), by decide, fun q => ?_⟩
      refine x_astore_n C 16 dL_startEffect_15 (by decide) rfl rfl ?_
      refine x_iconst (v := (2)) C 17 dL_startEffect_16 (by decide) rfl ?_
      exact x_hret C0 dL_startEffect_17 (show 0 + rm'.cells ≤ 4 by omega) (show 0 + rm'.slots ≤ 48 by omega) ⟨_, rfl, Or.inr ⟨w1, Or.inr (⟨hX, rfl⟩), rfl⟩⟩
set_option maxRecDepth 100000 in
set_option maxHeartbeats 4000000 in
theorem tL_stopEffect (hl : l.stackTraces = false) {p0 : Int32} {P : (Int32 → va_W → Prop)} (hR : rm'.frames ≤ 58 ∧ rm'.locals ≤ 1400) (hf : rm'.cells ≤ 4 ∧ rm'.slots ≤ 48) (h : Ct (gm D a E0) l yX5_stopEffect wsX5_stopEffect rm' [.ref x, .int p0] w (qI P) PX) (hx : ∃ (q0 : Nat) (fs : List Value), w[q0]? = some (x, .inr (9, fs))) (hE : ∀ E w1, PX E w1 → E = "java/lang/IndexOutOfBoundsException" ∨ E = "java/lang/IllegalStateException") : Ct (gm D a E0) l yL_stopEffect wsL_stopEffect { frames := 60, cells := 4, slots := 48, locals := 1500 } [.ref x, .int p0, .ref o] (w ++ outL a o f) (qI fun v w2 => (v = 0 ∧ ∃ r w1, P r w1 ∧ w2 = w1 ++ outL a o (vp_updL f 0 r.toInt64)) ∨ ∃ w1, ((PX "java/lang/IndexOutOfBoundsException" w1 ∧ v = 1) ∨ (PX "java/lang/IllegalStateException" w1 ∧ v = 2)) ∧ w2 = w1 ++ outL a o f) noX := by
  obtain ⟨q0, fs, hq0⟩ := hx
  refine Ct.ofH [some (.ref x), some (.int p0), some (.ref o), none] rfl hl (by decide) (Nat.le_of_ble_eq_true rfl) rfl (fun φ C0 => ?_)
  have C := C0.1
  refine x_aload_n C 1 dL_stopEffect_0 rfl rfl ?_
  refine x_iconst (v := (0)) C 2 dL_stopEffect_1 (by decide) rfl ?_
  refine x_aload_n C 3 dL_stopEffect_2 rfl rfl ?_
  refine x_iload_n C 4 dL_stopEffect_3 rfl rfl ?_
  refine x_callVc C0 7 q0 9 1 h rfl gL_stopEffect_X5_stopEffect ⟨rfl, by decide, by decide, rfl⟩ ⟨show rm'.frames + 1 ≤ 60 by omega, show 8 + (3 + 11) + rm'.locals ≤ 1500 by omega⟩ rfl hq0 rfl rfl (Nat.le_of_ble_eq_true rfl) ⟨show 0 + rm'.cells ≤ 4 by omega, show 0 + rm'.slots ≤ 48 by omega⟩ dL_stopEffect_4 rfl (fun rv w1 hr => ?_) (fun E w1 hX => ?_)
  · obtain ⟨r, rfl, hr⟩ := hr
    refine x_i2l C 8 dL_stopEffect_7 rfl rfl ?_
    refine x_last C 9 w1.length 3 at_end rfl vp_in0 dL_stopEffect_8 rfl ?_
    rw [show ∀ z, (w1 ++ outL a o f).set w1.length z = w1 ++ [z] from fun _ => set_end]
    refine x_goto C 18 dL_stopEffect_9 (by decide) ?_
    refine x_iconst (v := (0)) C 19 dL_stopEffect_18 (by decide) rfl ?_
    exact x_hret C0 dL_stopEffect_19 (show 0 + rm'.cells ≤ 4 by omega) (show 0 + rm'.slots ≤ 48 by omega) ⟨_, rfl, Or.inl ⟨rfl, r, w1, hr, rfl⟩⟩
  · have hE2 := hE E w1 hX
    rcases hE2 with rfl | rfl
    · refine ⟨[], [(0, 9, 15, 17)], (0, 9, 12, 29), rfl, (fun y hy => nomatch hy), rfl, by decide, (List.mem_cons_of_mem _ (List.mem_append_left _ (List.mem_append_left _ (List.mem_append_left _ (List.mem_append_left _ (List.mem_append_left _ (List.mem_append_left _ (List.mem_append_left _ (List.mem_of_getElem? (i := 0) rfl))))))))), by decide, fun q => ?_⟩
      refine x_astore_n C 13 dL_stopEffect_12 (by decide) rfl rfl ?_
      refine x_iconst (v := (1)) C 14 dL_stopEffect_13 (by decide) rfl ?_
      exact x_hret C0 dL_stopEffect_14 (show 0 + rm'.cells ≤ 4 by omega) (show 0 + rm'.slots ≤ 48 by omega) ⟨_, rfl, Or.inr ⟨w1, Or.inl ⟨hX, rfl⟩, rfl⟩⟩
    · refine ⟨[(0, 9, 12, 29)], [], (0, 9, 15, 17), rfl, List.forall_mem_cons.mpr ⟨⟨by decide, "java/lang/IndexOutOfBoundsException", (List.mem_cons_of_mem _ (List.mem_append_left _ (List.mem_append_left _ (List.mem_append_left _ (List.mem_append_left _ (List.mem_append_left _ (List.mem_append_left _ (List.mem_append_left _ (List.mem_of_getElem? (i := 0) rfl))))))))), by decide, by decide⟩, fun _ h => nomatch h⟩, rfl, by decide, (List.mem_cons_of_mem _ (List.mem_append_left _ (List.mem_append_left _ (List.mem_append_left _ (List.mem_append_left _ (List.mem_append_left _ (List.mem_append_left _ (List.mem_append_left _ (List.mem_of_getElem? (i := 1) rfl))))))))), by decide, fun q => ?_⟩
      refine x_astore_n C 16 dL_stopEffect_15 (by decide) rfl rfl ?_
      refine x_iconst (v := (2)) C 17 dL_stopEffect_16 (by decide) rfl ?_
      exact x_hret C0 dL_stopEffect_17 (show 0 + rm'.cells ≤ 4 by omega) (show 0 + rm'.slots ≤ 48 by omega) ⟨_, rfl, Or.inr ⟨w1, Or.inr (⟨hX, rfl⟩), rfl⟩⟩
set_option maxRecDepth 100000 in
set_option maxHeartbeats 4000000 in
theorem tL_effectOn (hl : l.stackTraces = false) {p0 p1 : Int32} {P : (Int32 → va_W → Prop)} (hR : rm'.frames ≤ 58 ∧ rm'.locals ≤ 1400) (hf : rm'.cells ≤ 4 ∧ rm'.slots ≤ 48) (h : Ct (gm D a E0) l yX5_effectOn wsX5_effectOn rm' [.ref x, .int p0, .int p1] w (qI P) PX) (hx : ∃ (q0 : Nat) (fs : List Value), w[q0]? = some (x, .inr (9, fs))) (hE : ∀ E w1, PX E w1 → E = "java/lang/IndexOutOfBoundsException") : Ct (gm D a E0) l yL_effectOn wsL_effectOn { frames := 60, cells := 4, slots := 48, locals := 1500 } [.ref x, .int p0, .int p1, .ref o] (w ++ outL a o f) (qI fun v w2 => (v = 0 ∧ ∃ r w1, P r w1 ∧ w2 = w1 ++ outL a o (vp_updL f 0 r.toInt64)) ∨ ∃ w1, ((PX "java/lang/IndexOutOfBoundsException" w1 ∧ v = 1)) ∧ w2 = w1 ++ outL a o f) noX := by
  obtain ⟨q0, fs, hq0⟩ := hx
  refine Ct.ofH [some (.ref x), some (.int p0), some (.int p1), some (.ref o), none] rfl hl (by decide) (Nat.le_of_ble_eq_true rfl) rfl (fun φ C0 => ?_)
  have C := C0.1
  refine x_aload_n C 1 dL_effectOn_0 rfl rfl ?_
  refine x_iconst (v := (0)) C 2 dL_effectOn_1 (by decide) rfl ?_
  refine x_aload_n C 3 dL_effectOn_2 rfl rfl ?_
  refine x_iload_n C 4 dL_effectOn_3 rfl rfl ?_
  refine x_iload_n C 5 dL_effectOn_4 rfl rfl ?_
  refine x_callVc C0 8 q0 9 2 h rfl gL_effectOn_X5_effectOn ⟨rfl, by decide, by decide, rfl⟩ ⟨show rm'.frames + 1 ≤ 60 by omega, show 8 + (3 + 11) + rm'.locals ≤ 1500 by omega⟩ rfl hq0 rfl rfl (Nat.le_of_ble_eq_true rfl) ⟨show 0 + rm'.cells ≤ 4 by omega, show 0 + rm'.slots ≤ 48 by omega⟩ dL_effectOn_5 rfl (fun rv w1 hr => ?_) (fun E w1 hX => ?_)
  · obtain ⟨r, rfl, hr⟩ := hr
    refine x_i2l C 9 dL_effectOn_8 rfl rfl ?_
    refine x_last C 10 w1.length 3 at_end rfl vp_in0 dL_effectOn_9 rfl ?_
    rw [show ∀ z, (w1 ++ outL a o f).set w1.length z = w1 ++ [z] from fun _ => set_end]
    refine x_goto C 17 dL_effectOn_10 (by decide) ?_
    refine x_iconst (v := (0)) C 18 dL_effectOn_17 (by decide) rfl ?_
    exact x_hret C0 dL_effectOn_18 (show 0 + rm'.cells ≤ 4 by omega) (show 0 + rm'.slots ≤ 48 by omega) ⟨_, rfl, Or.inl ⟨rfl, r, w1, hr, rfl⟩⟩
  · have hE2 := hE E w1 hX
    subst hE2
    refine ⟨[], [], (0, 10, 13, 29), rfl, (fun y hy => nomatch hy), rfl, by decide, (List.mem_cons_of_mem _ (List.mem_append_left _ (List.mem_append_left _ (List.mem_append_left _ (List.mem_append_left _ (List.mem_append_left _ (List.mem_append_left _ (List.mem_append_left _ (List.mem_append_left _ (List.mem_of_getElem? (i := 0) rfl)))))))))), by decide, fun q => ?_⟩
    refine x_astore C 15 dL_effectOn_13 (by decide) rfl rfl ?_
    refine x_iconst (v := (1)) C 16 dL_effectOn_15 (by decide) rfl ?_
    exact x_hret C0 dL_effectOn_16 (show 0 + rm'.cells ≤ 4 by omega) (show 0 + rm'.slots ≤ 48 by omega) ⟨_, rfl, Or.inr ⟨w1, ⟨hX, rfl⟩, rfl⟩⟩
set_option maxRecDepth 100000 in
set_option maxHeartbeats 4000000 in
theorem tL_park (hl : l.stackTraces = false) {p0 p1 : Int32} {P : (Int32 → va_W → Prop)} (hR : rm'.frames ≤ 58 ∧ rm'.locals ≤ 1400) (hf : rm'.cells ≤ 4 ∧ rm'.slots ≤ 48) (h : Ct (gm D a E0) l yX5_park wsX5_park rm' [.ref x, .int p0, .int p1] w (qI P) PX) (hx : ∃ (q0 : Nat) (fs : List Value), w[q0]? = some (x, .inr (9, fs))) (hE : ∀ E w1, PX E w1 → E = "java/lang/IndexOutOfBoundsException" ∨ E = "java/lang/IllegalArgumentException") : Ct (gm D a E0) l yL_park wsL_park { frames := 60, cells := 4, slots := 48, locals := 1500 } [.ref x, .int p0, .int p1, .ref o] (w ++ outL a o f) (qI fun v w2 => (v = 0 ∧ ∃ r w1, P r w1 ∧ w2 = w1 ++ outL a o (vp_updL f 0 r.toInt64)) ∨ ∃ w1, ((PX "java/lang/IndexOutOfBoundsException" w1 ∧ v = 1) ∨ (PX "java/lang/IllegalArgumentException" w1 ∧ v = 2)) ∧ w2 = w1 ++ outL a o f) noX := by
  obtain ⟨q0, fs, hq0⟩ := hx
  refine Ct.ofH [some (.ref x), some (.int p0), some (.int p1), some (.ref o), none] rfl hl (by decide) (Nat.le_of_ble_eq_true rfl) rfl (fun φ C0 => ?_)
  have C := C0.1
  refine x_aload_n C 1 dL_park_0 rfl rfl ?_
  refine x_iconst (v := (0)) C 2 dL_park_1 (by decide) rfl ?_
  refine x_aload_n C 3 dL_park_2 rfl rfl ?_
  refine x_iload_n C 4 dL_park_3 rfl rfl ?_
  refine x_iload_n C 5 dL_park_4 rfl rfl ?_
  refine x_callVc C0 8 q0 9 2 h rfl gL_park_X5_park ⟨rfl, by decide, by decide, rfl⟩ ⟨show rm'.frames + 1 ≤ 60 by omega, show 8 + (3 + 11) + rm'.locals ≤ 1500 by omega⟩ rfl hq0 rfl rfl (Nat.le_of_ble_eq_true rfl) ⟨show 0 + rm'.cells ≤ 4 by omega, show 0 + rm'.slots ≤ 48 by omega⟩ dL_park_5 rfl (fun rv w1 hr => ?_) (fun E w1 hX => ?_)
  · obtain ⟨r, rfl, hr⟩ := hr
    refine x_i2l C 9 dL_park_8 rfl rfl ?_
    refine x_last C 10 w1.length 3 at_end rfl vp_in0 dL_park_9 rfl ?_
    rw [show ∀ z, (w1 ++ outL a o f).set w1.length z = w1 ++ [z] from fun _ => set_end]
    refine x_goto C 21 dL_park_10 (by decide) ?_
    refine x_iconst (v := (0)) C 22 dL_park_21 (by decide) rfl ?_
    exact x_hret C0 dL_park_22 (show 0 + rm'.cells ≤ 4 by omega) (show 0 + rm'.slots ≤ 48 by omega) ⟨_, rfl, Or.inl ⟨rfl, r, w1, hr, rfl⟩⟩
  · have hE2 := hE E w1 hX
    rcases hE2 with rfl | rfl
    · refine ⟨[], [(0, 10, 17, 13)], (0, 10, 13, 29), rfl, (fun y hy => nomatch hy), rfl, by decide, (List.mem_cons_of_mem _ (List.mem_append_left _ (List.mem_append_left _ (List.mem_append_left _ (List.mem_append_left _ (List.mem_append_left _ (List.mem_append_left _ (List.mem_of_getElem? (i := 0) rfl)))))))), by decide, fun q => ?_⟩
      refine x_astore C 15 dL_park_13 (by decide) rfl rfl ?_
      refine x_iconst (v := (1)) C 16 dL_park_15 (by decide) rfl ?_
      exact x_hret C0 dL_park_16 (show 0 + rm'.cells ≤ 4 by omega) (show 0 + rm'.slots ≤ 48 by omega) ⟨_, rfl, Or.inr ⟨w1, Or.inl ⟨hX, rfl⟩, rfl⟩⟩
    · refine ⟨[(0, 10, 13, 29)], [], (0, 10, 17, 13), rfl, List.forall_mem_cons.mpr ⟨⟨by decide, "java/lang/IndexOutOfBoundsException", (List.mem_cons_of_mem _ (List.mem_append_left _ (List.mem_append_left _ (List.mem_append_left _ (List.mem_append_left _ (List.mem_append_left _ (List.mem_append_left _ (List.mem_of_getElem? (i := 0) rfl)))))))), by decide, by decide⟩, fun _ h => nomatch h⟩, rfl, by decide, (List.mem_cons_of_mem _ (List.mem_append_left _ (List.mem_append_left _ (List.mem_append_left _ (List.mem_append_left _ (List.mem_append_left _ (List.mem_append_left _ (List.mem_of_getElem? (i := 1) rfl)))))))), by decide, fun q => ?_⟩
      refine x_astore C 19 dL_park_17 (by decide) rfl rfl ?_
      refine x_iconst (v := (2)) C 20 dL_park_19 (by decide) rfl ?_
      exact x_hret C0 dL_park_20 (show 0 + rm'.cells ≤ 4 by omega) (show 0 + rm'.slots ≤ 48 by omega) ⟨_, rfl, Or.inr ⟨w1, Or.inr (⟨hX, rfl⟩), rfl⟩⟩
set_option maxRecDepth 100000 in
set_option maxHeartbeats 4000000 in
theorem tL_unpark (hl : l.stackTraces = false) {p0 : Int32} {P : (Int32 → va_W → Prop)} (hR : rm'.frames ≤ 58 ∧ rm'.locals ≤ 1400) (hf : rm'.cells ≤ 4 ∧ rm'.slots ≤ 48) (h : Ct (gm D a E0) l yX5_unpark wsX5_unpark rm' [.ref x, .int p0] w (qI P) PX) (hx : ∃ (q0 : Nat) (fs : List Value), w[q0]? = some (x, .inr (9, fs))) (hE : ∀ E w1, PX E w1 → E = "java/lang/IndexOutOfBoundsException" ∨ E = "java/util/NoSuchElementException") : Ct (gm D a E0) l yL_unpark wsL_unpark { frames := 60, cells := 4, slots := 48, locals := 1500 } [.ref x, .int p0, .ref o] (w ++ outL a o f) (qI fun v w2 => (v = 0 ∧ ∃ r w1, P r w1 ∧ w2 = w1 ++ outL a o (vp_updL f 0 r.toInt64)) ∨ ∃ w1, ((PX "java/lang/IndexOutOfBoundsException" w1 ∧ v = 1) ∨ (PX "java/util/NoSuchElementException" w1 ∧ v = 2)) ∧ w2 = w1 ++ outL a o f) noX := by
  obtain ⟨q0, fs, hq0⟩ := hx
  refine Ct.ofH [some (.ref x), some (.int p0), some (.ref o), none] rfl hl (by decide) (Nat.le_of_ble_eq_true rfl) rfl (fun φ C0 => ?_)
  have C := C0.1
  refine x_aload_n C 1 dL_unpark_0 rfl rfl ?_
  refine x_iconst (v := (0)) C 2 dL_unpark_1 (by decide) rfl ?_
  refine x_aload_n C 3 dL_unpark_2 rfl rfl ?_
  refine x_iload_n C 4 dL_unpark_3 rfl rfl ?_
  refine x_callVc C0 7 q0 9 1 h rfl gL_unpark_X5_unpark ⟨rfl, by decide, by decide, rfl⟩ ⟨show rm'.frames + 1 ≤ 60 by omega, show 8 + (3 + 11) + rm'.locals ≤ 1500 by omega⟩ rfl hq0 rfl rfl (Nat.le_of_ble_eq_true rfl) ⟨show 0 + rm'.cells ≤ 4 by omega, show 0 + rm'.slots ≤ 48 by omega⟩ dL_unpark_4 rfl (fun rv w1 hr => ?_) (fun E w1 hX => ?_)
  · obtain ⟨r, rfl, hr⟩ := hr
    refine x_i2l C 8 dL_unpark_7 rfl rfl ?_
    refine x_last C 9 w1.length 3 at_end rfl vp_in0 dL_unpark_8 rfl ?_
    rw [show ∀ z, (w1 ++ outL a o f).set w1.length z = w1 ++ [z] from fun _ => set_end]
    refine x_goto C 18 dL_unpark_9 (by decide) ?_
    refine x_iconst (v := (0)) C 19 dL_unpark_18 (by decide) rfl ?_
    exact x_hret C0 dL_unpark_19 (show 0 + rm'.cells ≤ 4 by omega) (show 0 + rm'.slots ≤ 48 by omega) ⟨_, rfl, Or.inl ⟨rfl, r, w1, hr, rfl⟩⟩
  · have hE2 := hE E w1 hX
    rcases hE2 with rfl | rfl
    · refine ⟨[], [(0, 9, 15, 23)], (0, 9, 12, 29), rfl, (fun y hy => nomatch hy), rfl, by decide, (List.mem_cons_of_mem _ (List.mem_append_left _ (List.mem_append_left _ (List.mem_append_left _ (List.mem_append_left _ (List.mem_append_left _ (List.mem_of_getElem? (i := 0) rfl))))))), by decide, fun q => ?_⟩
      refine x_astore_n C 13 dL_unpark_12 (by decide) rfl rfl ?_
      refine x_iconst (v := (1)) C 14 dL_unpark_13 (by decide) rfl ?_
      exact x_hret C0 dL_unpark_14 (show 0 + rm'.cells ≤ 4 by omega) (show 0 + rm'.slots ≤ 48 by omega) ⟨_, rfl, Or.inr ⟨w1, Or.inl ⟨hX, rfl⟩, rfl⟩⟩
    · refine ⟨[(0, 9, 12, 29)], [], (0, 9, 15, 23), rfl, List.forall_mem_cons.mpr ⟨⟨by decide, "java/lang/IndexOutOfBoundsException", (List.mem_cons_of_mem _ (List.mem_append_left _ (List.mem_append_left _ (List.mem_append_left _ (List.mem_append_left _ (List.mem_append_left _ (List.mem_of_getElem? (i := 0) rfl))))))), by decide, by decide⟩, fun _ h => nomatch h⟩, rfl, by decide, (List.mem_cons_of_mem _ (List.mem_append_left _ (List.mem_append_left _ (List.mem_append_left _ (List.mem_append_left _ (List.mem_append_left _ (List.mem_of_getElem? (i := 1) rfl))))))), by decide, fun q => ?_⟩
      refine x_astore_n C 16 dL_unpark_15 (by decide) rfl rfl ?_
      refine x_iconst (v := (2)) C 17 dL_unpark_16 (by decide) rfl ?_
      exact x_hret C0 dL_unpark_17 (show 0 + rm'.cells ≤ 4 by omega) (show 0 + rm'.slots ≤ 48 by omega) ⟨_, rfl, Or.inr ⟨w1, Or.inr (⟨hX, rfl⟩), rfl⟩⟩
set_option maxRecDepth 100000 in
set_option maxHeartbeats 4000000 in
theorem tL_setMaster (hl : l.stackTraces = false) {p0 : Int32} {P : (Int32 → va_W → Prop)} (hR : rm'.frames ≤ 58 ∧ rm'.locals ≤ 1400) (hf : rm'.cells ≤ 4 ∧ rm'.slots ≤ 48) (h : Ct (gm D a E0) l yX5_setMaster wsX5_setMaster rm' [.ref x, .int p0] w (qI P) PX) (hx : ∃ (q0 : Nat) (fs : List Value), w[q0]? = some (x, .inr (9, fs))) (hE : ∀ E w1, PX E w1 → E = "java/lang/IllegalArgumentException") : Ct (gm D a E0) l yL_setMaster wsL_setMaster { frames := 60, cells := 4, slots := 48, locals := 1500 } [.ref x, .int p0, .ref o] (w ++ outL a o f) (qI fun v w2 => (v = 0 ∧ ∃ r w1, P r w1 ∧ w2 = w1 ++ outL a o (vp_updL f 0 r.toInt64)) ∨ ∃ w1, ((PX "java/lang/IllegalArgumentException" w1 ∧ v = 1)) ∧ w2 = w1 ++ outL a o f) noX := by
  obtain ⟨q0, fs, hq0⟩ := hx
  refine Ct.ofH [some (.ref x), some (.int p0), some (.ref o), none] rfl hl (by decide) (Nat.le_of_ble_eq_true rfl) rfl (fun φ C0 => ?_)
  have C := C0.1
  refine x_aload_n C 1 dL_setMaster_0 rfl rfl ?_
  refine x_iconst (v := (0)) C 2 dL_setMaster_1 (by decide) rfl ?_
  refine x_aload_n C 3 dL_setMaster_2 rfl rfl ?_
  refine x_iload_n C 4 dL_setMaster_3 rfl rfl ?_
  refine x_callVc C0 7 q0 9 1 h rfl gL_setMaster_X5_setMaster ⟨rfl, by decide, by decide, rfl⟩ ⟨show rm'.frames + 1 ≤ 60 by omega, show 8 + (2 + 11) + rm'.locals ≤ 1500 by omega⟩ rfl hq0 rfl rfl (Nat.le_of_ble_eq_true rfl) ⟨show 0 + rm'.cells ≤ 4 by omega, show 0 + rm'.slots ≤ 48 by omega⟩ dL_setMaster_4 rfl (fun rv w1 hr => ?_) (fun E w1 hX => ?_)
  · obtain ⟨r, rfl, hr⟩ := hr
    refine x_i2l C 8 dL_setMaster_7 rfl rfl ?_
    refine x_last C 9 w1.length 3 at_end rfl vp_in0 dL_setMaster_8 rfl ?_
    rw [show ∀ z, (w1 ++ outL a o f).set w1.length z = w1 ++ [z] from fun _ => set_end]
    refine x_goto C 15 dL_setMaster_9 (by decide) ?_
    refine x_iconst (v := (0)) C 16 dL_setMaster_15 (by decide) rfl ?_
    exact x_hret C0 dL_setMaster_16 (show 0 + rm'.cells ≤ 4 by omega) (show 0 + rm'.slots ≤ 48 by omega) ⟨_, rfl, Or.inl ⟨rfl, r, w1, hr, rfl⟩⟩
  · have hE2 := hE E w1 hX
    subst hE2
    refine ⟨[], [], (0, 9, 12, 13), rfl, (fun y hy => nomatch hy), rfl, by decide, (List.mem_cons_of_mem _ (List.mem_append_left _ (List.mem_append_left _ (List.mem_append_left _ (List.mem_of_getElem? (i := 0) rfl))))), by decide, fun q => ?_⟩
    refine x_astore_n C 13 dL_setMaster_12 (by decide) rfl rfl ?_
    refine x_iconst (v := (1)) C 14 dL_setMaster_13 (by decide) rfl ?_
    exact x_hret C0 dL_setMaster_14 (show 0 + rm'.cells ≤ 4 by omega) (show 0 + rm'.slots ≤ 48 by omega) ⟨_, rfl, Or.inr ⟨w1, ⟨hX, rfl⟩, rfl⟩⟩
set_option maxRecDepth 100000 in
set_option maxHeartbeats 4000000 in
theorem tL_level (hl : l.stackTraces = false) {p0 : Int32} {P : (Int32 → va_W → Prop)} (hR : rm'.frames ≤ 58 ∧ rm'.locals ≤ 1400) (hf : rm'.cells ≤ 4 ∧ rm'.slots ≤ 48) (h : Ct (gm D a E0) l yX5_level wsX5_level rm' [.ref x, .int p0] w (qI P) PX) (hx : ∃ (q0 : Nat) (fs : List Value), w[q0]? = some (x, .inr (9, fs))) (hE : ∀ E w1, PX E w1 → E = "java/lang/IndexOutOfBoundsException") : Ct (gm D a E0) l yL_level wsL_level { frames := 60, cells := 4, slots := 48, locals := 1500 } [.ref x, .int p0, .ref o] (w ++ outL a o f) (qI fun v w2 => (v = 0 ∧ ∃ r w1, P r w1 ∧ w2 = w1 ++ outL a o (vp_updL f 0 r.toInt64)) ∨ ∃ w1, ((PX "java/lang/IndexOutOfBoundsException" w1 ∧ v = 1)) ∧ w2 = w1 ++ outL a o f) noX := by
  obtain ⟨q0, fs, hq0⟩ := hx
  refine Ct.ofH [some (.ref x), some (.int p0), some (.ref o), none] rfl hl (by decide) (Nat.le_of_ble_eq_true rfl) rfl (fun φ C0 => ?_)
  have C := C0.1
  refine x_aload_n C 1 dL_level_0 rfl rfl ?_
  refine x_iconst (v := (0)) C 2 dL_level_1 (by decide) rfl ?_
  refine x_aload_n C 3 dL_level_2 rfl rfl ?_
  refine x_iload_n C 4 dL_level_3 rfl rfl ?_
  refine x_callVc C0 7 q0 9 1 h rfl gL_level_X5_level ⟨rfl, by decide, by decide, rfl⟩ ⟨show rm'.frames + 1 ≤ 60 by omega, show 8 + (2 + 11) + rm'.locals ≤ 1500 by omega⟩ rfl hq0 rfl rfl (Nat.le_of_ble_eq_true rfl) ⟨show 0 + rm'.cells ≤ 4 by omega, show 0 + rm'.slots ≤ 48 by omega⟩ dL_level_4 rfl (fun rv w1 hr => ?_) (fun E w1 hX => ?_)
  · obtain ⟨r, rfl, hr⟩ := hr
    refine x_i2l C 8 dL_level_7 rfl rfl ?_
    refine x_last C 9 w1.length 3 at_end rfl vp_in0 dL_level_8 rfl ?_
    rw [show ∀ z, (w1 ++ outL a o f).set w1.length z = w1 ++ [z] from fun _ => set_end]
    refine x_goto C 15 dL_level_9 (by decide) ?_
    refine x_iconst (v := (0)) C 16 dL_level_15 (by decide) rfl ?_
    exact x_hret C0 dL_level_16 (show 0 + rm'.cells ≤ 4 by omega) (show 0 + rm'.slots ≤ 48 by omega) ⟨_, rfl, Or.inl ⟨rfl, r, w1, hr, rfl⟩⟩
  · have hE2 := hE E w1 hX
    subst hE2
    refine ⟨[], [], (0, 9, 12, 29), rfl, (fun y hy => nomatch hy), rfl, by decide, (List.mem_cons_of_mem _ (List.mem_append_left _ (List.mem_append_left _ (List.mem_append_left _ (List.mem_append_left _ (List.mem_append_left _ (List.mem_append_left _ (List.mem_append_left _ (List.mem_append_left _ (List.mem_append_left _ (List.mem_of_getElem? (i := 0) rfl))))))))))), by decide, fun q => ?_⟩
    refine x_astore_n C 13 dL_level_12 (by decide) rfl rfl ?_
    refine x_iconst (v := (1)) C 14 dL_level_13 (by decide) rfl ?_
    exact x_hret C0 dL_level_14 (show 0 + rm'.cells ≤ 4 by omega) (show 0 + rm'.slots ≤ 48 by omega) ⟨_, rfl, Or.inr ⟨w1, ⟨hX, rfl⟩, rfl⟩⟩
set_option maxRecDepth 100000 in
set_option maxHeartbeats 4000000 in
theorem tL_levelAlone (hl : l.stackTraces = false) {p0 : Int32} {P : (Int32 → va_W → Prop)} (hR : rm'.frames ≤ 58 ∧ rm'.locals ≤ 1400) (hf : rm'.cells ≤ 4 ∧ rm'.slots ≤ 48) (h : Ct (gm D a E0) l yX5_levelAlone wsX5_levelAlone rm' [.ref x, .int p0] w (qI P) PX) (hx : ∃ (q0 : Nat) (fs : List Value), w[q0]? = some (x, .inr (9, fs))) (hE : ∀ E w1, PX E w1 → E = "java/lang/IndexOutOfBoundsException") : Ct (gm D a E0) l yL_levelAlone wsL_levelAlone { frames := 60, cells := 4, slots := 48, locals := 1500 } [.ref x, .int p0, .ref o] (w ++ outL a o f) (qI fun v w2 => (v = 0 ∧ ∃ r w1, P r w1 ∧ w2 = w1 ++ outL a o (vp_updL f 0 r.toInt64)) ∨ ∃ w1, ((PX "java/lang/IndexOutOfBoundsException" w1 ∧ v = 1)) ∧ w2 = w1 ++ outL a o f) noX := by
  obtain ⟨q0, fs, hq0⟩ := hx
  refine Ct.ofH [some (.ref x), some (.int p0), some (.ref o), none] rfl hl (by decide) (Nat.le_of_ble_eq_true rfl) rfl (fun φ C0 => ?_)
  have C := C0.1
  refine x_aload_n C 1 dL_levelAlone_0 rfl rfl ?_
  refine x_iconst (v := (0)) C 2 dL_levelAlone_1 (by decide) rfl ?_
  refine x_aload_n C 3 dL_levelAlone_2 rfl rfl ?_
  refine x_iload_n C 4 dL_levelAlone_3 rfl rfl ?_
  refine x_callVc C0 7 q0 9 1 h rfl gL_levelAlone_X5_levelAlone ⟨rfl, by decide, by decide, rfl⟩ ⟨show rm'.frames + 1 ≤ 60 by omega, show 8 + (4 + 11) + rm'.locals ≤ 1500 by omega⟩ rfl hq0 rfl rfl (Nat.le_of_ble_eq_true rfl) ⟨show 0 + rm'.cells ≤ 4 by omega, show 0 + rm'.slots ≤ 48 by omega⟩ dL_levelAlone_4 rfl (fun rv w1 hr => ?_) (fun E w1 hX => ?_)
  · obtain ⟨r, rfl, hr⟩ := hr
    refine x_i2l C 8 dL_levelAlone_7 rfl rfl ?_
    refine x_last C 9 w1.length 3 at_end rfl vp_in0 dL_levelAlone_8 rfl ?_
    rw [show ∀ z, (w1 ++ outL a o f).set w1.length z = w1 ++ [z] from fun _ => set_end]
    refine x_goto C 15 dL_levelAlone_9 (by decide) ?_
    refine x_iconst (v := (0)) C 16 dL_levelAlone_15 (by decide) rfl ?_
    exact x_hret C0 dL_levelAlone_16 (show 0 + rm'.cells ≤ 4 by omega) (show 0 + rm'.slots ≤ 48 by omega) ⟨_, rfl, Or.inl ⟨rfl, r, w1, hr, rfl⟩⟩
  · have hE2 := hE E w1 hX
    subst hE2
    refine ⟨[], [], (0, 9, 12, 29), rfl, (fun y hy => nomatch hy), rfl, by decide, (List.mem_cons_of_mem _ (List.mem_append_left _ (List.mem_append_left _ (List.mem_append_left _ (List.mem_append_left _ (List.mem_append_left _ (List.mem_append_left _ (List.mem_append_left _ (List.mem_append_left _ (List.mem_append_left _ (List.mem_of_getElem? (i := 0) rfl))))))))))), by decide, fun q => ?_⟩
    refine x_astore_n C 13 dL_levelAlone_12 (by decide) rfl rfl ?_
    refine x_iconst (v := (1)) C 14 dL_levelAlone_13 (by decide) rfl ?_
    exact x_hret C0 dL_levelAlone_14 (show 0 + rm'.cells ≤ 4 by omega) (show 0 + rm'.slots ≤ 48 by omega) ⟨_, rfl, Or.inr ⟨w1, ⟨hX, rfl⟩, rfl⟩⟩
set_option maxRecDepth 100000 in
set_option maxHeartbeats 4000000 in
theorem tL_channelByLevel (hl : l.stackTraces = false) {p0 : Int32} {P : (Int32 → va_W → Prop)} (hR : rm'.frames ≤ 58 ∧ rm'.locals ≤ 1400) (hf : rm'.cells ≤ 4 ∧ rm'.slots ≤ 48) (h : Ct (gm D a E0) l yX5_channelByLevel wsX5_channelByLevel rm' [.ref x, .int p0] w (qI P) PX) (hx : ∃ (q0 : Nat) (fs : List Value), w[q0]? = some (x, .inr (9, fs))) (hE : ∀ E w1, PX E w1 → E = "java/lang/IndexOutOfBoundsException") : Ct (gm D a E0) l yL_channelByLevel wsL_channelByLevel { frames := 60, cells := 4, slots := 48, locals := 1500 } [.ref x, .int p0, .ref o] (w ++ outL a o f) (qI fun v w2 => (v = 0 ∧ ∃ r w1, P r w1 ∧ w2 = w1 ++ outL a o (vp_updL f 0 r.toInt64)) ∨ ∃ w1, ((PX "java/lang/IndexOutOfBoundsException" w1 ∧ v = 1)) ∧ w2 = w1 ++ outL a o f) noX := by
  obtain ⟨q0, fs, hq0⟩ := hx
  refine Ct.ofH [some (.ref x), some (.int p0), some (.ref o), none] rfl hl (by decide) (Nat.le_of_ble_eq_true rfl) rfl (fun φ C0 => ?_)
  have C := C0.1
  refine x_aload_n C 1 dL_channelByLevel_0 rfl rfl ?_
  refine x_iconst (v := (0)) C 2 dL_channelByLevel_1 (by decide) rfl ?_
  refine x_aload_n C 3 dL_channelByLevel_2 rfl rfl ?_
  refine x_iload_n C 4 dL_channelByLevel_3 rfl rfl ?_
  refine x_callVc C0 7 q0 9 1 h rfl gL_channelByLevel_X5_channelByLevel ⟨rfl, by decide, by decide, rfl⟩ ⟨show rm'.frames + 1 ≤ 60 by omega, show 8 + (4 + 11) + rm'.locals ≤ 1500 by omega⟩ rfl hq0 rfl rfl (Nat.le_of_ble_eq_true rfl) ⟨show 0 + rm'.cells ≤ 4 by omega, show 0 + rm'.slots ≤ 48 by omega⟩ dL_channelByLevel_4 rfl (fun rv w1 hr => ?_) (fun E w1 hX => ?_)
  · obtain ⟨r, rfl, hr⟩ := hr
    refine x_i2l C 8 dL_channelByLevel_7 rfl rfl ?_
    refine x_last C 9 w1.length 3 at_end rfl vp_in0 dL_channelByLevel_8 rfl ?_
    rw [show ∀ z, (w1 ++ outL a o f).set w1.length z = w1 ++ [z] from fun _ => set_end]
    refine x_goto C 15 dL_channelByLevel_9 (by decide) ?_
    refine x_iconst (v := (0)) C 16 dL_channelByLevel_15 (by decide) rfl ?_
    exact x_hret C0 dL_channelByLevel_16 (show 0 + rm'.cells ≤ 4 by omega) (show 0 + rm'.slots ≤ 48 by omega) ⟨_, rfl, Or.inl ⟨rfl, r, w1, hr, rfl⟩⟩
  · have hE2 := hE E w1 hX
    subst hE2
    refine ⟨[], [], (0, 9, 12, 29), rfl, (fun y hy => nomatch hy), rfl, by decide, (List.mem_cons_of_mem _ (List.mem_append_left _ (List.mem_append_left _ (List.mem_append_left _ (List.mem_append_left _ (List.mem_append_left _ (List.mem_append_left _ (List.mem_append_left _ (List.mem_append_left _ (List.mem_append_left _ (List.mem_of_getElem? (i := 0) rfl))))))))))), by decide, fun q => ?_⟩
    refine x_astore_n C 13 dL_channelByLevel_12 (by decide) rfl rfl ?_
    refine x_iconst (v := (1)) C 14 dL_channelByLevel_13 (by decide) rfl ?_
    exact x_hret C0 dL_channelByLevel_14 (show 0 + rm'.cells ≤ 4 by omega) (show 0 + rm'.slots ≤ 48 by omega) ⟨_, rfl, Or.inr ⟨w1, ⟨hX, rfl⟩, rfl⟩⟩
set_option maxRecDepth 100000 in
set_option maxHeartbeats 4000000 in
theorem tL_meanLevel (hl : l.stackTraces = false) {P : (UInt64 → va_W → Prop)} (hR : rm'.frames ≤ 58 ∧ rm'.locals ≤ 1400) (hf : rm'.cells ≤ 4 ∧ rm'.slots ≤ 48) (h : Ct (gm D a E0) l yX5_meanLevel wsX5_meanLevel rm' [.ref x] w (qD P) PX) (hx : ∃ (q0 : Nat) (fs : List Value), w[q0]? = some (x, .inr (9, fs))) (hE : ∀ E w1, PX E w1 → E = "java/lang/ArithmeticException") : Ct (gm D a E0) l yL_meanLevel wsL_meanLevel { frames := 60, cells := 4, slots := 48, locals := 1500 } [.ref x, .ref o] (w ++ outD a o fd) (qI fun v w2 => (v = 0 ∧ ∃ r w1, P r w1 ∧ w2 = w1 ++ outD a o (vf_upd fd 0 r)) ∨ ∃ w1, ((PX "java/lang/ArithmeticException" w1 ∧ v = 1)) ∧ w2 = w1 ++ outD a o fd) noX := by
  obtain ⟨q0, fs, hq0⟩ := hx
  refine Ct.ofH [some (.ref x), some (.ref o), none] rfl hl (by decide) (Nat.le_of_ble_eq_true rfl) rfl (fun φ C0 => ?_)
  have C := C0.1
  refine x_aload_n C 1 dL_meanLevel_0 rfl rfl ?_
  refine x_iconst (v := (0)) C 2 dL_meanLevel_1 (by decide) rfl ?_
  refine x_aload_n C 3 dL_meanLevel_2 rfl rfl ?_
  refine x_callVc C0 6 q0 9 0 h rfl gL_meanLevel_X5_meanLevel ⟨rfl, by decide, by decide, rfl⟩ ⟨show rm'.frames + 1 ≤ 60 by omega, show 8 + (4 + 11) + rm'.locals ≤ 1500 by omega⟩ rfl hq0 rfl rfl (Nat.le_of_ble_eq_true rfl) ⟨show 0 + rm'.cells ≤ 4 by omega, show 0 + rm'.slots ≤ 48 by omega⟩ dL_meanLevel_3 rfl (fun rv w1 hr => ?_) (fun E w1 hX => ?_)
  · obtain ⟨r, rfl, hr⟩ := hr
    refine x_dast C 7 w1.length 4 at_end rfl vp_in0 dL_meanLevel_6 rfl ?_
    rw [show ∀ z, (w1 ++ outD a o fd).set w1.length z = w1 ++ [z] from fun _ => set_end]
    refine x_goto C 13 dL_meanLevel_7 (by decide) ?_
    refine x_iconst (v := (0)) C 14 dL_meanLevel_13 (by decide) rfl ?_
    exact x_hret C0 dL_meanLevel_14 (show 0 + rm'.cells ≤ 4 by omega) (show 0 + rm'.slots ≤ 48 by omega) ⟨_, rfl, Or.inl ⟨rfl, r, w1, hr, rfl⟩⟩
  · have hE2 := hE E w1 hX
    subst hE2
    refine ⟨[], [], (0, 7, 10, 112), rfl, (fun y hy => nomatch hy), rfl, by decide, (List.mem_cons_of_mem _ (List.mem_append_left _ (List.mem_append_left _ (List.mem_append_left _ (List.mem_append_left _ (List.mem_append_left _ (List.mem_append_left _ (List.mem_append_left _ (List.mem_append_left _ (List.mem_append_left _ (List.mem_of_getElem? (i := 0) rfl))))))))))), by decide, fun q => ?_⟩
    refine x_astore_n C 11 dL_meanLevel_10 (by decide) rfl rfl ?_
    refine x_iconst (v := (1)) C 12 dL_meanLevel_11 (by decide) rfl ?_
    exact x_hret C0 dL_meanLevel_12 (show 0 + rm'.cells ≤ 4 by omega) (show 0 + rm'.slots ≤ 48 by omega) ⟨_, rfl, Or.inr ⟨w1, ⟨hX, rfl⟩, rfl⟩⟩
set_option maxRecDepth 100000 in
set_option maxHeartbeats 4000000 in
theorem tL_addStep (hl : l.stackTraces = false) {p0 p1 p2 : Int32} {P : (Int32 → va_W → Prop)} (hR : rm'.frames ≤ 58 ∧ rm'.locals ≤ 1400) (hf : rm'.cells ≤ 4 ∧ rm'.slots ≤ 48) (h : Ct (gm D a E0) l yX5_addStep wsX5_addStep rm' [.ref x, .int p0, .int p1, .int p2] w (qI P) PX) (hx : ∃ (q0 : Nat) (fs : List Value), w[q0]? = some (x, .inr (9, fs))) (hE : ∀ E w1, PX E w1 → E = "java/lang/IllegalArgumentException" ∨ E = "java/lang/IllegalStateException") : Ct (gm D a E0) l yL_addStep wsL_addStep { frames := 60, cells := 4, slots := 48, locals := 1500 } [.ref x, .int p0, .int p1, .int p2, .ref o] (w ++ outL a o f) (qI fun v w2 => (v = 0 ∧ ∃ r w1, P r w1 ∧ w2 = w1 ++ outL a o (vp_updL f 0 r.toInt64)) ∨ ∃ w1, ((PX "java/lang/IllegalArgumentException" w1 ∧ v = 1) ∨ (PX "java/lang/IllegalStateException" w1 ∧ v = 2)) ∧ w2 = w1 ++ outL a o f) noX := by
  obtain ⟨q0, fs, hq0⟩ := hx
  refine Ct.ofH [some (.ref x), some (.int p0), some (.int p1), some (.int p2), some (.ref o), none] rfl hl (by decide) (Nat.le_of_ble_eq_true rfl) rfl (fun φ C0 => ?_)
  have C := C0.1
  refine x_aload C 2 dL_addStep_0 rfl rfl ?_
  refine x_iconst (v := (0)) C 3 dL_addStep_2 (by decide) rfl ?_
  refine x_aload_n C 4 dL_addStep_3 rfl rfl ?_
  refine x_iload_n C 5 dL_addStep_4 rfl rfl ?_
  refine x_iload_n C 6 dL_addStep_5 rfl rfl ?_
  refine x_iload_n C 7 dL_addStep_6 rfl rfl ?_
  refine x_callVc C0 10 q0 9 3 h rfl gL_addStep_X5_addStep ⟨rfl, by decide, by decide, rfl⟩ ⟨show rm'.frames + 1 ≤ 60 by omega, show 8 + (4 + 11) + rm'.locals ≤ 1500 by omega⟩ rfl hq0 rfl rfl (Nat.le_of_ble_eq_true rfl) ⟨show 0 + rm'.cells ≤ 4 by omega, show 0 + rm'.slots ≤ 48 by omega⟩ dL_addStep_7 rfl (fun rv w1 hr => ?_) (fun E w1 hX => ?_)
  · obtain ⟨r, rfl, hr⟩ := hr
    refine x_i2l C 11 dL_addStep_10 rfl rfl ?_
    refine x_last C 12 w1.length 3 at_end rfl vp_in0 dL_addStep_11 rfl ?_
    rw [show ∀ z, (w1 ++ outL a o f).set w1.length z = w1 ++ [z] from fun _ => set_end]
    refine x_goto C 23 dL_addStep_12 (by decide) ?_
    refine x_iconst (v := (0)) C 24 dL_addStep_23 (by decide) rfl ?_
    exact x_hret C0 dL_addStep_24 (show 0 + rm'.cells ≤ 4 by omega) (show 0 + rm'.slots ≤ 48 by omega) ⟨_, rfl, Or.inl ⟨rfl, r, w1, hr, rfl⟩⟩
  · have hE2 := hE E w1 hX
    rcases hE2 with rfl | rfl
    · refine ⟨[], [(0, 12, 19, 17)], (0, 12, 15, 13), rfl, (fun y hy => nomatch hy), rfl, by decide, (List.mem_cons_of_mem _ (List.mem_append_left _ (List.mem_append_left _ (List.mem_append_left _ (List.mem_append_left _ (List.mem_append_left _ (List.mem_append_left _ (List.mem_append_left _ (List.mem_of_getElem? (i := 0) rfl))))))))), by decide, fun q => ?_⟩
      refine x_astore C 17 dL_addStep_15 (by decide) rfl rfl ?_
      refine x_iconst (v := (1)) C 18 dL_addStep_17 (by decide) rfl ?_
      exact x_hret C0 dL_addStep_18 (show 0 + rm'.cells ≤ 4 by omega) (show 0 + rm'.slots ≤ 48 by omega) ⟨_, rfl, Or.inr ⟨w1, Or.inl ⟨hX, rfl⟩, rfl⟩⟩
    · refine ⟨[(0, 12, 15, 13)], [], (0, 12, 19, 17), rfl, List.forall_mem_cons.mpr ⟨⟨by decide, "java/lang/IllegalArgumentException", (List.mem_cons_of_mem _ (List.mem_append_left _ (List.mem_append_left _ (List.mem_append_left _ (List.mem_append_left _ (List.mem_append_left _ (List.mem_append_left _ (List.mem_append_left _ (List.mem_of_getElem? (i := 0) rfl))))))))), by decide, by decide⟩, fun _ h => nomatch h⟩, rfl, by decide, (List.mem_cons_of_mem _ (List.mem_append_left _ (List.mem_append_left _ (List.mem_append_left _ (List.mem_append_left _ (List.mem_append_left _ (List.mem_append_left _ (List.mem_append_left _ (List.mem_of_getElem? (i := 1) rfl))))))))), by decide, fun q => ?_⟩
      refine x_astore C 21 dL_addStep_19 (by decide) rfl rfl ?_
      refine x_iconst (v := (2)) C 22 dL_addStep_21 (by decide) rfl ?_
      exact x_hret C0 dL_addStep_22 (show 0 + rm'.cells ≤ 4 by omega) (show 0 + rm'.slots ≤ 48 by omega) ⟨_, rfl, Or.inr ⟨w1, Or.inr (⟨hX, rfl⟩), rfl⟩⟩
set_option maxRecDepth 100000 in
set_option maxHeartbeats 4000000 in
theorem tL_macroFault (hl : l.stackTraces = false) {P : (Int32 → va_W → Prop)} (hR : rm'.frames ≤ 58 ∧ rm'.locals ≤ 1400) (hf : rm'.cells ≤ 4 ∧ rm'.slots ≤ 48) (h : Ct (gm D a E0) l yX5_macroFault wsX5_macroFault rm' [.ref x] w (qI P) PX) (hx : ∃ (q0 : Nat) (fs : List Value), w[q0]? = some (x, .inr (9, fs))) (hE : ∀ E w1, PX E w1 → E = "java/util/NoSuchElementException") : Ct (gm D a E0) l yL_macroFault wsL_macroFault { frames := 60, cells := 4, slots := 48, locals := 1500 } [.ref x, .ref o] (w ++ outL a o f) (qI fun v w2 => (v = 0 ∧ ∃ r w1, P r w1 ∧ w2 = w1 ++ outL a o (vp_updL f 0 r.toInt64)) ∨ ∃ w1, ((PX "java/util/NoSuchElementException" w1 ∧ v = 1)) ∧ w2 = w1 ++ outL a o f) noX := by
  obtain ⟨q0, fs, hq0⟩ := hx
  refine Ct.ofH [some (.ref x), some (.ref o), none] rfl hl (by decide) (Nat.le_of_ble_eq_true rfl) rfl (fun φ C0 => ?_)
  have C := C0.1
  refine x_aload_n C 1 dL_macroFault_0 rfl rfl ?_
  refine x_iconst (v := (0)) C 2 dL_macroFault_1 (by decide) rfl ?_
  refine x_aload_n C 3 dL_macroFault_2 rfl rfl ?_
  refine x_callVc C0 6 q0 9 0 h rfl gL_macroFault_X5_macroFault ⟨rfl, by decide, by decide, rfl⟩ ⟨show rm'.frames + 1 ≤ 60 by omega, show 8 + (1 + 11) + rm'.locals ≤ 1500 by omega⟩ rfl hq0 rfl rfl (Nat.le_of_ble_eq_true rfl) ⟨show 0 + rm'.cells ≤ 4 by omega, show 0 + rm'.slots ≤ 48 by omega⟩ dL_macroFault_3 rfl (fun rv w1 hr => ?_) (fun E w1 hX => ?_)
  · obtain ⟨r, rfl, hr⟩ := hr
    refine x_i2l C 7 dL_macroFault_6 rfl rfl ?_
    refine x_last C 8 w1.length 3 at_end rfl vp_in0 dL_macroFault_7 rfl ?_
    rw [show ∀ z, (w1 ++ outL a o f).set w1.length z = w1 ++ [z] from fun _ => set_end]
    refine x_goto C 14 dL_macroFault_8 (by decide) ?_
    refine x_iconst (v := (0)) C 15 dL_macroFault_14 (by decide) rfl ?_
    exact x_hret C0 dL_macroFault_15 (show 0 + rm'.cells ≤ 4 by omega) (show 0 + rm'.slots ≤ 48 by omega) ⟨_, rfl, Or.inl ⟨rfl, r, w1, hr, rfl⟩⟩
  · have hE2 := hE E w1 hX
    subst hE2
    refine ⟨[], [], (0, 8, 11, 23), rfl, (fun y hy => nomatch hy), rfl, by decide, (List.mem_cons_of_mem _ (List.mem_append_left _ (List.mem_append_left _ (List.mem_append_left _ (List.mem_of_getElem? (i := 0) rfl))))), by decide, fun q => ?_⟩
    refine x_astore_n C 12 dL_macroFault_11 (by decide) rfl rfl ?_
    refine x_iconst (v := (1)) C 13 dL_macroFault_12 (by decide) rfl ?_
    exact x_hret C0 dL_macroFault_13 (show 0 + rm'.cells ≤ 4 by omega) (show 0 + rm'.slots ≤ 48 by omega) ⟨_, rfl, Or.inr ⟨w1, ⟨hX, rfl⟩, rfl⟩⟩
end HH
