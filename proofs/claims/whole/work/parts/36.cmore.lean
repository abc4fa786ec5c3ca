/-! rows on arrays of references, statics, classes; contracts in a larger world; cells taken out of a pool -/
theorem cZ.narrow {Γ : Gm} {A B : Nat → Prop} {U : State} {H : Heap} (h : cZ Γ A U H) (hA : ∀ q, B q → A q) : cZ Γ B U H := ⟨h.1.narrow hA, h.2.1.narrow hA, h.2.2.1.narrow hA, h.2.2.2.1.narrow hA, h.2.2.2.2.1, h.2.2.2.2.2⟩
theorem Ct.lift {Γ : Gm} {l : Launch} {y : MethodName} {wy : List Cond} {rm : Room} {av : List Value} {wsc : va_W} {Post Post2 : Option Value → va_W → Prop} {PX PX2 : String → va_W → Prop} (h : Ct Γ l y wy rm av wsc Post PX) (wr : va_W) {ws : va_W} (hp : ws.Perm (wsc ++ wr)) (h1 : ∀ r w, Post r w → ∃ w' wd, Post2 r w' ∧ (w ++ wr).Perm (w' ++ wd)) (h2 : ∀ E w, PX E w → ∃ w' wd, PX2 E w' ∧ (w ++ wr).Perm (w' ++ wd)) : Ct Γ l y wy rm av ws Post2 PX2 := by
  intro sz p e ha hc hk s m args below hf happ hP hK
  obtain ⟨hav, hsz, hP0, hK0, hD0, hZ⟩ := hP
  have hP1 : va_P Γ.1 vwCl (wsc ++ wr) s.heap := va_P_iff.mpr fun q hq => va_P_iff.mp hP0 q (hp.mem_iff.mpr hq)
  have hD1 : va_D (fun _ => True) (wsc ++ wr) := by
    have := va_D_iff.mp hD0
    exact va_D_iff.mpr ⟨(hp.map Prod.fst).nodup_iff.mp this.1, fun _ _ => trivial⟩
  have hF : ∀ q, va_A wsc sz q → va_A ws sz q := by
    intro q hq
    rcases hq with ⟨k, e, hk⟩ | hq
    · obtain ⟨k', hk'⟩ := List.getElem?_of_mem (hp.mem_iff.mpr (List.mem_append_left wr (List.mem_of_getElem? hk)))
      exact Or.inl ⟨k', e, hk'⟩
    · exact Or.inr hq
  have hDA : va_D (va_A ws sz) (wsc ++ wr) := by
    refine va_D_iff.mpr ⟨(va_D_iff.mp hD1).1, fun q hq => ?_⟩
    obtain ⟨k', hk'⟩ := List.getElem?_of_mem (hp.mem_iff.mpr hq)
    exact Or.inl ⟨k', q.2, hk'⟩
  have back : ∀ {w w' wd : va_W} {t : State}, (w ++ wr).Perm (w' ++ wd) → va_P Γ.1 vwCl w t.heap → va_D (va_A wsc sz) w → va_F (va_A wsc sz) s t → va_P Γ.1 vwCl w' t.heap ∧ va_D (va_A ws sz) w' ∧ va_F (va_A ws sz) s t := by
    intro w w' wd t hq b3 b4 b5
    have hh : ∀ q : Nat, q < s.heap.size → ¬ va_A wsc s.heap.size q → t.heap[q]? = s.heap[q]? := by rw [hsz]; intro q z1 z2; exact b5.2 q (hsz ▸ z1) z2
    obtain ⟨j1, j2⟩ := va_frame hP1 hDA (by rw [hsz]; exact hF) hh b3 (by rw [hsz]; exact b4)
    refine ⟨va_P_iff.mpr fun q hq' => va_P_iff.mp j1 q (hq.mem_iff.mpr (List.mem_append_left wd hq')), ?_, b5.1, fun q z1 z2 => b5.2 q z1 fun z => z2 (hF q z)⟩
    have := va_D_iff.mp j2
    have k1 := (hq.map Prod.fst).nodup_iff.mp this.1
    rw [List.map_append] at k1
    exact va_D_iff.mpr ⟨(List.nodup_append.mp k1).1, fun q hq' => this.2 q (hq.mem_iff.mpr (List.mem_append_left wd hq'))⟩
  obtain ⟨n, o, g1, g2, g3, g4⟩ := h sz p e ha hc hk s m args below hf happ ⟨hav, hsz, va_wsc_P hP1, hK0, va_wsc_D hD1, hZ.narrow hF⟩ hK
  refine ⟨n, o, g1, g2, g3, ?_⟩
  rcases g4 with ⟨⟨⟨r, ws', b1, b2, b3, b4⟩, b5⟩, L, b6, b7⟩ | ⟨q, b1, E, ce, L, ⟨⟨ws', c1, c2, c3⟩, c4⟩, d1, d2, d3, d4, d5, d6⟩
  · obtain ⟨w', wd, q1, q2⟩ := h1 _ _ b2
    obtain ⟨k1, k2, k3⟩ := back q2 b3 b4 b5
    exact Or.inl ⟨⟨⟨r, w', b1, q1, k1, k2⟩, k3⟩, L, b6, fun q hq => hF _ (b7 q hq)⟩
  · obtain ⟨w', wd, q1, q2⟩ := h2 _ _ c1
    obtain ⟨k1, k2, k3⟩ := back q2 c2 c3 c4
    exact Or.inr ⟨q, b1, E, ce, L, ⟨⟨w', q1, k1, k2⟩, k3⟩, d1, d2, d3, d4, d5, fun z hz => hF _ (d6 z hz)⟩
theorem vx_ldcwF {p : Program} {l : Launch} {e : Env} {R : Room} {s : State} {m : MethodId} {args : Array Value} {below : List Frame} {meth : Method} {c : Code} {T : State} {locs : List Loc} {cells slots : Nat} (X0 : Stand p l e R s m args below meth c T locs cells slots) (hexec : p.tables.exec = Jvm.exec) {own : String} {index : Nat} {v : UInt32} (hown : s.vm.findClass own = some m.cls) (hconst : (Cond.constantFloat own index v).before args s = true) {g : JFrame} (hg : g.method = m) (hdg : decode c.code g.pc = .ok (.ldc_w index, 3)) : ∀ target, Steps p.tables e below (T.setTop { g with pc := g.pc + 3, stack := .float v :: g.stack }) target → Steps p.tables e below (T.setTop g) target := by
  obtain ⟨k, cf, hk, hcf, hcp⟩ := Cond.constantFloat_spec hown hconst
  obtain ⟨k', hk', he⟩ := X0.warmed.alike.2.2 _ _ hk
  intro target hrest
  subst hg
  jvm_step X0.here [hexec, hdg, ldc_w.wp_float (s := T) (f := g) X0.here.top hk' (by rw [he]; exact hcf) hcp]
  exact hrest
section XR
variable {Γ : Gm} {l : Launch} {φ : Fx} {cc : ByteArray} {nL : Nat} {own : String} {wl : List Cond} {rm : Room} {pc : Nat} {L : List (Option Value)} {st rest : List Value} {ws : va_W} {kc ns : Nat} {a : Nat} {nm : String} {rt : Option FieldType} {Post : Option Value → va_W → Prop} {PostX : String → va_W → Prop}
theorem x_gets0 (C : Cb Γ l φ cc nL own wl rm) (pc' : Nat) {idx : Nat} (hlink : Cond.fieldLink own idx "java/util/ArrayList" "DEFAULTCAPACITY_EMPTY_ELEMENTDATA" "[Ljava/lang/Object;" ∈ wl) (hd : decode cc pc = .ok (.getstatic idx, 3)) (hpc : pc + 3 = pc') (kk : X φ pc' L (.ref Γ.2.2 :: st) ws kc ns) : X φ pc L st ws kc ns := by
  obtain ⟨p, l', e, R, s, m, args, below, meth, c, A, Q, Γ'⟩ := φ
  obtain ⟨hx, hb, hml, hown, hts, hK, hA, hZ, rfl, rfl, rfl, hst⟩ := C
  intro H locs ls hP hD hS hl
  exact va_gets hx hb hZ.1 hS hown (hts _ hlink) (fun _ h => h) hd (by subst hpc; exact kk H locs ls hP hD hS hl)
theorem x_tlen0 (C : Cb Γ l φ cc nL own wl rm) (pc' : Nat) (hd : decode cc pc = .ok (.arraylength, 1)) (hpc : pc + 1 = pc') (kk : X φ pc' L (.int 0 :: rest) ws kc ns) : X φ pc L (.ref Γ.2.2 :: rest) ws kc ns := by
  obtain ⟨p, l', e, R, s, m, args, below, meth, c, A, Q, Γ'⟩ := φ
  obtain ⟨hx, hb, hml, hown, hts, hK, hA, hZ, rfl, rfl, rfl, hst⟩ := C
  intro H locs ls hP hD hS hl
  exact va_tlen hx hb hZ.2.1 hS rfl hd (by subst hpc; exact kk H locs ls hP hD hS hl)
theorem x_castS (C : Cb Γ l φ cc nL own wl rm) (pc' q0 : Nat) {ci idx N : Nat} {Cn : String} {T : u_T} {fs : List Value} (hq : ws[q0]? = some (a, .inr (ci, fs))) (hc : vwCl[ci]? = some (Cn, T, N)) (hlink : Cond.classLink own idx Cn ∈ wl) (hd : decode cc pc = .ok (.checkcast idx, 3)) (hpc : pc + 3 = pc') (kk : X φ pc' L (.ref a :: rest) ws kc ns) : X φ pc L (.ref a :: rest) ws kc ns := by
  obtain ⟨p, l', e, R, s, m, args, below, meth, c, A, Q, Γ'⟩ := φ
  obtain ⟨hx, hb, hml, hown, hts, hK, hA, hZ, rfl, rfl, rfl, hst⟩ := C
  intro H locs ls hP hD hS hl
  exact va_castS hx hb hown (hts _ hlink) (hK.1 ci _ hc).2 (va_recv hK hP hc hq) hd (by subst hpc; exact kk H locs ls hP hD hS hl)
theorem x_newq (C : Cb Γ l φ cc nL own wl rm) (pc' t0 : Nat) {idx N' : Nat} {n : Int32} {Cn : String} {cA : ClassId} (hlink : Cond.classLink own idx Cn ∈ wl) (hover : ∀ U : State, cV Γ.1 U → va_AO Cn U) (ht : Γ.2.1[t0]? = some (cA, .object Cn)) (hn : ¬ n < 0) (hN : n.toNatClampNeg = N') (hbytes : N' * 4 ≤ 536870912) (hkc : kc + 1 ≤ rm.cells) (hns : ns + N' ≤ rm.slots) (hd : decode cc pc = .ok (.anewarray idx, 3)) (hpc : pc + 3 = pc')
    (kk : ∀ q : Nat, X φ pc' L (.ref q :: rest) (ws ++ [(q, .inl (cA, N', .inr (.inr (.inr (.inr (fun _ => none))))))]) (kc + 1) (ns + N')) : X φ pc L (.int n :: rest) ws kc ns := by
  obtain ⟨p, l', e, R, s, m, args, below, meth, c, A, Q, Γ'⟩ := φ
  obtain ⟨hx, hb, hml, hown, hts, hK, hA, hZ, rfl, rfl, rfl, hst⟩ := C
  intro H locs ls hP hD hS hl
  refine va_newq hx hb hown (hts _ hlink) (hover s hZ.2.2.2.2.2) hK hP hD hS hA hn hN hbytes hkc hns hd (fun q cA2 H1 hK1 hP1 hD1 hS1 => ?_)
  subst hpc
  obtain ⟨_, _, _, _, _, h1⟩ := (hK.2 t0 _ ht).2
  obtain ⟨_, _, _, _, _, h2⟩ := (hK1.2 Γ'.2.1.length _ (by rw [List.getElem?_append_right (Nat.le_refl _), Nat.sub_self]; rfl)).2
  have e1 : cA2 = cA := Option.some.inj (h2.symm.trans h1)
  subst e1
  exact kk q H1 locs ls hP1 hD1 hS1 hl
/-- what lies in an array of objects: objects of the four classes -/
def elO (we : va_W) (f : Nat → Option Nat) : Prop := ∀ i y, f i = some y → ∃ (ci : Nat) (fs : List Value) (Cn : String) (T : u_T) (N : Nat), (y, .inr (ci, fs)) ∈ we ∧ vwCl[ci]? = some (Cn, T, N) ∧ Cn ∈ cOb
theorem x_astO (C : Cb Γ l φ cc nL own wl rm) (pc' q0 t0 : Nat) {cA : ClassId} {n v : Nat} {f : Nat → Option Nat} {i : Int32} (hq : ws[q0]? = some (a, .inl (cA, n, .inr (.inr (.inr (.inr f)))))) (ht : Γ.2.1[t0]? = some (cA, .object "java/lang/Object")) (hv : elO ws (fun _ => some v)) (hin : vp_in i n) (hd : decode cc pc = .ok (.aastore, 1)) (hpc : pc + 1 = pc') (kk : X φ pc' L rest (ws.set q0 (a, .inl (cA, n, .inr (.inr (.inr (.inr (va_up f i.toNatClampNeg (some v)))))))) kc ns) : X φ pc L (.ref v :: .int i :: .ref a :: rest) ws kc ns := by
  obtain ⟨p, l', e, R, s, m, args, below, meth, c, A, Q, Γ'⟩ := φ
  obtain ⟨hx, hb, hml, hown, hts, hK, hA, hZ, rfl, rfl, rfl, hst⟩ := C
  intro H locs ls hP hD hS hl
  obtain ⟨ci, fs, Cn, T, N, hm, hc, hcn⟩ := hv 0 v rfl
  obtain ⟨qk, hqk⟩ := List.getElem?_of_mem hm
  exact va_astqO hx hb hK hP hD hS q0 t0 qk ci hq ht (hZ.2.2.2.2.2.2.2.2.2.2.2.2.1 Cn hcn) hqk hc hin hd (fun H1 locs1 hP1 hD1 hS1 => by subst hpc; exact kk H1 locs1 ls hP1 hD1 hS1 hl)
theorem x_ast0 (C : Cb Γ l φ cc nL own wl rm) (pc' q0 t0 : Nat) {cA : ClassId} {Cn : String} {n : Nat} {f : Nat → Option Nat} {i : Int32} (hq : ws[q0]? = some (a, .inl (cA, n, .inr (.inr (.inr (.inr f)))))) (ht : Γ.2.1[t0]? = some (cA, .object Cn)) (hin : vp_in i n) (hd : decode cc pc = .ok (.aastore, 1)) (hpc : pc + 1 = pc') (kk : X φ pc' L rest (ws.set q0 (a, .inl (cA, n, .inr (.inr (.inr (.inr (va_up f i.toNatClampNeg none))))))) kc ns) : X φ pc L (.null :: .int i :: .ref a :: rest) ws kc ns := by
  obtain ⟨p, l', e, R, s, m, args, below, meth, c, A, Q, Γ'⟩ := φ
  obtain ⟨hx, hb, hml, hown, hts, hK, hA, hZ, rfl, rfl, rfl, hst⟩ := C
  intro H locs ls hP hD hS hl
  exact va_astqN hx hb hK hP hD hS q0 t0 hq ht hin hd (fun H1 locs1 hP1 hD1 hS1 => by subst hpc; exact kk H1 locs1 ls hP1 hD1 hS1 hl)
theorem x_astq (C : Cb Γ l φ cc nL own wl rm) (pc' q0 t0 qk ci : Nat) {cA : ClassId} {Cn : String} {T : u_T} {N n v : Nat} {fs : List Value} {f : Nat → Option Nat} {i : Int32} (hq : ws[q0]? = some (a, .inl (cA, n, .inr (.inr (.inr (.inr f)))))) (ht : Γ.2.1[t0]? = some (cA, .object Cn)) (hv : ws[qk]? = some (v, .inr (ci, fs))) (hc : vwCl[ci]? = some (Cn, T, N)) (hin : vp_in i n) (hd : decode cc pc = .ok (.aastore, 1)) (hpc : pc + 1 = pc') (kk : X φ pc' L rest (ws.set q0 (a, .inl (cA, n, .inr (.inr (.inr (.inr (va_up f i.toNatClampNeg (some v)))))))) kc ns) : X φ pc L (.ref v :: .int i :: .ref a :: rest) ws kc ns := by
  obtain ⟨p, l', e, R, s, m, args, below, meth, c, A, Q, Γ'⟩ := φ
  obtain ⟨hx, hb, hml, hown, hts, hK, hA, hZ, rfl, rfl, rfl, hst⟩ := C
  intro H locs ls hP hD hS hl
  exact va_astq hx hb hK hP hD hS q0 t0 qk ci hq (r := (Cn, T, N)) ht hv hc hin hd (fun H1 locs1 hP1 hD1 hS1 => by subst hpc; exact kk H1 locs1 ls hP1 hD1 hS1 hl)
/-- System.arraycopy between arrays of objects -/
theorem x_cpO (C : Cb Γ l φ cc nL own wl rm) (pc' q0 q1 t0 t1 : Nat) {idx a0 : Nat} {c0 c1 : ClassId} {n0 n1 : Nat} {f g : Nat → Option Nat} {E0 : String} {sp dp n : Int32} (hlink : Cond.methodLink own idx arraycopyName ∈ wl) (hnat : Cond.native arraycopyName ∈ wl) (hstat : Cond.static arraycopyName ∈ wl) (hini : Cond.initialized "java/lang/System" ∈ wl) (ha0 : ws[q0]? = some (a0, .inl (c0, n0, .inr (.inr (.inr (.inr f)))))) (ha1 : ws[q1]? = some (a, .inl (c1, n1, .inr (.inr (.inr (.inr g)))))) (ht0 : Γ.2.1[t0]? = some (c0, .object E0)) (ht1 : Γ.2.1[t1]? = some (c1, .object "java/lang/Object"))
    (h1 : ¬ sp < 0) (h2 : ¬ dp < 0) (h3 : ¬ n < 0) (h4 : sp.toNatClampNeg + n.toNatClampNeg ≤ n0) (h5 : dp.toNatClampNeg + n.toNatClampNeg ≤ n1) (hel : elO ws f) (hfr : 1 ≤ rm.frames) (hlo : (rest.map fun v => v.category).sum + (nativeFrameWords "java/lang/System" "arraycopy" 5 + 11) ≤ rm.locals) (hd : decode cc pc = .ok (.invokestatic idx, 3)) (hpc : pc + 3 = pc')
    (kk : X φ pc' L rest (ws.set q1 (a, .inl (c1, n1, .inr (.inr (.inr (.inr (va_cpy f g sp.toNatClampNeg dp.toNatClampNeg n.toNatClampNeg))))))) kc ns) : X φ pc L (.int n :: .int dp :: .ref a :: .int sp :: .ref a0 :: rest) ws kc ns := by
  obtain ⟨p, l', e, R, s, m, args, below, meth, c, A, Q, Γ'⟩ := φ
  obtain ⟨hx, hb, hml, hown, hts, hK, hA, hZ, rfl, rfl, rfl, hst⟩ := C
  intro H locs ls hP hD hS hl
  refine va_copyM hx hb hl.1.symm hown (hts _ hlink) (hts _ hnat) (hts _ hstat) (hts _ hini) hK hP hD hS q0 q1 t0 t1 ha0 ha1 ht0 ht1 h1 h2 h3 h4 h5 (fun i _ y hy => ?_) hfr hlo hd (fun H1 locs1 hP1 hD1 hS1 => by subst hpc; exact kk H1 locs1 ls hP1 hD1 hS1 hl)
  obtain ⟨ci, fs, Cn, T, N, hm, hc, hcn⟩ := hel _ y hy
  obtain ⟨qk, hqk⟩ := List.getElem?_of_mem hm
  refine va_rAny hK hP hqk hc (fun comp c2 z1 z2 => ?_)
  obtain ⟨c3, t3, w1, w2, w3⟩ := Cond.castable_spec (va_Nw.use (A := args) rfl (hZ.2.2.2.2.2.2.2.2.2.2.2.2.1 Cn hcn))
  cases z1.symm.trans w2
  cases z2.symm.trans w1
  exact w3
theorem x_ldcM (C : Cb Γ l φ cc nL own wl rm) (pc' : Nat) {idx : Nat} (hlink : Cond.classLink own idx "[Ljava/lang/Object;" ∈ wl) (hd : decode cc pc = .ok (.ldc idx, 2)) (hpc : pc + 2 = pc') (kk : X φ pc' L (.ref (Γ.1.1 99) :: rest) ws kc ns) : X φ pc L rest ws kc ns := by
  obtain ⟨p, l', e, R, s, m, args, below, meth, c, A, Q, Γ'⟩ := φ
  obtain ⟨hx, hb, hml, hown, hts, hK, hA, hZ, rfl, rfl, rfl, hst⟩ := C
  intro H locs ls hP hD hS hl
  exact va_ldcM hx hb hown (hts _ hlink) hZ.2.2.2.2.2.2.2.2.2.1 hd (by subst hpc; exact kk H locs ls hP hD hS hl)
theorem x_getC (C : Cb Γ l φ cc nL own wl rm) (pc' q0 t0 : Nat) {idx : Nat} {cA : ClassId} {x : vp_A} (hq : ws[q0]? = some (a, .inl (cA, x))) (ht : Γ.2.1[t0]? = some (cA, .object "java/lang/Object")) (hlink : Cond.methodLink own idx ⟨"java/lang/Object", "getClass", "()Ljava/lang/Class;"⟩ ∈ wl) (hsel : Cond.selects "[Ljava/lang/Object;" ⟨"java/lang/Object", "getClass", "()Ljava/lang/Class;"⟩ ⟨"java/lang/Object", "getClass", "()Ljava/lang/Class;"⟩ ∈ wl) (hinst : Cond.instanceMethod ⟨"java/lang/Object", "getClass", "()Ljava/lang/Class;"⟩ ∈ wl) (hnat : Cond.native ⟨"java/lang/Object", "getClass", "()Ljava/lang/Class;"⟩ ∈ wl) (hfr : 1 ≤ rm.frames) (hlo : (rest.map fun v => v.category).sum + 14 ≤ rm.locals) (hd : decode cc pc = .ok (.invokevirtual idx, 3)) (hpc : pc + 3 = pc') (kk : X φ pc' L (.ref (Γ.1.1 99) :: rest) ws kc ns) : X φ pc L (.ref a :: rest) ws kc ns := by
  obtain ⟨p, l', e, R, s, m, args, below, meth, c, A, Q, Γ'⟩ := φ
  obtain ⟨hx, hb, hml, hown, hts, hK, hA, hZ, rfl, rfl, rfl, hst⟩ := C
  intro H locs ls hP hD hS hl
  obtain ⟨_, _, _, _, _, h1⟩ := (hK.2 t0 _ ht).2
  have hs : ("[" ++ (FieldType.object "java/lang/Object").toString) = "[Ljava/lang/Object;" := by decide +kernel
  rw [hs] at h1
  have hvm0 : (vp_cell cA x).vm = .none := by
    obtain ⟨n, f | f | f | f | f⟩ := x <;> rfl
  have hcl0 : (vp_cell cA x).cls = cA := by
    obtain ⟨n, f | f | f | f | f⟩ := x <;> rfl
  exact va_getC hx hb hl.1.symm hown (hts _ hlink) (va_Dc.use hZ.2.2.2.2.2.2.2.2.1) (hts _ hsel) (hts _ hinst) (hts _ hnat) hZ.2.2.2.2.2.2.2.2.2.1 ⟨_, hP q0 _ hq, by show (vp_cell cA x).vm.isStatics = false; rw [hvm0]; rfl, by show _ = some (vp_cell cA x).cls; rw [hcl0]; exact h1⟩ hfr hlo hd (by subst hpc; exact kk H locs ls hP hD hS hl)
theorem x_ldcwf (C : Cb Γ l φ cc nL own wl rm) (pc' : Nat) {index : Nat} {v : UInt32} (hconst : (Jvm.Cond.constantFloat own index v) ∈ wl) (hd : decode cc pc = .ok (.ldc_w index, 3)) (hpc : pc + 3 = pc') (kk : X φ pc' L (.float v :: rest) ws kc ns) : X φ pc L rest ws kc ns := by
  obtain ⟨p, l', e, R, s, m, args, below, meth, c, A, Q, Γ'⟩ := φ
  obtain ⟨hx, hb, hml, hown, hts, hK, hA, hZ, rfl, rfl, rfl, hst⟩ := C
  intro H locs ls hP hD hS hl T hT X0
  subst hpc
  obtain ⟨t, a1, b1⟩ := kk H locs ls hP hD hS hl T hT X0
  exact ⟨t, vx_ldcwF X0 hx hown (hts _ hconst) (g := F0 m pc ls rest) rfl (by rw [hb]; exact hd) t a1, b1⟩
end XR
/-- cell p of kind k taken out -/
def dcn (cnt : Nat → Nat) (k : Nat) : Nat → Nat := fun k' => if k' = k then cnt k - 1 else cnt k'
def skp {α : Type} (F : Nat → Nat → α) (k p : Nat) : Nat → Nat → α := fun k' i => if k' = k then (if i < p then F k i else F k (i + 1)) else F k' i
theorem rng_take {β : Type} : ∀ (n p : Nat) (F : Nat → β), p < n → ((List.range n).map F).Perm (F p :: (List.range (n - 1)).map (fun i => if i < p then F i else F (i + 1)))
  | 0, p, F, h => absurd h (Nat.not_lt_zero _)
  | m + 1, p, F, h => by
    rw [List.range_succ, List.map_append, Nat.add_sub_cancel]
    by_cases hp : p = m
    · subst hp
      have e : (List.range p).map F = (List.range p).map (fun i => if i < p then F i else F (i + 1)) := List.map_congr_left (fun i hi => (if_pos (List.mem_range.mp hi)).symm)
      rw [← e]
      exact List.perm_append_comm (l₁ := (List.range p).map F) (l₂ := [F p])
    · have h2 : p < m := by omega
      obtain ⟨q, rfl⟩ : ∃ q, m = q + 1 := ⟨m - 1, by omega⟩
      have ih := rng_take (q + 1) p F h2
      refine (ih.append_right _).trans ?_
      rw [Nat.add_sub_cancel, List.range_succ, List.map_append]
      show (F p :: (_ ++ [F (q + 1)])).Perm (F p :: (_ ++ [if q < p then F q else F (q + 1)]))
      rw [if_neg (show ¬ q < p by omega)]
theorem pool_take (cnt : Nat → Nat) (A : Nat → Nat → Nat) (C : Nat → Nat → va_E) {k p : Nat} (hp : p < cnt k) : ∀ K, k < K → (pool K cnt A C).Perm ((A k p, C k p) :: pool K (dcn cnt k) (skp A k p) (skp C k p))
  | 0, h => absurd h (Nat.not_lt_zero _)
  | K + 1, h => by
    by_cases hk : k = K
    · subst hk
      rw [pool, pool]
      have e1 : pool k cnt A C = pool k (dcn cnt k) (skp A k p) (skp C k p) := pool_congr k (fun k' hk' => ⟨by simp [dcn, show k' ≠ k by omega], fun i' _ => ⟨by simp [skp, show k' ≠ k by omega], by simp [skp, show k' ≠ k by omega]⟩⟩)
      rw [← e1]
      have e2 := rng_take (cnt k) p (fun i => (A k i, C k i)) hp
      have e3 : (List.range (dcn cnt k k)).map (fun i => (skp A k p k i, skp C k p k i)) = (List.range (cnt k - 1)).map (fun i => if i < p then (A k i, C k i) else (A k (i + 1), C k (i + 1))) := by
        simp only [dcn, if_true]
        apply List.map_congr_left
        intro i _
        simp only [skp, if_true]
        split <;> rfl
      rw [e3]
      exact (e2.append_left _).trans (List.perm_middle)
    · have ih := pool_take cnt A C hp K (by omega)
      rw [pool, pool]
      have e2 : (List.range (cnt K)).map (fun i => (A K i, C K i)) = (List.range (dcn cnt k K)).map (fun i => (skp A k p K i, skp C k p K i)) := by
        simp [dcn, skp, show ¬ K = k by omega]
      rw [← e2]
      exact ih.append_right _
