section XM
variable {Γ : Gm} {l : Launch} {φ : Fx} {cc : ByteArray} {nL : Nat} {own : String} {wl : List Cond} {rm : Room} {pc : Nat} {L : List (Option Value)} {st rest : List Value} {ws : va_W} {kc ns : Nat} {a : Nat} {nm : String} {rt : Option FieldType} {Post : Option Value → va_W → Prop} {PostX : String → va_W → Prop}
theorem x_zast (C : Cb Γ l φ cc nL own wl rm) (pc' q0 t0 : Nat) {cA : ClassId} {n : Nat} {f : Nat → Int32} {i x : Int32} (hq : ws[q0]? = some (a, .inl (cA, n, .inl f))) (ht : Γ.2.1[t0]? = some (cA, .boolean)) (hin : vp_in i n) (hx0 : vp_nar .boolean x = x) (hd : decode cc pc = .ok (.bastore, 1)) (hpc : pc + 1 = pc') (kk : X φ pc' L rest (ws.set q0 (a, .inl (cA, n, .inl (upd f i.toNatClampNeg x)))) kc ns) : X φ pc L (.int x :: .int i :: .ref a :: rest) ws kc ns := by
  obtain ⟨p, l', e, R, s, m, args, below, meth, c, A, Q, Γ'⟩ := φ
  obtain ⟨hx, hb, hml, hown, hts, hK, hA, hZ, rfl, rfl, rfl, hst⟩ := C
  intro H locs ls hP hD hS hl
  exact va_zast hx hb hK hP hD hS q0 t0 hq ht hin hd (fun H1 locs1 hP1 hD1 hS1 => by subst hpc; rw [hx0] at hP1 hD1; exact kk H1 locs1 ls hP1 hD1 hS1 hl)
theorem x_cast (C : Cb Γ l φ cc nL own wl rm) (pc' q0 t0 : Nat) {cA : ClassId} {n : Nat} {f : Nat → Int32} {i x : Int32} (hq : ws[q0]? = some (a, .inl (cA, n, .inl f))) (ht : Γ.2.1[t0]? = some (cA, .char)) (hin : vp_in i n) (hx0 : vp_nar .char x = x) (hd : decode cc pc = .ok (.castore, 1)) (hpc : pc + 1 = pc') (kk : X φ pc' L rest (ws.set q0 (a, .inl (cA, n, .inl (upd f i.toNatClampNeg x)))) kc ns) : X φ pc L (.int x :: .int i :: .ref a :: rest) ws kc ns := by
  obtain ⟨p, l', e, R, s, m, args, below, meth, c, A, Q, Γ'⟩ := φ
  obtain ⟨hx, hb, hml, hown, hts, hK, hA, hZ, rfl, rfl, rfl, hst⟩ := C
  intro H locs ls hP hD hS hl
  exact va_cast hx hb hK hP hD hS q0 t0 hq ht hin hd (fun H1 locs1 hP1 hD1 hS1 => by subst hpc; rw [hx0] at hP1 hD1; exact kk H1 locs1 ls hP1 hD1 hS1 hl)
theorem x_lald (C : Cb Γ l φ cc nL own wl rm) (pc' q0 t0 : Nat) {cA : ClassId} {n : Nat} {f : Nat → Int64} {i : Int32} (hq : ws[q0]? = some (a, .inl (cA, n, .inr (.inl f)))) (ht : Γ.2.1[t0]? = some (cA, .long)) (hin : vp_in i n) (hd : decode cc pc = .ok (.laload, 1)) (hpc : pc + 1 = pc') (kk : X φ pc' L (.long (f i.toNatClampNeg) :: rest) ws kc ns) : X φ pc L (.int i :: .ref a :: rest) ws kc ns := by
  obtain ⟨p, l', e, R, s, m, args, below, meth, c, A, Q, Γ'⟩ := φ
  obtain ⟨hx, hb, hml, hown, hts, hK, hA, hZ, rfl, rfl, rfl, hst⟩ := C
  intro H locs ls hP hD hS hl
  exact va_lald hx hb hK hP q0 t0 hq ht hin hd (by subst hpc; exact kk H locs ls hP hD hS hl)
theorem x_last (C : Cb Γ l φ cc nL own wl rm) (pc' q0 t0 : Nat) {cA : ClassId} {n : Nat} {f : Nat → Int64} {i : Int32} {x : Int64} (hq : ws[q0]? = some (a, .inl (cA, n, .inr (.inl f)))) (ht : Γ.2.1[t0]? = some (cA, .long)) (hin : vp_in i n) (hd : decode cc pc = .ok (.lastore, 1)) (hpc : pc + 1 = pc') (kk : X φ pc' L rest (ws.set q0 (a, .inl (cA, n, .inr (.inl (vp_updL f i.toNatClampNeg x))))) kc ns) : X φ pc L (.long x :: .int i :: .ref a :: rest) ws kc ns := by
  obtain ⟨p, l', e, R, s, m, args, below, meth, c, A, Q, Γ'⟩ := φ
  obtain ⟨hx, hb, hml, hown, hts, hK, hA, hZ, rfl, rfl, rfl, hst⟩ := C
  intro H locs ls hP hD hS hl
  exact va_last hx hb hK hP hD hS q0 t0 hq ht hin hd (fun H1 locs1 hP1 hD1 hS1 => by subst hpc; exact kk H1 locs1 ls hP1 hD1 hS1 hl)
theorem x_dald (C : Cb Γ l φ cc nL own wl rm) (pc' q0 t0 : Nat) {cA : ClassId} {n : Nat} {f : Nat → UInt64} {i : Int32} (hq : ws[q0]? = some (a, .inl (cA, n, .inr (.inr (.inr (.inl f)))))) (ht : Γ.2.1[t0]? = some (cA, .double)) (hin : vp_in i n) (hd : decode cc pc = .ok (.daload, 1)) (hpc : pc + 1 = pc') (kk : X φ pc' L (.double (f i.toNatClampNeg) :: rest) ws kc ns) : X φ pc L (.int i :: .ref a :: rest) ws kc ns := by
  obtain ⟨p, l', e, R, s, m, args, below, meth, c, A, Q, Γ'⟩ := φ
  obtain ⟨hx, hb, hml, hown, hts, hK, hA, hZ, rfl, rfl, rfl, hst⟩ := C
  intro H locs ls hP hD hS hl
  exact va_dald hx hb hK hP q0 t0 hq ht hin hd (by subst hpc; exact kk H locs ls hP hD hS hl)
theorem x_dast (C : Cb Γ l φ cc nL own wl rm) (pc' q0 t0 : Nat) {cA : ClassId} {n : Nat} {f : Nat → UInt64} {i : Int32} {x : UInt64} (hq : ws[q0]? = some (a, .inl (cA, n, .inr (.inr (.inr (.inl f)))))) (ht : Γ.2.1[t0]? = some (cA, .double)) (hin : vp_in i n) (hd : decode cc pc = .ok (.dastore, 1)) (hpc : pc + 1 = pc') (kk : X φ pc' L rest (ws.set q0 (a, .inl (cA, n, .inr (.inr (.inr (.inl (vf_upd f i.toNatClampNeg x))))))) kc ns) : X φ pc L (.double x :: .int i :: .ref a :: rest) ws kc ns := by
  obtain ⟨p, l', e, R, s, m, args, below, meth, c, A, Q, Γ'⟩ := φ
  obtain ⟨hx, hb, hml, hown, hts, hK, hA, hZ, rfl, rfl, rfl, hst⟩ := C
  intro H locs ls hP hD hS hl
  exact va_dast hx hb hK hP hD hS q0 t0 hq ht hin hd (fun H1 locs1 hP1 hD1 hS1 => by subst hpc; exact kk H1 locs1 ls hP1 hD1 hS1 hl)
/-- a new object: the class numbered ci, its fields blank -/
theorem x_new (C : Cb Γ l φ cc nL own wl rm) (pc' ci : Nat) {index N : Nat} {Cn : String} {T : u_T} {ty : Nat → FieldType} (fs : List Value) (hin : ∀ w ∈ u_ws Cn T N, w ∈ wl) (hty : ∀ k, k < N → parseFieldDescriptor (T k).2.2.1 = some (ty k)) (hcl : Cond.classLink own index Cn ∈ wl) (hinst : Cond.instantiable Cn N ∈ wl) (hini : Cond.initialized Cn ∈ wl) (hc : vwCl[ci]? = some (Cn, T, N)) (hfs : ∀ j, j < N → defaultValue (ty j) = vp_V fs j) (hkc : kc + 1 ≤ rm.cells) (hns : ns + N ≤ rm.slots) (hd : decode cc pc = .ok (.new index, 3)) (hpc : pc + 3 = pc')
    (kk : ∀ q : Nat, X φ pc' L (.ref q :: rest) (ws ++ [(q, .inr (ci, fs))]) (kc + 1) (ns + N)) : X φ pc L rest ws kc ns := by
  obtain ⟨p, l', e, R, s, m, args, below, meth, c, A, Q, Γ'⟩ := φ
  obtain ⟨hx, hb, hml, hown, hts, hK, hA, hZ, rfl, rfl, rfl, hst⟩ := C
  intro H locs ls hP hD hS hl
  exact va_new hx hb hts hin ty hty hown (hts _ hcl) (hts _ hinst) (hts _ hini) hK hP hD hS hA hc hfs hkc hns hd (fun q H1 hP1 hD1 hS1 => by subst hpc; exact kk q H1 locs ls hP1 hD1 hS1 hl)
/-- a new array of numbers, of the type that stands at t0 -/
theorem x_newa (C : Cb Γ l φ cc nL own wl rm) (pc' t0 : Nat) {atype : ArrayType} {ty : FieldType} {n : Int32} {N' : Nat} {cA : ClassId} (a0 : vp_A) (hty : newarray.typeOf atype = ty) (hnm : ∀ (c1 : ClassId) (s : State), va_RA s c1 ty → s.vm.findClass ("[" ++ ty.toString) = some c1) (harr : Cond.arrayClass ty ∈ wl) (ht : Γ.2.1[t0]? = some (cA, ty)) (ha : ∀ cA : ClassId, vp_cell cA a0 = arrV cA N' (fun _ => defaultValue ty)) (hn : ¬ n < 0) (hN : n.toNatClampNeg = N') (hbytes : N' * componentBytes ty ≤ 536870912) (hkc : kc + 1 ≤ rm.cells) (hns : ns + N' ≤ rm.slots) (hd : decode cc pc = .ok (.newarray atype, 2)) (hpc : pc + 2 = pc')
    (kk : ∀ q : Nat, X φ pc' L (.ref q :: rest) (ws ++ [(q, .inl (cA, a0))]) (kc + 1) (ns + N')) : X φ pc L (.int n :: rest) ws kc ns := by
  obtain ⟨p, l', e, R, s, m, args, below, meth, c, A, Q, Γ'⟩ := φ
  obtain ⟨hx, hb, hml, hown, hts, hK, hA, hZ, rfl, rfl, rfl, hst⟩ := C
  intro H locs ls hP hD hS hl
  refine va_newa hx hb (by rw [hty]; exact hts _ harr) hty hK hP hD hS hA ha hn hN hbytes hkc hns hd (fun q cA2 H1 hK1 hP1 hD1 hS1 => ?_)
  subst hpc
  have h1 := hnm _ _ ((hK.2 t0 _ ht).2)
  have h2 := hnm _ _ ((hK1.2 Γ'.2.1.length _ (by rw [List.getElem?_append_right (Nat.le_refl _), Nat.sub_self]; rfl)).2)
  have e1 : cA2 = cA := Option.some.inj (h2.symm.trans h1)
  subst e1
  exact kk q H1 locs ls hP1 hD1 hS1 hl
theorem x_objI (C : Cb Γ l φ cc nL own wl rm) (pc' : Nat) {idx : Nat} (hlink : Cond.methodLink own idx Lib.objectInit ∈ wl) (hinst : Cond.instanceMethod Lib.objectInit ∈ wl) (hcode : Cond.code Lib.objectInit ⟨#[0xb1]⟩ 1 none ∈ wl) (hfr : 1 ≤ rm.frames) (hlo : (rest.map fun v => v.category).sum + 12 ≤ rm.locals) (hd : decode cc pc = .ok (.invokespecial idx, 3)) (hpc : pc + 3 = pc') (kk : X φ pc' L rest ws kc ns) : X φ pc L (.ref a :: rest) ws kc ns := by
  obtain ⟨p, l', e, R, s, m, args, below, meth, c, A, Q, Γ'⟩ := φ
  obtain ⟨hx, hb, hml, hown, hts, hK, hA, hZ, rfl, rfl, rfl, hst⟩ := C
  intro H locs ls hP hD hS hl
  exact W.objInit hx hb hown (hts _ hlink) (hts _ hinst) (hts _ hcode) rfl hl.1 rfl hd hfr (by show 2 * 0 + _ + 12 ≤ _; omega) (by subst hpc; exact kk H locs ls hP hD hS hl)
theorem x_mmax (C : Cb Γ l φ cc nL own wl rm) (pc' : Nat) {idx : Nat} {x y : Int32} (hlink : Cond.methodLink own idx Lib.Math.max.name ∈ wl) (hstat : Cond.static Lib.Math.max.name ∈ wl) (hini : Cond.initialized "java/lang/Math" ∈ wl) (hcode : Cond.code Lib.Math.max.name Lib.Math.max.code 2 (some .int) ∈ wl) (hfr : 1 ≤ rm.frames) (hlo : (rest.map fun v => v.category).sum + 13 ≤ rm.locals) (hkc : kc ≤ rm.cells) (hns : ns ≤ rm.slots) (hd : decode cc pc = .ok (.invokestatic idx, 3)) (hpc : pc + 3 = pc') (kk : X φ pc' L (.int (if x < y then y else x) :: rest) ws kc ns) : X φ pc L (.int y :: .int x :: rest) ws kc ns := by
  obtain ⟨p, l', e, R, s, m, args, below, meth, c, A, Q, Γ'⟩ := φ
  obtain ⟨hx, hb, hml, hown, hts, hK, hA, hZ, rfl, rfl, rfl, hst⟩ := C
  intro H locs ls hP hD hS hl
  exact va_mmax hx hb hl.1.symm hown (hts _ hlink) (hts _ hstat) (hts _ hini) (hts _ hcode) hfr hlo hkc hns hd (by subst hpc; exact kk H locs ls hP hD hS hl)
theorem x_mmin (C : Cb Γ l φ cc nL own wl rm) (pc' : Nat) {idx : Nat} {x y : Int32} (hlink : Cond.methodLink own idx Lib.Math.min.name ∈ wl) (hstat : Cond.static Lib.Math.min.name ∈ wl) (hini : Cond.initialized "java/lang/Math" ∈ wl) (hcode : Cond.code Lib.Math.min.name Lib.Math.min.code 2 (some .int) ∈ wl) (hfr : 1 ≤ rm.frames) (hlo : (rest.map fun v => v.category).sum + 13 ≤ rm.locals) (hkc : kc ≤ rm.cells) (hns : ns ≤ rm.slots) (hd : decode cc pc = .ok (.invokestatic idx, 3)) (hpc : pc + 3 = pc') (kk : X φ pc' L (.int (if y < x then y else x) :: rest) ws kc ns) : X φ pc L (.int y :: .int x :: rest) ws kc ns := by
  obtain ⟨p, l', e, R, s, m, args, below, meth, c, A, Q, Γ'⟩ := φ
  obtain ⟨hx, hb, hml, hown, hts, hK, hA, hZ, rfl, rfl, rfl, hst⟩ := C
  intro H locs ls hP hD hS hl
  exact va_mmin hx hb hl.1.symm hown (hts _ hlink) (hts _ hstat) (hts _ hini) (hts _ hcode) hfr hlo hkc hns hd (by subst hpc; exact kk H locs ls hP hD hS hl)
/-- a new exception with a text, thrown; the method's table is empty -/
theorem x_throwS (C : Cx Γ l φ cc nL own wl rm nm rt Post PostX) {cls text : String} {names : List String} {ik is ic : Nat} (htx : (own, is, text) ∈ cTx) (hcls : Bundle.fit cls = true) (hnames : ∀ n ∈ names, Bundle.fit n = true) (hk : Cond.classLink own ik cls ∈ wl) (hini : Cond.initialized cls ∈ wl) (hat : ∀ w ∈ (vx_atS own ic cls names).filter goodWord, w ∈ wl) (hcx : cls ∈ cEx) (hat2 : ∀ w ∈ (vx_atS own ic cls names).filter (fun w => !goodWord w), w ∈ Cond.castable cls cls :: cDec.map Cond.declares) (hgood : (Cond.classLink own ik cls :: Cond.initialized cls :: vx_atS own ic cls names).all vx_ot = true)
    (d0 : decode cc pc = .ok (.new ik, 3)) (d3 : decode cc (pc + 3) = .ok (.dup, 1)) (d4 : decode cc (pc + 4) = .ok (.ldc is, 2)) (d6 : decode cc (pc + 6) = .ok (.invokespecial ic, 3)) (d9 : decode cc (pc + 9) = .ok (.athrow, 1)) (hfr : names.length + 3 < rm.frames) (hlo : (rest.map fun v => v.category).sum + (13 * (names.length + 1) + 43) ≤ rm.locals) (hkc : kc + 1 ≤ rm.cells) (hns : ns + 6 ≤ rm.slots) (hP : PostX cls ws) : X φ pc L rest ws kc ns := by
  obtain ⟨p, l', e, R, s, m, args, below, meth, c, A, Q, Γ'⟩ := φ
  obtain ⟨⟨hx, hb, hml, hown, hts, hK, hA, hZ, rfl, rfl, rfl, hst⟩, hname, hret, hlocks, rfl, htab⟩ := C
  intro H locs ls hP0 hD hS hl
  obtain ⟨sa, hsa⟩ := hZ.2.2.2.2.1 _ htx
  have hB : ∀ w ∈ Cond.castable cls cls :: cDec.map Cond.declares, w.before args s = true := by
    intro w hw
    rcases List.mem_cons.mp hw with rfl | hw
    · exact va_Nw.use rfl (hZ.2.2.2.2.2.1 cls hcx)
    · obtain ⟨y, hy, rfl⟩ := List.mem_map.mp hw
      exact va_Nw.use rfl (hZ.2.2.2.2.2.2.1 y hy)
  refine vx_throwS hx hb hst hown hcls hnames (hts _ hk) (hts _ hini) hsa (vx_hat (B := Cond.castable cls cls :: cDec.map Cond.declares) (fun w h => hts _ (hat w h)) hat2 hB) (List.all_eq_true.mp hgood) hZ.2.2.1 hZ.2.2.2.1 hS hl.1 d0 d3 d4 d6 d9 (fun x hx => (htab x hx).elim) hfr hlo hkc hns hlocks (fun t ht hz hk => ⟨⟨ws, hP, hP0.kept (fun k q hq => hk q.1 (hP0 k q hq).lt), hD⟩, ⟨Nat.le_trans hS.1 hz, fun q h1 h2 => (hk q (Nat.lt_of_lt_of_le h1 hS.1)).trans (hS.2.1 q h1 h2)⟩⟩) hS.2.2 hkc hns
theorem x_throwSW (C : Cx Γ l φ cc nL own wl rm nm rt Post PostX) {cls text : String} {names : List String} {ik is ic : Nat} (htx : (own, is, text) ∈ cTx) (hcls : Bundle.fit cls = true) (hnames : ∀ n ∈ names, Bundle.fit n = true) (hk : Cond.classLink own ik cls ∈ wl) (hini : Cond.initialized cls ∈ wl) (hat : ∀ w ∈ (vx_atS own ic cls names).filter goodWord, w ∈ wl) (hcx : cls ∈ cEx) (hat2 : ∀ w ∈ (vx_atS own ic cls names).filter (fun w => !goodWord w), w ∈ Cond.castable cls cls :: cDec.map Cond.declares) (hgood : (Cond.classLink own ik cls :: Cond.initialized cls :: vx_atS own ic cls names).all vx_ot = true)
    (d0 : decode cc pc = .ok (.new ik, 3)) (d3 : decode cc (pc + 3) = .ok (.dup, 1)) (d4 : decode cc (pc + 4) = .ok (.ldc_w is, 3)) (d7 : decode cc (pc + 7) = .ok (.invokespecial ic, 3)) (d10 : decode cc (pc + 10) = .ok (.athrow, 1)) (hfr : names.length + 3 < rm.frames) (hlo : (rest.map fun v => v.category).sum + (13 * (names.length + 1) + 43) ≤ rm.locals) (hkc : kc + 1 ≤ rm.cells) (hns : ns + 6 ≤ rm.slots) (hP : PostX cls ws) : X φ pc L rest ws kc ns := by
  obtain ⟨p, l', e, R, s, m, args, below, meth, c, A, Q, Γ'⟩ := φ
  obtain ⟨⟨hx, hb, hml, hown, hts, hK, hA, hZ, rfl, rfl, rfl, hst⟩, hname, hret, hlocks, rfl, htab⟩ := C
  intro H locs ls hP0 hD hS hl
  obtain ⟨sa, hsa⟩ := hZ.2.2.2.2.1 _ htx
  have hB : ∀ w ∈ Cond.castable cls cls :: cDec.map Cond.declares, w.before args s = true := by
    intro w hw
    rcases List.mem_cons.mp hw with rfl | hw
    · exact va_Nw.use rfl (hZ.2.2.2.2.2.1 cls hcx)
    · obtain ⟨y, hy, rfl⟩ := List.mem_map.mp hw
      exact va_Nw.use rfl (hZ.2.2.2.2.2.2.1 y hy)
  refine vx_throwSW hx hb hst hown hcls hnames (hts _ hk) (hts _ hini) hsa (vx_hat (B := Cond.castable cls cls :: cDec.map Cond.declares) (fun w h => hts _ (hat w h)) hat2 hB) (List.all_eq_true.mp hgood) hZ.2.2.1 hZ.2.2.2.1 hS hl.1 d0 d3 d4 d7 d10 (fun x hx => (htab x hx).elim) hfr hlo hkc hns hlocks (fun t ht hz hk => ⟨⟨ws, hP, hP0.kept (fun k q hq => hk q.1 (hP0 k q hq).lt), hD⟩, ⟨Nat.le_trans hS.1 hz, fun q h1 h2 => (hk q (Nat.lt_of_lt_of_le h1 hS.1)).trans (hS.2.1 q h1 h2)⟩⟩) hS.2.2 hkc hns
/-- calls of methods that may throw, from a method with an empty table: what they throw goes on -/
theorem x_callVx (C : Cx Γ l φ cc nL own wl rm nm rt Post PostX) (pc' q0 ci n : Nat) {y : MethodName} {wy wy' : List Cond} {rm' : Room} {b idx maxL : Nat} {As : List Value} {wsc wr : va_W} {P' : Option Value → va_W → Prop} {PX' : String → va_W → Prop} {bytes : ByteArray} {ret : Option FieldType} {Cn : String} {T : u_T} {N : Nat} {fs : List Value}
    (hC : Ct Γ l y wy rm' (.ref b :: As) wsc P' PX') (hw : wy = Cond.code y bytes maxL ret :: wy') (hG : GoodIn wl (wsV own idx Cn y wy)) (hdd : y.cls = Cn ∧ y.cls ≠ "java/lang/invoke/MethodHandle" ∧ y.cls ≠ "java/lang/invoke/VarHandle" ∧ (parseMethodDescriptor y.desc).map (fun d => d.parameters.length) = some n) (hR : rm'.frames + 1 ≤ rm.frames ∧ 8 + (maxL + 11) + rm'.locals ≤ rm.locals)
    (hc : vwCl[ci]? = some (Cn, T, N)) (hq : wsc[q0]? = some (b, .inr (ci, fs))) (hn : As.length = n) (hs0 : st = As.reverse ++ .ref b :: rest) (hcat : (rest.map fun v => v.category).sum ≤ 8) (hf : kc + rm'.cells ≤ rm.cells ∧ ns + rm'.slots ≤ rm.slots) (hd : decode cc pc = .ok (.invokevirtual idx, 3)) (hpc : pc + 3 = pc')
    (kk : ∀ (r : Option Value) (ws' : va_W), P' r ws' → X φ pc' L (r.toList ++ rest) (ws' ++ wr) (kc + rm'.cells) (ns + rm'.slots))
    (kx : ∀ (E : String) (ws' : va_W), PX' E ws' → PostX E (ws' ++ wr)) : X φ pc L st (wsc ++ wr) kc ns := by
  obtain ⟨p, l', e, R, s, m, args, below, meth, c, A, Q, Γ'⟩ := φ
  obtain ⟨⟨hx, hb, hml, hown, hts, hK, hA, hZ, rfl, rfl, rfl, hst⟩, hname, hret, hlocks, rfl, htab⟩ := C
  intro H locs ls hP hD hS hl
  subst hs0
  subst hpc
  refine w_runx hP hD hS hA (vx_runV (As := As) (rest := rest) ⟨hx, hb, hml, hown, hts⟩ (hC H.size) (cwV n hts hG hw rfl rfl hdd hR) ⟨cP.blind, va_recv hK (va_wsc_P hP) hc hq, fun U hU hW => ⟨rfl, by rw [hU], by rw [hU]; exact va_wsc_P hP, va_K.moved hW.alike hK, (va_wsc_D hD).weaken (fun _ _ _ _ => trivial), hZ.call hW hU hS (va_wsc_free hD hS hA)⟩⟩ rfl hn (hml ▸ hl.1) rfl (lv_room hcat) hd hf) (fun r ws' H1 locs1 h1 h2 h3 h4 => kk r ws' h1 H1 locs1 ls h2 h3 h4 hl) (fun E ce q9 ws' H1 locs1 h1 h2 h3 h4 h5 h6 h7 => ?_)
  exact vx_out (fun x hx => (htab x hx).elim) hlocks h5 h6 h7 (fun t ht hW => ⟨⟨ws' ++ wr, kx E ws' h1, by rw [ht]; exact h2, h3⟩, h4.F ht⟩) h4.2.2 hf.1 hf.2
theorem x_callSx (C : Cx Γ l φ cc nL own wl rm nm rt Post PostX) (pc' n : Nat) {y : MethodName} {wy wy' : List Cond} {rm' : Room} {idx maxL : Nat} {As : List Value} {wsc wr : va_W} {P' : Option Value → va_W → Prop} {PX' : String → va_W → Prop} {bytes : ByteArray} {ret : Option FieldType}
    (hC : Ct Γ l y wy rm' As wsc P' PX') (hw : wy = Cond.code y bytes maxL ret :: wy') (hG : GoodIn wl (va_wsS own idx y wy)) (hdd : y.cls ≠ "java/lang/invoke/MethodHandle" ∧ y.cls ≠ "java/lang/invoke/VarHandle" ∧ (parseMethodDescriptor y.desc).map (fun d => d.parameters.length) = some n) (hR : rm'.frames + 1 ≤ rm.frames ∧ 8 + (maxL + 11) + rm'.locals ≤ rm.locals)
    (hn : As.length = n) (hs0 : st = As.reverse ++ rest) (hcat : (rest.map fun v => v.category).sum ≤ 8) (hf : kc + rm'.cells ≤ rm.cells ∧ ns + rm'.slots ≤ rm.slots) (hd : decode cc pc = .ok (.invokestatic idx, 3)) (hpc : pc + 3 = pc')
    (kk : ∀ (r : Option Value) (ws' : va_W), P' r ws' → X φ pc' L (r.toList ++ rest) (ws' ++ wr) (kc + rm'.cells) (ns + rm'.slots))
    (kx : ∀ (E : String) (ws' : va_W), PX' E ws' → PostX E (ws' ++ wr)) : X φ pc L st (wsc ++ wr) kc ns := by
  obtain ⟨p, l', e, R, s, m, args, below, meth, c, A, Q, Γ'⟩ := φ
  obtain ⟨⟨hx, hb, hml, hown, hts, hK, hA, hZ, rfl, rfl, rfl, hst⟩, hname, hret, hlocks, rfl, htab⟩ := C
  intro H locs ls hP hD hS hl
  subst hs0
  subst hpc
  refine w_runx hP hD hS hA (vx_runS (As := As) (rest := rest) ⟨hx, hb, hml, hown, hts⟩ (hC H.size) (va_cwS n hts hG hw rfl rfl hdd hR) ⟨cP.blind, fun U hU hW => ⟨rfl, by rw [hU], by rw [hU]; exact va_wsc_P hP, va_K.moved hW.alike hK, (va_wsc_D hD).weaken (fun _ _ _ _ => trivial), hZ.call hW hU hS (va_wsc_free hD hS hA)⟩⟩ rfl hn (hml ▸ hl.1) rfl (lv_room hcat) hd hf) (fun r ws' H1 locs1 h1 h2 h3 h4 => kk r ws' h1 H1 locs1 ls h2 h3 h4 hl) (fun E ce q9 ws' H1 locs1 h1 h2 h3 h4 h5 h6 h7 => ?_)
  exact vx_out (fun x hx => (htab x hx).elim) hlocks h5 h6 h7 (fun t ht hW => ⟨⟨ws' ++ wr, kx E ws' h1, by rw [ht]; exact h2, h3⟩, h4.F ht⟩) h4.2.2 hf.1 hf.2
end XM
