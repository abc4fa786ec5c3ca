/-! rows that touch the heap, ends, calls -/
theorem va_frame {D : va_G} {cl : List vw_C} {A : Nat → Prop} {wsc wr ws' : va_W} {H H1 : Heap} (hP : va_P D cl (wsc ++ wr) H) (hD : va_D A (wsc ++ wr)) (hF : ∀ q, va_A wsc H.size q → A q) (hk : ∀ q : Nat, q < H.size → ¬ va_A wsc H.size q → H1[q]? = H[q]?) (hP1 : va_P D cl ws' H1) (hD1 : va_D (va_A wsc H.size) ws') : va_P D cl (ws' ++ wr) H1 ∧ va_D A (ws' ++ wr) := by
  have at' : ∀ (k : Nat) (q : Nat × va_E), wr[k]? = some q → (wsc ++ wr)[wsc.length + k]? = some q := fun k q h => by
    rw [List.getElem?_append_right (by omega), Nat.add_sub_cancel_left]
    exact h
  have apart : ∀ (k : Nat) (q : Nat × va_E), wr[k]? = some q → q.1 < H.size ∧ ¬ va_A wsc H.size q.1 := by
    intro k q hq
    have hl := (hP _ q (at' k q hq)).lt
    refine ⟨hl, fun h => ?_⟩
    rcases h with ⟨j, e, h⟩ | h
    · have hj : j < wsc.length := (List.getElem?_eq_some_iff.mp h).1
      have := hD.1 (wsc.length + k) j q (q.1, e) (at' k q hq) (by rw [List.getElem?_append_left hj]; exact h) rfl
      omega
    · omega
  have hDr : va_D A wr := ⟨fun i j p q hi hj e => by have := hD.1 _ _ p q (at' i p hi) (at' j q hj) e; omega, fun k q h => hD.2 _ q (at' k q h)⟩
  refine ⟨va_P.app hP1 (fun k q hq => (hP _ q (at' k q hq)).kept (hk q.1 (apart k q hq).1 (apart k q hq).2)), va_D.app (hD1.weaken (fun k q _ h => hF q.1 h)) hDr (fun i j p q hp hq e => ?_)⟩
  exact (apart j q hq).2 (e ▸ hD1.2 i p hp)
theorem va_wsc_free {A : Nat → Prop} {wsc wr : va_W} {H0 H : Heap} {locs : List Loc} (hD : va_D A (wsc ++ wr)) (hS : va_S A H0 H locs) (hA : ∀ q, H0.size ≤ q → A q) : ∀ q, va_A wsc H.size q → A q := by
  intro q h
  rcases h with ⟨k, e, h⟩ | h
  · exact hD.2 k (q, e) (by rw [List.getElem?_append_left (List.getElem?_eq_some_iff.mp h).1]; exact h)
  · exact hA q (Nat.le_trans hS.1 h)
theorem va_wsc_D {A : Nat → Prop} {wsc wr : va_W} (hD : va_D A (wsc ++ wr)) : va_D A wsc :=
  ⟨fun i j p q hi hj e => hD.1 i j p q (by rw [List.getElem?_append_left (List.getElem?_eq_some_iff.mp hi).1]; exact hi) (by rw [List.getElem?_append_left (List.getElem?_eq_some_iff.mp hj).1]; exact hj) e, fun k q h => hD.2 k q (by rw [List.getElem?_append_left (List.getElem?_eq_some_iff.mp h).1]; exact h)⟩
theorem va_wsc_P {D : va_G} {cl : List vw_C} {wsc wr : va_W} {H : Heap} (hP : va_P D cl (wsc ++ wr) H) : va_P D cl wsc H := fun k q h => hP k q (by rw [List.getElem?_append_left (List.getElem?_eq_some_iff.mp h).1]; exact h)
section WR
variable {p : Program} {l : Launch} {e : Env} {R : Room} {s : State} {m : MethodId} {args : Array Value} {below : List Frame} {meth : Method} {c : Code} {H : Heap} {locs : List Loc} {kc ns mc ms pc : Nat} {Q : State → Prop} {ls : Array Slot} {st0 rest : List Value} {D : va_G} {A : Nat → Prop} {wsc wr : va_W} {P' : Option Value → va_W → Prop} {PX : String → va_W → Prop} {a : Array Value}
theorem w_run (hP : va_P D vwCl (wsc ++ wr) H) (hD : va_D A (wsc ++ wr)) (hS : va_S A s.heap H locs) (hA : ∀ q, s.heap.size ≤ q → A q)
    (hr : va_Run p l e R s m args below meth c H locs kc ns mc ms (F0 m pc ls st0) rest (cQ D P' (va_A wsc H.size) a) (va_A wsc H.size))
    (kk : ∀ (r : Option Value) (ws' : va_W) (H1 : Heap) (locs1 : List Loc), P' r ws' → va_P D vwCl (ws' ++ wr) H1 → va_D A (ws' ++ wr) → va_S A s.heap H1 locs1 → W p l e R s m args below meth c H1 locs1 (kc + mc) (ns + ms) Q (F0 m (pc + 3) ls (r.toList ++ rest))) :
    W p l e R s m args below meth c H locs kc ns Q (F0 m pc ls st0) := by
  have hF := va_wsc_free hD hS hA
  intro T hT X
  obtain ⟨v, st₀, t, T', L, h0, X', hL, e1, e2, ⟨⟨r, ws', hv, hp, hP1, hD1⟩, hFr⟩, st⟩ := hr T hT X
  cases hv
  obtain ⟨k1, k2, k3⟩ := vx_keep h0 e1 hS (fun q _ h => hF q h) hF hL hFr
  rw [← e1] at hP1
  obtain ⟨hP2, hD2⟩ := va_frame hP hD hF k2 hP1 hD1
  obtain ⟨t2, a1, b1⟩ := kk _ ws' T'.heap (locs ++ L) hp hP2 hD2 k3 T' rfl X'
  exact ⟨t2, st t2 a1, b1⟩
theorem w_runx (hP : va_P D vwCl (wsc ++ wr) H) (hD : va_D A (wsc ++ wr)) (hS : va_S A s.heap H locs) (hA : ∀ q, s.heap.size ≤ q → A q)
    (hr : vx_Run p l e R s m args below meth c H locs kc ns mc ms (F0 m pc ls st0) rest (cQ D P' (va_A wsc H.size) a) (cE D PX (va_A wsc H.size)) (va_A wsc H.size))
    (kk : ∀ (r : Option Value) (ws' : va_W) (H1 : Heap) (locs1 : List Loc), P' r ws' → va_P D vwCl (ws' ++ wr) H1 → va_D A (ws' ++ wr) → va_S A s.heap H1 locs1 → W p l e R s m args below meth c H1 locs1 (kc + mc) (ns + ms) Q (F0 m (pc + 3) ls (r.toList ++ rest)))
    (kx : ∀ (E : String) (ce : Cell) (q9 : Addr) (ws' : va_W) (H1 : Heap) (locs1 : List Loc), PX E ws' → va_P D vwCl (ws' ++ wr) H1 → va_D A (ws' ++ wr) → va_S A s.heap H1 locs1 → H1[q9]? = some ce → ce.vm = .none → s.vm.findClass E = some ce.cls → vx_W p l e R s m args below meth c H1 locs1 (kc + mc) (ns + ms) Q (F0 m pc ls rest) q9) :
    W p l e R s m args below meth c H locs kc ns Q (F0 m pc ls st0) := by
  have hF := va_wsc_free hD hS hA
  intro T hT X
  rcases hr T hT X with ⟨v, st₀, t, T', L, h0, X', hL, e1, e2, ⟨⟨r, ws', hv, hp, hP1, hD1⟩, hFr⟩, st⟩ | ⟨q, st₀, t, T', L, E, ce, h0, X', hL, e1, e2, ⟨⟨ws', hp, hP1, hD1⟩, hFr⟩, hce, hcv, hcl, st⟩
  · cases hv
    obtain ⟨k1, k2, k3⟩ := vx_keep h0 e1 hS (fun q _ h => hF q h) hF hL hFr
    rw [← e1] at hP1
    obtain ⟨hP2, hD2⟩ := va_frame hP hD hF k2 hP1 hD1
    obtain ⟨t2, a1, b1⟩ := kk _ ws' T'.heap (locs ++ L) hp hP2 hD2 k3 T' rfl X'
    exact ⟨t2, st t2 a1, b1⟩
  · obtain ⟨k1, k2, k3⟩ := vx_keep h0 e1 hS (fun q _ h => hF q h) hF hL hFr
    rw [← e1] at hP1
    obtain ⟨hP2, hD2⟩ := va_frame hP hD hF k2 hP1 hD1
    obtain ⟨t2, a1, b1⟩ := kx E ce q ws' T'.heap (locs ++ L) hp hP2 hD2 k3 (by rw [e1]; exact hce) hcv hcl T' rfl X'
    exact ⟨t2, st.trans a1, b1⟩
end WR
theorem vx_Met.met {l : Launch} {y : MethodName} {ws : List Cond} {rm : Room} {Pc : Array Value → State → Prop} {Qc : Array Value → State → Outcome → State → Prop} {XC : String → State → State → Prop} {mc ms : Nat} {free : Addr → Prop} (hX : ∀ E st t, ¬ XC E st t) (h : vx_Met l y ws rm Pc Qc XC mc ms free) : Met l y ws rm Pc Qc mc ms free := by
  intro p e ha hc hk s m args below hf happ hP hK
  obtain ⟨n, o, h1, h2, h3, h4⟩ := h p e ha hc hk s m args below hf happ hP hK
  refine ⟨n, o, h1, h2, h3, ?_⟩
  rcases h4 with h4 | ⟨q, -, E, ce, L, h5, -⟩
  · exact h4
  · exact absurd h5 (hX _ _ _)
theorem cP.blind {Γ : Gm} {av : List Value} {ws : va_W} {sz : Nat} : FrameBlind (va_Pc av (cP Γ ws sz)) := by
  intro a U g mk q
  obtain ⟨rfl, h1, h2, h3, h4, h5⟩ := q
  exact ⟨rfl, h1, h2, va_K.moved (u := U) (U := U.calling g mk _) (Vm.Alike.refl U.vm) h3, h4, h5.same rfl⟩
abbrev noX : String → va_W → Prop := fun _ _ => False
theorem Ct.met {Γ : Gm} {l : Launch} {y : MethodName} {wy : List Cond} {rm : Room} {av : List Value} {ws : va_W} {Post : Option Value → va_W → Prop} (h : Ct Γ l y wy rm av ws Post noX) (sz : Nat) : Met l y wy rm (va_Pc av (cP Γ ws sz)) (cQ Γ.1 Post (va_A ws sz)) rm.cells rm.slots (va_A ws sz) :=
  vx_Met.met (fun E st t q => by obtain ⟨⟨ws', h, -⟩, -⟩ := q; exact h) (h sz)
theorem Ct.weaken {Γ : Gm} {l : Launch} {y : MethodName} {wy : List Cond} {rm : Room} {av : List Value} {ws : va_W} {Post Post2 : Option Value → va_W → Prop} {PX PX2 : String → va_W → Prop} (h : Ct Γ l y wy rm av ws Post PX) (h1 : ∀ r w, Post r w → Post2 r w) (h2 : ∀ E w, PX E w → PX2 E w) : Ct Γ l y wy rm av ws Post2 PX2 := by
  intro sz p e ha hc hk s m args below hf happ hP hK
  obtain ⟨n, o, g1, g2, g3, g4⟩ := h sz p e ha hc hk s m args below hf happ hP hK
  refine ⟨n, o, g1, g2, g3, ?_⟩
  rcases g4 with ⟨⟨⟨r, ws', b1, b2, b3, b4⟩, b5⟩, b6⟩ | ⟨q, b1, E, ce, L, ⟨⟨ws', c1, c2, c3⟩, c4⟩, c5⟩
  · exact Or.inl ⟨⟨⟨r, ws', b1, h1 _ _ b2, b3, b4⟩, b5⟩, b6⟩
  · exact Or.inr ⟨q, b1, E, ce, L, ⟨⟨ws', h2 _ _ c1, c2, c3⟩, c4⟩, c5⟩
/-- a getfield's words: field k of the class numbered ci -/
def gF (own : String) (wl : List Cond) (index ci k : Nat) : Prop := ∃ (Cn : String) (T : u_T) (N : Nat) (ref : String), vwCl[ci]? = some (Cn, T, N) ∧ (∀ w ∈ u_ws Cn T N, w ∈ wl) ∧ k < N ∧ Cond.fieldLink own index ref (T k).2.1 (T k).2.2.1 ∈ wl ∧ ((T k).1 = ref ∨ Cond.sameField ref (T k).1 (T k).2.1 (T k).2.2.1 ∈ wl)
def pF (own : String) (wl : List Cond) (index ci k : Nat) (fin : Bool) (ty : FieldType) : Prop := ∃ (Cn : String) (T : u_T) (N : Nat) (ref : String) (ty0 : Nat → FieldType), vwCl[ci]? = some (Cn, T, N) ∧ (∀ w ∈ u_ws Cn T N, w ∈ wl) ∧ k < N ∧ Cond.fieldLink own index ref (T k).2.1 (T k).2.2.1 ∈ wl ∧ ((T k).1 = ref ∨ Cond.sameField ref (T k).1 (T k).2.1 (T k).2.2.1 ∈ wl) ∧ (∀ k, k < N → parseFieldDescriptor (T k).2.2.1 = some (ty0 k)) ∧ (∀ a, a < N → ∀ b, b < N → a ≠ b → (T a).2.1 ≠ (T b).2.1) ∧ (T k).2.2.2 = fin ∧ ty0 k = ty ∧ (fin = true → (T k).1 = own)
section XH
variable {Γ : Gm} {l : Launch} {φ : Fx} {cc : ByteArray} {nL : Nat} {own : String} {wl : List Cond} {rm : Room} {pc : Nat} {L : List (Option Value)} {st rest : List Value} {ws : va_W} {kc ns : Nat} {a : Nat} {nm : String} {rt : Option FieldType} {Post : Option Value → va_W → Prop} {PostX : String → va_W → Prop}
theorem x_get (C : Cb Γ l φ cc nL own wl rm) (pc' q0 : Nat) {ci k index : Nat} {fs : List Value} {v : Value} (hq : ws[q0]? = some (a, .inr (ci, fs))) (F : gF own wl index ci k) (hv : fs[k]? = some v) (hd : decode cc pc = .ok (.getfield index, 3)) (hpc : pc + 3 = pc') (kk : X φ pc' L (v :: rest) ws kc ns) : X φ pc L (.ref a :: rest) ws kc ns := by
  obtain ⟨p, l', e, R, s, m, args, below, meth, c, A, Q, Γ'⟩ := φ
  obtain ⟨hx, hb, hml, hown, hts, hK, hA, hZ, rfl, rfl, rfl, hst⟩ := C
  intro H locs ls hP hD hS hl
  obtain ⟨Cn, T, N, ref, hc, hin, hk, hlink, hsame⟩ := F
  refine va_get hx hb hts hin hown hK hP q0 hq hc k hk (hts _ hlink) (fun x hx0 => ?_) hv hd (by subst hpc; exact kk H locs ls hP hD hS hl)
  rcases hsame with h | h
  · rw [← h]; exact hx0
  · exact u_same (hts _ h) x hx0
theorem x_put (C : Cb Γ l φ cc nL own wl rm) (pc' q0 : Nat) {ci k index : Nat} {fs : List Value} {v : Value} {ty : FieldType} (hq : ws[q0]? = some (a, .inr (ci, fs))) (F : pF own wl index ci k false ty) (hn : narrow ty v = v) (hfit : fits ty v = true) (hl : k < fs.length) (hd : decode cc pc = .ok (.putfield index, 3)) (hpc : pc + 3 = pc') (kk : X φ pc' L rest (ws.set q0 (a, .inr (ci, fs.set k v))) kc ns) : X φ pc L (v :: .ref a :: rest) ws kc ns := by
  obtain ⟨p, l', e, R, s, m, args, below, meth, c, A, Q, Γ'⟩ := φ
  obtain ⟨hx, hb, hml, hown, hts, hK, hA, hZ, rfl, rfl, rfl, hst⟩ := C
  intro H locs ls hP hD hS hl0
  obtain ⟨Cn, T, N, ref, ty0, hc, hin, hk, hlink, hsame, hty, hnm, hfin, hte, -⟩ := F
  refine va_put hx hb hts hin ty0 hty hnm hown hK hP hD hS q0 hq hc k hk (hts _ hlink) (fun x hx0 => ?_) hfin (hty k hk) (by rw [hte]; exact hn) (by rw [hte]; exact hfit) hl hd (fun H1 locs1 hP1 hD1 hS1 => by subst hpc; exact kk H1 locs1 ls hP1 hD1 hS1 hl0)
  rcases hsame with h | h
  · rw [← h]; exact hx0
  · exact u_same (hts _ h) x hx0
/-- a final field, in the constructor of its class -/
theorem x_putF (C : Cx Γ l φ cc nL own wl rm "<init>" rt Post PostX) (pc' q0 : Nat) {ci k index : Nat} {fs : List Value} {v : Value} {ty : FieldType} (hq : ws[q0]? = some (a, .inr (ci, fs))) (F : pF own wl index ci k true ty) (hn : narrow ty v = v) (hfit : fits ty v = true) (hl : k < fs.length) (hd : decode cc pc = .ok (.putfield index, 3)) (hpc : pc + 3 = pc') (kk : X φ pc' L rest (ws.set q0 (a, .inr (ci, fs.set k v))) kc ns) : X φ pc L (v :: .ref a :: rest) ws kc ns := by
  obtain ⟨p, l', e, R, s, m, args, below, meth, c, A, Q, Γ'⟩ := φ
  obtain ⟨⟨hx, hb, hml, hown, hts, hK, hA, hZ, rfl, rfl, rfl, hst⟩, hname, -⟩ := C
  intro H locs ls hP hD hS hl0
  obtain ⟨Cn, T, N, ref, ty0, hc, hin, hk, hlink, hsame, hty, hnm, hfin, hte, hdecl⟩ := F
  refine va_putF hx hb hts hin ty0 hty hnm hown hK hP hD hS q0 hq hc k hk (hts _ hlink) (fun x hx0 => ?_) hfin hname (hdecl rfl) (hty k hk) (by rw [hte]; exact hn) (by rw [hte]; exact hfit) hl hd (fun H1 locs1 hP1 hD1 hS1 => by subst hpc; exact kk H1 locs1 ls hP1 hD1 hS1 hl0)
  rcases hsame with h | h
  · rw [← h]; exact hx0
  · exact u_same (hts _ h) x hx0
end XH
section XA
variable {Γ : Gm} {l : Launch} {φ : Fx} {cc : ByteArray} {nL : Nat} {own : String} {wl : List Cond} {rm : Room} {pc : Nat} {L : List (Option Value)} {st rest : List Value} {ws : va_W} {kc ns : Nat} {a : Nat} {nm : String} {rt : Option FieldType} {Post : Option Value → va_W → Prop} {PostX : String → va_W → Prop}
theorem x_iald (C : Cb Γ l φ cc nL own wl rm) (pc' q0 t0 : Nat) {cA : ClassId} {n : Nat} {f : Nat → Int32} {i : Int32} (hq : ws[q0]? = some (a, .inl (cA, n, .inl f))) (ht : Γ.2.1[t0]? = some (cA, .int)) (hin : vp_in i n) (hd : decode cc pc = .ok (.iaload, 1)) (hpc : pc + 1 = pc') (kk : X φ pc' L (.int (f i.toNatClampNeg) :: rest) ws kc ns) : X φ pc L (.int i :: .ref a :: rest) ws kc ns := by
  obtain ⟨p, l', e, R, s, m, args, below, meth, c, A, Q, Γ'⟩ := φ
  obtain ⟨hx, hb, hml, hown, hts, hK, hA, hZ, rfl, rfl, rfl, hst⟩ := C
  intro H locs ls hP hD hS hl
  exact va_iald hx hb hK hP q0 t0 hq ht hin hd (by subst hpc; exact kk H locs ls hP hD hS hl)
theorem x_cald (C : Cb Γ l φ cc nL own wl rm) (pc' q0 t0 : Nat) {cA : ClassId} {n : Nat} {f : Nat → Int32} {i : Int32} (hq : ws[q0]? = some (a, .inl (cA, n, .inl f))) (ht : Γ.2.1[t0]? = some (cA, .char)) (hin : vp_in i n) (hd : decode cc pc = .ok (.caload, 1)) (hpc : pc + 1 = pc') (kk : X φ pc' L (.int (f i.toNatClampNeg) :: rest) ws kc ns) : X φ pc L (.int i :: .ref a :: rest) ws kc ns := by
  obtain ⟨p, l', e, R, s, m, args, below, meth, c, A, Q, Γ'⟩ := φ
  obtain ⟨hx, hb, hml, hown, hts, hK, hA, hZ, rfl, rfl, rfl, hst⟩ := C
  intro H locs ls hP hD hS hl
  exact va_cald hx hb hK hP q0 t0 hq ht hin hd (by subst hpc; exact kk H locs ls hP hD hS hl)
theorem x_zald (C : Cb Γ l φ cc nL own wl rm) (pc' q0 t0 : Nat) {cA : ClassId} {n : Nat} {f : Nat → Int32} {i : Int32} (hq : ws[q0]? = some (a, .inl (cA, n, .inl f))) (ht : Γ.2.1[t0]? = some (cA, .boolean)) (hin : vp_in i n) (hd : decode cc pc = .ok (.baload, 1)) (hpc : pc + 1 = pc') (kk : X φ pc' L (.int (f i.toNatClampNeg) :: rest) ws kc ns) : X φ pc L (.int i :: .ref a :: rest) ws kc ns := by
  obtain ⟨p, l', e, R, s, m, args, below, meth, c, A, Q, Γ'⟩ := φ
  obtain ⟨hx, hb, hml, hown, hts, hK, hA, hZ, rfl, rfl, rfl, hst⟩ := C
  intro H locs ls hP hD hS hl
  exact va_zald hx hb hK hP q0 t0 hq ht hin hd (by subst hpc; exact kk H locs ls hP hD hS hl)
theorem x_iast (C : Cb Γ l φ cc nL own wl rm) (pc' q0 t0 : Nat) {cA : ClassId} {n : Nat} {f : Nat → Int32} {i x : Int32} (hq : ws[q0]? = some (a, .inl (cA, n, .inl f))) (ht : Γ.2.1[t0]? = some (cA, .int)) (hin : vp_in i n) (hd : decode cc pc = .ok (.iastore, 1)) (hpc : pc + 1 = pc') (kk : X φ pc' L rest (ws.set q0 (a, .inl (cA, n, .inl (upd f i.toNatClampNeg x)))) kc ns) : X φ pc L (.int x :: .int i :: .ref a :: rest) ws kc ns := by
  obtain ⟨p, l', e, R, s, m, args, below, meth, c, A, Q, Γ'⟩ := φ
  obtain ⟨hx, hb, hml, hown, hts, hK, hA, hZ, rfl, rfl, rfl, hst⟩ := C
  intro H locs ls hP hD hS hl
  exact va_iast hx hb hK hP hD hS q0 t0 hq ht hin hd (fun H1 locs1 hP1 hD1 hS1 => by subst hpc; exact kk H1 locs1 ls hP1 hD1 hS1 hl)
theorem x_aldq (C : Cb Γ l φ cc nL own wl rm) (pc' q0 t0 : Nat) {cA : ClassId} {E : String} {n : Nat} {f : Nat → Option Nat} {i : Int32} (hq : ws[q0]? = some (a, .inl (cA, n, .inr (.inr (.inr (.inr f)))))) (ht : Γ.2.1[t0]? = some (cA, .object E)) (hin : vp_in i n) (hd : decode cc pc = .ok (.aaload, 1)) (hpc : pc + 1 = pc') (kk : X φ pc' L (va_rf (f i.toNatClampNeg) :: rest) ws kc ns) : X φ pc L (.int i :: .ref a :: rest) ws kc ns := by
  obtain ⟨p, l', e, R, s, m, args, below, meth, c, A, Q, Γ'⟩ := φ
  obtain ⟨hx, hb, hml, hown, hts, hK, hA, hZ, rfl, rfl, rfl, hst⟩ := C
  intro H locs ls hP hD hS hl
  exact va_aldq hx hb hK hP q0 t0 hq ht hin hd (by subst hpc; exact kk H locs ls hP hD hS hl)
theorem x_alen (C : Cb Γ l φ cc nL own wl rm) (pc' q0 t0 : Nat) {cA : ClassId} {x : vp_A} {ty : FieldType} (hq : ws[q0]? = some (a, .inl (cA, x))) (ht : Γ.2.1[t0]? = some (cA, ty)) (hd : decode cc pc = .ok (.arraylength, 1)) (hpc : pc + 1 = pc') (kk : X φ pc' L (.int (Int32.ofNat x.1) :: rest) ws kc ns) : X φ pc L (.ref a :: rest) ws kc ns := by
  obtain ⟨p, l', e, R, s, m, args, below, meth, c, A, Q, Γ'⟩ := φ
  obtain ⟨hx, hb, hml, hown, hts, hK, hA, hZ, rfl, rfl, rfl, hst⟩ := C
  intro H locs ls hP hD hS hl
  exact va_alen hx hb hK hP q0 t0 hq ht rfl hd (by subst hpc; exact kk H locs ls hP hD hS hl)
/-- ends -/
theorem x_zret (C : Cx Γ l φ cc nL own wl rm nm (some .int) Post PostX) {v : Int32} (hd : decode cc pc = .ok (.ireturn, 1)) (hc : kc ≤ rm.cells) (hs : ns ≤ rm.slots) (hP : Post (some (.int v)) ws) : X φ pc L [.int v] ws kc ns := by
  obtain ⟨p, l', e, R, s, m, args, below, meth, c, A, Q, Γ'⟩ := φ
  obtain ⟨⟨hx, hb, hml, hown, hts, hK, hA, hZ, rfl, rfl, rfl, hst⟩, hname, hret, hlocks, rfl, htab⟩ := C
  intro H locs ls hP0 hD hS hl
  exact vx_ret (W.widen hc hs (W.zret hx hb hret rfl (fun t ht _ => ⟨⟨_, ws, rfl, hP, by rw [ht]; exact hP0, hD⟩, hS.F ht⟩) hS.2.2 hd hlocks))
theorem x_nret (C : Cx Γ l φ cc nL own wl rm nm rt Post PostX) {ty : FieldType} (hrt : rt = some ty) {v : Int32} (hn : narrow ty (.int v) = .int v) (hd : decode cc pc = .ok (.ireturn, 1)) (hc : kc ≤ rm.cells) (hs : ns ≤ rm.slots) (hP : Post (some (.int v)) ws) : X φ pc L [.int v] ws kc ns := by
  obtain ⟨p, l', e, R, s, m, args, below, meth, c, A, Q, Γ'⟩ := φ
  obtain ⟨⟨hx, hb, hml, hown, hts, hK, hA, hZ, rfl, rfl, rfl, hst⟩, hname, hret, hlocks, rfl, htab⟩ := C
  intro H locs ls hP0 hD hS hl
  exact vx_ret (W.widen hc hs (W.zret hx hb (hret.trans hrt) hn (fun t ht _ => ⟨⟨_, ws, rfl, hP, by rw [ht]; exact hP0, hD⟩, hS.F ht⟩) hS.2.2 hd hlocks))
theorem x_lret (C : Cx Γ l φ cc nL own wl rm nm (some .long) Post PostX) {v : Int64} (hd : decode cc pc = .ok (.lreturn, 1)) (hc : kc ≤ rm.cells) (hs : ns ≤ rm.slots) (hP : Post (some (.long v)) ws) : X φ pc L [.long v] ws kc ns := by
  obtain ⟨p, l', e, R, s, m, args, below, meth, c, A, Q, Γ'⟩ := φ
  obtain ⟨⟨hx, hb, hml, hown, hts, hK, hA, hZ, rfl, rfl, rfl, hst⟩, hname, hret, hlocks, rfl, htab⟩ := C
  intro H locs ls hP0 hD hS hl
  exact vx_ret (W.widen hc hs (W.lret hx hb hret (fun t ht _ => ⟨⟨_, ws, rfl, hP, by rw [ht]; exact hP0, hD⟩, hS.F ht⟩) hS.2.2 hd hlocks))
theorem x_fret (C : Cx Γ l φ cc nL own wl rm nm (some .float) Post PostX) {v : UInt32} (hd : decode cc pc = .ok (.freturn, 1)) (hc : kc ≤ rm.cells) (hs : ns ≤ rm.slots) (hP : Post (some (.float v)) ws) : X φ pc L [.float v] ws kc ns := by
  obtain ⟨p, l', e, R, s, m, args, below, meth, c, A, Q, Γ'⟩ := φ
  obtain ⟨⟨hx, hb, hml, hown, hts, hK, hA, hZ, rfl, rfl, rfl, hst⟩, hname, hret, hlocks, rfl, htab⟩ := C
  intro H locs ls hP0 hD hS hl
  exact vx_ret (W.widen hc hs (W.fret hx hb hret (fun t ht _ => ⟨⟨_, ws, rfl, hP, by rw [ht]; exact hP0, hD⟩, hS.F ht⟩) hS.2.2 hd hlocks))
theorem x_dret (C : Cx Γ l φ cc nL own wl rm nm (some .double) Post PostX) {v : UInt64} (hd : decode cc pc = .ok (.dreturn, 1)) (hc : kc ≤ rm.cells) (hs : ns ≤ rm.slots) (hP : Post (some (.double v)) ws) : X φ pc L [.double v] ws kc ns := by
  obtain ⟨p, l', e, R, s, m, args, below, meth, c, A, Q, Γ'⟩ := φ
  obtain ⟨⟨hx, hb, hml, hown, hts, hK, hA, hZ, rfl, rfl, rfl, hst⟩, hname, hret, hlocks, rfl, htab⟩ := C
  intro H locs ls hP0 hD hS hl
  exact vx_ret (W.widen hc hs (W.dret hx hb hret (fun t ht _ => ⟨⟨_, ws, rfl, hP, by rw [ht]; exact hP0, hD⟩, hS.F ht⟩) hS.2.2 hd hlocks))
theorem x_vret (C : Cx Γ l φ cc nL own wl rm nm none Post PostX) (hd : decode cc pc = .ok (.return_, 1)) (hc : kc ≤ rm.cells) (hs : ns ≤ rm.slots) (hP : Post none ws) : X φ pc L [] ws kc ns := by
  obtain ⟨p, l', e, R, s, m, args, below, meth, c, A, Q, Γ'⟩ := φ
  obtain ⟨⟨hx, hb, hml, hown, hts, hK, hA, hZ, rfl, rfl, rfl, hst⟩, hname, hret, hlocks, rfl, htab⟩ := C
  intro H locs ls hP0 hD hS hl
  exact vx_ret (W.widen hc hs (W.vret hx hb hret (fun t ht _ => ⟨⟨_, ws, rfl, hP, by rw [ht]; exact hP0, hD⟩, hS.F ht⟩) hS.2.2 hd hlocks))
theorem x_aret (C : Cx Γ l φ cc nL own wl rm nm rt Post PostX) {ty : FieldType} (hrt : rt = some ty) (hty : (∃ n, ty = .object n) ∨ ∃ t, ty = .array t) {r : Option Nat} (hd : decode cc pc = .ok (.areturn, 1)) (hc : kc ≤ rm.cells) (hs : ns ≤ rm.slots) (hP : Post (some (va_rf r)) ws) : X φ pc L [va_rf r] ws kc ns := by
  obtain ⟨p, l', e, R, s, m, args, below, meth, c, A, Q, Γ'⟩ := φ
  obtain ⟨⟨hx, hb, hml, hown, hts, hK, hA, hZ, rfl, rfl, rfl, hst⟩, hname, hret, hlocks, rfl, htab⟩ := C
  intro H locs ls hP0 hD hS hl
  exact vx_ret (W.widen hc hs (W.aret hx hb (hret.trans hrt) hty (va_rf_or r) (fun t ht _ => ⟨⟨_, ws, rfl, hP, by rw [ht]; exact hP0, hD⟩, hS.F ht⟩) hS.2.2 hd hlocks))
/-- calls: the callee's world first, the rest stays -/
theorem x_callV (C : Cb Γ l φ cc nL own wl rm) (pc' q0 ci n : Nat) {y : MethodName} {wy wy' : List Cond} {rm' : Room} {b idx maxL : Nat} {As : List Value} {wsc wr : va_W} {P' : Option Value → va_W → Prop} {bytes : ByteArray} {ret : Option FieldType} {Cn : String} {T : u_T} {N : Nat} {fs : List Value}
    (hC : Ct Γ l y wy rm' (.ref b :: As) wsc P' noX) (hw : wy = Cond.code y bytes maxL ret :: wy') (hG : GoodIn wl (wsV own idx Cn y wy)) (hdd : y.cls = Cn ∧ y.cls ≠ "java/lang/invoke/MethodHandle" ∧ y.cls ≠ "java/lang/invoke/VarHandle" ∧ (parseMethodDescriptor y.desc).map (fun d => d.parameters.length) = some n) (hR : rm'.frames + 1 ≤ rm.frames ∧ 8 + (maxL + 11) + rm'.locals ≤ rm.locals)
    (hc : vwCl[ci]? = some (Cn, T, N)) (hq : wsc[q0]? = some (b, .inr (ci, fs))) (hn : As.length = n) (hs0 : st = As.reverse ++ .ref b :: rest) (hcat : (rest.map fun v => v.category).sum ≤ 8) (hf : kc + rm'.cells ≤ rm.cells ∧ ns + rm'.slots ≤ rm.slots) (hd : decode cc pc = .ok (.invokevirtual idx, 3)) (hpc : pc + 3 = pc')
    (kk : ∀ (r : Option Value) (ws' : va_W), P' r ws' → X φ pc' L (r.toList ++ rest) (ws' ++ wr) (kc + rm'.cells) (ns + rm'.slots)) : X φ pc L st (wsc ++ wr) kc ns := by
  obtain ⟨p, l', e, R, s, m, args, below, meth, c, A, Q, Γ'⟩ := φ
  obtain ⟨hx, hb, hml, hown, hts, hK, hA, hZ, rfl, rfl, rfl, hst⟩ := C
  intro H locs ls hP hD hS hl
  subst hs0
  subst hpc
  refine w_run hP hD hS hA (va_runV (As := As) (rest := rest) ⟨hx, hb, hml, hown, hts⟩ (hC.met H.size) (cwV n hts hG hw rfl rfl hdd hR) ⟨cP.blind, va_recv hK (va_wsc_P hP) hc hq, fun U hU hW => ⟨rfl, by rw [hU], by rw [hU]; exact va_wsc_P hP, va_K.moved hW.alike hK, (va_wsc_D hD).weaken (fun _ _ _ _ => trivial), hZ.call hW hU hS (va_wsc_free hD hS hA)⟩⟩ rfl hn (hml ▸ hl.1) rfl (lv_room hcat) hd hf) (fun r ws' H1 locs1 h1 h2 h3 h4 => kk r ws' h1 H1 locs1 ls h2 h3 h4 hl)
theorem x_callS (C : Cb Γ l φ cc nL own wl rm) (pc' n : Nat) {y : MethodName} {wy wy' : List Cond} {rm' : Room} {idx maxL : Nat} {As : List Value} {wsc wr : va_W} {P' : Option Value → va_W → Prop} {bytes : ByteArray} {ret : Option FieldType}
    (hC : Ct Γ l y wy rm' As wsc P' noX) (hw : wy = Cond.code y bytes maxL ret :: wy') (hG : GoodIn wl (va_wsS own idx y wy)) (hdd : y.cls ≠ "java/lang/invoke/MethodHandle" ∧ y.cls ≠ "java/lang/invoke/VarHandle" ∧ (parseMethodDescriptor y.desc).map (fun d => d.parameters.length) = some n) (hR : rm'.frames + 1 ≤ rm.frames ∧ 8 + (maxL + 11) + rm'.locals ≤ rm.locals)
    (hn : As.length = n) (hs0 : st = As.reverse ++ rest) (hcat : (rest.map fun v => v.category).sum ≤ 8) (hf : kc + rm'.cells ≤ rm.cells ∧ ns + rm'.slots ≤ rm.slots) (hd : decode cc pc = .ok (.invokestatic idx, 3)) (hpc : pc + 3 = pc')
    (kk : ∀ (r : Option Value) (ws' : va_W), P' r ws' → X φ pc' L (r.toList ++ rest) (ws' ++ wr) (kc + rm'.cells) (ns + rm'.slots)) : X φ pc L st (wsc ++ wr) kc ns := by
  obtain ⟨p, l', e, R, s, m, args, below, meth, c, A, Q, Γ'⟩ := φ
  obtain ⟨hx, hb, hml, hown, hts, hK, hA, hZ, rfl, rfl, rfl, hst⟩ := C
  intro H locs ls hP hD hS hl
  subst hs0
  subst hpc
  refine w_run hP hD hS hA (va_runS (As := As) (rest := rest) ⟨hx, hb, hml, hown, hts⟩ (hC.met H.size) (va_cwS n hts hG hw rfl rfl hdd hR) ⟨cP.blind, fun U hU hW => ⟨rfl, by rw [hU], by rw [hU]; exact va_wsc_P hP, va_K.moved hW.alike hK, (va_wsc_D hD).weaken (fun _ _ _ _ => trivial), hZ.call hW hU hS (va_wsc_free hD hS hA)⟩⟩ rfl hn (hml ▸ hl.1) rfl (lv_room hcat) hd hf) (fun r ws' H1 locs1 h1 h2 h3 h4 => kk r ws' h1 H1 locs1 ls h2 h3 h4 hl)
theorem x_callI (C : Cb Γ l φ cc nL own wl rm) (pc' n : Nat) {y : MethodName} {wy wy' : List Cond} {rm' : Room} {b idx maxL : Nat} {As : List Value} {wsc wr : va_W} {P' : Option Value → va_W → Prop} {bytes : ByteArray}
    (hC : Ct Γ l y wy rm' (.ref b :: As) wsc P' noX) (hw : wy = Cond.code y bytes maxL none :: wy') (hG : GoodIn wl wy) (hini : Cond.initialized y.cls ∈ wl) (hlk : Cond.methodLink own idx y ∈ wl) (hins : Cond.instanceMethod y ∈ wl) (hy1 : y.name = "<init>") (hdd : y.cls ≠ "java/lang/invoke/MethodHandle" ∧ y.cls ≠ "java/lang/invoke/VarHandle" ∧ (parseMethodDescriptor y.desc).map (fun d => d.parameters.length) = some n) (hR : rm'.frames + 1 ≤ rm.frames ∧ 8 + (maxL + 11) + rm'.locals ≤ rm.locals)
    (hn : As.length = n) (hs0 : st = As.reverse ++ .ref b :: rest) (hcat : (rest.map fun v => v.category).sum ≤ 8) (hf : kc + rm'.cells ≤ rm.cells ∧ ns + rm'.slots ≤ rm.slots) (hd : decode cc pc = .ok (.invokespecial idx, 3)) (hpc : pc + 3 = pc')
    (kk : ∀ (r : Option Value) (ws' : va_W), P' r ws' → X φ pc' L (r.toList ++ rest) (ws' ++ wr) (kc + rm'.cells) (ns + rm'.slots)) : X φ pc L st (wsc ++ wr) kc ns := by
  obtain ⟨p, l', e, R, s, m, args, below, meth, c, A, Q, Γ'⟩ := φ
  obtain ⟨hx, hb, hml, hown, hts, hK, hA, hZ, rfl, rfl, rfl, hst⟩ := C
  intro H locs ls hP hD hS hl
  subst hs0
  subst hpc
  refine w_run hP hD hS hA (va_runI (As := As) (rest := rest) ⟨hx, hb, hml, hown, hts⟩ (hC.met H.size) (cwI n hts hG hw rfl rfl (hts _ hini) (hts _ hlk) (hts _ hins) hy1 hdd hR) ⟨cP.blind, fun U hU hW => ⟨rfl, by rw [hU], by rw [hU]; exact va_wsc_P hP, va_K.moved hW.alike hK, (va_wsc_D hD).weaken (fun _ _ _ _ => trivial), hZ.call hW hU hS (va_wsc_free hD hS hA)⟩⟩ rfl hn (hml ▸ hl.1) rfl (lv_room hcat) hd hf) (fun r ws' H1 locs1 h1 h2 h3 h4 => kk r ws' h1 H1 locs1 ls h2 h3 h4 hl)
/-- a private constructor of a nest mate -/
theorem x_callIN (C : Cb Γ l φ cc nL own wl rm) (pc' n : Nat) {y : MethodName} {wy wy' : List Cond} {rm' : Room} {b idx maxL : Nat} {host : String} {As : List Value} {wsc wr : va_W} {P' : Option Value → va_W → Prop} {bytes : ByteArray}
    (hC : Ct Γ l y wy rm' (.ref b :: As) wsc P' noX) (hw : wy = Cond.code y bytes maxL none :: wy') (hG : GoodIn wl wy) (hini : Cond.initialized y.cls ∈ wl) (hlk : Cond.methodLinkNest own idx y host ∈ wl) (hins : Cond.instanceMethod y ∈ wl) (hy1 : y.name = "<init>") (hdd : y.cls ≠ "java/lang/invoke/MethodHandle" ∧ y.cls ≠ "java/lang/invoke/VarHandle" ∧ (parseMethodDescriptor y.desc).map (fun d => d.parameters.length) = some n) (hR : rm'.frames + 1 ≤ rm.frames ∧ 8 + (maxL + 11) + rm'.locals ≤ rm.locals)
    (hn : As.length = n) (hs0 : st = As.reverse ++ .ref b :: rest) (hcat : (rest.map fun v => v.category).sum ≤ 8) (hf : kc + rm'.cells ≤ rm.cells ∧ ns + rm'.slots ≤ rm.slots) (hd : decode cc pc = .ok (.invokespecial idx, 3)) (hpc : pc + 3 = pc')
    (kk : ∀ (r : Option Value) (ws' : va_W), P' r ws' → X φ pc' L (r.toList ++ rest) (ws' ++ wr) (kc + rm'.cells) (ns + rm'.slots)) : X φ pc L st (wsc ++ wr) kc ns := by
  obtain ⟨p, l', e, R, s, m, args, below, meth, c, A, Q, Γ'⟩ := φ
  obtain ⟨hx, hb, hml, hown, hts, hK, hA, hZ, rfl, rfl, rfl, hst⟩ := C
  intro H locs ls hP hD hS hl
  subst hs0
  subst hpc
  refine w_run hP hD hS hA (va_runIN (As := As) (rest := rest) ⟨hx, hb, hml, hown, hts⟩ (hC.met H.size) ⟨va_cnB n hts hG hw rfl rfl (va_Nw.of rfl (hts _ hlk)) (hts _ hini) hdd hR, hy1, hts _ hins⟩ ⟨cP.blind, fun U hU hW => ⟨rfl, by rw [hU], by rw [hU]; exact va_wsc_P hP, va_K.moved hW.alike hK, (va_wsc_D hD).weaken (fun _ _ _ _ => trivial), hZ.call hW hU hS (va_wsc_free hD hS hA)⟩⟩ rfl hn (hml ▸ hl.1) rfl (lv_room hcat) hd hf) (fun r ws' H1 locs1 h1 h2 h3 h4 => kk r ws' h1 H1 locs1 ls h2 h3 h4 hl)
end XA
