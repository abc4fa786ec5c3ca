/-! what the walks of the public methods need -/
theorem cueB_t {x t cv : Int32} (h : cueB x t cv = true) : inB x.toInt64 1 99 = true ∧ inB t.toInt64 0 40 = true ∧ cvB cv = true := by
  unfold cueB at h
  rw [Bool.and_eq_true, Bool.and_eq_true] at h
  exact h
theorem effB_t {sh p sz sp : Int32} (h : effB sh p sz sp = true) : shB sh = true ∧ inB p.toInt64 2 40 = true ∧ inB sz.toInt64 1 255 = true ∧ inB sp.toInt64 0 39 = true := by
  unfold effB at h
  rw [Bool.and_eq_true, Bool.and_eq_true, Bool.and_eq_true] at h
  exact h
theorem hqC_lt {S : Nat → Nat → Nat → Int32} {nq : Nat} {x : Int32} (h : hqC S nq x = true) : poC S nq x < nq ∧ S 5 (poC S nq x) 0 = x := by
  unfold hqC at h
  rw [Bool.and_eq_true, decide_eq_true_eq, decide_eq_true_eq] at h
  exact h
theorem kd_pos {k : Nat} (h : 0 < k) : kd k = nI (k - 1) := by
  cases k with
  | zero => exact absurd h (Nat.lt_irrefl 0)
  | succ m => rfl
theorem npL_y {pk : Nat → Int32} {n i k : Nat} (h : pk i = -1) : npL pk (n + 1) i k = npL pk n (i + 1) (k + 1) := by rw [npL, if_pos h]
theorem npL_n {pk : Nat → Int32} {n i k : Nat} (h : ¬ pk i = -1) : npL pk (n + 1) i k = npL pk n (i + 1) k := by rw [npL, if_neg h]
theorem spL_y {pk f : Nat → Int32} {n i : Nat} {v : Int32} (h : pk i = -1) : spL pk f (n + 1) i v = spL pk f n (i + 1) (v + f i) := by rw [spL, if_pos h]
theorem spL_n {pk f : Nat → Int32} {n i : Nat} {v : Int32} (h : ¬ pk i = -1) : spL pk f (n + 1) i v = spL pk f n (i + 1) v := by rw [spL, if_neg h, Int32.add_zero]
section CL2
variable {Γ : Gm} {l : Launch} {φ : Fx} {cc : ByteArray} {nL : Nat} {own : String} {wl : List Cond} {rm : Room} {pc : Nat} {L : List (Option Value)} {st rest : List Value} {ws : va_W} {kc ns : Nat} {D : va_G} {a : Nat → ClassId} {E0 : Nat} {n cap : Nat → Nat} {A : Nat → Nat → Nat} {g : Nat → Nat} {en : Int64} {S : Nat → Nat → Nat → Int32}
theorem wC_pos {j : Nat} (hj : j < 4) : ∃ (q0 : Nat) (fs0 : List Value), (wC a E0 n cap A g en S)[q0]? = some (A 3 j, .inr (3, fs0)) ∧ ∀ wr : va_W, (wC a E0 n cap A g en S ++ wr)[q0]? = some (A 3 j, .inr (3, fs0)) := by
  obtain ⟨p, h1, -⟩ := wC_at (a := a) (E0 := E0) (n := n) (cap := cap) (A := A) (g := g) (en := en) (S := S) (k := 3) (i := j) (e := .inr (3, [.int (S 3 j 0), .ref (if cap j = 0 then E0 else A (11 + j) 0), .int (nI (n j))])) (by decide) (show j < 4 from hj) rfl
  exact ⟨p, _, h1, fun wr => by rw [List.getElem?_append_left (List.getElem?_eq_some_iff.mp h1).1]; exact h1⟩
theorem wC_posk {k i : Nat} (hk : k < 15) (hi : i < cntC n cap k) (wr : va_W) : ∃ q0 : Nat, (wC a E0 n cap A g en S ++ wr)[q0]? = some (A k i, cellC a E0 n cap A g en k i (S k i)) := by
  obtain ⟨p, h1, -⟩ := wC_at (a := a) (E0 := E0) (n := n) (cap := cap) (A := A) (g := g) (en := en) (S := S) (k := k) (i := i) hk hi rfl
  exact ⟨p, by rw [List.getElem?_append_left (List.getElem?_eq_some_iff.mp h1).1]; exact h1⟩
theorem x_callI1 (C : Cb Γ l φ cc nL own wl rm) (pc' kc' ns' n : Nat) {y : MethodName} {wy wy' : List Cond} {rm' : Room} {b idx maxL : Nat} {As : List Value} {wsc wr : va_W} {P' : va_W → Prop} {bytes : ByteArray}
    (hC : Ct Γ l y wy rm' (.ref b :: As) wsc (qV P') noX) (hw : wy = Cond.code y bytes maxL none :: wy') (hG : GoodIn wl wy) (hini : Cond.initialized y.cls ∈ wl) (hlk : Cond.methodLink own idx y ∈ wl) (hins : Cond.instanceMethod y ∈ wl) (hy1 : y.name = "<init>") (hdd : y.cls ≠ "java/lang/invoke/MethodHandle" ∧ y.cls ≠ "java/lang/invoke/VarHandle" ∧ (parseMethodDescriptor y.desc).map (fun d => d.parameters.length) = some n) (hR : rm'.frames + 1 ≤ rm.frames ∧ 8 + (maxL + 11) + rm'.locals ≤ rm.locals)
    (hn : As.length = n) (hs0 : st = As.reverse ++ .ref b :: rest) (hcat : (rest.map fun v => v.category).sum ≤ 8) (hf : kc + rm'.cells ≤ rm.cells ∧ ns + rm'.slots ≤ rm.slots) (hd : decode cc pc = .ok (.invokespecial idx, 3)) (hpc : pc + 3 = pc') (hk : kc + rm'.cells = kc') (hn' : ns + rm'.slots = ns')
    (kk : ∀ ws' : va_W, P' ws' → X φ pc' L rest (ws' ++ wr) kc' ns') : X φ pc L st (wsc ++ wr) kc ns :=
  x_callI (wr := wr) C pc' n hC hw hG hini hlk hins hy1 hdd hR hn hs0 hcat hf hd hpc (fun r ws' hr => by obtain ⟨rfl, h⟩ := hr; subst hk hn'; exact kk ws' h)
theorem x_callN1 (C : Cb Γ l φ cc nL own wl rm) (pc' kc' ns' n : Nat) {y : MethodName} {wy wy' : List Cond} {rm' : Room} {b idx maxL : Nat} {host : String} {As : List Value} {wsc wr : va_W} {P' : va_W → Prop} {bytes : ByteArray}
    (hC : Ct Γ l y wy rm' (.ref b :: As) wsc (qV P') noX) (hw : wy = Cond.code y bytes maxL none :: wy') (hG : GoodIn wl wy) (hini : Cond.initialized y.cls ∈ wl) (hlk : ∀ U : State, cV Γ.1 U → va_Nw (.methodLinkNest own idx y host) U) (hins : Cond.instanceMethod y ∈ wl) (hy1 : y.name = "<init>") (hdd : y.cls ≠ "java/lang/invoke/MethodHandle" ∧ y.cls ≠ "java/lang/invoke/VarHandle" ∧ (parseMethodDescriptor y.desc).map (fun d => d.parameters.length) = some n) (hR : rm'.frames + 1 ≤ rm.frames ∧ 8 + (maxL + 11) + rm'.locals ≤ rm.locals)
    (hn : As.length = n) (hs0 : st = As.reverse ++ .ref b :: rest) (hcat : (rest.map fun v => v.category).sum ≤ 8) (hf : kc + rm'.cells ≤ rm.cells ∧ ns + rm'.slots ≤ rm.slots) (hd : decode cc pc = .ok (.invokespecial idx, 3)) (hpc : pc + 3 = pc') (hk : kc + rm'.cells = kc') (hn' : ns + rm'.slots = ns')
    (kk : ∀ ws' : va_W, P' ws' → X φ pc' L rest (ws' ++ wr) kc' ns') : X φ pc L st (wsc ++ wr) kc ns := by
  obtain ⟨p, l', e, R, s, m, args, below, meth, c, A, Q, Γ'⟩ := φ
  obtain ⟨hx, hb, hml, hown, hts, hK, hA, hZ, rfl, rfl, rfl, hst⟩ := C
  intro H locs ls hP hD hS hl
  subst hs0
  subst hpc
  refine w_run hP hD hS hA (va_runIN (As := As) (rest := rest) ⟨hx, hb, hml, hown, hts⟩ (hC.met H.size) ⟨va_cnB n hts hG hw rfl rfl (hlk s hZ.2.2.2.2.2) (hts _ hini) hdd hR, hy1, hts _ hins⟩ ⟨cP.blind, fun U hU hW => ⟨rfl, by rw [hU], by rw [hU]; exact va_wsc_P hP, va_K.moved hW.alike hK, (va_wsc_D hD).weaken (fun _ _ _ _ => trivial), hZ.call hW hU hS (va_wsc_free hD hS hA)⟩⟩ rfl hn (hml ▸ hl.1) rfl (lv_room hcat) hd hf) (fun r ws' H1 locs1 h1 h2 h3 h4 => ?_)
  obtain ⟨rfl, h⟩ := h1
  subst hk hn'
  exact kk ws' h H1 locs1 ls h2 h3 h4 hl
end CL2
