/-! The class: kinds 0 the console, 1 its row of channels, 2 levelRow, 3 the four lists (0 cues, 1 groups, 2 effects, 3 steps), 4 channels, 5 cues, 6 their changes, 7 groups, 8 their members, 9 effects, 10 steps, 11 + j the places of list j. S k i f: the ints of cell i of kind k; n j, cap j: size and places of list j; A k i: addresses; g: the group of an effect; en: the energy. -/
def kE : Nat → Nat
  | 0 => 5
  | 1 => 7
  | 2 => 9
  | _ => 10
def lsF (n : Nat → Nat) (A : Nat → Nat → Nat) (j : Nat) : Nat → Option Nat := fun i => if i < n j then some (A (kE j) i) else none
def cellC (a : Nat → ClassId) (E0 : Nat) (n cap : Nat → Nat) (A : Nat → Nat → Nat) (g : Nat → Nat) (en : Int64) (k i : Nat) (s : Nat → Int32) : va_E := match k with
  | 0 => .inr (9, [.ref (A 3 0), .int (s 0), .int (s 1), .ref (A 1 0), .ref (A 3 1), .ref (A 3 2), .int (s 2), .ref (A 2 0), .long en, .ref (A 3 3), .int (s 3)])
  | 1 => .inl (a 5, 12, .inr (.inr (.inr (.inr (fun j => some (A 4 j))))))
  | 2 => .inl (a 0, 12, .inl s)
  | 3 => .inr (3, [.int (s 0), .ref (if cap i = 0 then E0 else A (11 + i) 0), .int (nI (n i))])
  | 4 => .inr (4, [.int (s 0), .int (s 1), .int (s 2), .int (s 3), .int (s 4), .int (s 5), .int (s 6), .int (s 7), .int (s 8)])
  | 5 => .inr (5, [.int (s 0), .int (s 1), .int (s 2), .int (s 3), .ref (A 6 i)])
  | 6 => .inl (a 0, 12, .inl s)
  | 7 => .inr (7, [.ref (A 8 i), .int (s 0)])
  | 8 => .inl (a 1, 12, .inl s)
  | 9 => .inr (6, [.ref (A 7 (g i)), .int (s 0), .int (s 1), .int (s 2), .int (s 3), .int (s 4), .int (s 5)])
  | 10 => .inr (8, [.int (s 0), .int (s 1), .int (s 2)])
  | j + 11 => .inl (a 6, cap j, .inr (.inr (.inr (.inr (lsF n A j)))))
def cntC (n cap : Nat → Nat) (k : Nat) : Nat := match k with
  | 0 => 1
  | 1 => 1
  | 2 => 1
  | 3 => 4
  | 4 => 12
  | 5 => n 0
  | 6 => n 0
  | 7 => n 1
  | 8 => n 1
  | 9 => n 2
  | 10 => n 3
  | j + 11 => if cap j = 0 then 0 else 1
def uS (S : Nat → Nat → Nat → Int32) (k i f : Nat) (x : Int32) : Nat → Nat → Nat → Int32 := fun k' i' => if k' = k ∧ i' = i then upd (S k' i') f x else S k' i'
theorem uS_s (S : Nat → Nat → Nat → Int32) (k i f : Nat) (x : Int32) : uS S k i f x k i = upd (S k i) f x := by simp [uS]
theorem uS_n (S : Nat → Nat → Nat → Int32) {k i k' i' : Nat} (f : Nat) (x : Int32) (h : ¬ (k' = k ∧ i' = i)) : uS S k i f x k' i' = S k' i' := by simp [uS, h]
def wC (a : Nat → ClassId) (E0 : Nat) (n cap : Nat → Nat) (A : Nat → Nat → Nat) (g : Nat → Nat) (en : Int64) (S : Nat → Nat → Nat → Int32) : va_W := pool 15 (cntC n cap) A (fun k i => cellC a E0 n cap A g en k i (S k i))
section XQ
variable {l : Launch} {φ : Fx} {cc : ByteArray} {nL : Nat} {own : String} {wl : List Cond} {rm : Room} {pc : Nat} {L : List (Option Value)} {rest : List Value} {kc ns : Nat} {D : va_G} {a : Nat → ClassId} {E0 : Nat} {n cap : Nat → Nat} {A : Nat → Nat → Nat} {g : Nat → Nat} {en : Int64} {S : Nat → Nat → Nat → Int32}
theorem wC_at {k i : Nat} {e : va_E} (hk : k < 15) (hi : i < cntC n cap k) (hc : cellC a E0 n cap A g en k i (S k i) = e) : ∃ p : Nat, (wC a E0 n cap A g en S)[p]? = some (A k i, e) ∧ ∀ (f : Nat) (x : Int32), (wC a E0 n cap A g en S).set p (A k i, cellC a E0 n cap A g en k i (upd (S k i) f x)) = wC a E0 n cap A g en (uS S k i f x) := by
  obtain ⟨p, h1, h2⟩ := pool_at (cntC n cap) A (fun k i => cellC a E0 n cap A g en k i (S k i)) hi 15 hk
  subst hc
  refine ⟨p, h1, fun f x => (h2 _).trans (pool_congr 15 fun k' _ => ⟨rfl, fun i' _ => ⟨rfl, ?_⟩⟩)⟩
  by_cases q : k' = k ∧ i' = i
  · obtain ⟨rfl, rfl⟩ := q
    rw [upC_s, uS_s]
  · rw [upC_n _ _ q, uS_n _ _ _ q]
theorem xc_get (C : Cb (gm D a E0) l φ cc nL own wl rm) (pc' k i : Nat) {ci j index : Nat} {fs : List Value} {v : Value} (hk : k < 15) (hi : i < cntC n cap k) (hc : cellC a E0 n cap A g en k i (S k i) = .inr (ci, fs)) (F : gF own wl index ci j) (hv : fs[j]? = some v) (hd : decode cc pc = .ok (.getfield index, 3)) (hpc : pc + 3 = pc') (kk : X φ pc' L (v :: rest) (wC a E0 n cap A g en S) kc ns) : X φ pc L (.ref (A k i) :: rest) (wC a E0 n cap A g en S) kc ns := by
  obtain ⟨p, h1, -⟩ := wC_at (n := n) (cap := cap) (A := A) (g := g) (en := en) hk hi hc
  exact x_get C pc' p h1 F hv hd hpc kk
theorem xc_put (C : Cb (gm D a E0) l φ cc nL own wl rm) (pc' k i f : Nat) {ci j index : Nat} {fs : List Value} {x : Int32} {ty : FieldType} (hk : k < 15) (hi : i < cntC n cap k) (hc : cellC a E0 n cap A g en k i (S k i) = .inr (ci, fs)) (F : pF own wl index ci j false ty) (hn : narrow ty (.int x) = .int x) (hf : fits ty (.int x) = true) (hl : j < fs.length) (he : .inr (ci, fs.set j (.int x)) = cellC a E0 n cap A g en k i (upd (S k i) f x)) (hd : decode cc pc = .ok (.putfield index, 3)) (hpc : pc + 3 = pc') (kk : X φ pc' L rest (wC a E0 n cap A g en (uS S k i f x)) kc ns) : X φ pc L (.int x :: .ref (A k i) :: rest) (wC a E0 n cap A g en S) kc ns := by
  obtain ⟨p, h1, h2⟩ := wC_at (n := n) (cap := cap) (A := A) (g := g) (en := en) hk hi hc
  refine x_put C pc' p h1 F hn hf hl hd hpc ?_
  rw [he, h2]
  exact kk
theorem xc_putJ (C : Cb (gm D a E0) l φ cc nL own wl rm) (pc' : Nat) {index : Nat} {x : Int64} (F : pF own wl index 9 8 false .long) (hd : decode cc pc = .ok (.putfield index, 3)) (hpc : pc + 3 = pc') (kk : X φ pc' L rest (wC a E0 n cap A g x S) kc ns) : X φ pc L (.long x :: .ref (A 0 0) :: rest) (wC a E0 n cap A g en S) kc ns := by
  obtain ⟨p, h1, h2⟩ := pool_at (cntC n cap) A (fun k i => cellC a E0 n cap A g en k i (S k i)) (k := 0) (i := 0) (show 0 < 1 by decide) 15 (by decide)
  refine x_put C pc' p h1 F rfl rfl (Nat.le_of_ble_eq_true rfl) hd hpc ?_
  refine x_ws ((h2 _).trans (pool_congr 15 fun k' _ => ⟨rfl, fun i' hi' => ⟨rfl, ?_⟩⟩)) kk
  by_cases q : k' = 0 ∧ i' = 0
  · obtain ⟨rfl, rfl⟩ := q
    rw [upC_s]
    rfl
  · rw [upC_n _ _ q]
    match k' with
    | 0 => exact absurd (show i' < 1 from hi') (by omega)
    | 1 => rfl
    | 2 => rfl
    | 3 => rfl
    | 4 => rfl
    | 5 => rfl
    | 6 => rfl
    | 7 => rfl
    | 8 => rfl
    | 9 => rfl
    | 10 => rfl
    | j + 11 => rfl
theorem xc_iald (C : Cb (gm D a E0) l φ cc nL own wl rm) (pc' k i j : Nat) {s : Nat → Int32} {x : Int32} (hk : k < 15) (hi : i < cntC n cap k) (hc : cellC a E0 n cap A g en k i (S k i) = .inl (a 0, 12, .inl s)) (hx : x = nI j) (hj : j < 12) (hd : decode cc pc = .ok (.iaload, 1)) (hpc : pc + 1 = pc') (kk : X φ pc' L (.int (s j) :: rest) (wC a E0 n cap A g en S) kc ns) : X φ pc L (.int x :: .ref (A k i) :: rest) (wC a E0 n cap A g en S) kc ns := by
  obtain ⟨p, h1, -⟩ := wC_at (n := n) (cap := cap) (A := A) (g := g) (en := en) hk hi hc
  subst hx
  refine x_iald C pc' p 0 h1 rfl (vp_in_nI hj (by decide)) hd hpc ?_
  rw [nI_clamp (by omega)]
  exact kk
theorem xc_zald (C : Cb (gm D a E0) l φ cc nL own wl rm) (pc' k i j : Nat) {s : Nat → Int32} {x : Int32} (hk : k < 15) (hi : i < cntC n cap k) (hc : cellC a E0 n cap A g en k i (S k i) = .inl (a 1, 12, .inl s)) (hx : x = nI j) (hj : j < 12) (hd : decode cc pc = .ok (.baload, 1)) (hpc : pc + 1 = pc') (kk : X φ pc' L (.int (s j) :: rest) (wC a E0 n cap A g en S) kc ns) : X φ pc L (.int x :: .ref (A k i) :: rest) (wC a E0 n cap A g en S) kc ns := by
  obtain ⟨p, h1, -⟩ := wC_at (n := n) (cap := cap) (A := A) (g := g) (en := en) hk hi hc
  subst hx
  refine x_zald C pc' p 1 h1 rfl (vp_in_nI hj (by decide)) hd hpc ?_
  rw [nI_clamp (by omega)]
  exact kk
theorem xc_iast (C : Cb (gm D a E0) l φ cc nL own wl rm) (pc' k i j : Nat) {x y : Int32} (hk : k < 15) (hi : i < cntC n cap k) (hc : ∀ s : Nat → Int32, cellC a E0 n cap A g en k i s = .inl (a 0, 12, .inl s)) (hx : x = nI j) (hj : j < 12) (hd : decode cc pc = .ok (.iastore, 1)) (hpc : pc + 1 = pc') (kk : X φ pc' L rest (wC a E0 n cap A g en (uS S k i j y)) kc ns) : X φ pc L (.int y :: .int x :: .ref (A k i) :: rest) (wC a E0 n cap A g en S) kc ns := by
  obtain ⟨p, h1, h2⟩ := wC_at (n := n) (cap := cap) (A := A) (g := g) (en := en) hk hi (hc (S k i))
  subst hx
  refine x_iast C pc' p 0 h1 rfl (vp_in_nI hj (by decide)) hd hpc ?_
  rw [nI_clamp (by omega), ← hc, h2]
  exact kk
theorem xc_zast (C : Cb (gm D a E0) l φ cc nL own wl rm) (pc' k i j : Nat) {x y : Int32} (hk : k < 15) (hi : i < cntC n cap k) (hc : ∀ s : Nat → Int32, cellC a E0 n cap A g en k i s = .inl (a 1, 12, .inl s)) (hx : x = nI j) (hj : j < 12) (hy : vp_nar .boolean y = y) (hd : decode cc pc = .ok (.bastore, 1)) (hpc : pc + 1 = pc') (kk : X φ pc' L rest (wC a E0 n cap A g en (uS S k i j y)) kc ns) : X φ pc L (.int y :: .int x :: .ref (A k i) :: rest) (wC a E0 n cap A g en S) kc ns := by
  obtain ⟨p, h1, h2⟩ := wC_at (n := n) (cap := cap) (A := A) (g := g) (en := en) hk hi (hc (S k i))
  subst hx
  refine x_zast C pc' p 1 h1 rfl (vp_in_nI hj (by decide)) hy hd hpc ?_
  rw [nI_clamp (by omega), ← hc, h2]
  exact kk
/-- the row of the channels -/
theorem xc_chan (C : Cb (gm D a E0) l φ cc nL own wl rm) (pc' j : Nat) {x : Int32} (hx : x = nI j) (hj : j < 12) (hd : decode cc pc = .ok (.aaload, 1)) (hpc : pc + 1 = pc') (kk : X φ pc' L (.ref (A 4 j) :: rest) (wC a E0 n cap A g en S) kc ns) : X φ pc L (.int x :: .ref (A 1 0) :: rest) (wC a E0 n cap A g en S) kc ns := by
  obtain ⟨p, h1, -⟩ := wC_at (a := a) (E0 := E0) (n := n) (cap := cap) (A := A) (g := g) (en := en) (S := S) (k := 1) (i := 0) (by decide) (show 0 < 1 by decide) rfl
  subst hx
  refine x_aldq C pc' p 5 h1 rfl (vp_in_nI hj (by decide)) hd hpc ?_
  rw [nI_clamp (by omega)]
  exact kk
end XQ
