/-! The reference: its object m, its rows am 0 .. am 25; I r is what row r holds (the numbers of the object itself are I 30), en the energy. Rows: 0 numbers, 1 times, 2 curves, 3 blocks, 4 changes, 5 from, 6 to, 7 since, 8 during, 9 how, 10 fades, 11 latest, 12 source, 13 parked, 14 members, 15 faders, 16 groups, 17 shapes, 18 periods, 19 sizes, 20 spreads, 21 started, 22 runs, 23 steps, 24 firsts, 25 seconds. Numbers: 0 cueMany, 1 current, 2 groupMany, 3 effectMany, 4 stepMany, 5 fault, 6 now, 7 master, 8 thrown -/
abbrev gm (D : va_G) (a : Nat → ClassId) (E0 : Nat) : Gm := (D, [(a 0, .int), (a 1, .boolean), (a 2, .char), (a 3, .long), (a 4, .double), (a 5, .object "StageConsole$Channel"), (a 6, .object "java/lang/Object")], E0)
def uI (I : Nat → Nat → Int32) (r i : Nat) (x : Int32) : Nat → Nat → Int32 := fun q => if q = r then upd (I q) i x else I q
theorem uI_s (I : Nat → Nat → Int32) (r i : Nat) (x : Int32) (j : Nat) : uI I r i x r j = if j = i then x else I r j := by simp [uI, upd]
theorem uI_n (I : Nat → Nat → Int32) {r q : Nat} (i : Nat) (x : Int32) (h : q ≠ r) : uI I r i x q = I q := by simp [uI, h]
def mO (am : Nat → Nat) (I : Nat → Nat → Int32) (en : Int64) : List Value := [.ref (am 0), .ref (am 1), .ref (am 2), .ref (am 3), .ref (am 4), .int (I 30 0), .int (I 30 1), .ref (am 5), .ref (am 6), .ref (am 7), .ref (am 8), .ref (am 9), .ref (am 10), .ref (am 11), .ref (am 12), .ref (am 13), .ref (am 14), .ref (am 15), .int (I 30 2), .ref (am 16), .ref (am 17), .ref (am 18), .ref (am 19), .ref (am 20), .ref (am 21), .ref (am 22), .int (I 30 3), .ref (am 23), .ref (am 24), .ref (am 25), .int (I 30 4), .int (I 30 5), .int (I 30 6), .int (I 30 7), .long en, .int (I 30 8)]
def mT (r : Nat) : Nat := match r with
  | 2 => 2
  | 3 => 1
  | 9 => 2
  | 10 => 1
  | 11 => 1
  | 17 => 2
  | 22 => 1
  | 23 => 2
  | _ => 0
def mN (r : Nat) : Nat := match r with
  | 0 => 16
  | 1 => 16
  | 2 => 16
  | 3 => 16
  | 4 => 192
  | 5 => 12
  | 6 => 12
  | 7 => 12
  | 8 => 12
  | 9 => 12
  | 10 => 12
  | 11 => 12
  | 12 => 12
  | 13 => 12
  | 14 => 5
  | 15 => 5
  | 16 => 4
  | 17 => 4
  | 18 => 4
  | 19 => 4
  | 20 => 4
  | 21 => 4
  | 22 => 4
  | 23 => 8
  | 24 => 8
  | 25 => 8
  | _ => 0
def mF (j : Nat) : Nat := match j with
  | 0 => 5
  | 1 => 6
  | 2 => 18
  | 3 => 26
  | 4 => 30
  | 5 => 31
  | 6 => 32
  | 7 => 33
  | 8 => 35
  | _ => 0
def wM (m : Nat) (am : Nat → Nat) (a : Nat → ClassId) (I : Nat → Nat → Int32) (en : Int64) : va_W := [(m, .inr (10, mO am I en)), (am 0, .inl (a 0, 16, .inl (I 0))), (am 1, .inl (a 0, 16, .inl (I 1))), (am 2, .inl (a 2, 16, .inl (I 2))), (am 3, .inl (a 1, 16, .inl (I 3))), (am 4, .inl (a 0, 192, .inl (I 4))), (am 5, .inl (a 0, 12, .inl (I 5))), (am 6, .inl (a 0, 12, .inl (I 6))), (am 7, .inl (a 0, 12, .inl (I 7))), (am 8, .inl (a 0, 12, .inl (I 8))), (am 9, .inl (a 2, 12, .inl (I 9))), (am 10, .inl (a 1, 12, .inl (I 10))), (am 11, .inl (a 1, 12, .inl (I 11))), (am 12, .inl (a 0, 12, .inl (I 12))), (am 13, .inl (a 0, 12, .inl (I 13))), (am 14, .inl (a 0, 5, .inl (I 14))), (am 15, .inl (a 0, 5, .inl (I 15))), (am 16, .inl (a 0, 4, .inl (I 16))), (am 17, .inl (a 2, 4, .inl (I 17))), (am 18, .inl (a 0, 4, .inl (I 18))), (am 19, .inl (a 0, 4, .inl (I 19))), (am 20, .inl (a 0, 4, .inl (I 20))), (am 21, .inl (a 0, 4, .inl (I 21))), (am 22, .inl (a 1, 4, .inl (I 22))), (am 23, .inl (a 2, 8, .inl (I 23))), (am 24, .inl (a 0, 8, .inl (I 24))), (am 25, .inl (a 0, 8, .inl (I 25)))]
theorem wM_at (m : Nat) (am : Nat → Nat) (a : Nat → ClassId) (I : Nat → Nat → Int32) (en : Int64) (r : Nat) (h : r < 26) : (wM m am a I en)[r + 1]? = some (am r, .inl (a (mT r), mN r, .inl (I r))) := match r, h with
  | 0, _ => rfl
  | 1, _ => rfl
  | 2, _ => rfl
  | 3, _ => rfl
  | 4, _ => rfl
  | 5, _ => rfl
  | 6, _ => rfl
  | 7, _ => rfl
  | 8, _ => rfl
  | 9, _ => rfl
  | 10, _ => rfl
  | 11, _ => rfl
  | 12, _ => rfl
  | 13, _ => rfl
  | 14, _ => rfl
  | 15, _ => rfl
  | 16, _ => rfl
  | 17, _ => rfl
  | 18, _ => rfl
  | 19, _ => rfl
  | 20, _ => rfl
  | 21, _ => rfl
  | 22, _ => rfl
  | 23, _ => rfl
  | 24, _ => rfl
  | 25, _ => rfl
  | n + 26, h => by omega
theorem wM_set (m : Nat) (am : Nat → Nat) (a : Nat → ClassId) (I : Nat → Nat → Int32) (en : Int64) (r : Nat) (h : r < 26) (i : Nat) (x : Int32) : (wM m am a I en).set (r + 1) (am r, .inl (a (mT r), mN r, .inl (upd (I r) i x))) = wM m am a (uI I r i x) en := match r, h with
  | 0, _ => rfl
  | 1, _ => rfl
  | 2, _ => rfl
  | 3, _ => rfl
  | 4, _ => rfl
  | 5, _ => rfl
  | 6, _ => rfl
  | 7, _ => rfl
  | 8, _ => rfl
  | 9, _ => rfl
  | 10, _ => rfl
  | 11, _ => rfl
  | 12, _ => rfl
  | 13, _ => rfl
  | 14, _ => rfl
  | 15, _ => rfl
  | 16, _ => rfl
  | 17, _ => rfl
  | 18, _ => rfl
  | 19, _ => rfl
  | 20, _ => rfl
  | 21, _ => rfl
  | 22, _ => rfl
  | 23, _ => rfl
  | 24, _ => rfl
  | 25, _ => rfl
  | n + 26, h => by omega
theorem wM_sc (m : Nat) (am : Nat → Nat) (a : Nat → ClassId) (I : Nat → Nat → Int32) (en : Int64) (j : Nat) (h : j < 9) (x : Int32) : (wM m am a I en).set 0 (m, .inr (10, (mO am I en).set (mF j) (.int x))) = wM m am a (uI I 30 j x) en := match j, h with
  | 0, _ => rfl
  | 1, _ => rfl
  | 2, _ => rfl
  | 3, _ => rfl
  | 4, _ => rfl
  | 5, _ => rfl
  | 6, _ => rfl
  | 7, _ => rfl
  | 8, _ => rfl
  | n + 9, h => by omega
theorem mN_lt (r : Nat) : mN r < 2 ^ 31 := by unfold mN; split <;> decide
theorem mF_lt (j : Nat) : mF j < 36 := by unfold mF; split <;> decide
section XW
variable {l : Launch} {φ : Fx} {cc : ByteArray} {nL : Nat} {own : String} {wl : List Cond} {rm : Room} {pc : Nat} {L : List (Option Value)} {rest : List Value} {kc ns : Nat} {D : va_G} {a : Nat → ClassId} {E0 m : Nat} {am : Nat → Nat} {I : Nat → Nat → Int32} {en : Int64}
theorem xm_iald (C : Cb (gm D a E0) l φ cc nL own wl rm) (pc' r N j : Nat) {x : Int32} (hr : r < 26) (ht : mT r = 0) (hN : mN r = N) (hx : x = nI j) (hj : j < N) (hd : decode cc pc = .ok (.iaload, 1)) (hpc : pc + 1 = pc') (kk : X φ pc' L (.int (I r j) :: rest) (wM m am a I en) kc ns) : X φ pc L (.int x :: .ref (am r) :: rest) (wM m am a I en) kc ns := by
  have hs : mN r < 2 ^ 31 := mN_lt r
  subst hN hx
  refine x_iald C pc' (r + 1) 0 (wM_at m am a I en r hr) (by rw [ht]; rfl) (vp_in_nI hj hs) hd hpc ?_
  rw [nI_clamp (by omega)]
  exact kk
theorem xm_zald (C : Cb (gm D a E0) l φ cc nL own wl rm) (pc' r N j : Nat) {x : Int32} (hr : r < 26) (ht : mT r = 1) (hN : mN r = N) (hx : x = nI j) (hj : j < N) (hd : decode cc pc = .ok (.baload, 1)) (hpc : pc + 1 = pc') (kk : X φ pc' L (.int (I r j) :: rest) (wM m am a I en) kc ns) : X φ pc L (.int x :: .ref (am r) :: rest) (wM m am a I en) kc ns := by
  have hs : mN r < 2 ^ 31 := mN_lt r
  subst hN hx
  refine x_zald C pc' (r + 1) 1 (wM_at m am a I en r hr) (by rw [ht]; rfl) (vp_in_nI hj hs) hd hpc ?_
  rw [nI_clamp (by omega)]
  exact kk
theorem xm_cald (C : Cb (gm D a E0) l φ cc nL own wl rm) (pc' r N j : Nat) {x : Int32} (hr : r < 26) (ht : mT r = 2) (hN : mN r = N) (hx : x = nI j) (hj : j < N) (hd : decode cc pc = .ok (.caload, 1)) (hpc : pc + 1 = pc') (kk : X φ pc' L (.int (I r j) :: rest) (wM m am a I en) kc ns) : X φ pc L (.int x :: .ref (am r) :: rest) (wM m am a I en) kc ns := by
  have hs : mN r < 2 ^ 31 := mN_lt r
  subst hN hx
  refine x_cald C pc' (r + 1) 2 (wM_at m am a I en r hr) (by rw [ht]; rfl) (vp_in_nI hj hs) hd hpc ?_
  rw [nI_clamp (by omega)]
  exact kk
theorem xm_iast (C : Cb (gm D a E0) l φ cc nL own wl rm) (pc' r N j : Nat) {x y : Int32} (hr : r < 26) (ht : mT r = 0) (hN : mN r = N) (hx : x = nI j) (hj : j < N) (hd : decode cc pc = .ok (.iastore, 1)) (hpc : pc + 1 = pc') (kk : X φ pc' L rest (wM m am a (uI I r j y) en) kc ns) : X φ pc L (.int y :: .int x :: .ref (am r) :: rest) (wM m am a I en) kc ns := by
  have hs : mN r < 2 ^ 31 := mN_lt r
  subst hN hx
  refine x_iast C pc' (r + 1) 0 (wM_at m am a I en r hr) (by rw [ht]; rfl) (vp_in_nI hj hs) hd hpc ?_
  rw [nI_clamp (by omega), wM_set m am a I en r hr]
  exact kk
theorem xm_zast (C : Cb (gm D a E0) l φ cc nL own wl rm) (pc' r N j : Nat) {x y : Int32} (hr : r < 26) (ht : mT r = 1) (hN : mN r = N) (hx : x = nI j) (hj : j < N) (hv : vp_nar .boolean y = y) (hd : decode cc pc = .ok (.bastore, 1)) (hpc : pc + 1 = pc') (kk : X φ pc' L rest (wM m am a (uI I r j y) en) kc ns) : X φ pc L (.int y :: .int x :: .ref (am r) :: rest) (wM m am a I en) kc ns := by
  have hs : mN r < 2 ^ 31 := mN_lt r
  subst hN hx
  refine x_zast C pc' (r + 1) 1 (wM_at m am a I en r hr) (by rw [ht]; rfl) (vp_in_nI hj hs) hv hd hpc ?_
  rw [nI_clamp (by omega), wM_set m am a I en r hr]
  exact kk
theorem xm_cast (C : Cb (gm D a E0) l φ cc nL own wl rm) (pc' r N j : Nat) {x y : Int32} (hr : r < 26) (ht : mT r = 2) (hN : mN r = N) (hx : x = nI j) (hj : j < N) (hv : vp_nar .char y = y) (hd : decode cc pc = .ok (.castore, 1)) (hpc : pc + 1 = pc') (kk : X φ pc' L rest (wM m am a (uI I r j y) en) kc ns) : X φ pc L (.int y :: .int x :: .ref (am r) :: rest) (wM m am a I en) kc ns := by
  have hs : mN r < 2 ^ 31 := mN_lt r
  subst hN hx
  refine x_cast C pc' (r + 1) 2 (wM_at m am a I en r hr) (by rw [ht]; rfl) (vp_in_nI hj hs) hv hd hpc ?_
  rw [nI_clamp (by omega), wM_set m am a I en r hr]
  exact kk
theorem xm_get (C : Cb (gm D a E0) l φ cc nL own wl rm) (pc' : Nat) {k index : Nat} {v : Value} (F : gF own wl index 10 k) (hv : (mO am I en)[k]? = some v) (hd : decode cc pc = .ok (.getfield index, 3)) (hpc : pc + 3 = pc') (kk : X φ pc' L (v :: rest) (wM m am a I en) kc ns) : X φ pc L (.ref m :: rest) (wM m am a I en) kc ns :=
  x_get C pc' 0 rfl F hv hd hpc kk
theorem xm_put (C : Cb (gm D a E0) l φ cc nL own wl rm) (pc' j : Nat) {index : Nat} {ty : FieldType} {x : Int32} (hj : j < 9) (F : pF own wl index 10 (mF j) false ty) (hn : narrow ty (.int x) = .int x) (hf : fits ty (.int x) = true) (hd : decode cc pc = .ok (.putfield index, 3)) (hpc : pc + 3 = pc') (kk : X φ pc' L rest (wM m am a (uI I 30 j x) en) kc ns) : X φ pc L (.int x :: .ref m :: rest) (wM m am a I en) kc ns := by
  refine x_put C pc' 0 rfl F hn hf (mF_lt j) hd hpc ?_
  rw [wM_sc m am a I en j hj]
  exact kk
theorem xm_putJ (C : Cb (gm D a E0) l φ cc nL own wl rm) (pc' : Nat) {index : Nat} {x : Int64} (F : pF own wl index 10 34 false .long) (hd : decode cc pc = .ok (.putfield index, 3)) (hpc : pc + 3 = pc') (kk : X φ pc' L rest (wM m am a I x) kc ns) : X φ pc L (.long x :: .ref m :: rest) (wM m am a I en) kc ns :=
  x_put C pc' 0 rfl F rfl rfl (Nat.le_of_ble_eq_true rfl) hd hpc kk
end XW
