section XR
variable {Γ : Gm} {l : Launch} {φ : Fx} {cc : ByteArray} {nL : Nat} {own : String} {wl : List Cond} {rm : Room} {pc : Nat} {L : List (Option Value)} {st rest : List Value} {ws : va_W} {kc ns : Nat}
theorem x_iconst (C : Cb Γ l φ cc nL own wl rm) (pc' : Nat) {n : Int} {v : Int32} (hd : decode cc pc = .ok (.iconst n, 1)) (hv : Int32.ofInt n = v) (hpc : pc + 1 = pc') (kk : X φ pc' L (.int v :: rest) ws kc ns) : X φ pc L (rest) ws kc ns := by
  obtain ⟨p, l', e, R, s, m, args, below, meth, c, A, Q, Γ'⟩ := φ
  obtain ⟨hx, hb, hml, hown, hts, hK, hA, hZ, rfl, rfl, rfl, hst⟩ := C
  intro H locs ls hP hD hS hl
  exact lv_iconst hx hb hd hv (by subst hpc; exact kk H locs ls hP hD hS hl)
theorem x_bipush (C : Cb Γ l φ cc nL own wl rm) (pc' : Nat) {n : Int} {v : Int32} (hd : decode cc pc = .ok (.bipush n, 2)) (hv : (Int8.ofInt n).toInt32 = v) (hpc : pc + 2 = pc') (kk : X φ pc' L (.int v :: rest) ws kc ns) : X φ pc L (rest) ws kc ns := by
  obtain ⟨p, l', e, R, s, m, args, below, meth, c, A, Q, Γ'⟩ := φ
  obtain ⟨hx, hb, hml, hown, hts, hK, hA, hZ, rfl, rfl, rfl, hst⟩ := C
  intro H locs ls hP hD hS hl
  exact lv_bipush hx hb hd hv (by subst hpc; exact kk H locs ls hP hD hS hl)
theorem x_sipush (C : Cb Γ l φ cc nL own wl rm) (pc' : Nat) {n : Int} {v : Int32} (hd : decode cc pc = .ok (.sipush n, 3)) (hv : (Int16.ofInt n).toInt32 = v) (hpc : pc + 3 = pc') (kk : X φ pc' L (.int v :: rest) ws kc ns) : X φ pc L (rest) ws kc ns := by
  obtain ⟨p, l', e, R, s, m, args, below, meth, c, A, Q, Γ'⟩ := φ
  obtain ⟨hx, hb, hml, hown, hts, hK, hA, hZ, rfl, rfl, rfl, hst⟩ := C
  intro H locs ls hP hD hS hl
  exact lv_sipush hx hb hd hv (by subst hpc; exact kk H locs ls hP hD hS hl)
theorem x_lconst (C : Cb Γ l φ cc nL own wl rm) (pc' : Nat) {n : Fin 2} {v : Int64} (hd : decode cc pc = .ok (.lconst n, 1)) (hv : Int64.ofNat (n : Nat) = v) (hpc : pc + 1 = pc') (kk : X φ pc' L (.long v :: rest) ws kc ns) : X φ pc L (rest) ws kc ns := by
  obtain ⟨p, l', e, R, s, m, args, below, meth, c, A, Q, Γ'⟩ := φ
  obtain ⟨hx, hb, hml, hown, hts, hK, hA, hZ, rfl, rfl, rfl, hst⟩ := C
  intro H locs ls hP hD hS hl
  exact lv_lconst hx hb hd hv (by subst hpc; exact kk H locs ls hP hD hS hl)
theorem x_dconst0 (C : Cb Γ l φ cc nL own wl rm) (pc' : Nat)  (hd : decode cc pc = .ok (.dconst 0, 1)) (hpc : pc + 1 = pc') (kk : X φ pc' L (.double FP.dconst0 :: rest) ws kc ns) : X φ pc L (rest) ws kc ns := by
  obtain ⟨p, l', e, R, s, m, args, below, meth, c, A, Q, Γ'⟩ := φ
  obtain ⟨hx, hb, hml, hown, hts, hK, hA, hZ, rfl, rfl, rfl, hst⟩ := C
  intro H locs ls hP hD hS hl
  exact lv_dconst0 hx hb hd (by subst hpc; exact kk H locs ls hP hD hS hl)
theorem x_null (C : Cb Γ l φ cc nL own wl rm) (pc' : Nat)  (hd : decode cc pc = .ok (.aconst_null, 1)) (hpc : pc + 1 = pc') (kk : X φ pc' L (.null :: rest) ws kc ns) : X φ pc L (rest) ws kc ns := by
  obtain ⟨p, l', e, R, s, m, args, below, meth, c, A, Q, Γ'⟩ := φ
  obtain ⟨hx, hb, hml, hown, hts, hK, hA, hZ, rfl, rfl, rfl, hst⟩ := C
  intro H locs ls hP hD hS hl
  exact lv_null hx hb hd (by subst hpc; exact kk H locs ls hP hD hS hl)
theorem x_ldc (C : Cb Γ l φ cc nL own wl rm) (pc' : Nat) {index : Nat} {v : Int32} (hconst : (Jvm.Cond.constant own index v) ∈ wl) (hd : decode cc pc = .ok (.ldc index, 2)) (hpc : pc + 2 = pc') (kk : X φ pc' L (.int v :: rest) ws kc ns) : X φ pc L (rest) ws kc ns := by
  obtain ⟨p, l', e, R, s, m, args, below, meth, c, A, Q, Γ'⟩ := φ
  obtain ⟨hx, hb, hml, hown, hts, hK, hA, hZ, rfl, rfl, rfl, hst⟩ := C
  intro H locs ls hP hD hS hl
  exact lv_ldc hx hb hown (hts _ hconst) hd (by subst hpc; exact kk H locs ls hP hD hS hl)
theorem x_ldcf (C : Cb Γ l φ cc nL own wl rm) (pc' : Nat) {index : Nat} {v : UInt32} (hconst : (Jvm.Cond.constantFloat own index v) ∈ wl) (hd : decode cc pc = .ok (.ldc index, 2)) (hpc : pc + 2 = pc') (kk : X φ pc' L (.float v :: rest) ws kc ns) : X φ pc L (rest) ws kc ns := by
  obtain ⟨p, l', e, R, s, m, args, below, meth, c, A, Q, Γ'⟩ := φ
  obtain ⟨hx, hb, hml, hown, hts, hK, hA, hZ, rfl, rfl, rfl, hst⟩ := C
  intro H locs ls hP hD hS hl
  exact lv_ldcf hx hb hown (hts _ hconst) hd (by subst hpc; exact kk H locs ls hP hD hS hl)
theorem x_ldc2 (C : Cb Γ l φ cc nL own wl rm) (pc' : Nat) {index : Nat} {v : Int64} (hconst : (Jvm.Cond.constantLong own index v) ∈ wl) (hd : decode cc pc = .ok (.ldc2_w index, 3)) (hpc : pc + 3 = pc') (kk : X φ pc' L (.long v :: rest) ws kc ns) : X φ pc L (rest) ws kc ns := by
  obtain ⟨p, l', e, R, s, m, args, below, meth, c, A, Q, Γ'⟩ := φ
  obtain ⟨hx, hb, hml, hown, hts, hK, hA, hZ, rfl, rfl, rfl, hst⟩ := C
  intro H locs ls hP hD hS hl
  exact lv_ldc2 hx hb hown (hts _ hconst) hd (by subst hpc; exact kk H locs ls hP hD hS hl)
theorem x_iload_n (C : Cb Γ l φ cc nL own wl rm) (pc' : Nat) {jf : Fin 4} {x : Int32} (hd : decode cc pc = .ok (.iload_n jf, 1)) (hL : L[(jf : Nat)]? = some (some (.int x))) (hpc : pc + 1 = pc') (kk : X φ pc' L (.int x :: rest) ws kc ns) : X φ pc L (rest) ws kc ns := by
  obtain ⟨p, l', e, R, s, m, args, below, meth, c, A, Q, Γ'⟩ := φ
  obtain ⟨hx, hb, hml, hown, hts, hK, hA, hZ, rfl, rfl, rfl, hst⟩ := C
  intro H locs ls hP hD hS hl
  exact lv_iload_n hx hb hd rfl (lsv_at hl hL) (by subst hpc; exact kk H locs ls hP hD hS hl)
theorem x_iload (C : Cb Γ l φ cc nL own wl rm) (pc' : Nat) {i : Nat} {x : Int32} (hd : decode cc pc = .ok (.iload i, 2)) (hL : L[i]? = some (some (.int x))) (hpc : pc + 2 = pc') (kk : X φ pc' L (.int x :: rest) ws kc ns) : X φ pc L (rest) ws kc ns := by
  obtain ⟨p, l', e, R, s, m, args, below, meth, c, A, Q, Γ'⟩ := φ
  obtain ⟨hx, hb, hml, hown, hts, hK, hA, hZ, rfl, rfl, rfl, hst⟩ := C
  intro H locs ls hP hD hS hl
  exact lv_iload hx hb hd (lsv_at hl hL) (by subst hpc; exact kk H locs ls hP hD hS hl)
theorem x_aload_n (C : Cb Γ l φ cc nL own wl rm) (pc' : Nat) {jf : Fin 4} {x : Nat} (hd : decode cc pc = .ok (.aload_n jf, 1)) (hL : L[(jf : Nat)]? = some (some (.ref x))) (hpc : pc + 1 = pc') (kk : X φ pc' L (.ref x :: rest) ws kc ns) : X φ pc L (rest) ws kc ns := by
  obtain ⟨p, l', e, R, s, m, args, below, meth, c, A, Q, Γ'⟩ := φ
  obtain ⟨hx, hb, hml, hown, hts, hK, hA, hZ, rfl, rfl, rfl, hst⟩ := C
  intro H locs ls hP hD hS hl
  exact lv_aload_n hx hb hd rfl (lsv_at hl hL) (by subst hpc; exact kk H locs ls hP hD hS hl)
theorem x_aload (C : Cb Γ l φ cc nL own wl rm) (pc' : Nat) {i : Nat} {x : Nat} (hd : decode cc pc = .ok (.aload i, 2)) (hL : L[i]? = some (some (.ref x))) (hpc : pc + 2 = pc') (kk : X φ pc' L (.ref x :: rest) ws kc ns) : X φ pc L (rest) ws kc ns := by
  obtain ⟨p, l', e, R, s, m, args, below, meth, c, A, Q, Γ'⟩ := φ
  obtain ⟨hx, hb, hml, hown, hts, hK, hA, hZ, rfl, rfl, rfl, hst⟩ := C
  intro H locs ls hP hD hS hl
  exact lv_aload hx hb hd (lsv_at hl hL) (by subst hpc; exact kk H locs ls hP hD hS hl)
theorem x_lload_n (C : Cb Γ l φ cc nL own wl rm) (pc' : Nat) {jf : Fin 4} {x : Int64} (hd : decode cc pc = .ok (.lload_n jf, 1)) (hL : L[(jf : Nat)]? = some (some (.long x))) (hpc : pc + 1 = pc') (kk : X φ pc' L (.long x :: rest) ws kc ns) : X φ pc L (rest) ws kc ns := by
  obtain ⟨p, l', e, R, s, m, args, below, meth, c, A, Q, Γ'⟩ := φ
  obtain ⟨hx, hb, hml, hown, hts, hK, hA, hZ, rfl, rfl, rfl, hst⟩ := C
  intro H locs ls hP hD hS hl
  exact lv_lload_n hx hb hd rfl (lsv_at hl hL) (by subst hpc; exact kk H locs ls hP hD hS hl)
theorem x_lload (C : Cb Γ l φ cc nL own wl rm) (pc' : Nat) {i : Nat} {x : Int64} (hd : decode cc pc = .ok (.lload i, 2)) (hL : L[i]? = some (some (.long x))) (hpc : pc + 2 = pc') (kk : X φ pc' L (.long x :: rest) ws kc ns) : X φ pc L (rest) ws kc ns := by
  obtain ⟨p, l', e, R, s, m, args, below, meth, c, A, Q, Γ'⟩ := φ
  obtain ⟨hx, hb, hml, hown, hts, hK, hA, hZ, rfl, rfl, rfl, hst⟩ := C
  intro H locs ls hP hD hS hl
  exact lv_lload hx hb hd (lsv_at hl hL) (by subst hpc; exact kk H locs ls hP hD hS hl)
theorem x_dload_n (C : Cb Γ l φ cc nL own wl rm) (pc' : Nat) {jf : Fin 4} {x : UInt64} (hd : decode cc pc = .ok (.dload_n jf, 1)) (hL : L[(jf : Nat)]? = some (some (.double x))) (hpc : pc + 1 = pc') (kk : X φ pc' L (.double x :: rest) ws kc ns) : X φ pc L (rest) ws kc ns := by
  obtain ⟨p, l', e, R, s, m, args, below, meth, c, A, Q, Γ'⟩ := φ
  obtain ⟨hx, hb, hml, hown, hts, hK, hA, hZ, rfl, rfl, rfl, hst⟩ := C
  intro H locs ls hP hD hS hl
  exact lv_dload_n hx hb hd rfl (lsv_at hl hL) (by subst hpc; exact kk H locs ls hP hD hS hl)
theorem x_dload (C : Cb Γ l φ cc nL own wl rm) (pc' : Nat) {i : Nat} {x : UInt64} (hd : decode cc pc = .ok (.dload i, 2)) (hL : L[i]? = some (some (.double x))) (hpc : pc + 2 = pc') (kk : X φ pc' L (.double x :: rest) ws kc ns) : X φ pc L (rest) ws kc ns := by
  obtain ⟨p, l', e, R, s, m, args, below, meth, c, A, Q, Γ'⟩ := φ
  obtain ⟨hx, hb, hml, hown, hts, hK, hA, hZ, rfl, rfl, rfl, hst⟩ := C
  intro H locs ls hP hD hS hl
  exact lv_dload hx hb hd (lsv_at hl hL) (by subst hpc; exact kk H locs ls hP hD hS hl)
theorem x_istore_n (C : Cb Γ l φ cc nL own wl rm) (pc' : Nat) {jf : Fin 4} {x : Int32} (hd : decode cc pc = .ok (.istore_n jf, 1)) (hn : (jf : Nat) < nL) (hpc : pc + 1 = pc') (hok : okst L (jf : Nat) = true) (kk : X φ pc' (L.set (jf : Nat) (some (.int x))) (rest) ws kc ns) : X φ pc L (.int x :: rest) ws kc ns := by
  obtain ⟨p, l', e, R, s, m, args, below, meth, c, A, Q, Γ'⟩ := φ
  obtain ⟨hx, hb, hml, hown, hts, hK, hA, hZ, rfl, rfl, rfl, hst⟩ := C
  intro H locs ls hP hD hS hl
  exact lv_istore_n hx hb hd rfl hl (by rw [hml]; exact hn) rfl (fun ls' h' => by subst hpc; exact kk H locs ls' hP hD hS (lsv_set1 hok h'))
theorem x_istore (C : Cb Γ l φ cc nL own wl rm) (pc' : Nat) {i : Nat} {x : Int32} (hd : decode cc pc = .ok (.istore i, 2)) (hn : i < nL) (hpc : pc + 2 = pc') (hok : okst L i = true) (kk : X φ pc' (L.set i (some (.int x))) (rest) ws kc ns) : X φ pc L (.int x :: rest) ws kc ns := by
  obtain ⟨p, l', e, R, s, m, args, below, meth, c, A, Q, Γ'⟩ := φ
  obtain ⟨hx, hb, hml, hown, hts, hK, hA, hZ, rfl, rfl, rfl, hst⟩ := C
  intro H locs ls hP hD hS hl
  exact lv_istore hx hb hd hl (by rw [hml]; exact hn) rfl (fun ls' h' => by subst hpc; exact kk H locs ls' hP hD hS (lsv_set1 hok h'))
theorem x_astore_n (C : Cb Γ l φ cc nL own wl rm) (pc' : Nat) {jf : Fin 4} {x : Nat} (hd : decode cc pc = .ok (.astore_n jf, 1)) (hn : (jf : Nat) < nL) (hpc : pc + 1 = pc') (hok : okst L (jf : Nat) = true) (kk : X φ pc' (L.set (jf : Nat) (some (.ref x))) (rest) ws kc ns) : X φ pc L (.ref x :: rest) ws kc ns := by
  obtain ⟨p, l', e, R, s, m, args, below, meth, c, A, Q, Γ'⟩ := φ
  obtain ⟨hx, hb, hml, hown, hts, hK, hA, hZ, rfl, rfl, rfl, hst⟩ := C
  intro H locs ls hP hD hS hl
  exact lv_astore_n hx hb hd rfl hl (by rw [hml]; exact hn) rfl (fun ls' h' => by subst hpc; exact kk H locs ls' hP hD hS (lsv_set1 hok h'))
theorem x_astore (C : Cb Γ l φ cc nL own wl rm) (pc' : Nat) {i : Nat} {x : Nat} (hd : decode cc pc = .ok (.astore i, 2)) (hn : i < nL) (hpc : pc + 2 = pc') (hok : okst L i = true) (kk : X φ pc' (L.set i (some (.ref x))) (rest) ws kc ns) : X φ pc L (.ref x :: rest) ws kc ns := by
  obtain ⟨p, l', e, R, s, m, args, below, meth, c, A, Q, Γ'⟩ := φ
  obtain ⟨hx, hb, hml, hown, hts, hK, hA, hZ, rfl, rfl, rfl, hst⟩ := C
  intro H locs ls hP hD hS hl
  exact lv_astore hx hb hd hl (by rw [hml]; exact hn) rfl (fun ls' h' => by subst hpc; exact kk H locs ls' hP hD hS (lsv_set1 hok h'))
theorem x_dstore (C : Cb Γ l φ cc nL own wl rm) (pc' : Nat) {i : Nat} {x : UInt64} (hd : decode cc pc = .ok (.dstore i, 2)) (hn : i + 1 < nL) (hpc : pc + 2 = pc') (hok : okst L i = true) (kk : X φ pc' ((L.set i (some (.double x))).set (i + 1) none) (rest) ws kc ns) : X φ pc L (.double x :: rest) ws kc ns := by
  obtain ⟨p, l', e, R, s, m, args, below, meth, c, A, Q, Γ'⟩ := φ
  obtain ⟨hx, hb, hml, hown, hts, hK, hA, hZ, rfl, rfl, rfl, hst⟩ := C
  intro H locs ls hP hD hS hl
  exact lv_dstore hx hb hd hl (by rw [hml]; exact hn) rfl (fun ls' h' => by subst hpc; exact kk H locs ls' hP hD hS (lsv_set2 hok h'))
theorem x_dstore_n (C : Cb Γ l φ cc nL own wl rm) (pc' : Nat) {jf : Fin 4} {x : UInt64} (hd : decode cc pc = .ok (.dstore_n jf, 1)) (hn : (jf : Nat) + 1 < nL) (hpc : pc + 1 = pc') (hok : okst L (jf : Nat) = true) (kk : X φ pc' ((L.set (jf : Nat) (some (.double x))).set ((jf : Nat) + 1) none) (rest) ws kc ns) : X φ pc L (.double x :: rest) ws kc ns := by
  obtain ⟨p, l', e, R, s, m, args, below, meth, c, A, Q, Γ'⟩ := φ
  obtain ⟨hx, hb, hml, hown, hts, hK, hA, hZ, rfl, rfl, rfl, hst⟩ := C
  intro H locs ls hP hD hS hl
  exact lv_dstore_n hx hb hd rfl hl (by rw [hml]; exact hn) rfl (fun ls' h' => by subst hpc; exact kk H locs ls' hP hD hS (lsv_set2 hok h'))
theorem x_iinc (C : Cb Γ l φ cc nL own wl rm) (pc' : Nat) {i : Nat} {n : Int} {x v : Int32} (hL : L[i]? = some (some (.int x))) (hd : decode cc pc = .ok (.iinc i n, 3)) (hv : x + Int32.ofInt n = v) (hn : i < nL) (hpc : pc + 3 = pc') (hok : okst L i = true) (kk : X φ pc' (L.set i (some (.int v))) (rest) ws kc ns) : X φ pc L (rest) ws kc ns := by
  obtain ⟨p, l', e, R, s, m, args, below, meth, c, A, Q, Γ'⟩ := φ
  obtain ⟨hx, hb, hml, hown, hts, hK, hA, hZ, rfl, rfl, rfl, hst⟩ := C
  intro H locs ls hP hD hS hl
  subst hpc
  exact (by
    have h0 := lsv_in (i := 0) hL
    rw [Nat.zero_add] at h0
    obtain ⟨kq, hq⟩ := List.getElem?_of_mem h0
    exact lv_iinc (k := kq) hx hb hd hl hq hv (by rw [hml]; exact hn) rfl (fun ls' h' => kk H locs ls' hP hD hS (lsv_set1 hok h')))
theorem x_iadd (C : Cb Γ l φ cc nL own wl rm) (pc' : Nat) {x y : Int32} (hd : decode cc pc = .ok (.iadd, 1)) (hpc : pc + 1 = pc') (kk : X φ pc' L (.int (x + y) :: rest) ws kc ns) : X φ pc L (.int y :: .int x :: rest) ws kc ns := by
  obtain ⟨p, l', e, R, s, m, args, below, meth, c, A, Q, Γ'⟩ := φ
  obtain ⟨hx, hb, hml, hown, hts, hK, hA, hZ, rfl, rfl, rfl, hst⟩ := C
  intro H locs ls hP hD hS hl
  exact lv_iadd hx hb hd (by subst hpc; exact kk H locs ls hP hD hS hl)
theorem x_isub (C : Cb Γ l φ cc nL own wl rm) (pc' : Nat) {x y : Int32} (hd : decode cc pc = .ok (.isub, 1)) (hpc : pc + 1 = pc') (kk : X φ pc' L (.int (x - y) :: rest) ws kc ns) : X φ pc L (.int y :: .int x :: rest) ws kc ns := by
  obtain ⟨p, l', e, R, s, m, args, below, meth, c, A, Q, Γ'⟩ := φ
  obtain ⟨hx, hb, hml, hown, hts, hK, hA, hZ, rfl, rfl, rfl, hst⟩ := C
  intro H locs ls hP hD hS hl
  exact lv_isub hx hb hd (by subst hpc; exact kk H locs ls hP hD hS hl)
theorem x_imul (C : Cb Γ l φ cc nL own wl rm) (pc' : Nat) {x y : Int32} (hd : decode cc pc = .ok (.imul, 1)) (hpc : pc + 1 = pc') (kk : X φ pc' L (.int (x * y) :: rest) ws kc ns) : X φ pc L (.int y :: .int x :: rest) ws kc ns := by
  obtain ⟨p, l', e, R, s, m, args, below, meth, c, A, Q, Γ'⟩ := φ
  obtain ⟨hx, hb, hml, hown, hts, hK, hA, hZ, rfl, rfl, rfl, hst⟩ := C
  intro H locs ls hP hD hS hl
  exact lv_imul hx hb hd (by subst hpc; exact kk H locs ls hP hD hS hl)
theorem x_iand (C : Cb Γ l φ cc nL own wl rm) (pc' : Nat) {x y : Int32} (hd : decode cc pc = .ok (.iand, 1)) (hpc : pc + 1 = pc') (kk : X φ pc' L (.int (x &&& y) :: rest) ws kc ns) : X φ pc L (.int y :: .int x :: rest) ws kc ns := by
  obtain ⟨p, l', e, R, s, m, args, below, meth, c, A, Q, Γ'⟩ := φ
  obtain ⟨hx, hb, hml, hown, hts, hK, hA, hZ, rfl, rfl, rfl, hst⟩ := C
  intro H locs ls hP hD hS hl
  exact lv_iand hx hb hd (by subst hpc; exact kk H locs ls hP hD hS hl)
theorem x_ior (C : Cb Γ l φ cc nL own wl rm) (pc' : Nat) {x y : Int32} (hd : decode cc pc = .ok (.ior, 1)) (hpc : pc + 1 = pc') (kk : X φ pc' L (.int (x ||| y) :: rest) ws kc ns) : X φ pc L (.int y :: .int x :: rest) ws kc ns := by
  obtain ⟨p, l', e, R, s, m, args, below, meth, c, A, Q, Γ'⟩ := φ
  obtain ⟨hx, hb, hml, hown, hts, hK, hA, hZ, rfl, rfl, rfl, hst⟩ := C
  intro H locs ls hP hD hS hl
  exact lv_ior hx hb hd (by subst hpc; exact kk H locs ls hP hD hS hl)
theorem x_ixor (C : Cb Γ l φ cc nL own wl rm) (pc' : Nat) {x y : Int32} (hd : decode cc pc = .ok (.ixor, 1)) (hpc : pc + 1 = pc') (kk : X φ pc' L (.int (x ^^^ y) :: rest) ws kc ns) : X φ pc L (.int y :: .int x :: rest) ws kc ns := by
  obtain ⟨p, l', e, R, s, m, args, below, meth, c, A, Q, Γ'⟩ := φ
  obtain ⟨hx, hb, hml, hown, hts, hK, hA, hZ, rfl, rfl, rfl, hst⟩ := C
  intro H locs ls hP hD hS hl
  exact lv_ixor hx hb hd (by subst hpc; exact kk H locs ls hP hD hS hl)
theorem x_ishl (C : Cb Γ l φ cc nL own wl rm) (pc' : Nat) {x y : Int32} (hd : decode cc pc = .ok (.ishl, 1)) (hpc : pc + 1 = pc') (kk : X φ pc' L (.int (x <<< (y &&& 31)) :: rest) ws kc ns) : X φ pc L (.int y :: .int x :: rest) ws kc ns := by
  obtain ⟨p, l', e, R, s, m, args, below, meth, c, A, Q, Γ'⟩ := φ
  obtain ⟨hx, hb, hml, hown, hts, hK, hA, hZ, rfl, rfl, rfl, hst⟩ := C
  intro H locs ls hP hD hS hl
  exact lv_ishl hx hb hd (by subst hpc; exact kk H locs ls hP hD hS hl)
theorem x_ishr (C : Cb Γ l φ cc nL own wl rm) (pc' : Nat) {x y : Int32} (hd : decode cc pc = .ok (.ishr, 1)) (hpc : pc + 1 = pc') (kk : X φ pc' L (.int (x >>> (y &&& 31)) :: rest) ws kc ns) : X φ pc L (.int y :: .int x :: rest) ws kc ns := by
  obtain ⟨p, l', e, R, s, m, args, below, meth, c, A, Q, Γ'⟩ := φ
  obtain ⟨hx, hb, hml, hown, hts, hK, hA, hZ, rfl, rfl, rfl, hst⟩ := C
  intro H locs ls hP hD hS hl
  exact lv_ishr hx hb hd (by subst hpc; exact kk H locs ls hP hD hS hl)
theorem x_idiv (C : Cb Γ l φ cc nL own wl rm) (pc' : Nat) {x y : Int32} (hd : decode cc pc = .ok (.idiv, 1)) (hne : ¬ y = 0) (hpc : pc + 1 = pc') (kk : X φ pc' L (.int (x / y) :: rest) ws kc ns) : X φ pc L (.int y :: .int x :: rest) ws kc ns := by
  obtain ⟨p, l', e, R, s, m, args, below, meth, c, A, Q, Γ'⟩ := φ
  obtain ⟨hx, hb, hml, hown, hts, hK, hA, hZ, rfl, rfl, rfl, hst⟩ := C
  intro H locs ls hP hD hS hl
  exact lv_idiv hx hb hd hne (by subst hpc; exact kk H locs ls hP hD hS hl)
theorem x_irem (C : Cb Γ l φ cc nL own wl rm) (pc' : Nat) {x y : Int32} (hd : decode cc pc = .ok (.irem, 1)) (hne : ¬ y = 0) (hpc : pc + 1 = pc') (kk : X φ pc' L (.int (x - x / y * y) :: rest) ws kc ns) : X φ pc L (.int y :: .int x :: rest) ws kc ns := by
  obtain ⟨p, l', e, R, s, m, args, below, meth, c, A, Q, Γ'⟩ := φ
  obtain ⟨hx, hb, hml, hown, hts, hK, hA, hZ, rfl, rfl, rfl, hst⟩ := C
  intro H locs ls hP hD hS hl
  exact lv_irem hx hb hd hne (by subst hpc; exact kk H locs ls hP hD hS hl)
theorem x_i2l (C : Cb Γ l φ cc nL own wl rm) (pc' : Nat) {x : Int32} {v : Int64} (hd : decode cc pc = .ok (.i2l, 1)) (hv : x.toInt64 = v) (hpc : pc + 1 = pc') (kk : X φ pc' L (.long v :: rest) ws kc ns) : X φ pc L (.int x :: rest) ws kc ns := by
  obtain ⟨p, l', e, R, s, m, args, below, meth, c, A, Q, Γ'⟩ := φ
  obtain ⟨hx, hb, hml, hown, hts, hK, hA, hZ, rfl, rfl, rfl, hst⟩ := C
  intro H locs ls hP hD hS hl
  exact lv_i2l hx hb hd hv (by subst hpc; exact kk H locs ls hP hD hS hl)
theorem x_i2c (C : Cb Γ l φ cc nL own wl rm) (pc' : Nat) {x : Int32} {v : Int32} (hd : decode cc pc = .ok (.i2c, 1)) (hv : (x.toUInt32 % 65536).toInt32 = v) (hpc : pc + 1 = pc') (kk : X φ pc' L (.int v :: rest) ws kc ns) : X φ pc L (.int x :: rest) ws kc ns := by
  obtain ⟨p, l', e, R, s, m, args, below, meth, c, A, Q, Γ'⟩ := φ
  obtain ⟨hx, hb, hml, hown, hts, hK, hA, hZ, rfl, rfl, rfl, hst⟩ := C
  intro H locs ls hP hD hS hl
  exact lv_i2c hx hb hd hv (by subst hpc; exact kk H locs ls hP hD hS hl)
theorem x_i2f (C : Cb Γ l φ cc nL own wl rm) (pc' : Nat) {x : Int32} (hd : decode cc pc = .ok (.i2f, 1)) (hpc : pc + 1 = pc') (kk : X φ pc' L (.float (FP.i2f x) :: rest) ws kc ns) : X φ pc L (.int x :: rest) ws kc ns := by
  obtain ⟨p, l', e, R, s, m, args, below, meth, c, A, Q, Γ'⟩ := φ
  obtain ⟨hx, hb, hml, hown, hts, hK, hA, hZ, rfl, rfl, rfl, hst⟩ := C
  intro H locs ls hP hD hS hl
  exact lv_i2f hx hb hd (by subst hpc; exact kk H locs ls hP hD hS hl)
theorem x_i2d (C : Cb Γ l φ cc nL own wl rm) (pc' : Nat) {x : Int32} (hd : decode cc pc = .ok (.i2d, 1)) (hpc : pc + 1 = pc') (kk : X φ pc' L (.double (FP.i2d x) :: rest) ws kc ns) : X φ pc L (.int x :: rest) ws kc ns := by
  obtain ⟨p, l', e, R, s, m, args, below, meth, c, A, Q, Γ'⟩ := φ
  obtain ⟨hx, hb, hml, hown, hts, hK, hA, hZ, rfl, rfl, rfl, hst⟩ := C
  intro H locs ls hP hD hS hl
  exact lv_i2d hx hb hd (by subst hpc; exact kk H locs ls hP hD hS hl)
theorem x_f2d (C : Cb Γ l φ cc nL own wl rm) (pc' : Nat) {x : UInt32} (hd : decode cc pc = .ok (.f2d, 1)) (hne : vf_n64 (FP.f2d x)) (hpc : pc + 1 = pc') (kk : X φ pc' L (.double (FP.f2d x) :: rest) ws kc ns) : X φ pc L (.float x :: rest) ws kc ns := by
  obtain ⟨p, l', e, R, s, m, args, below, meth, c, A, Q, Γ'⟩ := φ
  obtain ⟨hx, hb, hml, hown, hts, hK, hA, hZ, rfl, rfl, rfl, hst⟩ := C
  intro H locs ls hP hD hS hl
  exact lv_f2d hx hb hd hne (by subst hpc; exact kk H locs ls hP hD hS hl)
theorem x_ladd (C : Cb Γ l φ cc nL own wl rm) (pc' : Nat) {x y : Int64} (hd : decode cc pc = .ok (.ladd, 1)) (hpc : pc + 1 = pc') (kk : X φ pc' L (.long (x + y) :: rest) ws kc ns) : X φ pc L (.long y :: .long x :: rest) ws kc ns := by
  obtain ⟨p, l', e, R, s, m, args, below, meth, c, A, Q, Γ'⟩ := φ
  obtain ⟨hx, hb, hml, hown, hts, hK, hA, hZ, rfl, rfl, rfl, hst⟩ := C
  intro H locs ls hP hD hS hl
  exact lv_ladd hx hb hd (by subst hpc; exact kk H locs ls hP hD hS hl)
theorem x_dcmp (C : Cb Γ l φ cc nL own wl rm) (pc' : Nat) {x y : UInt64} {op : CmpOp} (hd : decode cc pc = .ok (.dcmp op, 1)) (hpc : pc + 1 = pc') (kk : X φ pc' L (.int (Op.cmpValue (FP.dcmp x y) op) :: rest) ws kc ns) : X φ pc L (.double y :: .double x :: rest) ws kc ns := by
  obtain ⟨p, l', e, R, s, m, args, below, meth, c, A, Q, Γ'⟩ := φ
  obtain ⟨hx, hb, hml, hown, hts, hK, hA, hZ, rfl, rfl, rfl, hst⟩ := C
  intro H locs ls hP hD hS hl
  exact lv_dcmp hx hb hd (by subst hpc; exact kk H locs ls hP hD hS hl)
theorem x_fdiv (C : Cb Γ l φ cc nL own wl rm) (pc' : Nat) {x y : UInt32} (hd : decode cc pc = .ok (.fdiv, 1)) (hne : vf_n32 (FP.fdiv x y)) (hpc : pc + 1 = pc') (kk : X φ pc' L (.float (FP.fdiv x y) :: rest) ws kc ns) : X φ pc L (.float y :: .float x :: rest) ws kc ns := by
  obtain ⟨p, l', e, R, s, m, args, below, meth, c, A, Q, Γ'⟩ := φ
  obtain ⟨hx, hb, hml, hown, hts, hK, hA, hZ, rfl, rfl, rfl, hst⟩ := C
  intro H locs ls hP hD hS hl
  exact lv_fdiv hx hb hd hne (by subst hpc; exact kk H locs ls hP hD hS hl)
theorem x_ddiv (C : Cb Γ l φ cc nL own wl rm) (pc' : Nat) {x y : UInt64} (hd : decode cc pc = .ok (.ddiv, 1)) (hne : vf_n64 (FP.ddiv x y)) (hpc : pc + 1 = pc') (kk : X φ pc' L (.double (FP.ddiv x y) :: rest) ws kc ns) : X φ pc L (.double y :: .double x :: rest) ws kc ns := by
  obtain ⟨p, l', e, R, s, m, args, below, meth, c, A, Q, Γ'⟩ := φ
  obtain ⟨hx, hb, hml, hown, hts, hK, hA, hZ, rfl, rfl, rfl, hst⟩ := C
  intro H locs ls hP hD hS hl
  exact lv_ddiv hx hb hd hne (by subst hpc; exact kk H locs ls hP hD hS hl)
theorem x_pop (C : Cb Γ l φ cc nL own wl rm) (pc' : Nat) {va : Value} (hd : decode cc pc = .ok (.pop, 1)) (hva : va.category = 1) (hpc : pc + 1 = pc') (kk : X φ pc' L (rest) ws kc ns) : X φ pc L (va :: rest) ws kc ns := by
  obtain ⟨p, l', e, R, s, m, args, below, meth, c, A, Q, Γ'⟩ := φ
  obtain ⟨hx, hb, hml, hown, hts, hK, hA, hZ, rfl, rfl, rfl, hst⟩ := C
  intro H locs ls hP hD hS hl
  exact lv_pop hx hb hd hva (by subst hpc; exact kk H locs ls hP hD hS hl)
theorem x_dup (C : Cb Γ l φ cc nL own wl rm) (pc' : Nat) {va : Value} (hd : decode cc pc = .ok (.dup, 1)) (hva : va.category = 1) (hpc : pc + 1 = pc') (kk : X φ pc' L (va :: va :: rest) ws kc ns) : X φ pc L (va :: rest) ws kc ns := by
  obtain ⟨p, l', e, R, s, m, args, below, meth, c, A, Q, Γ'⟩ := φ
  obtain ⟨hx, hb, hml, hown, hts, hK, hA, hZ, rfl, rfl, rfl, hst⟩ := C
  intro H locs ls hP hD hS hl
  exact lv_dup hx hb hd hva (by subst hpc; exact kk H locs ls hP hD hS hl)
theorem x_dup2_11 (C : Cb Γ l φ cc nL own wl rm) (pc' : Nat) {va vb : Value} (hd : decode cc pc = .ok (.dup2, 1)) (hva : va.category = 1) (hvb : vb.category = 1) (hpc : pc + 1 = pc') (kk : X φ pc' L (va :: vb :: va :: vb :: rest) ws kc ns) : X φ pc L (va :: vb :: rest) ws kc ns := by
  obtain ⟨p, l', e, R, s, m, args, below, meth, c, A, Q, Γ'⟩ := φ
  obtain ⟨hx, hb, hml, hown, hts, hK, hA, hZ, rfl, rfl, rfl, hst⟩ := C
  intro H locs ls hP hD hS hl
  exact lv_dup2_11 hx hb hd hva hvb (by subst hpc; exact kk H locs ls hP hD hS hl)
theorem x_dup2_2 (C : Cb Γ l φ cc nL own wl rm) (pc' : Nat) {va : Value} (hd : decode cc pc = .ok (.dup2, 1)) (hva : va.category = 2) (hpc : pc + 1 = pc') (kk : X φ pc' L (va :: va :: rest) ws kc ns) : X φ pc L (va :: rest) ws kc ns := by
  obtain ⟨p, l', e, R, s, m, args, below, meth, c, A, Q, Γ'⟩ := φ
  obtain ⟨hx, hb, hml, hown, hts, hK, hA, hZ, rfl, rfl, rfl, hst⟩ := C
  intro H locs ls hP hD hS hl
  exact lv_dup2_2 hx hb hd hva (by subst hpc; exact kk H locs ls hP hD hS hl)
theorem x_dup_x1 (C : Cb Γ l φ cc nL own wl rm) (pc' : Nat) {va vb : Value} (hd : decode cc pc = .ok (.dup_x1, 1)) (hva : va.category = 1) (hvb : vb.category = 1) (hpc : pc + 1 = pc') (kk : X φ pc' L (va :: vb :: va :: rest) ws kc ns) : X φ pc L (va :: vb :: rest) ws kc ns := by
  obtain ⟨p, l', e, R, s, m, args, below, meth, c, A, Q, Γ'⟩ := φ
  obtain ⟨hx, hb, hml, hown, hts, hK, hA, hZ, rfl, rfl, rfl, hst⟩ := C
  intro H locs ls hP hD hS hl
  exact lv_dup_x1 hx hb hd hva hvb (by subst hpc; exact kk H locs ls hP hD hS hl)
theorem x_if_eq (C : Cb Γ l φ cc nL own wl rm) (tgt : Nat) (pc' : Nat) {x : Int32} {off : Int} (hd : decode cc pc = .ok (.ifCond .eq off, 3)) (ht : (pc : Int) + off = (tgt : Int)) (hpc : pc + 3 = pc') (kt : x = 0 → X φ tgt L (rest) ws kc ns) (kf : ¬ x = 0 → X φ pc' L (rest) ws kc ns) : X φ pc L (.int x :: rest) ws kc ns := by
  obtain ⟨p, l', e, R, s, m, args, below, meth, c, A, Q, Γ'⟩ := φ
  obtain ⟨hx, hb, hml, hown, hts, hK, hA, hZ, rfl, rfl, rfl, hst⟩ := C
  intro H locs ls hP hD hS hl
  exact lv_if_eq hx hb hd ht (fun z => kt z H locs ls hP hD hS hl) (fun z => by subst hpc; exact kf z H locs ls hP hD hS hl)
theorem x_if_ne (C : Cb Γ l φ cc nL own wl rm) (tgt : Nat) (pc' : Nat) {x : Int32} {off : Int} (hd : decode cc pc = .ok (.ifCond .ne off, 3)) (ht : (pc : Int) + off = (tgt : Int)) (hpc : pc + 3 = pc') (kt : ¬ x = 0 → X φ tgt L (rest) ws kc ns) (kf : x = 0 → X φ pc' L (rest) ws kc ns) : X φ pc L (.int x :: rest) ws kc ns := by
  obtain ⟨p, l', e, R, s, m, args, below, meth, c, A, Q, Γ'⟩ := φ
  obtain ⟨hx, hb, hml, hown, hts, hK, hA, hZ, rfl, rfl, rfl, hst⟩ := C
  intro H locs ls hP hD hS hl
  exact lv_if_ne hx hb hd ht (fun z => kt z H locs ls hP hD hS hl) (fun z => by subst hpc; exact kf z H locs ls hP hD hS hl)
theorem x_if_lt (C : Cb Γ l φ cc nL own wl rm) (tgt : Nat) (pc' : Nat) {x : Int32} {off : Int} (hd : decode cc pc = .ok (.ifCond .lt off, 3)) (ht : (pc : Int) + off = (tgt : Int)) (hpc : pc + 3 = pc') (kt : x < 0 → X φ tgt L (rest) ws kc ns) (kf : ¬ x < 0 → X φ pc' L (rest) ws kc ns) : X φ pc L (.int x :: rest) ws kc ns := by
  obtain ⟨p, l', e, R, s, m, args, below, meth, c, A, Q, Γ'⟩ := φ
  obtain ⟨hx, hb, hml, hown, hts, hK, hA, hZ, rfl, rfl, rfl, hst⟩ := C
  intro H locs ls hP hD hS hl
  exact lv_if_lt hx hb hd ht (fun z => kt z H locs ls hP hD hS hl) (fun z => by subst hpc; exact kf z H locs ls hP hD hS hl)
theorem x_if_ge (C : Cb Γ l φ cc nL own wl rm) (tgt : Nat) (pc' : Nat) {x : Int32} {off : Int} (hd : decode cc pc = .ok (.ifCond .ge off, 3)) (ht : (pc : Int) + off = (tgt : Int)) (hpc : pc + 3 = pc') (kt : 0 ≤ x → X φ tgt L (rest) ws kc ns) (kf : ¬ 0 ≤ x → X φ pc' L (rest) ws kc ns) : X φ pc L (.int x :: rest) ws kc ns := by
  obtain ⟨p, l', e, R, s, m, args, below, meth, c, A, Q, Γ'⟩ := φ
  obtain ⟨hx, hb, hml, hown, hts, hK, hA, hZ, rfl, rfl, rfl, hst⟩ := C
  intro H locs ls hP hD hS hl
  exact lv_if_ge hx hb hd ht (fun z => kt z H locs ls hP hD hS hl) (fun z => by subst hpc; exact kf z H locs ls hP hD hS hl)
theorem x_if_gt (C : Cb Γ l φ cc nL own wl rm) (tgt : Nat) (pc' : Nat) {x : Int32} {off : Int} (hd : decode cc pc = .ok (.ifCond .gt off, 3)) (ht : (pc : Int) + off = (tgt : Int)) (hpc : pc + 3 = pc') (kt : 0 < x → X φ tgt L (rest) ws kc ns) (kf : ¬ 0 < x → X φ pc' L (rest) ws kc ns) : X φ pc L (.int x :: rest) ws kc ns := by
  obtain ⟨p, l', e, R, s, m, args, below, meth, c, A, Q, Γ'⟩ := φ
  obtain ⟨hx, hb, hml, hown, hts, hK, hA, hZ, rfl, rfl, rfl, hst⟩ := C
  intro H locs ls hP hD hS hl
  exact lv_if_gt hx hb hd ht (fun z => kt z H locs ls hP hD hS hl) (fun z => by subst hpc; exact kf z H locs ls hP hD hS hl)
theorem x_if_le (C : Cb Γ l φ cc nL own wl rm) (tgt : Nat) (pc' : Nat) {x : Int32} {off : Int} (hd : decode cc pc = .ok (.ifCond .le off, 3)) (ht : (pc : Int) + off = (tgt : Int)) (hpc : pc + 3 = pc') (kt : x ≤ 0 → X φ tgt L (rest) ws kc ns) (kf : ¬ x ≤ 0 → X φ pc' L (rest) ws kc ns) : X φ pc L (.int x :: rest) ws kc ns := by
  obtain ⟨p, l', e, R, s, m, args, below, meth, c, A, Q, Γ'⟩ := φ
  obtain ⟨hx, hb, hml, hown, hts, hK, hA, hZ, rfl, rfl, rfl, hst⟩ := C
  intro H locs ls hP hD hS hl
  exact lv_if_le hx hb hd ht (fun z => kt z H locs ls hP hD hS hl) (fun z => by subst hpc; exact kf z H locs ls hP hD hS hl)
theorem x_icmp_eq (C : Cb Γ l φ cc nL own wl rm) (tgt : Nat) (pc' : Nat) {x y : Int32} {off : Int} (hd : decode cc pc = .ok (.if_icmp .eq off, 3)) (ht : (pc : Int) + off = (tgt : Int)) (hpc : pc + 3 = pc') (kt : x = y → X φ tgt L (rest) ws kc ns) (kf : ¬ x = y → X φ pc' L (rest) ws kc ns) : X φ pc L (.int y :: .int x :: rest) ws kc ns := by
  obtain ⟨p, l', e, R, s, m, args, below, meth, c, A, Q, Γ'⟩ := φ
  obtain ⟨hx, hb, hml, hown, hts, hK, hA, hZ, rfl, rfl, rfl, hst⟩ := C
  intro H locs ls hP hD hS hl
  exact lv_icmp_eq hx hb hd ht (fun z => kt z H locs ls hP hD hS hl) (fun z => by subst hpc; exact kf z H locs ls hP hD hS hl)
theorem x_icmp_ne (C : Cb Γ l φ cc nL own wl rm) (tgt : Nat) (pc' : Nat) {x y : Int32} {off : Int} (hd : decode cc pc = .ok (.if_icmp .ne off, 3)) (ht : (pc : Int) + off = (tgt : Int)) (hpc : pc + 3 = pc') (kt : ¬ x = y → X φ tgt L (rest) ws kc ns) (kf : x = y → X φ pc' L (rest) ws kc ns) : X φ pc L (.int y :: .int x :: rest) ws kc ns := by
  obtain ⟨p, l', e, R, s, m, args, below, meth, c, A, Q, Γ'⟩ := φ
  obtain ⟨hx, hb, hml, hown, hts, hK, hA, hZ, rfl, rfl, rfl, hst⟩ := C
  intro H locs ls hP hD hS hl
  exact lv_icmp_ne hx hb hd ht (fun z => kt z H locs ls hP hD hS hl) (fun z => by subst hpc; exact kf z H locs ls hP hD hS hl)
theorem x_icmp_lt (C : Cb Γ l φ cc nL own wl rm) (tgt : Nat) (pc' : Nat) {x y : Int32} {off : Int} (hd : decode cc pc = .ok (.if_icmp .lt off, 3)) (ht : (pc : Int) + off = (tgt : Int)) (hpc : pc + 3 = pc') (kt : x < y → X φ tgt L (rest) ws kc ns) (kf : ¬ x < y → X φ pc' L (rest) ws kc ns) : X φ pc L (.int y :: .int x :: rest) ws kc ns := by
  obtain ⟨p, l', e, R, s, m, args, below, meth, c, A, Q, Γ'⟩ := φ
  obtain ⟨hx, hb, hml, hown, hts, hK, hA, hZ, rfl, rfl, rfl, hst⟩ := C
  intro H locs ls hP hD hS hl
  exact lv_icmp_lt hx hb hd ht (fun z => kt z H locs ls hP hD hS hl) (fun z => by subst hpc; exact kf z H locs ls hP hD hS hl)
theorem x_icmp_ge (C : Cb Γ l φ cc nL own wl rm) (tgt : Nat) (pc' : Nat) {x y : Int32} {off : Int} (hd : decode cc pc = .ok (.if_icmp .ge off, 3)) (ht : (pc : Int) + off = (tgt : Int)) (hpc : pc + 3 = pc') (kt : y ≤ x → X φ tgt L (rest) ws kc ns) (kf : ¬ y ≤ x → X φ pc' L (rest) ws kc ns) : X φ pc L (.int y :: .int x :: rest) ws kc ns := by
  obtain ⟨p, l', e, R, s, m, args, below, meth, c, A, Q, Γ'⟩ := φ
  obtain ⟨hx, hb, hml, hown, hts, hK, hA, hZ, rfl, rfl, rfl, hst⟩ := C
  intro H locs ls hP hD hS hl
  exact lv_icmp_ge hx hb hd ht (fun z => kt z H locs ls hP hD hS hl) (fun z => by subst hpc; exact kf z H locs ls hP hD hS hl)
theorem x_icmp_gt (C : Cb Γ l φ cc nL own wl rm) (tgt : Nat) (pc' : Nat) {x y : Int32} {off : Int} (hd : decode cc pc = .ok (.if_icmp .gt off, 3)) (ht : (pc : Int) + off = (tgt : Int)) (hpc : pc + 3 = pc') (kt : y < x → X φ tgt L (rest) ws kc ns) (kf : ¬ y < x → X φ pc' L (rest) ws kc ns) : X φ pc L (.int y :: .int x :: rest) ws kc ns := by
  obtain ⟨p, l', e, R, s, m, args, below, meth, c, A, Q, Γ'⟩ := φ
  obtain ⟨hx, hb, hml, hown, hts, hK, hA, hZ, rfl, rfl, rfl, hst⟩ := C
  intro H locs ls hP hD hS hl
  exact lv_icmp_gt hx hb hd ht (fun z => kt z H locs ls hP hD hS hl) (fun z => by subst hpc; exact kf z H locs ls hP hD hS hl)
theorem x_icmp_le (C : Cb Γ l φ cc nL own wl rm) (tgt : Nat) (pc' : Nat) {x y : Int32} {off : Int} (hd : decode cc pc = .ok (.if_icmp .le off, 3)) (ht : (pc : Int) + off = (tgt : Int)) (hpc : pc + 3 = pc') (kt : x ≤ y → X φ tgt L (rest) ws kc ns) (kf : ¬ x ≤ y → X φ pc' L (rest) ws kc ns) : X φ pc L (.int y :: .int x :: rest) ws kc ns := by
  obtain ⟨p, l', e, R, s, m, args, below, meth, c, A, Q, Γ'⟩ := φ
  obtain ⟨hx, hb, hml, hown, hts, hK, hA, hZ, rfl, rfl, rfl, hst⟩ := C
  intro H locs ls hP hD hS hl
  exact lv_icmp_le hx hb hd ht (fun z => kt z H locs ls hP hD hS hl) (fun z => by subst hpc; exact kf z H locs ls hP hD hS hl)
theorem x_goto (C : Cb Γ l φ cc nL own wl rm) (tgt : Nat) {off : Int} (hd : decode cc pc = .ok (.goto off, 3)) (ht : (pc : Int) + off = (tgt : Int)) (kk : X φ tgt L (rest) ws kc ns) : X φ pc L (rest) ws kc ns := by
  obtain ⟨p, l', e, R, s, m, args, below, meth, c, A, Q, Γ'⟩ := φ
  obtain ⟨hx, hb, hml, hown, hts, hK, hA, hZ, rfl, rfl, rfl, hst⟩ := C
  intro H locs ls hP hD hS hl
  exact lv_goto hx hb hd ht (kk H locs ls hP hD hS hl)
theorem x_lookup (C : Cb Γ l φ cc nL own wl rm) (tgt : Nat) {dflt : Int} {ps : Array (Int × Int)} {len : Nat} {x : Int32} {off : Int} (hd : decode cc pc = .ok (.lookupswitch dflt ps, len)) (hp : (ps.toList.zip (ps.toList.drop 1)).all (fun (a, next) => a.1 < next.1) = true) (ho : Op.lookupswitch.offset ps.toList dflt x.toInt = off) (ht : (pc : Int) + off = (tgt : Int)) (kk : X φ tgt L (rest) ws kc ns) : X φ pc L (.int x :: rest) ws kc ns := by
  obtain ⟨p, l', e, R, s, m, args, below, meth, c, A, Q, Γ'⟩ := φ
  obtain ⟨hx, hb, hml, hown, hts, hK, hA, hZ, rfl, rfl, rfl, hst⟩ := C
  intro H locs ls hP hD hS hl
  exact lv_lookup hx hb hd hp ho ht (kk H locs ls hP hD hS hl)
theorem x_tableIn (C : Cb Γ l φ cc nL own wl rm) (tgt : Nat) {dflt lo hi : Int} {offs : Array Int} {len : Nat} {x : Int32} {off : Int} (hd : decode cc pc = .ok (.tableswitch dflt lo hi offs, len)) (h1 : ¬ x.toInt < lo) (h2 : ¬ hi < x.toInt) (ho : offs[(x.toInt - lo).toNat]? = some off) (ht : (pc : Int) + off = (tgt : Int)) (kk : X φ tgt L (rest) ws kc ns) : X φ pc L (.int x :: rest) ws kc ns := by
  obtain ⟨p, l', e, R, s, m, args, below, meth, c, A, Q, Γ'⟩ := φ
  obtain ⟨hx, hb, hml, hown, hts, hK, hA, hZ, rfl, rfl, rfl, hst⟩ := C
  intro H locs ls hP hD hS hl
  exact lv_tableIn hx hb hd h1 h2 ho ht (kk H locs ls hP hD hS hl)
theorem x_tableOut (C : Cb Γ l φ cc nL own wl rm) (tgt : Nat) {dflt lo hi : Int} {offs : Array Int} {len : Nat} {x : Int32} (hd : decode cc pc = .ok (.tableswitch dflt lo hi offs, len)) (h : x.toInt < lo ∨ hi < x.toInt) (ht : (pc : Int) + dflt = (tgt : Int)) (kk : X φ tgt L (rest) ws kc ns) : X φ pc L (.int x :: rest) ws kc ns := by
  obtain ⟨p, l', e, R, s, m, args, below, meth, c, A, Q, Γ'⟩ := φ
  obtain ⟨hx, hb, hml, hown, hts, hK, hA, hZ, rfl, rfl, rfl, hst⟩ := C
  intro H locs ls hP hD hS hl
  exact lv_tableOut hx hb hd h ht (kk H locs ls hP hD hS hl)
theorem x_acmp_ne (C : Cb Γ l φ cc nL own wl rm) (tgt : Nat) (pc' : Nat) {rx ry : Option Nat} {off : Int} (hd : decode cc pc = .ok (.if_acmp .ne off, 3)) (ht : (pc : Int) + off = (tgt : Int)) (hpc : pc + 3 = pc') (kt : ¬ rx = ry → X φ tgt L (rest) ws kc ns) (kf : rx = ry → X φ pc' L (rest) ws kc ns) : X φ pc L (va_rf ry :: va_rf rx :: rest) ws kc ns := by
  obtain ⟨p, l', e, R, s, m, args, below, meth, c, A, Q, Γ'⟩ := φ
  obtain ⟨hx, hb, hml, hown, hts, hK, hA, hZ, rfl, rfl, rfl, hst⟩ := C
  intro H locs ls hP hD hS hl
  exact lv_acmp_ne hx hb hd ht (fun z => kt z H locs ls hP hD hS hl) (fun z => by subst hpc; exact kf z H locs ls hP hD hS hl)
theorem x_acmp_eq (C : Cb Γ l φ cc nL own wl rm) (tgt : Nat) (pc' : Nat) {rx ry : Option Nat} {off : Int} (hd : decode cc pc = .ok (.if_acmp .eq off, 3)) (ht : (pc : Int) + off = (tgt : Int)) (hpc : pc + 3 = pc') (kt : rx = ry → X φ tgt L (rest) ws kc ns) (kf : ¬ rx = ry → X φ pc' L (rest) ws kc ns) : X φ pc L (va_rf ry :: va_rf rx :: rest) ws kc ns := by
  obtain ⟨p, l', e, R, s, m, args, below, meth, c, A, Q, Γ'⟩ := φ
  obtain ⟨hx, hb, hml, hown, hts, hK, hA, hZ, rfl, rfl, rfl, hst⟩ := C
  intro H locs ls hP hD hS hl
  exact lv_acmp_eq hx hb hd ht (fun z => kt z H locs ls hP hD hS hl) (fun z => by subst hpc; exact kf z H locs ls hP hD hS hl)
theorem x_lcmp (C : Cb Γ l φ cc nL own wl rm) (pc' : Nat) {x y : Int64} (hd : decode cc pc = .ok (.lcmp, 1)) (hpc : pc + 1 = pc') (kk : X φ pc' L (.int (lg_cmp x y) :: rest) ws kc ns) : X φ pc L (.long y :: .long x :: rest) ws kc ns := by
  obtain ⟨p, l', e, R, s, m, args, below, meth, c, A, Q, Γ'⟩ := φ
  obtain ⟨hx, hb, hml, hown, hts, hK, hA, hZ, rfl, rfl, rfl, hst⟩ := C
  intro H locs ls hP hD hS hl
  exact W.lcmp hx hb hd (by subst hpc; exact kk H locs ls hP hD hS hl)
end XR
