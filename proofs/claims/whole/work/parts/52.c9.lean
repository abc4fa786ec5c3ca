/-! the class's constructor; by wip/whole/genC7.py -/
def chI : List Value := [.int 0, .int 0, .int 0, .int 0, .int 0, .int 108, .int 0, .int (-2), .int (-1)]
def lsI (E0 : Nat) : va_E := .inr (3, [.int 0, .ref E0, .int 0])
def rwI (B : Nat → Nat) (i : Nat) : Nat → Option Nat := fun j => if j < i then some (B j) else none
def wI (a : Nat → ClassId) (E0 x q0 q1 q2 q3 q4 q5 : Nat) (B : Nat → Nat) (i : Nat) : va_W := [(x, .inr (9, [.ref q0, .int 0, .int 0, .ref q1, .ref q2, .ref q3, .int 255, .ref q4, .long 0, .ref q5, .int 32])), (q0, lsI E0), (q1, .inl (a 5, 12, .inr (.inr (.inr (.inr (rwI B i)))))), (q2, lsI E0), (q3, lsI E0), (q4, .inl (a 0, 12, .inl (fun _ => 0))), (q5, lsI E0)] ++ (List.range i).map (fun j => (B j, .inr (4, chI)))
theorem wI_step (a : Nat → ClassId) (E0 x q0 q1 q2 q3 q4 q5 : Nat) (B : Nat → Nat) (i q : Nat) : (wI a E0 x q0 q1 q2 q3 q4 q5 B i ++ ([(q, .inr (4, chI))] : va_W)).set 2 (q1, .inl (a 5, 12, .inr (.inr (.inr (.inr (va_up (rwI B i) i (some q))))))) = wI a E0 x q0 q1 q2 q3 q4 q5 (fun j => if j = i then q else B j) (i + 1) := by
  have e1 : va_up (rwI B i) i (some q) = rwI (fun j => if j = i then q else B j) (i + 1) := by
    funext j
    unfold va_up rwI
    by_cases h : j = i
    · subst h
      simp
    · by_cases h2 : j < i
      · simp [h, h2, show j < i + 1 by omega]
      · simp [h, h2, show ¬ j < i + 1 by omega]
  have e2 : (List.range i).map (fun j => ((B j, Sum.inr (4, chI)) : Nat × va_E)) = (List.range i).map (fun j => (((if j = i then q else B j), Sum.inr (4, chI)) : Nat × va_E)) := by
    apply List.map_congr_left
    intro j hj
    have := List.mem_range.mp hj
    rw [if_neg (show ¬ j = i by omega)]
  have e3 : (List.range (i + 1)).map (fun j => (((if j = i then q else B j), Sum.inr (4, chI)) : Nat × va_E)) = (List.range i).map (fun j => ((B j, Sum.inr (4, chI)) : Nat × va_E)) ++ [(q, Sum.inr (4, chI))] := by
    rw [List.range_succ, List.map_append, ← e2]
    simp
  unfold wI
  rw [e3, e1]
  rfl
theorem wI_last (a : Nat → ClassId) (E0 x q0 q1 q2 q3 q4 q5 : Nat) (B : Nat → Nat) (i q : Nat) (z : va_E) : (wI a E0 x q0 q1 q2 q3 q4 q5 B i ++ [(q, z)])[(wI a E0 x q0 q1 q2 q3 q4 q5 B i).length]? = some (q, z) := by simp
def A9 (x q0 q1 q2 q3 q4 q5 : Nat) (B : Nat → Nat) : Nat → Nat → Nat := fun k i => match k with
  | 0 => x
  | 1 => q1
  | 2 => q4
  | 3 => (match i with
    | 0 => q0
    | 1 => q2
    | 2 => q3
    | _ => q5)
  | 4 => B i
  | _ => 0
def S9 : Nat → Nat → Nat → Int32 := fun k _ f => match k with
  | 0 => (match f with
    | 2 => 255
    | 3 => 32
    | _ => 0)
  | 4 => (match f with
    | 5 => 108
    | 7 => -2
    | 8 => -1
    | _ => 0)
  | _ => 0
theorem perm6 {α : Type} (l0 ca l1 l2 lr l3 : α) : [l0, ca, l1, l2, lr, l3].Perm [ca, lr, l0, l1, l2, l3] :=
  (List.Perm.swap ca l0 [l1, l2, lr, l3]).trans (List.Perm.cons ca (List.perm_middle (a := lr) (l₁ := [l0, l1, l2]) (l₂ := [l3])))
def wJ (a : Nat → ClassId) (E0 x q0 q1 q2 q3 q4 q5 : Nat) (B : Nat → Nat) : va_W := [(x, .inr (9, [.ref q0, .int 0, .int 0, .ref q1, .ref q2, .ref q3, .int 255, .ref q4, .long 0, .ref q5, .int 32])), (q0, lsI E0), (q1, .inl (a 5, 12, .inr (.inr (.inr (.inr (fun j => some (B j))))))), (q2, lsI E0), (q3, lsI E0), (q4, .inl (a 0, 12, .inl (fun _ => 0))), (q5, lsI E0)] ++ (List.range 12).map (fun j => (B j, .inr (4, chI)))
theorem wJ_perm (a : Nat → ClassId) (E0 x q0 q1 q2 q3 q4 q5 : Nat) (B : Nat → Nat) : (wJ a E0 x q0 q1 q2 q3 q4 q5 B).Perm (wC a E0 (fun _ => 0) (fun _ => 0) (A9 x q0 q1 q2 q3 q4 q5 B) (fun _ => 0) 0 S9) := by
  have e : wC a E0 (fun _ => 0) (fun _ => 0) (A9 x q0 q1 q2 q3 q4 q5 B) (fun _ => 0) 0 S9 = [(x, .inr (9, [.ref q0, .int 0, .int 0, .ref q1, .ref q2, .ref q3, .int 255, .ref q4, .long 0, .ref q5, .int 32])), (q1, .inl (a 5, 12, .inr (.inr (.inr (.inr (fun j => some (B j))))))), (q4, .inl (a 0, 12, .inl (fun _ => 0))), (q0, lsI E0), (q2, lsI E0), (q3, lsI E0), (q5, lsI E0)] ++ (List.range 12).map (fun j => (B j, .inr (4, chI))) := rfl
  rw [e]
  unfold wJ
  exact List.Perm.append_right _ (List.Perm.cons _ (perm6 _ _ _ _ _ _))
section CI
variable {l : Launch} {Γ : Gm} {φ : Fx} {cc : ByteArray} {nL : Nat} {own : String} {wl : List Cond} {rm : Room} {pc : Nat} {L : List (Option Value)} {st : List Value} {ws : va_W} {kc ns : Nat} {D : va_G} {a : Nat → ClassId} {E0 x : Nat}
theorem x_kn {kc' ns' : Nat} (h1 : kc = kc') (h2 : ns = ns') (kk : X φ pc L st ws kc' ns') : X φ pc L st ws kc ns := by subst h1 h2; exact kk
/-- a row of references, its cells said otherwise -/
theorem x_say {p q0 n0 : Nat} {c0 : ClassId} {f f' : Nat → Option Nat} (hq : ws[p]? = some (q0, .inl (c0, n0, .inr (.inr (.inr (.inr f)))))) (h : ∀ j, j < n0 → f j = f' j) (kk : X φ pc L st (ws.set p (q0, .inl (c0, n0, .inr (.inr (.inr (.inr f')))))) kc ns) : X φ pc L st ws kc ns := by
  obtain ⟨p9, l', e, R, s, m, args, below, meth, c, A, Q, Γ'⟩ := φ
  intro H locs ls hP hD hS hl
  have hc : vp_cell c0 (n0, .inr (.inr (.inr (.inr f)))) = vp_cell c0 (n0, .inr (.inr (.inr (.inr f')))) := by
    show arrV c0 n0 (fun j => va_rf (f j)) = arrV c0 n0 (fun j => va_rf (f' j))
    unfold arrV
    congr 1
    congr 1
    funext j
    exact congrArg va_rf (h j.val j.isLt)
  have hl0 : p < ws.length := (List.getElem?_eq_some_iff.mp hq).1
  refine kk H locs ls (fun k q hk => ?_) ⟨fun i j p1 p2 hi hj e1 => ?_, fun k q hk => ?_⟩ hS hl
  · rw [List.getElem?_set] at hk
    split at hk
    · cases hk
      have := hP p _ hq
      show H[q0]? = some (vp_cell c0 _)
      rw [← hc]
      exact this
    · exact hP k q hk
  · have g : ∀ (i : Nat) (p1 : Nat × va_E), (ws.set p (q0, .inl (c0, n0, .inr (.inr (.inr (.inr f'))))))[i]? = some p1 → ∃ p2, ws[i]? = some p2 ∧ p2.1 = p1.1 := by
      intro i p1 hi
      rw [List.getElem?_set] at hi
      split at hi
      · rename_i h9
        subst h9
        cases hi
        exact ⟨_, hq, rfl⟩
      · exact ⟨p1, hi, rfl⟩
    obtain ⟨a1, b1, c1⟩ := g i p1 hi
    obtain ⟨a2, b2, c2⟩ := g j p2 hj
    exact hD.1 i j a1 a2 b1 b2 (c1.trans (e1.trans c2.symm))
  · rw [List.getElem?_set] at hk
    split at hk
    · cases hk
      have h9 := hD.2 p _ hq
      exact h9
    · exact hD.2 k q hk
def blI : List Value := [.null, .int 0, .int 0, .null, .null, .null, .int 0, .null, .long 0, .null, .int 0]
theorem fp_X5_init_10 : pF RX5 wsX5_init 10 9 0 true (.object "java/util/ArrayList") := ⟨RX5, TX5, 11, "StageConsole", tyX5, rfl, fun w h => (List.mem_cons_of_mem _ (List.mem_append_left _ (List.mem_append_right _ h))), by decide, (List.mem_cons_of_mem _ (List.mem_append_left _ (List.mem_append_left _ (List.mem_append_left _ (List.mem_append_left _ (List.mem_of_getElem? (i := 6) rfl)))))), Or.inl rfl, tyX5_ok, nmX5, rfl, rfl, fun h => rfl⟩
theorem fp_X5_init_16 : pF RX5 wsX5_init 16 9 1 false (.int) := ⟨RX5, TX5, 11, "StageConsole", tyX5, rfl, fun w h => (List.mem_cons_of_mem _ (List.mem_append_left _ (List.mem_append_right _ h))), by decide, (List.mem_cons_of_mem _ (List.mem_append_left _ (List.mem_append_left _ (List.mem_append_left _ (List.mem_append_left _ (List.mem_of_getElem? (i := 7) rfl)))))), Or.inl rfl, tyX5_ok, nmX5, rfl, rfl, fun h => absurd h (by decide)⟩
theorem fp_X5_init_20 : pF RX5 wsX5_init 20 9 2 false (.int) := ⟨RX5, TX5, 11, "StageConsole", tyX5, rfl, fun w h => (List.mem_cons_of_mem _ (List.mem_append_left _ (List.mem_append_right _ h))), by decide, (List.mem_cons_of_mem _ (List.mem_append_left _ (List.mem_append_left _ (List.mem_append_left _ (List.mem_append_left _ (List.mem_of_getElem? (i := 8) rfl)))))), Or.inl rfl, tyX5_ok, nmX5, rfl, rfl, fun h => absurd h (by decide)⟩
theorem fp_X5_init_25 : pF RX5 wsX5_init 25 9 3 true (.array (.object "StageConsole$Channel")) := ⟨RX5, TX5, 11, "StageConsole", tyX5, rfl, fun w h => (List.mem_cons_of_mem _ (List.mem_append_left _ (List.mem_append_right _ h))), by decide, (List.mem_cons_of_mem _ (List.mem_append_left _ (List.mem_append_left _ (List.mem_append_left _ (List.mem_append_left _ (List.mem_of_getElem? (i := 10) rfl)))))), Or.inl rfl, tyX5_ok, nmX5, rfl, rfl, fun h => rfl⟩
theorem fp_X5_init_29 : pF RX5 wsX5_init 29 9 4 true (.object "java/util/ArrayList") := ⟨RX5, TX5, 11, "StageConsole", tyX5, rfl, fun w h => (List.mem_cons_of_mem _ (List.mem_append_left _ (List.mem_append_right _ h))), by decide, (List.mem_cons_of_mem _ (List.mem_append_left _ (List.mem_append_left _ (List.mem_append_left _ (List.mem_append_left _ (List.mem_of_getElem? (i := 11) rfl)))))), Or.inl rfl, tyX5_ok, nmX5, rfl, rfl, fun h => rfl⟩
theorem fp_X5_init_32 : pF RX5 wsX5_init 32 9 5 true (.object "java/util/ArrayList") := ⟨RX5, TX5, 11, "StageConsole", tyX5, rfl, fun w h => (List.mem_cons_of_mem _ (List.mem_append_left _ (List.mem_append_right _ h))), by decide, (List.mem_cons_of_mem _ (List.mem_append_left _ (List.mem_append_left _ (List.mem_append_left _ (List.mem_append_left _ (List.mem_of_getElem? (i := 12) rfl)))))), Or.inl rfl, tyX5_ok, nmX5, rfl, rfl, fun h => rfl⟩
theorem fp_X5_init_35 : pF RX5 wsX5_init 35 9 6 false (.int) := ⟨RX5, TX5, 11, "StageConsole", tyX5, rfl, fun w h => (List.mem_cons_of_mem _ (List.mem_append_left _ (List.mem_append_right _ h))), by decide, (List.mem_cons_of_mem _ (List.mem_append_left _ (List.mem_append_left _ (List.mem_append_left _ (List.mem_append_left _ (List.mem_of_getElem? (i := 13) rfl)))))), Or.inl rfl, tyX5_ok, nmX5, rfl, rfl, fun h => absurd h (by decide)⟩
theorem fp_X5_init_38 : pF RX5 wsX5_init 38 9 7 true (.array .int) := ⟨RX5, TX5, 11, "StageConsole", tyX5, rfl, fun w h => (List.mem_cons_of_mem _ (List.mem_append_left _ (List.mem_append_right _ h))), by decide, (List.mem_cons_of_mem _ (List.mem_append_left _ (List.mem_append_left _ (List.mem_append_left _ (List.mem_append_left _ (List.mem_of_getElem? (i := 15) rfl)))))), Or.inl rfl, tyX5_ok, nmX5, rfl, rfl, fun h => rfl⟩
theorem fp_X5_init_42 : pF RX5 wsX5_init 42 9 8 false (.long) := ⟨RX5, TX5, 11, "StageConsole", tyX5, rfl, fun w h => (List.mem_cons_of_mem _ (List.mem_append_left _ (List.mem_append_right _ h))), by decide, (List.mem_cons_of_mem _ (List.mem_append_left _ (List.mem_append_left _ (List.mem_append_left _ (List.mem_append_left _ (List.mem_of_getElem? (i := 16) rfl)))))), Or.inl rfl, tyX5_ok, nmX5, rfl, rfl, fun h => absurd h (by decide)⟩
theorem fp_X5_init_46 : pF RX5 wsX5_init 46 9 9 true (.object "java/util/ArrayList") := ⟨RX5, TX5, 11, "StageConsole", tyX5, rfl, fun w h => (List.mem_cons_of_mem _ (List.mem_append_left _ (List.mem_append_right _ h))), by decide, (List.mem_cons_of_mem _ (List.mem_append_left _ (List.mem_append_left _ (List.mem_append_left _ (List.mem_append_left _ (List.mem_of_getElem? (i := 17) rfl)))))), Or.inl rfl, tyX5_ok, nmX5, rfl, rfl, fun h => rfl⟩
theorem fp_X5_init_49 : pF RX5 wsX5_init 49 9 10 false (.char) := ⟨RX5, TX5, 11, "StageConsole", tyX5, rfl, fun w h => (List.mem_cons_of_mem _ (List.mem_append_left _ (List.mem_append_right _ h))), by decide, (List.mem_cons_of_mem _ (List.mem_append_left _ (List.mem_append_left _ (List.mem_append_left _ (List.mem_append_left _ (List.mem_of_getElem? (i := 18) rfl)))))), Or.inl rfl, tyX5_ok, nmX5, rfl, rfl, fun h => absurd h (by decide)⟩
theorem fg_X5_init_25 : gF RX5 wsX5_init 25 9 3 := ⟨RX5, TX5, 11, "StageConsole", rfl, fun w h => (List.mem_cons_of_mem _ (List.mem_append_left _ (List.mem_append_right _ h))), by decide, (List.mem_cons_of_mem _ (List.mem_append_left _ (List.mem_append_left _ (List.mem_append_left _ (List.mem_append_left _ (List.mem_of_getElem? (i := 10) rfl)))))), Or.inl rfl⟩
set_option maxRecDepth 100000 in
set_option maxHeartbeats 4000000 in
theorem cC_init (hl : l.stackTraces = false)  : Ct (gm D a E0) l yX5_init wsX5_init { frames := 20, cells := 18, slots := 144, locals := 500 } [.ref x] ([(x, .inr (9, [.null, .int 0, .int 0, .null, .null, .null, .int 0, .null, .long 0, .null, .int 0]))]) (qV fun w => ∃ A, A 0 0 = x ∧ w = wC a E0 (fun _ => 0) (fun _ => 0) A (fun _ => 0) 0 S9) noX := by
  refine Ct.of [some (.ref x), none] rfl hl (by decide) (Nat.le_of_ble_eq_true rfl) rfl (fun φ C0 => ?_)
  have C := C0.1
  refine x_aload_n C 1 dX5_init_0 rfl rfl ?_
  refine x_objI C 4 (List.mem_cons_of_mem _ (List.mem_append_left _ (List.mem_append_left _ (List.mem_append_left _ (List.mem_append_left _ (List.mem_of_getElem? (i := 0) rfl)))))) (List.mem_cons_of_mem _ (List.mem_append_left _ (List.mem_append_left _ (List.mem_append_left _ (List.mem_append_left _ (List.mem_of_getElem? (i := 1) rfl)))))) (List.mem_cons_of_mem _ (List.mem_append_left _ (List.mem_append_left _ (List.mem_append_left _ (List.mem_append_left _ (List.mem_of_getElem? (i := 2) rfl)))))) (Nat.le_of_ble_eq_true rfl) (Nat.le_of_ble_eq_true rfl) dX5_init_1 rfl ?_
  refine x_aload_n C 5 dX5_init_4 rfl rfl ?_
  refine x_new C 8 3 [.int 0, .null, .int 0] (fun w h => (List.mem_cons_of_mem _ (List.mem_append_left _ (List.mem_append_left _ (List.mem_append_right _ h))))) tyJx4a65c_ok (List.mem_cons_of_mem _ (List.mem_append_left _ (List.mem_append_left _ (List.mem_append_left _ (List.mem_append_left _ (List.mem_of_getElem? (i := 3) rfl)))))) (List.mem_cons_of_mem _ (List.mem_append_left _ (List.mem_append_left _ (List.mem_append_left _ (List.mem_append_left _ (List.mem_of_getElem? (i := 4) rfl)))))) (List.mem_cons_of_mem _ (List.mem_append_left _ (List.mem_append_left _ (List.mem_append_left _ (List.mem_append_left _ (List.mem_of_getElem? (i := 5) rfl)))))) rfl (fun j hj => match j, hj with | 0, _ => rfl | 1, _ => rfl | 2, _ => rfl | z + 3, hz => absurd hz (by omega)) (Nat.le_of_ble_eq_true rfl) (Nat.le_of_ble_eq_true rfl) dX5_init_5 rfl (fun q0 => ?_)
  refine x_dup C 9 dX5_init_8 rfl rfl ?_
  refine x_perm (List.perm_append_comm) ?_
  refine x_callI1 C 12 1 3 0 (cA_init hl (b := q0)) rfl gX5_init_Jx4a65c_init_da8c8 (List.mem_cons_of_mem _ (List.mem_append_left _ (List.mem_append_left _ (List.mem_append_left _ (List.mem_append_left _ (List.mem_of_getElem? (i := 5) rfl)))))) (List.mem_cons_of_mem _ (List.mem_append_left _ (List.mem_append_left _ (List.mem_append_left _ (List.mem_append_left _ (List.mem_of_getElem? (i := 21) rfl)))))) (List.mem_cons_of_mem _ (List.mem_append_left _ (List.mem_append_left _ (List.mem_append_left _ (List.mem_append_left _ (List.mem_of_getElem? (i := 22) rfl)))))) rfl ⟨by decide, by decide, rfl⟩ ⟨Nat.le_of_ble_eq_true rfl, Nat.le_of_ble_eq_true rfl⟩ rfl rfl (Nat.le_of_ble_eq_true rfl) ⟨Nat.le_of_ble_eq_true rfl, Nat.le_of_ble_eq_true rfl⟩ dX5_init_9 rfl rfl rfl (fun w h => ?_)
  subst h
  refine x_perm (List.perm_append_comm) ?_
  refine x_ws (show _ = ([(x, .inr (9, [.null, .int 0, .int 0, .null, .null, .null, .int 0, .null, .long 0, .null, .int 0])), (q0, .inr (3, [.int 0, .ref E0, .int 0]))] : va_W) from rfl) ?_
  refine x_putF C0 15 0 rfl fp_X5_init_10 rfl rfl (Nat.le_of_ble_eq_true rfl) dX5_init_12 rfl ?_
  refine x_ws (show _ = ([(x, .inr (9, [.ref q0, .int 0, .int 0, .null, .null, .null, .int 0, .null, .long 0, .null, .int 0])), (q0, .inr (3, [.int 0, .ref E0, .int 0]))] : va_W) from rfl) ?_
  refine x_aload_n C 16 dX5_init_15 rfl rfl ?_
  refine x_iconst (v := (0)) C 17 dX5_init_16 (by decide) rfl ?_
  refine x_put C 20 0 rfl fp_X5_init_16 rfl rfl (Nat.le_of_ble_eq_true rfl) dX5_init_17 rfl ?_
  refine x_ws (show _ = ([(x, .inr (9, [.ref q0, .int (0), .int 0, .null, .null, .null, .int 0, .null, .long 0, .null, .int 0])), (q0, .inr (3, [.int 0, .ref E0, .int 0]))] : va_W) from rfl) ?_
  refine x_aload_n C 21 dX5_init_20 rfl rfl ?_
  refine x_iconst (v := (0)) C 22 dX5_init_21 (by decide) rfl ?_
  refine x_put C 25 0 rfl fp_X5_init_20 rfl rfl (Nat.le_of_ble_eq_true rfl) dX5_init_22 rfl ?_
  refine x_ws (show _ = ([(x, .inr (9, [.ref q0, .int (0), .int (0), .null, .null, .null, .int 0, .null, .long 0, .null, .int 0])), (q0, .inr (3, [.int 0, .ref E0, .int 0]))] : va_W) from rfl) ?_
  refine x_aload_n C 26 dX5_init_25 rfl rfl ?_
  refine x_bipush (v := (12)) C 28 dX5_init_26 (by decide) rfl ?_
  refine x_newq (N' := 12) C 31 5 (List.mem_cons_of_mem _ (List.mem_append_left _ (List.mem_append_left _ (List.mem_append_left _ (List.mem_append_left _ (List.mem_of_getElem? (i := 9) rfl)))))) (fun U h => h.2.2.2.2.2.2.1) rfl (by decide) (by decide) (Nat.le_of_ble_eq_true rfl) (Nat.le_of_ble_eq_true rfl) (Nat.le_of_ble_eq_true rfl) dX5_init_28 rfl (fun q1 => ?_)
  refine x_ws (show _ = ([(x, .inr (9, [.ref q0, .int (0), .int (0), .null, .null, .null, .int 0, .null, .long 0, .null, .int 0])), (q0, .inr (3, [.int 0, .ref E0, .int 0])), (q1, .inl (a 5, 12, .inr (.inr (.inr (.inr (fun _ => none))))))] : va_W) from rfl) ?_
  refine x_putF C0 34 0 rfl fp_X5_init_25 rfl rfl (Nat.le_of_ble_eq_true rfl) dX5_init_31 rfl ?_
  refine x_ws (show _ = ([(x, .inr (9, [.ref q0, .int (0), .int (0), .ref q1, .null, .null, .int 0, .null, .long 0, .null, .int 0])), (q0, .inr (3, [.int 0, .ref E0, .int 0])), (q1, .inl (a 5, 12, .inr (.inr (.inr (.inr (fun _ => none))))))] : va_W) from rfl) ?_
  refine x_aload_n C 35 dX5_init_34 rfl rfl ?_
  refine x_new C 38 3 [.int 0, .null, .int 0] (fun w h => (List.mem_cons_of_mem _ (List.mem_append_left _ (List.mem_append_left _ (List.mem_append_right _ h))))) tyJx4a65c_ok (List.mem_cons_of_mem _ (List.mem_append_left _ (List.mem_append_left _ (List.mem_append_left _ (List.mem_append_left _ (List.mem_of_getElem? (i := 3) rfl)))))) (List.mem_cons_of_mem _ (List.mem_append_left _ (List.mem_append_left _ (List.mem_append_left _ (List.mem_append_left _ (List.mem_of_getElem? (i := 4) rfl)))))) (List.mem_cons_of_mem _ (List.mem_append_left _ (List.mem_append_left _ (List.mem_append_left _ (List.mem_append_left _ (List.mem_of_getElem? (i := 5) rfl)))))) rfl (fun j hj => match j, hj with | 0, _ => rfl | 1, _ => rfl | 2, _ => rfl | z + 3, hz => absurd hz (by omega)) (Nat.le_of_ble_eq_true rfl) (Nat.le_of_ble_eq_true rfl) dX5_init_35 rfl (fun q2 => ?_)
  refine x_dup C 39 dX5_init_38 rfl rfl ?_
  refine x_perm (List.perm_append_comm) ?_
  refine x_callI1 C 42 3 18 0 (cA_init hl (b := q2)) rfl gX5_init_Jx4a65c_init_da8c8 (List.mem_cons_of_mem _ (List.mem_append_left _ (List.mem_append_left _ (List.mem_append_left _ (List.mem_append_left _ (List.mem_of_getElem? (i := 5) rfl)))))) (List.mem_cons_of_mem _ (List.mem_append_left _ (List.mem_append_left _ (List.mem_append_left _ (List.mem_append_left _ (List.mem_of_getElem? (i := 21) rfl)))))) (List.mem_cons_of_mem _ (List.mem_append_left _ (List.mem_append_left _ (List.mem_append_left _ (List.mem_append_left _ (List.mem_of_getElem? (i := 22) rfl)))))) rfl ⟨by decide, by decide, rfl⟩ ⟨Nat.le_of_ble_eq_true rfl, Nat.le_of_ble_eq_true rfl⟩ rfl rfl (Nat.le_of_ble_eq_true rfl) ⟨Nat.le_of_ble_eq_true rfl, Nat.le_of_ble_eq_true rfl⟩ dX5_init_39 rfl rfl rfl (fun w h => ?_)
  subst h
  refine x_perm (List.perm_append_comm) ?_
  refine x_ws (show _ = ([(x, .inr (9, [.ref q0, .int (0), .int (0), .ref q1, .null, .null, .int 0, .null, .long 0, .null, .int 0])), (q0, .inr (3, [.int 0, .ref E0, .int 0])), (q1, .inl (a 5, 12, .inr (.inr (.inr (.inr (fun _ => none)))))), (q2, .inr (3, [.int 0, .ref E0, .int 0]))] : va_W) from rfl) ?_
  refine x_putF C0 45 0 rfl fp_X5_init_29 rfl rfl (Nat.le_of_ble_eq_true rfl) dX5_init_42 rfl ?_
  refine x_ws (show _ = ([(x, .inr (9, [.ref q0, .int (0), .int (0), .ref q1, .ref q2, .null, .int 0, .null, .long 0, .null, .int 0])), (q0, .inr (3, [.int 0, .ref E0, .int 0])), (q1, .inl (a 5, 12, .inr (.inr (.inr (.inr (fun _ => none)))))), (q2, .inr (3, [.int 0, .ref E0, .int 0]))] : va_W) from rfl) ?_
  refine x_aload_n C 46 dX5_init_45 rfl rfl ?_
  refine x_new C 49 3 [.int 0, .null, .int 0] (fun w h => (List.mem_cons_of_mem _ (List.mem_append_left _ (List.mem_append_left _ (List.mem_append_right _ h))))) tyJx4a65c_ok (List.mem_cons_of_mem _ (List.mem_append_left _ (List.mem_append_left _ (List.mem_append_left _ (List.mem_append_left _ (List.mem_of_getElem? (i := 3) rfl)))))) (List.mem_cons_of_mem _ (List.mem_append_left _ (List.mem_append_left _ (List.mem_append_left _ (List.mem_append_left _ (List.mem_of_getElem? (i := 4) rfl)))))) (List.mem_cons_of_mem _ (List.mem_append_left _ (List.mem_append_left _ (List.mem_append_left _ (List.mem_append_left _ (List.mem_of_getElem? (i := 5) rfl)))))) rfl (fun j hj => match j, hj with | 0, _ => rfl | 1, _ => rfl | 2, _ => rfl | z + 3, hz => absurd hz (by omega)) (Nat.le_of_ble_eq_true rfl) (Nat.le_of_ble_eq_true rfl) dX5_init_46 rfl (fun q3 => ?_)
  refine x_dup C 50 dX5_init_49 rfl rfl ?_
  refine x_perm (List.perm_append_comm) ?_
  refine x_callI1 C 53 4 21 0 (cA_init hl (b := q3)) rfl gX5_init_Jx4a65c_init_da8c8 (List.mem_cons_of_mem _ (List.mem_append_left _ (List.mem_append_left _ (List.mem_append_left _ (List.mem_append_left _ (List.mem_of_getElem? (i := 5) rfl)))))) (List.mem_cons_of_mem _ (List.mem_append_left _ (List.mem_append_left _ (List.mem_append_left _ (List.mem_append_left _ (List.mem_of_getElem? (i := 21) rfl)))))) (List.mem_cons_of_mem _ (List.mem_append_left _ (List.mem_append_left _ (List.mem_append_left _ (List.mem_append_left _ (List.mem_of_getElem? (i := 22) rfl)))))) rfl ⟨by decide, by decide, rfl⟩ ⟨Nat.le_of_ble_eq_true rfl, Nat.le_of_ble_eq_true rfl⟩ rfl rfl (Nat.le_of_ble_eq_true rfl) ⟨Nat.le_of_ble_eq_true rfl, Nat.le_of_ble_eq_true rfl⟩ dX5_init_50 rfl rfl rfl (fun w h => ?_)
  subst h
  refine x_perm (List.perm_append_comm) ?_
  refine x_ws (show _ = ([(x, .inr (9, [.ref q0, .int (0), .int (0), .ref q1, .ref q2, .null, .int 0, .null, .long 0, .null, .int 0])), (q0, .inr (3, [.int 0, .ref E0, .int 0])), (q1, .inl (a 5, 12, .inr (.inr (.inr (.inr (fun _ => none)))))), (q2, .inr (3, [.int 0, .ref E0, .int 0])), (q3, .inr (3, [.int 0, .ref E0, .int 0]))] : va_W) from rfl) ?_
  refine x_putF C0 56 0 rfl fp_X5_init_32 rfl rfl (Nat.le_of_ble_eq_true rfl) dX5_init_53 rfl ?_
  refine x_ws (show _ = ([(x, .inr (9, [.ref q0, .int (0), .int (0), .ref q1, .ref q2, .ref q3, .int 0, .null, .long 0, .null, .int 0])), (q0, .inr (3, [.int 0, .ref E0, .int 0])), (q1, .inl (a 5, 12, .inr (.inr (.inr (.inr (fun _ => none)))))), (q2, .inr (3, [.int 0, .ref E0, .int 0])), (q3, .inr (3, [.int 0, .ref E0, .int 0]))] : va_W) from rfl) ?_
  refine x_aload_n C 57 dX5_init_56 rfl rfl ?_
  refine x_sipush (v := (255)) C 60 dX5_init_57 (by decide) rfl ?_
  refine x_put C 63 0 rfl fp_X5_init_35 rfl rfl (Nat.le_of_ble_eq_true rfl) dX5_init_60 rfl ?_
  refine x_ws (show _ = ([(x, .inr (9, [.ref q0, .int (0), .int (0), .ref q1, .ref q2, .ref q3, .int (255), .null, .long 0, .null, .int 0])), (q0, .inr (3, [.int 0, .ref E0, .int 0])), (q1, .inl (a 5, 12, .inr (.inr (.inr (.inr (fun _ => none)))))), (q2, .inr (3, [.int 0, .ref E0, .int 0])), (q3, .inr (3, [.int 0, .ref E0, .int 0]))] : va_W) from rfl) ?_
  refine x_aload_n C 64 dX5_init_63 rfl rfl ?_
  refine x_bipush (v := (12)) C 66 dX5_init_64 (by decide) rfl ?_
  refine x_newa (atype := .int) (ty := .int) C 68 0 (12, .inl (fun _ => 0)) rfl (fun _ _ h => h) (List.mem_cons_of_mem _ (List.mem_append_left _ (List.mem_append_left _ (List.mem_append_left _ (List.mem_append_left _ (List.mem_of_getElem? (i := 14) rfl)))))) rfl (fun _ => rfl) (by decide) (by decide) (Nat.le_of_ble_eq_true rfl) (Nat.le_of_ble_eq_true rfl) (Nat.le_of_ble_eq_true rfl) dX5_init_66 rfl (fun q4 => ?_)
  refine x_ws (show _ = ([(x, .inr (9, [.ref q0, .int (0), .int (0), .ref q1, .ref q2, .ref q3, .int (255), .null, .long 0, .null, .int 0])), (q0, .inr (3, [.int 0, .ref E0, .int 0])), (q1, .inl (a 5, 12, .inr (.inr (.inr (.inr (fun _ => none)))))), (q2, .inr (3, [.int 0, .ref E0, .int 0])), (q3, .inr (3, [.int 0, .ref E0, .int 0])), (q4, .inl (a 0, 12, .inl (fun _ => 0)))] : va_W) from rfl) ?_
  refine x_putF C0 71 0 rfl fp_X5_init_38 rfl rfl (Nat.le_of_ble_eq_true rfl) dX5_init_68 rfl ?_
  refine x_ws (show _ = ([(x, .inr (9, [.ref q0, .int (0), .int (0), .ref q1, .ref q2, .ref q3, .int (255), .ref q4, .long 0, .null, .int 0])), (q0, .inr (3, [.int 0, .ref E0, .int 0])), (q1, .inl (a 5, 12, .inr (.inr (.inr (.inr (fun _ => none)))))), (q2, .inr (3, [.int 0, .ref E0, .int 0])), (q3, .inr (3, [.int 0, .ref E0, .int 0])), (q4, .inl (a 0, 12, .inl (fun _ => 0)))] : va_W) from rfl) ?_
  refine x_aload_n C 72 dX5_init_71 rfl rfl ?_
  refine x_lconst (v := 0) C 73 dX5_init_72 (by decide) rfl ?_
  refine x_put C 76 0 rfl fp_X5_init_42 rfl rfl (Nat.le_of_ble_eq_true rfl) dX5_init_73 rfl ?_
  refine x_ws (show _ = ([(x, .inr (9, [.ref q0, .int (0), .int (0), .ref q1, .ref q2, .ref q3, .int (255), .ref q4, .long 0, .null, .int 0])), (q0, .inr (3, [.int 0, .ref E0, .int 0])), (q1, .inl (a 5, 12, .inr (.inr (.inr (.inr (fun _ => none)))))), (q2, .inr (3, [.int 0, .ref E0, .int 0])), (q3, .inr (3, [.int 0, .ref E0, .int 0])), (q4, .inl (a 0, 12, .inl (fun _ => 0)))] : va_W) from rfl) ?_
  refine x_aload_n C 77 dX5_init_76 rfl rfl ?_
  refine x_new C 80 3 [.int 0, .null, .int 0] (fun w h => (List.mem_cons_of_mem _ (List.mem_append_left _ (List.mem_append_left _ (List.mem_append_right _ h))))) tyJx4a65c_ok (List.mem_cons_of_mem _ (List.mem_append_left _ (List.mem_append_left _ (List.mem_append_left _ (List.mem_append_left _ (List.mem_of_getElem? (i := 3) rfl)))))) (List.mem_cons_of_mem _ (List.mem_append_left _ (List.mem_append_left _ (List.mem_append_left _ (List.mem_append_left _ (List.mem_of_getElem? (i := 4) rfl)))))) (List.mem_cons_of_mem _ (List.mem_append_left _ (List.mem_append_left _ (List.mem_append_left _ (List.mem_append_left _ (List.mem_of_getElem? (i := 5) rfl)))))) rfl (fun j hj => match j, hj with | 0, _ => rfl | 1, _ => rfl | 2, _ => rfl | z + 3, hz => absurd hz (by omega)) (Nat.le_of_ble_eq_true rfl) (Nat.le_of_ble_eq_true rfl) dX5_init_77 rfl (fun q5 => ?_)
  refine x_dup C 81 dX5_init_80 rfl rfl ?_
  refine x_perm (List.perm_append_comm) ?_
  refine x_callI1 C 84 6 36 0 (cA_init hl (b := q5)) rfl gX5_init_Jx4a65c_init_da8c8 (List.mem_cons_of_mem _ (List.mem_append_left _ (List.mem_append_left _ (List.mem_append_left _ (List.mem_append_left _ (List.mem_of_getElem? (i := 5) rfl)))))) (List.mem_cons_of_mem _ (List.mem_append_left _ (List.mem_append_left _ (List.mem_append_left _ (List.mem_append_left _ (List.mem_of_getElem? (i := 21) rfl)))))) (List.mem_cons_of_mem _ (List.mem_append_left _ (List.mem_append_left _ (List.mem_append_left _ (List.mem_append_left _ (List.mem_of_getElem? (i := 22) rfl)))))) rfl ⟨by decide, by decide, rfl⟩ ⟨Nat.le_of_ble_eq_true rfl, Nat.le_of_ble_eq_true rfl⟩ rfl rfl (Nat.le_of_ble_eq_true rfl) ⟨Nat.le_of_ble_eq_true rfl, Nat.le_of_ble_eq_true rfl⟩ dX5_init_81 rfl rfl rfl (fun w h => ?_)
  subst h
  refine x_perm (List.perm_append_comm) ?_
  refine x_ws (show _ = ([(x, .inr (9, [.ref q0, .int (0), .int (0), .ref q1, .ref q2, .ref q3, .int (255), .ref q4, .long 0, .null, .int 0])), (q0, .inr (3, [.int 0, .ref E0, .int 0])), (q1, .inl (a 5, 12, .inr (.inr (.inr (.inr (fun _ => none)))))), (q2, .inr (3, [.int 0, .ref E0, .int 0])), (q3, .inr (3, [.int 0, .ref E0, .int 0])), (q4, .inl (a 0, 12, .inl (fun _ => 0))), (q5, .inr (3, [.int 0, .ref E0, .int 0]))] : va_W) from rfl) ?_
  refine x_putF C0 87 0 rfl fp_X5_init_46 rfl rfl (Nat.le_of_ble_eq_true rfl) dX5_init_84 rfl ?_
  refine x_ws (show _ = ([(x, .inr (9, [.ref q0, .int (0), .int (0), .ref q1, .ref q2, .ref q3, .int (255), .ref q4, .long 0, .ref q5, .int 0])), (q0, .inr (3, [.int 0, .ref E0, .int 0])), (q1, .inl (a 5, 12, .inr (.inr (.inr (.inr (fun _ => none)))))), (q2, .inr (3, [.int 0, .ref E0, .int 0])), (q3, .inr (3, [.int 0, .ref E0, .int 0])), (q4, .inl (a 0, 12, .inl (fun _ => 0))), (q5, .inr (3, [.int 0, .ref E0, .int 0]))] : va_W) from rfl) ?_
  refine x_aload_n C 88 dX5_init_87 rfl rfl ?_
  refine x_bipush (v := (32)) C 90 dX5_init_88 (by decide) rfl ?_
  refine x_put C 93 0 rfl fp_X5_init_49 rfl rfl (Nat.le_of_ble_eq_true rfl) dX5_init_90 rfl ?_
  refine x_ws (show _ = ([(x, .inr (9, [.ref q0, .int (0), .int (0), .ref q1, .ref q2, .ref q3, .int (255), .ref q4, .long 0, .ref q5, .int (32)])), (q0, .inr (3, [.int 0, .ref E0, .int 0])), (q1, .inl (a 5, 12, .inr (.inr (.inr (.inr (fun _ => none)))))), (q2, .inr (3, [.int 0, .ref E0, .int 0])), (q3, .inr (3, [.int 0, .ref E0, .int 0])), (q4, .inl (a 0, 12, .inl (fun _ => 0))), (q5, .inr (3, [.int 0, .ref E0, .int 0]))] : va_W) from rfl) ?_
  refine x_iconst (v := (0)) C 94 dX5_init_93 (by decide) rfl ?_
  refine x_istore_n C 95 dX5_init_94 (by decide) rfl rfl ?_
  have lp : ∀ (m i : Nat) (B : Nat → Nat), i + m = 12 → X φ 95 [some (.ref x), some (.int (nI i))] [] (wI a E0 x q0 q1 q2 q3 q4 q5 B i) (6 + i) (36 + 9 * i) := by
    intro m
    induction m with
    | zero =>
      intro i B hi
      obtain rfl : i = 12 := by omega
      refine x_iload_n C 96 dX5_init_95 rfl rfl ?_
      refine x_bipush (v := (12)) C 98 dX5_init_96 (by decide) rfl ?_
      refine x_icmp_ge C 120 101 dX5_init_98 (by decide) rfl (fun zk => ?_) (fun zk => absurd ((nI_leI (a := 12) (b := 12) (by omega) (by omega)).mpr (Nat.le_refl _)) zk)
      refine x_say (p := 2) (f := rwI B 12) (f' := fun j => some (B j)) rfl (fun j hj => if_pos hj) ?_
      refine x_ws (show _ = wJ a E0 x q0 q1 q2 q3 q4 q5 B from rfl) ?_
      refine x_perm (wJ_perm a E0 x q0 q1 q2 q3 q4 q5 B) ?_
      exact x_vret C0 dX5_init_120 (Nat.le_refl _) (Nat.le_refl _) ⟨rfl, _, rfl, rfl⟩
    | succ m ih =>
      intro i B hi
      refine x_iload_n C 96 dX5_init_95 rfl rfl ?_
      refine x_bipush (v := (12)) C 98 dX5_init_96 (by decide) rfl ?_
      refine x_icmp_ge C 120 101 dX5_init_98 (by decide) rfl (fun zk => absurd ((nI_leI (a := 12) (b := i) (by omega) (by omega)).mp zk) (by omega)) (fun zk => ?_)
      refine x_aload_n C 102 dX5_init_101 rfl rfl ?_
      refine x_get C 105 0 rfl fg_X5_init_25 rfl dX5_init_102 rfl ?_
      refine x_iload_n C 106 dX5_init_105 rfl rfl ?_
      refine x_new C 109 4 [.int 0, .int 0, .int 0, .int 0, .int 0, .int 0, .int 0, .int 0, .int 0] (fun w h => (List.mem_cons_of_mem _ (List.mem_append_right _ h))) tyX0_ok (List.mem_cons_of_mem _ (List.mem_append_left _ (List.mem_append_left _ (List.mem_append_left _ (List.mem_append_left _ (List.mem_of_getElem? (i := 9) rfl)))))) (List.mem_cons_of_mem _ (List.mem_append_left _ (List.mem_append_left _ (List.mem_append_left _ (List.mem_append_left _ (List.mem_of_getElem? (i := 19) rfl)))))) (List.mem_cons_of_mem _ (List.mem_append_left _ (List.mem_append_left _ (List.mem_append_left _ (List.mem_append_left _ (List.mem_of_getElem? (i := 20) rfl)))))) rfl (fun j hj => match j, hj with | 0, _ => rfl | 1, _ => rfl | 2, _ => rfl | 3, _ => rfl | 4, _ => rfl | 5, _ => rfl | 6, _ => rfl | 7, _ => rfl | 8, _ => rfl | z + 9, hz => absurd hz (by omega)) (show 6 + i + 1 ≤ 18 by omega) (show 36 + 9 * i + 9 ≤ 144 by omega) dX5_init_106 rfl (fun q => ?_)
      refine x_dup C 110 dX5_init_109 rfl rfl ?_
      refine x_perm (List.perm_append_comm) ?_
      refine x_callN1 C 113 (6 + i + 1) (36 + 9 * i + 9) 0 (cC_initCh hl) rfl gX5_init_X0_init_n53 (List.mem_cons_of_mem _ (List.mem_append_left _ (List.mem_append_left _ (List.mem_append_left _ (List.mem_append_left _ (List.mem_of_getElem? (i := 20) rfl)))))) (fun U h => h.2.2.2.2.2.2.2.2.1) (List.mem_cons_of_mem _ (List.mem_append_left _ (List.mem_append_left _ (List.mem_append_left _ (List.mem_append_right _ (List.mem_of_getElem? (i := 12) rfl)))))) rfl ⟨by decide, by decide, rfl⟩ ⟨Nat.le_of_ble_eq_true rfl, Nat.le_of_ble_eq_true rfl⟩ rfl rfl (Nat.le_of_ble_eq_true rfl) ⟨show 6 + i + 1 + 0 ≤ 18 by omega, show 36 + 9 * i + 9 + 0 ≤ 144 by omega⟩ dX5_init_110 rfl rfl rfl (fun w h => ?_)
      subst h
      refine x_perm (List.perm_append_comm) ?_
      refine x_astq C 114 2 5 _ 4 rfl rfl (wI_last a E0 x q0 q1 q2 q3 q4 q5 B i q (.inr (4, chI))) rfl (vp_in_nI (by omega) (by decide)) dX5_init_113 rfl ?_
      refine x_ws (show _ = wI a E0 x q0 q1 q2 q3 q4 q5 (fun j => if j = i then q else B j) (i + 1) from by rw [nI_clamp (by omega)]; exact wI_step a E0 x q0 q1 q2 q3 q4 q5 B i q) ?_
      refine x_iinc (v := nI (i + 1)) C 117 rfl dX5_init_114 (iinc1 _) (by decide) rfl rfl ?_
      refine x_goto C 95 dX5_init_117 (by decide) ?_
      exact x_kn (by omega) (by omega) (ih (i + 1) _ (by omega))
  refine x_say (p := 2) (f := fun _ => none) (f' := rwI (fun _ => 0) 0) rfl (fun j _ => (if_neg (Nat.not_lt_zero j)).symm) ?_
  exact lp 12 0 (fun _ => 0) rfl
end CI
