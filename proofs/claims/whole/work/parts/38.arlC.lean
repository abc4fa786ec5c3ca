/-! pools: cells put in, taken out, changed; the class's world seen so; size and get of its lists -/
def icn (cnt : Nat → Nat) (k : Nat) : Nat → Nat := fun k' => if k' = k then cnt k + 1 else cnt k'
def ins1 {α : Type} (F : Nat → Nat → α) (k p : Nat) (x : α) : Nat → Nat → α := fun k' i => if k' = k then (if i < p then F k i else if i = p then x else F k (i - 1)) else F k' i
theorem skp_ins1 {α : Type} (F : Nat → Nat → α) (k p : Nat) (x : α) : skp (ins1 F k p x) k p = F := by
  funext k' i
  unfold skp ins1
  by_cases h : k' = k
  · subst h
    simp only [if_true]
    by_cases h2 : i < p
    · simp [h2]
    · simp [h2, show ¬ i + 1 < p by omega, show ¬ i + 1 = p by omega]
  · simp [h]
theorem ins1_s {α : Type} (F : Nat → Nat → α) (k p : Nat) (x : α) : ins1 F k p x k p = x := by simp [ins1]
theorem ins1_n {α : Type} (F : Nat → Nat → α) {k k' : Nat} (p i : Nat) (x : α) (h : k' ≠ k) : ins1 F k p x k' i = F k' i := by simp [ins1, h]
theorem ins1_lt {α : Type} (F : Nat → Nat → α) {k p i : Nat} (x : α) (h : i < p) : ins1 F k p x k i = F k i := by simp [ins1, h]
theorem skp_n {α : Type} (F : Nat → Nat → α) {k k' : Nat} (p i : Nat) (h : k' ≠ k) : skp F k p k' i = F k' i := by simp [skp, h]
theorem dcn_icn (cnt : Nat → Nat) (k : Nat) : dcn (icn cnt k) k = cnt := by
  funext k'
  unfold dcn icn
  by_cases h : k' = k
  · subst h; simp
  · simp [h]
theorem skp_upC {α : Type} (F : Nat → Nat → α) (k p : Nat) (x : α) : skp (upC F k p x) k p = skp F k p := by
  funext k' i
  unfold skp upC
  by_cases h : k' = k
  · subst h
    simp only [if_true, true_and]
    by_cases h2 : i < p
    · simp [h2, show ¬ i = p by omega]
    · simp [h2, show ¬ i + 1 = p by omega]
  · simp [h]
theorem upC_self {α : Type} (F : Nat → Nat → α) (k p : Nat) : upC F k p (F k p) = F := by
  funext k' i
  unfold upC
  by_cases h : k' = k ∧ i = p
  · obtain ⟨rfl, rfl⟩ := h; simp
  · simp [h]
theorem skp_upC_n {α : Type} (F : Nat → Nat → α) {k k2 : Nat} (p p2 : Nat) (x : α) (h : k2 ≠ k) : skp (upC F k2 p2 x) k p = upC (skp F k p) k2 p2 x := by
  funext k' i
  unfold skp upC
  by_cases h1 : k' = k
  · subst h1
    simp [show ¬ k' = k2 from fun q => h q.symm]
  · by_cases h2 : k' = k2 ∧ i = p2
    · obtain ⟨rfl, rfl⟩ := h2; simp [h1]
    · simp [h1, h2]
/-- a cell put in at place p of kind k -/
theorem pool_ins (cnt : Nat → Nat) (A : Nat → Nat → Nat) (C : Nat → Nat → va_E) {k p K : Nat} (q : Nat) (e : va_E) (hp : p ≤ cnt k) (hk : k < K) : ((q, e) :: pool K cnt A C).Perm (pool K (icn cnt k) (ins1 A k p q) (ins1 C k p e)) := by
  have h := pool_take (icn cnt k) (ins1 A k p q) (ins1 C k p e) (k := k) (p := p) (by simp [icn]; omega) K hk
  rw [skp_ins1, skp_ins1, dcn_icn, ins1_s, ins1_s] at h
  exact h.symm
/-- two cells of different kinds, seen and changed -/
def pt2 (K : Nat) (cnt : Nat → Nat) (A : Nat → Nat → Nat) (C : Nat → Nat → va_E) (k p k2 p2 : Nat) : va_W := pool K (dcn (dcn cnt k) k2) (skp (skp A k p) k2 p2) (skp (skp C k p) k2 p2)
theorem pool_two (cnt : Nat → Nat) (A : Nat → Nat → Nat) (C : Nat → Nat → va_E) {k p k2 p2 K : Nat} (hp : p < cnt k) (hp2 : p2 < cnt k2) (hk : k < K) (hk2 : k2 < K) (hne : k2 ≠ k) : (pool K cnt A C).Perm ((A k p, C k p) :: (A k2 p2, C k2 p2) :: pt2 K cnt A C k p k2 p2) := by
  refine (pool_take cnt A C hp K hk).trans (List.Perm.cons _ ?_)
  have h := pool_take (dcn cnt k) (skp A k p) (skp C k p) (k := k2) (p := p2) (by simp [dcn, hne]; exact hp2) K hk2
  rw [skp_n _ _ _ hne, skp_n _ _ _ hne] at h
  exact h
theorem pool_two_put (cnt : Nat → Nat) (A : Nat → Nat → Nat) (C : Nat → Nat → va_E) {k p k2 p2 K : Nat} (q2 : Nat) (e e2 : va_E) (hp : p < cnt k) (hp2 : p2 < cnt k2) (hk : k < K) (hk2 : k2 < K) (hne : k2 ≠ k) : ((A k p, e) :: (q2, e2) :: pt2 K cnt A C k p k2 p2).Perm (pool K cnt (upC A k2 p2 q2) (upC (upC C k p e) k2 p2 e2)) := by
  have h := pool_two cnt (upC A k2 p2 q2) (upC (upC C k p e) k2 p2 e2) hp hp2 hk hk2 hne
  rw [upC_n _ _ (show ¬ (k = k2 ∧ p = p2) from fun q => hne q.1.symm), upC_s, upC_n _ _ (show ¬ (k = k2 ∧ p = p2) from fun q => hne q.1.symm), upC_s, upC_s] at h
  refine List.Perm.symm ?_
  unfold pt2 at h ⊢
  rw [skp_upC_n _ _ _ _ hne, skp_upC, skp_upC_n _ _ _ _ hne, skp_upC, skp_upC] at h
  exact h
theorem pool_mem (cnt : Nat → Nat) (A : Nat → Nat → Nat) (C : Nat → Nat → va_E) {k p K : Nat} (hp : p < cnt k) (hk : k < K) : (A k p, C k p) ∈ pool K cnt A C := (pool_take cnt A C hp K hk).mem_iff.mpr List.mem_cons_self
section XC2
variable {l : Launch} {φ : Fx} {cc : ByteArray} {nL : Nat} {own : String} {wl : List Cond} {rm : Room} {pc : Nat} {L : List (Option Value)} {rest : List Value} {kc ns : Nat} {D : va_G} {a : Nat → ClassId} {E0 : Nat} {n cap : Nat → Nat} {A : Nat → Nat → Nat} {g : Nat → Nat} {en : Int64} {S : Nat → Nat → Nat → Int32}
abbrev cells (a : Nat → ClassId) (E0 : Nat) (n cap : Nat → Nat) (A : Nat → Nat → Nat) (g : Nat → Nat) (en : Int64) (S : Nat → Nat → Nat → Int32) : Nat → Nat → va_E := fun k i => cellC a E0 n cap A g en k i (S k i)
/-- list j, its row, and the rest -/
theorem wC_list {j : Nat} (hj : j < 4) (hc : ¬ cap j = 0) : (wC a E0 n cap A g en S).Perm (wL a (A 3 j) (A (11 + j) 0) (S 3 j 0) (nI (n j)) (cap j) (lsF n A j) (pt2 15 (cntC n cap) A (cells a E0 n cap A g en S) 3 j (11 + j) 0)) := by
  have h2 : 0 < cntC n cap (11 + j) := by rw [Nat.add_comm]; show 0 < (if cap j = 0 then 0 else 1); rw [if_neg hc]; exact Nat.one_pos
  have h := pool_two (cntC n cap) A (cells a E0 n cap A g en S) (k := 3) (p := j) (k2 := 11 + j) (p2 := 0) (K := 15) (show j < 4 from hj) h2 (by omega) (by omega) (by omega)
  have e1 : cells a E0 n cap A g en S 3 j = .inr (3, [.int (S 3 j 0), .ref (A (11 + j) 0), .int (nI (n j))]) := by
    show Sum.inr (3, [Value.int (S 3 j 0), .ref (if cap j = 0 then E0 else A (11 + j) 0), .int (nI (n j))]) = _
    rw [if_neg hc]
  have e2 : cells a E0 n cap A g en S (11 + j) 0 = .inl (a 6, cap j, .inr (.inr (.inr (.inr (lsF n A j))))) := by
    show cellC a E0 n cap A g en (11 + j) 0 _ = _
    rw [Nat.add_comm]
    rfl
  rw [e1, e2] at h
  exact h
theorem wC_take {k i : Nat} (hk : k < 15) (hi : i < cntC n cap k) : (wC a E0 n cap A g en S).Perm ((A k i, cellC a E0 n cap A g en k i (S k i)) :: pool 15 (dcn (cntC n cap) k) (skp A k i) (skp (cells a E0 n cap A g en S) k i)) := pool_take _ _ _ hi 15 hk
theorem xc_castS (C : Cb (gm D a E0) l φ cc nL own wl rm) (pc' k i : Nat) {ci idx N : Nat} {Cn : String} {T : u_T} {fs : List Value} (hk : k < 15) (hi : i < cntC n cap k) (hce : cellC a E0 n cap A g en k i (S k i) = .inr (ci, fs)) (hc : vwCl[ci]? = some (Cn, T, N)) (hlink : Cond.classLink own idx Cn ∈ wl) (hd : decode cc pc = .ok (.checkcast idx, 3)) (hpc : pc + 3 = pc') (kk : X φ pc' L (.ref (A k i) :: rest) (wC a E0 n cap A g en S) kc ns) : X φ pc L (.ref (A k i) :: rest) (wC a E0 n cap A g en S) kc ns := by
  obtain ⟨p, h1, -⟩ := wC_at (n := n) (cap := cap) (A := A) (g := g) (en := en) hk hi hce
  exact x_castS C pc' p h1 hc hlink hd hpc kk
theorem cC_size (hl : l.stackTraces = false) {j : Nat} (hj : j < 4) : Ct (gm D a E0) l yJx4a65c_size_8abf5 wsJx4a65c_size_8abf5 { frames := 4, cells := 0, slots := 0, locals := 100 } [.ref (A 3 j)] (wC a E0 n cap A g en S) (qI fun v w => v = nI (n j) ∧ w = wC a E0 n cap A g en S) noX := by
  have h := wC_take (a := a) (E0 := E0) (n := n) (cap := cap) (A := A) (g := g) (en := en) (S := S) (k := 3) (i := j) (by decide) (show j < 4 from hj)
  refine Ct.lift (cA_size hl (b := A 3 j) (mc := S 3 j 0) (e := if cap j = 0 then E0 else A (11 + j) 0) (n := n j) (we := _)) [] (by rw [List.append_nil]; exact h) (fun r w hr => ?_) (fun _ _ h => h.elim)
  obtain ⟨v, rfl, rfl, rfl⟩ := hr
  exact ⟨_, [], ⟨_, rfl, rfl, rfl⟩, by rw [List.append_nil, List.append_nil]; exact h.symm⟩
theorem cC_get (hl : l.stackTraces = false) {j i : Nat} (hj : j < 4) (hi : i < n j) (hc : n j ≤ cap j) (hc2 : cap j < 1000) : Ct (gm D a E0) l yJx4a65c_get_915e3 wsJx4a65c_get_915e3 { frames := 12, cells := 0, slots := 0, locals := 300 } [.ref (A 3 j), .int (nI i)] (wC a E0 n cap A g en S) (qQ fun v w => v = some (A (kE j) i) ∧ w = wC a E0 n cap A g en S) noX := by
  have h := wC_list (a := a) (E0 := E0) (n := n) (cap := cap) (A := A) (g := g) (en := en) (S := S) hj (show ¬ cap j = 0 by omega)
  refine Ct.lift (cA_get hl (y := A (kE j) i) hi hc hc2 (if_pos hi)) [] (by rw [List.append_nil]; exact h) (fun r w hr => ?_) (fun _ _ h => h.elim)
  obtain ⟨v, rfl, rfl, rfl⟩ := hr
  exact ⟨_, [], ⟨_, rfl, rfl, rfl⟩, by rw [List.append_nil, List.append_nil]; exact h.symm⟩
end XC2
theorem bI_fit (b : Bool) : fits .boolean (.int (bI b)) = true := by cases b <;> rfl
