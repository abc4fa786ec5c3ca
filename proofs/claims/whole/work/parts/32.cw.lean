/-! worlds as pools: kinds 0 .. K-1, of kind k the cells 0 .. cnt k - 1, each at its address -/
def pool : Nat → (Nat → Nat) → (Nat → Nat → Nat) → (Nat → Nat → va_E) → va_W
  | 0, _, _, _ => []
  | K + 1, cnt, A, C => pool K cnt A C ++ (List.range (cnt K)).map (fun i => (A K i, C K i))
def upC {α : Type} (C : Nat → Nat → α) (k i : Nat) (e : α) : Nat → Nat → α := fun k' i' => if k' = k ∧ i' = i then e else C k' i'
theorem upC_s {α : Type} (C : Nat → Nat → α) (k i : Nat) (e : α) : upC C k i e k i = e := by simp [upC]
theorem upC_n {α : Type} (C : Nat → Nat → α) {k i k' i' : Nat} (e : α) (h : ¬ (k' = k ∧ i' = i)) : upC C k i e k' i' = C k' i' := by simp [upC, h]
theorem pool_congr {cnt cnt' : Nat → Nat} {A A' : Nat → Nat → Nat} {C C' : Nat → Nat → va_E} : ∀ (K : Nat), (∀ k, k < K → cnt k = cnt' k ∧ ∀ i, i < cnt k → A k i = A' k i ∧ C k i = C' k i) → pool K cnt A C = pool K cnt' A' C'
  | 0, _ => rfl
  | K + 1, h => by
    rw [pool, pool, pool_congr K (fun k hk => h k (by omega)), ← (h K (by omega)).1]
    congr 1
    apply List.map_congr_left
    intro i hi
    have := (h K (by omega)).2 i (List.mem_range.mp hi)
    rw [this.1, this.2]
theorem pool_at (cnt : Nat → Nat) (A : Nat → Nat → Nat) (C : Nat → Nat → va_E) {k i : Nat} (hi : i < cnt k) : ∀ (K : Nat), k < K → ∃ p : Nat, (pool K cnt A C)[p]? = some (A k i, C k i) ∧ ∀ e : va_E, (pool K cnt A C).set p (A k i, e) = pool K cnt A (upC C k i e)
  | 0, h => absurd h (Nat.not_lt_zero _)
  | K + 1, h => by
    by_cases hk : k = K
    · subst hk
      refine ⟨(pool k cnt A C).length + i, ?_, fun e => ?_⟩
      · rw [pool, List.getElem?_append_right (by omega), Nat.add_sub_cancel_left]
        simp [hi]
      · rw [pool, pool, List.set_append_right _ _ (by omega), Nat.add_sub_cancel_left]
        congr 1
        · exact pool_congr k (fun k' hk' => ⟨rfl, fun i' _ => ⟨rfl, (upC_n C e (by omega)).symm⟩⟩)
        · apply List.ext_getElem?
          intro j
          rw [List.getElem?_set]
          by_cases hj : i = j
          · subst hj
            simp [hi, upC_s]
          · rw [if_neg hj]
            simp only [List.getElem?_map]
            cases hr : (List.range (cnt k))[j]? with
            | none => rfl
            | some b =>
              have hb : b = j := by
                have hlt := (List.getElem?_eq_some_iff.mp hr).1
                rw [List.getElem?_range (by simpa using hlt)] at hr
                exact (Option.some.inj hr).symm
              subst hb
              simp only [Option.map_some]
              rw [upC_n C e (by omega)]
    · obtain ⟨p, h1, h2⟩ := pool_at cnt A C hi K (by omega)
      have hl : p < (pool K cnt A C).length := (List.getElem?_eq_some_iff.mp h1).1
      refine ⟨p, ?_, fun e => ?_⟩
      · rw [pool, List.getElem?_append_left hl]
        exact h1
      · rw [pool, pool, List.set_append_left _ _ hl, h2 e]
        congr 1
        apply List.map_congr_left
        intro i' _
        rw [upC_n C e (by omega)]
theorem pool_push (cnt : Nat → Nat) (A : Nat → Nat → Nat) (C : Nat → Nat → va_E) (k q : Nat) (e : va_E) : ∀ (K : Nat), k < K → (pool K cnt A C ++ [(q, e)]).Perm (pool K (fun j => if j = k then cnt k + 1 else cnt j) (upC A k (cnt k) q) (upC C k (cnt k) e))
  | 0, h => absurd h (Nat.not_lt_zero _)
  | K + 1, h => by
    by_cases hk : k = K
    · subst hk
      rw [pool, pool, if_pos rfl, List.range_succ, List.map_append, List.append_assoc]
      have e1 : pool k cnt A C = pool k (fun j => if j = k then cnt k + 1 else cnt j) (upC A k (cnt k) q) (upC C k (cnt k) e) := pool_congr k (fun k' hk' => ⟨by simp [show k' ≠ k by omega], fun i' _ => ⟨(upC_n A q (by omega)).symm, (upC_n C e (by omega)).symm⟩⟩)
      rw [← e1]
      have e2 : (List.range (cnt k)).map (fun i => (A k i, C k i)) = (List.range (cnt k)).map (fun i => (upC A k (cnt k) q k i, upC C k (cnt k) e k i)) := by
        apply List.map_congr_left
        intro i hi
        have := List.mem_range.mp hi
        rw [upC_n A q (by omega), upC_n C e (by omega)]
      rw [e2]
      simp [upC_s]
    · have ih := pool_push cnt A C k q e K (by omega)
      rw [pool, pool, if_neg (show ¬ K = k by omega)]
      have e2 : (List.range (cnt K)).map (fun i => (A K i, C K i)) = (List.range (cnt K)).map (fun i => (upC A k (cnt k) q K i, upC C k (cnt k) e K i)) := by
        apply List.map_congr_left
        intro i _
        rw [upC_n A q (by omega), upC_n C e (by omega)]
      rw [e2, List.append_assoc]
      refine ((List.perm_append_comm).append_left _).trans ?_
      rw [← List.append_assoc]
      exact ih.append_right _
theorem va_P_iff {D : va_G} {cl : List vw_C} {ws : va_W} {H : Heap} : va_P D cl ws H ↔ ∀ q ∈ ws, va_at D cl q H := by
  constructor
  · intro h q hq
    obtain ⟨k, hk⟩ := List.getElem?_of_mem hq
    exact h k q hk
  · intro h k q hk
    exact h q (List.mem_of_getElem? hk)
theorem va_D_iff {A : Nat → Prop} {ws : va_W} : va_D A ws ↔ (ws.map Prod.fst).Nodup ∧ ∀ q ∈ ws, A q.1 := by
  constructor
  · intro h
    refine ⟨?_, fun q hq => ?_⟩
    · rw [List.Nodup, List.pairwise_iff_getElem]
      intro i j hi hj hij e
      rw [List.length_map] at hi hj
      have := h.1 i j ws[i] ws[j] (List.getElem?_eq_getElem hi) (List.getElem?_eq_getElem hj) (by simpa using e)
      omega
    · obtain ⟨k, hk⟩ := List.getElem?_of_mem hq
      exact h.2 k q hk
  · intro ⟨h1, h2⟩
    refine ⟨fun i j p q hi hj e => ?_, fun k q hk => h2 q (List.mem_of_getElem? hk)⟩
    obtain ⟨hi1, hi2⟩ := List.getElem?_eq_some_iff.mp hi
    obtain ⟨hj1, hj2⟩ := List.getElem?_eq_some_iff.mp hj
    rw [List.Nodup, List.pairwise_iff_getElem] at h1
    rcases Nat.lt_trichotomy i j with z | z | z
    · exact absurd (show (ws.map Prod.fst)[i]'(by simpa using hi1) = (ws.map Prod.fst)[j]'(by simpa using hj1) by rw [List.getElem_map, List.getElem_map, hi2, hj2]; exact e) (h1 i j (by simpa using hi1) (by simpa using hj1) z)
    · exact z
    · exact absurd (show (ws.map Prod.fst)[j]'(by simpa using hj1) = (ws.map Prod.fst)[i]'(by simpa using hi1) by rw [List.getElem_map, List.getElem_map, hi2, hj2]; exact e.symm) (h1 j i (by simpa using hj1) (by simpa using hi1) z)
section XP
variable {φ : Fx} {pc : Nat} {L : List (Option Value)} {st : List Value} {ws ws' : va_W} {kc ns : Nat}
theorem x_perm (h : ws.Perm ws') (kk : X φ pc L st ws' kc ns) : X φ pc L st ws kc ns := by
  obtain ⟨p, l', e, R, s, m, args, below, meth, c, A, Q, Γ'⟩ := φ
  intro H locs ls hP hD hS hl
  refine kk H locs ls (va_P_iff.mpr fun q hq => va_P_iff.mp hP q (h.mem_iff.mpr hq)) ?_ hS hl
  have := va_D_iff.mp hD
  exact va_D_iff.mpr ⟨(h.map Prod.fst).nodup_iff.mp this.1, fun q hq => this.2 q (h.mem_iff.mpr hq)⟩
/-- cells that are wanted no more -/
theorem x_drop {wr : va_W} (kk : X φ pc L st ws kc ns) : X φ pc L st (ws ++ wr) kc ns := by
  obtain ⟨p, l', e, R, s, m, args, below, meth, c, A, Q, Γ'⟩ := φ
  intro H locs ls hP hD hS hl
  exact kk H locs ls (va_wsc_P hP) (va_wsc_D hD) hS hl
end XP
