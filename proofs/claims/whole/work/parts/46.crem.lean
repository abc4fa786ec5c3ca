/-! taking a cue out; clearing the macro -/
theorem pool_clr (cnt : Nat → Nat) (A : Nat → Nat → Nat) (C : Nat → Nat → va_E) {k : Nat} : ∀ K, k < K → (pool K cnt A C).Perm (pool K (updN cnt k 0) A C ++ (List.range (cnt k)).map (fun i => (A k i, C k i)))
  | 0, h => absurd h (Nat.not_lt_zero _)
  | K + 1, h => by
    by_cases hk : k = K
    · subst hk
      rw [pool, pool, updN_s]
      have e : pool k cnt A C = pool k (updN cnt k 0) A C := pool_congr k (fun k' hk' => ⟨(updN_n _ _ (by omega)).symm, fun _ _ => ⟨rfl, rfl⟩⟩)
      rw [← e]
      simp
    · have ih := pool_clr cnt A C (k := k) K (by omega)
      rw [pool, pool, updN_n _ _ (show K ≠ k from fun q => hk q.symm)]
      refine (ih.append_right _).trans ?_
      rw [List.append_assoc, List.append_assoc]
      exact (List.perm_append_comm).append_left _
section CR
variable {l : Launch} {D : va_G} {a : Nat → ClassId} {E0 : Nat} {n cap : Nat → Nat} {A : Nat → Nat → Nat} {g : Nat → Nat} {en : Int64} {S : Nat → Nat → Nat → Int32}
theorem rem_rowM {p : Nat} (h2 : p < n 0 - 1) : va_up (va_cpy (lsF n A 0) (lsF n A 0) (p + 1) p (n 0 - 1 - p)) (n 0 - 1) none = lsF (updN n 0 (n 0 - 1)) (skp (skp A 5 p) 6 p) 0 := by
  funext i
  by_cases h : i < p
  · have h1 : ¬ i = n 0 - 1 := by omega
    have h3 : ¬ (p ≤ i ∧ i < p + (n 0 - 1 - p)) := by omega
    have h4 : i < n 0 := by omega
    have h5 : i < n 0 - 1 := by omega
    simp [va_up, va_cpy, lsF, updN, kE, skp, h, h1, h3, h4, h5]
  · by_cases h6 : i < n 0 - 1
    · have h1 : ¬ i = n 0 - 1 := by omega
      have h3 : p ≤ i ∧ i < p + (n 0 - 1 - p) := by omega
      have h4 : p + 1 + (i - p) = i + 1 := by omega
      have h5 : i + 1 < n 0 := by omega
      simp [va_up, va_cpy, lsF, updN, kE, skp, h, h1, h3, h4, h5, h6]
    · by_cases h1 : i = n 0 - 1
      · simp [va_up, lsF, updN, h1]
      · have h3 : ¬ (p ≤ i ∧ i < p + (n 0 - 1 - p)) := by omega
        have h4 : ¬ i < n 0 := by omega
        simp [va_up, va_cpy, lsF, updN, h1, h3, h4, h6]
theorem rem_rowL {p : Nat} (hp : p < n 0) (h2 : ¬ p < n 0 - 1) : va_up (lsF n A 0) (n 0 - 1) none = lsF (updN n 0 (n 0 - 1)) (skp (skp A 5 p) 6 p) 0 := by
  funext i
  by_cases h6 : i < n 0 - 1
  · have h1 : ¬ i = n 0 - 1 := by omega
    have h : i < p := by omega
    have h4 : i < n 0 := by omega
    simp [va_up, lsF, updN, kE, skp, h, h1, h4, h6]
  · by_cases h1 : i = n 0 - 1
    · simp [va_up, lsF, updN, h1]
    · have h4 : ¬ i < n 0 := by omega
      simp [va_up, lsF, updN, h1, h4, h6]
theorem rem_fin {p : Nat} (hz : ¬ cap 0 = 0) : pt2 15 (cntC n cap) A (upC (upC (cells a E0 n cap A g en S) 3 0 (.inr (3, [.int (S 3 0 0 + 1), .ref (A 11 0), .int (nI (n 0 - 1))]))) 11 0 (.inl (a 6, cap 0, .inr (.inr (.inr (.inr (lsF (updN n 0 (n 0 - 1)) (skp (skp A 5 p) 6 p) 0))))))) 5 p 6 p = wC a E0 (updN n 0 (n 0 - 1)) cap (skp (skp A 5 p) 6 p) g en (uS (skp (skp S 5 p) 6 p) 3 0 0 (S 3 0 0 + 1)) := by
  have hcnt : ∀ k, k < 15 → dcn (dcn (cntC n cap) 5) 6 k = cntC (updN n 0 (n 0 - 1)) cap k := by
    intro k hk
    have hk2 : k = 0 ∨ k = 1 ∨ k = 2 ∨ k = 3 ∨ k = 4 ∨ k = 5 ∨ k = 6 ∨ k = 7 ∨ k = 8 ∨ k = 9 ∨ k = 10 ∨ k = 11 ∨ k = 12 ∨ k = 13 ∨ k = 14 := by omega
    rcases hk2 with rfl | rfl | rfl | rfl | rfl | rfl | rfl | rfl | rfl | rfl | rfl | rfl | rfl | rfl | rfl <;> rfl
  refine pool_congr 15 (fun k hk => ⟨hcnt k hk, fun i hi => ⟨rfl, ?_⟩⟩)
  rw [hcnt k hk] at hi
  have hk2 : k = 0 ∨ k = 1 ∨ k = 2 ∨ k = 3 ∨ k = 4 ∨ k = 5 ∨ k = 6 ∨ k = 7 ∨ k = 8 ∨ k = 9 ∨ k = 10 ∨ k = 11 ∨ k = 12 ∨ k = 13 ∨ k = 14 := by omega
  rcases hk2 with rfl | rfl | rfl | rfl | rfl | rfl | rfl | rfl | rfl | rfl | rfl | rfl | rfl | rfl | rfl
  · rfl
  · rfl
  · rfl
  · have hi2 : i < 4 := hi
    have hk3 : i = 0 ∨ i = 1 ∨ i = 2 ∨ i = 3 := by omega
    rcases hk3 with rfl | rfl | rfl | rfl
    · show Sum.inr (3, [Value.int (S 3 0 0 + 1), .ref (A 11 0), .int (nI (n 0 - 1))]) = Sum.inr (3, [Value.int (S 3 0 0 + 1), .ref (if cap 0 = 0 then E0 else A 11 0), .int (nI (n 0 - 1))])
      rw [if_neg hz]
    · rfl
    · rfl
    · rfl
  · rfl
  · by_cases h : i < p <;> simp [skp, upC, cells, cellC, uS, h]
  · by_cases h : i < p <;> simp [skp, upC, cells, cellC, uS, h]
  · rfl
  · rfl
  · rfl
  · rfl
  · have hi2 : i < (if cap 0 = 0 then 0 else 1) := hi
    rw [if_neg hz] at hi2
    obtain rfl : i = 0 := by omega
    rfl
  · rfl
  · rfl
  · rfl
theorem cC_rem0 (hl : l.stackTraces = false) {p : Nat} (hp : p < n 0) (hN : n 0 ≤ cap 0) (hc : cap 0 < 1000) : Ct (gm D a E0) l yJx4a65c_remove_915e3 wsJx4a65c_remove_915e3 { frames := 12, cells := 0, slots := 0, locals := 300 } [.ref (A 3 0), .int (nI p)] (wC a E0 n cap A g en S) (qQ fun v w => v = some (A 5 p) ∧ w = wC a E0 (updN n 0 (n 0 - 1)) cap (skp (skp A 5 p) 6 p) g en (uS (skp (skp S 5 p) 6 p) 3 0 0 (S 3 0 0 + 1))) noX := by
  have hz : ¬ cap 0 = 0 := by omega
  have h2 := wC_list (a := a) (E0 := E0) (n := n) (cap := cap) (A := A) (g := g) (en := en) (S := S) (j := 0) (by decide) hz
  have hel : elO (wC a E0 n cap A g en S) (lsF n A 0) := fun i y hy => by
    unfold lsF at hy
    split at hy
    · rename_i hi
      cases hy
      exact ⟨_, _, _, _, _, pool_mem (cntC n cap) A (cells a E0 n cap A g en S) (k := 5) (p := i) (show i < n 0 from hi) (by decide), rfl, by decide⟩
    · cases hy
  have hel2 := elO_one (b := 0) (fs := []) (z := .inr (0, [])) h2 ⟨_, rfl⟩ (fun _ h => by cases h) hel
  have go : ∀ f' : Nat → Option Nat, f' = lsF (updN n 0 (n 0 - 1)) (skp (skp A 5 p) 6 p) 0 → ∃ wd, (wL a (A 3 0) (A 11 0) (S 3 0 0 + 1) (nI (n 0 - 1)) (cap 0) f' (pt2 15 (cntC n cap) A (cells a E0 n cap A g en S) 3 0 (11 + 0) 0)).Perm (wC a E0 (updN n 0 (n 0 - 1)) cap (skp (skp A 5 p) 6 p) g en (uS (skp (skp S 5 p) 6 p) 3 0 0 (S 3 0 0 + 1)) ++ wd) := by
    intro f' hf
    subst hf
    have h3 := pool_two_put (cntC n cap) A (cells a E0 n cap A g en S) (k := 3) (p := 0) (k2 := 11) (p2 := 0) (K := 15) (A 11 0) (.inr (3, [.int (S 3 0 0 + 1), .ref (A 11 0), .int (nI (n 0 - 1))])) (.inl (a 6, cap 0, .inr (.inr (.inr (.inr (lsF (updN n 0 (n 0 - 1)) (skp (skp A 5 p) 6 p) 0)))))) (show 0 < 4 by decide) (show 0 < (if cap 0 = 0 then 0 else 1) by rw [if_neg hz]; decide) (by decide) (by decide) (by decide)
    rw [upC_self] at h3
    have h4 := pool_two (cntC n cap) A (upC (upC (cells a E0 n cap A g en S) 3 0 (.inr (3, [.int (S 3 0 0 + 1), .ref (A 11 0), .int (nI (n 0 - 1))]))) 11 0 (.inl (a 6, cap 0, .inr (.inr (.inr (.inr (lsF (updN n 0 (n 0 - 1)) (skp (skp A 5 p) 6 p) 0))))))) (k := 5) (p := p) (k2 := 6) (p2 := p) (K := 15) (show p < n 0 from hp) (show p < n 0 from hp) (by decide) (by decide) (by decide)
    rw [rem_fin hz] at h4
    exact ⟨_, (List.Perm.trans h3 h4).trans (List.perm_append_comm (l₁ := [_, _]))⟩
  by_cases hl2 : p < n 0 - 1
  · refine Ct.lift (cA_rmM hl hel2 hp hN hc (y := A 5 p) (if_pos hp) hl2) [] (by rw [List.append_nil]; exact h2) (fun z w hr => ?_) (fun _ _ h => h.elim)
    obtain ⟨v, rfl, rfl, rfl⟩ := hr
    obtain ⟨wd, hwd⟩ := go _ (rem_rowM hl2)
    exact ⟨_, wd, ⟨_, rfl, rfl, rfl⟩, by rw [List.append_nil]; exact hwd⟩
  · refine Ct.lift (cA_rmL hl hel2 hp hN hc (y := A 5 p) (if_pos hp) hl2) [] (by rw [List.append_nil]; exact h2) (fun z w hr => ?_) (fun _ _ h => h.elim)
    obtain ⟨v, rfl, rfl, rfl⟩ := hr
    obtain ⟨wd, hwd⟩ := go _ (rem_rowL hp hl2)
    exact ⟨_, wd, ⟨_, rfl, rfl, rfl⟩, by rw [List.append_nil]; exact hwd⟩
theorem clr_fin {cnt : Nat → Nat} {C2 : Nat → Nat → va_E} (hcnt : ∀ k, k < 15 → cnt k = cntC (updN n 3 0) cap k) (h3 : C2 3 3 = cellC a E0 (updN n 3 0) cap A g en 3 3 (uS S 3 3 0 (S 3 3 0 + 1) 3 3)) (h14 : ¬ cap 3 = 0 → C2 14 0 = .inl (a 6, cap 3, .inr (.inr (.inr (.inr (fun _ => none)))))) (hC : ∀ k i, ¬ (k = 3 ∧ i = 3) → k ≠ 14 → C2 k i = cells a E0 n cap A g en S k i) : pool 15 cnt A C2 = wC a E0 (updN n 3 0) cap A g en (uS S 3 3 0 (S 3 3 0 + 1)) := by
  refine pool_congr 15 (fun k hk => ⟨hcnt k hk, fun i hi => ⟨rfl, ?_⟩⟩)
  rw [hcnt k hk] at hi
  by_cases h : k = 3 ∧ i = 3
  · obtain ⟨rfl, rfl⟩ := h
    exact h3
  by_cases h2 : k = 14
  · subst h2
    have hi2 : i < (if cap 3 = 0 then 0 else 1) := hi
    by_cases hz : cap 3 = 0
    · rw [if_pos hz] at hi2
      exact absurd hi2 (Nat.not_lt_zero _)
    · rw [if_neg hz] at hi2
      obtain rfl : i = 0 := by omega
      rw [h14 hz]
      show _ = Sum.inl (a 6, cap 3, Sum.inr (Sum.inr (Sum.inr (Sum.inr (lsF (updN n 3 0) A 3)))))
      rw [show lsF (updN n 3 0) A 3 = fun _ => none from funext fun z => lsF_no (by rw [updN_s]; exact Nat.zero_le _)]
  rw [hC k i h h2]
  have hk2 : k = 0 ∨ k = 1 ∨ k = 2 ∨ k = 3 ∨ k = 4 ∨ k = 5 ∨ k = 6 ∨ k = 7 ∨ k = 8 ∨ k = 9 ∨ k = 10 ∨ k = 11 ∨ k = 12 ∨ k = 13 := by omega
  rcases hk2 with rfl | rfl | rfl | rfl | rfl | rfl | rfl | rfl | rfl | rfl | rfl | rfl | rfl | rfl
  · rfl
  · rfl
  · rfl
  · have hi2 : i < 4 := hi
    have hk3 : i = 0 ∨ i = 1 ∨ i = 2 := by omega
    rcases hk3 with rfl | rfl | rfl <;> rfl
  · rfl
  · rfl
  · rfl
  · rfl
  · rfl
  · rfl
  · rfl
  · rfl
  · rfl
  · rfl
theorem cC_clear3 (hl : l.stackTraces = false) (hN : n 3 ≤ cap 3) (hc : cap 3 < 1000) : Ct (gm D a E0) l yJx4a65c_clear_da8c8 wsJx4a65c_clear_da8c8 { frames := 4, cells := 0, slots := 0, locals := 100 } [.ref (A 3 3)] (wC a E0 n cap A g en S) (qV fun w => w = wC a E0 (updN n 3 0) cap A g en (uS S 3 3 0 (S 3 3 0 + 1))) noX := by
  by_cases hz : cap 3 = 0
  · have hn0 : n 3 = 0 := by omega
    have h1 := pool_take (cntC n cap) A (cells a E0 n cap A g en S) (k := 3) (p := 3) (show 3 < 4 by decide) 15 (by decide)
    have e1 : cells a E0 n cap A g en S 3 3 = .inr (3, [.int (S 3 3 0), .ref E0, .int (nI 0)]) := by
      show Sum.inr (3, [Value.int (S 3 3 0), .ref (if cap 3 = 0 then E0 else A (11 + 3) 0), .int (nI (n 3))]) = _
      rw [if_pos hz, hn0]
    rw [e1] at h1
    refine Ct.lift (cA_clearE hl (b := A 3 3) (mc := S 3 3 0)) [] (by rw [List.append_nil]; exact h1) (fun z w hr => ?_) (fun _ _ h => h.elim)
    obtain ⟨rfl, rfl⟩ := hr
    refine ⟨_, [], ⟨rfl, rfl⟩, ?_⟩
    rw [List.append_nil, List.append_nil]
    have h3 := pool_take (cntC n cap) A (upC (cells a E0 n cap A g en S) 3 3 (.inr (3, [.int (S 3 3 0 + 1), .ref E0, .int (nI 0)]))) (k := 3) (p := 3) (show 3 < 4 by decide) 15 (by decide)
    rw [skp_upC, upC_s] at h3
    refine (List.Perm.symm h3).trans (List.Perm.of_eq (clr_fin (fun k hk => ?_) ?_ (fun h => absurd hz h) (fun k i h _ => upC_n _ _ h)))
    · have hk2 : k = 0 ∨ k = 1 ∨ k = 2 ∨ k = 3 ∨ k = 4 ∨ k = 5 ∨ k = 6 ∨ k = 7 ∨ k = 8 ∨ k = 9 ∨ k = 10 ∨ k = 11 ∨ k = 12 ∨ k = 13 ∨ k = 14 := by omega
      rcases hk2 with rfl | rfl | rfl | rfl | rfl | rfl | rfl | rfl | rfl | rfl | rfl | rfl | rfl | rfl | rfl <;> first | rfl | (show n 3 = 0; exact hn0)
    · rw [upC_s]
      show _ = Sum.inr (3, [Value.int (S 3 3 0 + 1), .ref (if cap 3 = 0 then E0 else A (11 + 3) 0), .int (nI 0)])
      rw [if_pos hz]
  · have h2 := wC_list (a := a) (E0 := E0) (n := n) (cap := cap) (A := A) (g := g) (en := en) (S := S) (j := 3) (by decide) hz
    refine Ct.lift (cA_clear hl hN hc (fun i hi => lsF_no hi)) [] (by rw [List.append_nil]; exact h2) (fun z w hr => ?_) (fun _ _ h => h.elim)
    obtain ⟨rfl, rfl⟩ := hr
    have h3 := pool_two_put (cntC n cap) A (cells a E0 n cap A g en S) (k := 3) (p := 3) (k2 := 14) (p2 := 0) (K := 15) (A 14 0) (.inr (3, [.int (S 3 3 0 + 1), .ref (A 14 0), .int (nI 0)])) (.inl (a 6, cap 3, .inr (.inr (.inr (.inr (fun _ => none)))))) (show 3 < 4 by decide) (show 0 < (if cap 3 = 0 then 0 else 1) by rw [if_neg hz]; decide) (by decide) (by decide) (by decide)
    rw [upC_self] at h3
    have h4 := pool_clr (cntC n cap) A (upC (upC (cells a E0 n cap A g en S) 3 3 (.inr (3, [.int (S 3 3 0 + 1), .ref (A 14 0), .int (nI 0)]))) 14 0 (.inl (a 6, cap 3, .inr (.inr (.inr (.inr (fun _ => none))))))) (k := 10) 15 (by decide)
    refine ⟨_, (List.range (cntC n cap 10)).map (fun i => (A 10 i, upC (upC (cells a E0 n cap A g en S) 3 3 (.inr (3, [.int (S 3 3 0 + 1), .ref (A 14 0), .int (nI 0)]))) 14 0 (.inl (a 6, cap 3, .inr (.inr (.inr (.inr (fun _ => none)))))) 10 i)), ⟨rfl, rfl⟩, ?_⟩
    rw [List.append_nil]
    refine (List.Perm.trans h3 h4).trans (List.Perm.append_right _ (List.Perm.of_eq (clr_fin (fun k hk => ?_) ?_ (fun _ => ?_) (fun k i h hk => ?_))))
    · have hk2 : k = 0 ∨ k = 1 ∨ k = 2 ∨ k = 3 ∨ k = 4 ∨ k = 5 ∨ k = 6 ∨ k = 7 ∨ k = 8 ∨ k = 9 ∨ k = 10 ∨ k = 11 ∨ k = 12 ∨ k = 13 ∨ k = 14 := by omega
      rcases hk2 with rfl | rfl | rfl | rfl | rfl | rfl | rfl | rfl | rfl | rfl | rfl | rfl | rfl | rfl | rfl <;> rfl
    · show _ = Sum.inr (3, [Value.int (S 3 3 0 + 1), .ref (if cap 3 = 0 then E0 else A 14 0), .int (nI 0)])
      rw [if_neg hz]
      rfl
    · rw [upC_s]
    · rw [upC_n _ _ (fun q => hk q.1), upC_n _ _ h]
end CR
