/-! adding to and taking from the lists of the class; by wip/whole/genA.py -/
def updN (f : Nat → Nat) (k v : Nat) : Nat → Nat := fun j => if j = k then v else f j
theorem updN_s (f : Nat → Nat) (k v : Nat) : updN f k v k = v := by simp [updN]
theorem updN_n (f : Nat → Nat) {k j : Nat} (v : Nat) (h : j ≠ k) : updN f k v j = f j := by simp [updN, h]
/-- how a capacity goes on -/
def CapN (c n c' : Nat) : Prop := (c' = c ∧ n < c) ∨ (c = 0 ∧ c' = 10) ∨ (n = c ∧ 2 ≤ c ∧ c' = c + c / 2 ∧ c' ≤ 22)
theorem pool_ins0 (cnt : Nat → Nat) (A : Nat → Nat → Nat) (C : Nat → Nat → va_E) {k K : Nat} (q : Nat) (e : va_E) (h0 : cnt k = 0) (hk : k < K) : ((q, e) :: pool K cnt A C).Perm (pool K (icn cnt k) (upC A k 0 q) (upC C k 0 e)) := by
  have h := pool_ins cnt A C (p := 0) q e (Nat.zero_le _) hk
  rw [show pool K (icn cnt k) (ins1 A k 0 q) (ins1 C k 0 e) = pool K (icn cnt k) (upC A k 0 q) (upC C k 0 e) from pool_congr K (fun k' _ => ⟨rfl, fun i hi => ?_⟩)] at h
  · exact h
  · by_cases hk' : k' = k
    · subst hk'
      have : i = 0 := by simp [icn, h0] at hi; omega
      subst this
      simp [ins1, upC]
    · simp [ins1, upC, hk']
theorem elO_one {ws we : va_W} {x y : Nat × va_E} {b : Nat} {fs : List Value} {z : va_E} (hp : ws.Perm (x :: y :: we)) (hx : ∃ fs', x.2 = .inr (3, fs')) (hy : ∀ o, y.2 ≠ .inr o) {f : Nat → Option Nat} (h : elO ws f) : elO we f := by
  intro i q hq
  obtain ⟨ci, fs0, Cn, T, N, h1, h2, h3⟩ := h i q hq
  refine ⟨ci, fs0, Cn, T, N, ?_, h2, h3⟩
  rcases List.mem_cons.mp (hp.mem_iff.mp h1) with e | h1
  · obtain ⟨fs', hx⟩ := hx
    rw [← e] at hx
    cases hx
    cases h2
    exact absurd h3 (by decide)
  rcases List.mem_cons.mp h1 with e | h1
  · exact absurd (congrArg Prod.snd e).symm (hy _)
  · exact h1
theorem elO_oneE {ws we : va_W} {x : Nat × va_E} (hp : ws.Perm (x :: we)) (hx : ∃ fs', x.2 = .inr (3, fs')) {f : Nat → Option Nat} (h : elO ws f) : elO we f := by
  intro i q hq
  obtain ⟨ci, fs0, Cn, T, N, h1, h2, h3⟩ := h i q hq
  refine ⟨ci, fs0, Cn, T, N, ?_, h2, h3⟩
  rcases List.mem_cons.mp (hp.mem_iff.mp h1) with e | h1
  · obtain ⟨fs', hx⟩ := hx
    rw [← e] at hx
    cases hx
    cases h2
    exact absurd h3 (by decide)
  · exact h1
theorem cpy_all {F : Nat → Option Nat} {c : Nat} (h : ∀ i, c ≤ i → F i = none) : va_cpy F (fun _ => none) 0 0 c = F := by
  funext i
  unfold va_cpy
  by_cases q : i < c
  · rw [if_pos (by omega), Nat.sub_zero, Nat.zero_add]
  · rw [if_neg (by omega), h i (by omega)]
theorem lsF_no {n : Nat → Nat} {A : Nat → Nat → Nat} {j i : Nat} (h : n j ≤ i) : lsF n A j i = none := if_neg (by omega)
section CA
variable {l : Launch} {D : va_G} {a : Nat → ClassId} {E0 : Nat} {n cap : Nat → Nat} {A : Nat → Nat → Nat} {g : Nat → Nat} {en : Int64} {S : Nat → Nat → Nat → Int32}

def cuR (x t cv : Int32) : Nat → Int32 := fun k => match k with
  | 0 => x
  | 1 => t
  | 2 => cv
  | _ => 0
def efR (s0 s1 s2 s3 : Int32) : Nat → Int32 := fun k => match k with
  | 0 => s0
  | 1 => s1
  | 2 => s2
  | 3 => s3
  | _ => 0
def stR (s0 s1 s2 : Int32) : Nat → Int32 := fun k => match k with
  | 0 => s0
  | 1 => s1
  | 2 => s2
  | _ => 0

theorem ad0_in {p q r : Nat} {x t cv : Int32} {f : Nat → Int32}  (hp : p ≤ n 0) : (wC a E0 n cap A g en S ++ ([(q, .inr (5, [.int x, .int t, .int cv, .int 0, .ref r])), (r, .inl (a 0, 12, .inl f))] : va_W)).Perm (pool 15 (icn (icn (cntC n cap) 5) 6) (ins1 (ins1 A 5 p q) 6 p r) (ins1 (ins1 (cells a E0 n cap A g en S) 5 p (.inr (5, [.int x, .int t, .int cv, .int 0, .ref r]))) 6 p (.inl (a 0, 12, .inl f)))) := by
  refine (List.perm_append_comm).trans ((List.Perm.swap _ _ _).trans ?_)
  refine (List.Perm.cons _ (pool_ins (cntC n cap) A (cells a E0 n cap A g en S) (k := 5) (p := p) q _ (show p ≤ n 0 from hp) (by decide))).trans ?_
  exact pool_ins _ _ _ (k := 6) (p := p) r _ (show p ≤ n 0 from hp) (by decide)
theorem ad0_fin {p q r : Nat} {x t cv : Int32} {f : Nat → Int32} {e c' : Nat} {cnt : Nat → Nat} (hcnt : ∀ k, k < 15 → cnt k = cntC (updN n 0 (n 0 + 1)) (updN cap 0 c') k) (hc0 : ¬ c' = 0) (hp : p ≤ n 0) : pool 15 cnt (upC (ins1 (ins1 A 5 p q) 6 p r) 11 0 e) (upC (upC (ins1 (ins1 (cells a E0 n cap A g en S) 5 p (.inr (5, [.int x, .int t, .int cv, .int 0, .ref r]))) 6 p (.inl (a 0, 12, .inl f))) 3 0 (.inr (3, [.int (S 3 0 0 + 1), .ref e, .int (nI (n 0 + 1))]))) 11 0 (.inl (a 6, c', .inr (.inr (.inr (.inr (lsF (updN n 0 (n 0 + 1)) (upC (ins1 (ins1 A 5 p q) 6 p r) 11 0 e) 0))))))) = wC a E0 (updN n 0 (n 0 + 1)) (updN cap 0 c') (upC (ins1 (ins1 A 5 p q) 6 p r) 11 0 e) g en (uS (ins1 (ins1 S 5 p (cuR x t cv)) 6 p f) 3 0 0 (S 3 0 0 + 1)) := by
  sorry
theorem ad0_row {p q r : Nat}   {e : Nat} (hp : p ≤ n 0) : va_up (va_cpy (lsF n A 0) (lsF n A 0) p (p + 1) (n 0 - p)) p (some q) = (lsF (updN n 0 (n 0 + 1)) (upC (ins1 (ins1 A 5 p q) 6 p r) 11 0 e) 0) := by
  sorry
theorem cC_add0 (hl : l.stackTraces = false) {p q r : Nat} {x t cv : Int32} {f : Nat → Int32} (hN : n 0 ≤ cap 0) (hc : cap 0 < 1000) (hcap : n 0 < cap 0 ∨ cap 0 = 0 ∨ (2 ≤ cap 0 ∧ cap 0 + cap 0 / 2 ≤ 22)) (hp : p ≤ n 0) : Ct (gm D a E0) l yJx4a65c_add_7a177 wsJx4a65c_add_7a177 { frames := 24, cells := 1, slots := 22, locals := 600 } [.ref (A 3 0), .int (nI p), .ref q] (wC a E0 n cap A g en S ++ ([(q, .inr (5, [.int x, .int t, .int cv, .int 0, .ref r])), (r, .inl (a 0, 12, .inl f))] : va_W)) (qV fun w => ∃ e c', CapN (cap 0) (n 0) c' ∧ w = wC a E0 (updN n 0 (n 0 + 1)) (updN cap 0 c') (upC (ins1 (ins1 A 5 p q) 6 p r) 11 0 e) g en (uS (ins1 (ins1 S 5 p (cuR x t cv)) 6 p f) 3 0 0 (S 3 0 0 + 1))) noX := by
  sorry
theorem ad1_in {q r : Nat} {f : Nat → Int32}  : (wC a E0 n cap A g en S ++ ([(q, .inr (7, [.ref r, .int 0])), (r, .inl (a 1, 12, .inl f))] : va_W)).Perm (pool 15 (icn (icn (cntC n cap) 7) 8) (ins1 (ins1 A 7 (n 1) q) 8 (n 1) r) (ins1 (ins1 (cells a E0 n cap A g en S) 7 (n 1) (.inr (7, [.ref r, .int 0]))) 8 (n 1) (.inl (a 1, 12, .inl f)))) := by
  refine (List.perm_append_comm).trans ((List.Perm.swap _ _ _).trans ?_)
  refine (List.Perm.cons _ (pool_ins (cntC n cap) A (cells a E0 n cap A g en S) (k := 7) (p := (n 1)) q _ (show (n 1) ≤ n 1 from (Nat.le_refl _)) (by decide))).trans ?_
  exact pool_ins _ _ _ (k := 8) (p := (n 1)) r _ (show (n 1) ≤ n 1 from (Nat.le_refl _)) (by decide)
theorem ad1_fin {q r : Nat} {f : Nat → Int32} {e c' : Nat} {cnt : Nat → Nat} (hcnt : ∀ k, k < 15 → cnt k = cntC (updN n 1 (n 1 + 1)) (updN cap 1 c') k) (hc0 : ¬ c' = 0) (hg : ∀ i, i < n 2 → g i < n 1) : pool 15 cnt (upC (ins1 (ins1 A 7 (n 1) q) 8 (n 1) r) 12 0 e) (upC (upC (ins1 (ins1 (cells a E0 n cap A g en S) 7 (n 1) (.inr (7, [.ref r, .int 0]))) 8 (n 1) (.inl (a 1, 12, .inl f))) 3 1 (.inr (3, [.int (S 3 1 0 + 1), .ref e, .int (nI (n 1 + 1))]))) 12 0 (.inl (a 6, c', .inr (.inr (.inr (.inr (lsF (updN n 1 (n 1 + 1)) (upC (ins1 (ins1 A 7 (n 1) q) 8 (n 1) r) 12 0 e) 1))))))) = wC a E0 (updN n 1 (n 1 + 1)) (updN cap 1 c') (upC (ins1 (ins1 A 7 (n 1) q) 8 (n 1) r) 12 0 e) g en (uS (ins1 (ins1 S 7 (n 1) (fun _ => 0)) 8 (n 1) f) 3 1 0 (S 3 1 0 + 1)) := by
  sorry
theorem ad1_row {q r e : Nat} : va_up (lsF n A 1) (n 1) (some q) = (lsF (updN n 1 (n 1 + 1)) (upC (ins1 (ins1 A 7 (n 1) q) 8 (n 1) r) 12 0 e) 1) := by
  sorry
theorem cC_add1 (hl : l.stackTraces = false) {q r : Nat} {f : Nat → Int32} (hN : n 1 ≤ cap 1) (hc : cap 1 < 1000) (hcap : n 1 < cap 1 ∨ cap 1 = 0) (hg : ∀ i, i < n 2 → g i < n 1) : Ct (gm D a E0) l yJx4a65c_add_9ea2d wsJx4a65c_add_9ea2d { frames := 24, cells := 1, slots := 22, locals := 600 } [.ref (A 3 1), .ref q] (wC a E0 n cap A g en S ++ ([(q, .inr (7, [.ref r, .int 0])), (r, .inl (a 1, 12, .inl f))] : va_W)) (qI fun v w => v = 1 ∧ ∃ e c', CapN (cap 1) (n 1) c' ∧ w = wC a E0 (updN n 1 (n 1 + 1)) (updN cap 1 c') (upC (ins1 (ins1 A 7 (n 1) q) 8 (n 1) r) 12 0 e) g en (uS (ins1 (ins1 S 7 (n 1) (fun _ => 0)) 8 (n 1) f) 3 1 0 (S 3 1 0 + 1))) noX := by
  sorry
theorem ad2_in {q G : Nat} {s0 s1 s2 s3 : Int32}  : (wC a E0 n cap A g en S ++ ([(q, .inr (6, [.ref (A 7 G), .int s0, .int s1, .int s2, .int s3, .int 0, .int 0]))] : va_W)).Perm (pool 15 (icn (cntC n cap) 9) (ins1 A 9 (n 2) q) (ins1 (cells a E0 n cap A g en S) 9 (n 2) (.inr (6, [.ref (A 7 G), .int s0, .int s1, .int s2, .int s3, .int 0, .int 0])))) := by
  refine (List.perm_append_comm).trans ?_
  exact pool_ins (cntC n cap) A (cells a E0 n cap A g en S) (k := 9) (p := (n 2)) q _ (show (n 2) ≤ n 2 from (Nat.le_refl _)) (by decide)
theorem ad2_fin {q G : Nat} {s0 s1 s2 s3 : Int32} {e c' : Nat} {cnt : Nat → Nat} (hcnt : ∀ k, k < 15 → cnt k = cntC (updN n 2 (n 2 + 1)) (updN cap 2 c') k) (hc0 : ¬ c' = 0) : pool 15 cnt (upC (ins1 A 9 (n 2) q) 13 0 e) (upC (upC (ins1 (cells a E0 n cap A g en S) 9 (n 2) (.inr (6, [.ref (A 7 G), .int s0, .int s1, .int s2, .int s3, .int 0, .int 0]))) 3 2 (.inr (3, [.int (S 3 2 0 + 1), .ref e, .int (nI (n 2 + 1))]))) 13 0 (.inl (a 6, c', .inr (.inr (.inr (.inr (lsF (updN n 2 (n 2 + 1)) (upC (ins1 A 9 (n 2) q) 13 0 e) 2))))))) = wC a E0 (updN n 2 (n 2 + 1)) (updN cap 2 c') (upC (ins1 A 9 (n 2) q) 13 0 e) (updN g (n 2) G) en (uS (ins1 S 9 (n 2) (efR s0 s1 s2 s3)) 3 2 0 (S 3 2 0 + 1)) := by
  sorry
theorem ad2_row {q e : Nat} : va_up (lsF n A 2) (n 2) (some q) = (lsF (updN n 2 (n 2 + 1)) (upC (ins1 A 9 (n 2) q) 13 0 e) 2) := by
  sorry
theorem cC_add2 (hl : l.stackTraces = false) {q G : Nat} {s0 s1 s2 s3 : Int32} (hN : n 2 ≤ cap 2) (hc : cap 2 < 1000) (hcap : n 2 < cap 2 ∨ cap 2 = 0) : Ct (gm D a E0) l yJx4a65c_add_9ea2d wsJx4a65c_add_9ea2d { frames := 24, cells := 1, slots := 22, locals := 600 } [.ref (A 3 2), .ref q] (wC a E0 n cap A g en S ++ ([(q, .inr (6, [.ref (A 7 G), .int s0, .int s1, .int s2, .int s3, .int 0, .int 0]))] : va_W)) (qI fun v w => v = 1 ∧ ∃ e c', CapN (cap 2) (n 2) c' ∧ w = wC a E0 (updN n 2 (n 2 + 1)) (updN cap 2 c') (upC (ins1 A 9 (n 2) q) 13 0 e) (updN g (n 2) G) en (uS (ins1 S 9 (n 2) (efR s0 s1 s2 s3)) 3 2 0 (S 3 2 0 + 1))) noX := by
  sorry
theorem ad3_in {q : Nat} {s0 s1 s2 : Int32}  : (wC a E0 n cap A g en S ++ ([(q, .inr (8, [.int s0, .int s1, .int s2]))] : va_W)).Perm (pool 15 (icn (cntC n cap) 10) (ins1 A 10 (n 3) q) (ins1 (cells a E0 n cap A g en S) 10 (n 3) (.inr (8, [.int s0, .int s1, .int s2])))) := by
  refine (List.perm_append_comm).trans ?_
  exact pool_ins (cntC n cap) A (cells a E0 n cap A g en S) (k := 10) (p := (n 3)) q _ (show (n 3) ≤ n 3 from (Nat.le_refl _)) (by decide)
theorem ad3_fin {q : Nat} {s0 s1 s2 : Int32} {e c' : Nat} {cnt : Nat → Nat} (hcnt : ∀ k, k < 15 → cnt k = cntC (updN n 3 (n 3 + 1)) (updN cap 3 c') k) (hc0 : ¬ c' = 0) : pool 15 cnt (upC (ins1 A 10 (n 3) q) 14 0 e) (upC (upC (ins1 (cells a E0 n cap A g en S) 10 (n 3) (.inr (8, [.int s0, .int s1, .int s2]))) 3 3 (.inr (3, [.int (S 3 3 0 + 1), .ref e, .int (nI (n 3 + 1))]))) 14 0 (.inl (a 6, c', .inr (.inr (.inr (.inr (lsF (updN n 3 (n 3 + 1)) (upC (ins1 A 10 (n 3) q) 14 0 e) 3))))))) = wC a E0 (updN n 3 (n 3 + 1)) (updN cap 3 c') (upC (ins1 A 10 (n 3) q) 14 0 e) g en (uS (ins1 S 10 (n 3) (stR s0 s1 s2)) 3 3 0 (S 3 3 0 + 1)) := by
  sorry
theorem ad3_row {q e : Nat} : va_up (lsF n A 3) (n 3) (some q) = (lsF (updN n 3 (n 3 + 1)) (upC (ins1 A 10 (n 3) q) 14 0 e) 3) := by
  sorry
theorem cC_add3 (hl : l.stackTraces = false) {q : Nat} {s0 s1 s2 : Int32} (hN : n 3 ≤ cap 3) (hc : cap 3 < 1000) (hcap : n 3 < cap 3 ∨ cap 3 = 0) : Ct (gm D a E0) l yJx4a65c_add_9ea2d wsJx4a65c_add_9ea2d { frames := 24, cells := 1, slots := 22, locals := 600 } [.ref (A 3 3), .ref q] (wC a E0 n cap A g en S ++ ([(q, .inr (8, [.int s0, .int s1, .int s2]))] : va_W)) (qI fun v w => v = 1 ∧ ∃ e c', CapN (cap 3) (n 3) c' ∧ w = wC a E0 (updN n 3 (n 3 + 1)) (updN cap 3 c') (upC (ins1 A 10 (n 3) q) 14 0 e) g en (uS (ins1 S 10 (n 3) (stR s0 s1 s2)) 3 3 0 (S 3 3 0 + 1))) noX := by
  sorry
end CA

