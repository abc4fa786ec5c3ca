/-! adding to and taking from the lists of the class; by wip/whole/genA.py -/
def updN (f : Nat → Nat) (k v : Nat) : Nat → Nat := fun j => if j = k then v else f j
theorem updN_s (f : Nat → Nat) (k v : Nat) : updN f k v k = v := by simp [updN]
theorem updN_n (f : Nat → Nat) {k j : Nat} (v : Nat) (h : j ≠ k) : updN f k v j = f j := by simp [updN, h]
/-- how a capacity goes on -/
def CapN (c n c' : Nat) : Prop := (c' = c ∧ n < c) ∨ (c = 0 ∧ c' = 10) ∨ (n = c ∧ 2 ≤ c ∧ c' = c + c / 2 ∧ c' ≤ 22)
theorem pool_ins0 (cnt : Nat → Nat) (A : Nat → Nat → Nat) (C : Nat → Nat → va_E) {k K : Nat} (q : Nat) (e : va_E) (h0 : cnt k = 0) (hk : k < K) : ((q, e) :: pool K cnt A C).Perm (pool K (icn cnt k) (upC A k 0 q) (upC C k 0 e)) := by
  have h := pool_ins cnt A C (p := 0) q e (Nat.zero_le _) hk
  rw [show pool K (icn cnt k) (ins1 A k 0 q) (ins1 C k 0 e) = pool K (icn cnt k) (upC A k 0 q) (upC C k 0 e) from pool_congr K (fun k' _ => ⟨rfl, fun i hi => ?_⟩)] at h
  · exact h
  · by_cases hk' : k' = k
    · subst hk'
      have : i = 0 := by simp [icn, h0] at hi; omega
      subst this
      simp [ins1, upC]
    · simp [ins1, upC, hk']
theorem elO_one {ws we : va_W} {x y : Nat × va_E} {b : Nat} {fs : List Value} {z : va_E} (hp : ws.Perm (x :: y :: we)) (hx : ∃ fs', x.2 = .inr (3, fs')) (hy : ∀ o, y.2 ≠ .inr o) {f : Nat → Option Nat} (h : elO ws f) : elO we f := by
  intro i q hq
  obtain ⟨ci, fs0, Cn, T, N, h1, h2, h3⟩ := h i q hq
  refine ⟨ci, fs0, Cn, T, N, ?_, h2, h3⟩
  rcases List.mem_cons.mp (hp.mem_iff.mp h1) with e | h1
  · obtain ⟨fs', hx⟩ := hx
    rw [← e] at hx
    cases hx
    cases h2
    exact absurd h3 (by decide)
  rcases List.mem_cons.mp h1 with e | h1
  · exact absurd (congrArg Prod.snd e).symm (hy _)
  · exact h1
theorem elO_oneE {ws we : va_W} {x : Nat × va_E} (hp : ws.Perm (x :: we)) (hx : ∃ fs', x.2 = .inr (3, fs')) {f : Nat → Option Nat} (h : elO ws f) : elO we f := by
  intro i q hq
  obtain ⟨ci, fs0, Cn, T, N, h1, h2, h3⟩ := h i q hq
  refine ⟨ci, fs0, Cn, T, N, ?_, h2, h3⟩
  rcases List.mem_cons.mp (hp.mem_iff.mp h1) with e | h1
  · obtain ⟨fs', hx⟩ := hx
    rw [← e] at hx
    cases hx
    cases h2
    exact absurd h3 (by decide)
  · exact h1
theorem cpy_all {F : Nat → Option Nat} {c : Nat} (h : ∀ i, c ≤ i → F i = none) : va_cpy F (fun _ => none) 0 0 c = F := by
  funext i
  unfold va_cpy
  by_cases q : i < c
  · rw [if_pos (by omega), Nat.sub_zero, Nat.zero_add]
  · rw [if_neg (by omega), h i (by omega)]
theorem lsF_no {n : Nat → Nat} {A : Nat → Nat → Nat} {j i : Nat} (h : n j ≤ i) : lsF n A j i = none := if_neg (by omega)
section CA
variable {l : Launch} {D : va_G} {a : Nat → ClassId} {E0 : Nat} {n cap : Nat → Nat} {A : Nat → Nat → Nat} {g : Nat → Nat} {en : Int64} {S : Nat → Nat → Nat → Int32}

def cuR (x t cv : Int32) : Nat → Int32 := fun k => match k with
  | 0 => x
  | 1 => t
  | 2 => cv
  | _ => 0
def efR (s0 s1 s2 s3 : Int32) : Nat → Int32 := fun k => match k with
  | 0 => s0
  | 1 => s1
  | 2 => s2
  | 3 => s3
  | _ => 0
def stR (s0 s1 s2 : Int32) : Nat → Int32 := fun k => match k with
  | 0 => s0
  | 1 => s1
  | 2 => s2
  | _ => 0

theorem ad0_in {p q r : Nat} {x t cv : Int32} {f : Nat → Int32}  (hp : p ≤ n 0) : (wC a E0 n cap A g en S ++ ([(q, .inr (5, [.int x, .int t, .int cv, .int 0, .ref r])), (r, .inl (a 0, 12, .inl f))] : va_W)).Perm (pool 15 (icn (icn (cntC n cap) 5) 6) (ins1 (ins1 A 5 p q) 6 p r) (ins1 (ins1 (cells a E0 n cap A g en S) 5 p (.inr (5, [.int x, .int t, .int cv, .int 0, .ref r]))) 6 p (.inl (a 0, 12, .inl f)))) := by
  refine (List.perm_append_comm).trans ((List.Perm.swap _ _ _).trans ?_)
  refine (List.Perm.cons _ (pool_ins (cntC n cap) A (cells a E0 n cap A g en S) (k := 5) (p := p) q _ (show p ≤ n 0 from hp) (by decide))).trans ?_
  exact pool_ins _ _ _ (k := 6) (p := p) r _ (show p ≤ n 0 from hp) (by decide)
theorem ad0_fin {p q r : Nat} {x t cv : Int32} {f : Nat → Int32} {e c' : Nat} {cnt : Nat → Nat} (hcnt : ∀ k, k < 15 → cnt k = cntC (updN n 0 (n 0 + 1)) (updN cap 0 c') k) (hc0 : ¬ c' = 0) (hp : p ≤ n 0) : pool 15 cnt (upC (ins1 (ins1 A 5 p q) 6 p r) 11 0 e) (upC (upC (ins1 (ins1 (cells a E0 n cap A g en S) 5 p (.inr (5, [.int x, .int t, .int cv, .int 0, .ref r]))) 6 p (.inl (a 0, 12, .inl f))) 3 0 (.inr (3, [.int (S 3 0 0 + 1), .ref e, .int (nI (n 0 + 1))]))) 11 0 (.inl (a 6, c', .inr (.inr (.inr (.inr (lsF (updN n 0 (n 0 + 1)) (upC (ins1 (ins1 A 5 p q) 6 p r) 11 0 e) 0))))))) = wC a E0 (updN n 0 (n 0 + 1)) (updN cap 0 c') (upC (ins1 (ins1 A 5 p q) 6 p r) 11 0 e) g en (uS (ins1 (ins1 S 5 p (cuR x t cv)) 6 p f) 3 0 0 (S 3 0 0 + 1)) := by
  refine pool_congr 15 (fun k hk => ⟨hcnt k hk, fun i hi => ⟨rfl, ?_⟩⟩)
  rw [hcnt k hk] at hi
  have hk2 : k = 0 ∨ k = 1 ∨ k = 2 ∨ k = 3 ∨ k = 4 ∨ k = 5 ∨ k = 6 ∨ k = 7 ∨ k = 8 ∨ k = 9 ∨ k = 10 ∨ k = 11 ∨ k = 12 ∨ k = 13 ∨ k = 14 := by omega
  rcases hk2 with rfl | rfl | rfl | rfl | rfl | rfl | rfl | rfl | rfl | rfl | rfl | rfl | rfl | rfl | rfl
  · rfl
  · rfl
  · rfl
  · have hi2 : i < 4 := hi
    have hk3 : i = 0 ∨ i = 1 ∨ i = 2 ∨ i = 3 := by omega
    rcases hk3 with rfl | rfl | rfl | rfl
    · show Sum.inr (3, [Value.int (S 3 0 0 + 1), .ref e, .int (nI (n 0 + 1))]) = Sum.inr (3, [Value.int (S 3 0 0 + 1), .ref (if updN cap 0 c' 0 = 0 then E0 else e), .int (nI (updN n 0 (n 0 + 1) 0))])
      rw [updN_s, if_neg hc0, updN_s]
    · rfl
    · rfl
    · rfl
  · rfl
  · rcases Nat.lt_trichotomy i p with h | h | h
    · simp [upC, ins1, cells, cellC, uS, updN, h]
    · subst h
      simp [upC, ins1, cells, cellC, uS, updN, cuR, efR, stR]
    · simp [upC, ins1, cells, cellC, uS, updN, Nat.not_lt.mpr (Nat.le_of_lt h), Nat.ne_of_gt h]
  · rcases Nat.lt_trichotomy i p with h | h | h
    · simp [upC, ins1, cells, cellC, uS, updN, h]
    · subst h
      simp [upC, ins1, cells, cellC, uS, updN, cuR, efR, stR]
    · simp [upC, ins1, cells, cellC, uS, updN, Nat.not_lt.mpr (Nat.le_of_lt h), Nat.ne_of_gt h]
  · rfl
  · rfl
  · rfl
  · rfl
  · have hi2 : i < (if updN cap 0 c' 0 = 0 then 0 else 1) := hi
    rw [updN_s, if_neg hc0] at hi2
    obtain rfl : i = 0 := by omega
    show Sum.inl (a 6, c', Sum.inr (Sum.inr (Sum.inr (Sum.inr (lsF (updN n 0 (n 0 + 1)) (upC (ins1 (ins1 A 5 p q) 6 p r) 11 0 e) 0))))) = Sum.inl (a 6, updN cap 0 c' 0, _)
    rw [updN_s]
  · rfl
  · rfl
  · rfl
theorem ad0_row {p q r : Nat}   {e : Nat} (hp : p ≤ n 0) : va_up (va_cpy (lsF n A 0) (lsF n A 0) p (p + 1) (n 0 - p)) p (some q) = (lsF (updN n 0 (n 0 + 1)) (upC (ins1 (ins1 A 5 p q) 6 p r) 11 0 e) 0) := by
  funext i
  rcases Nat.lt_trichotomy i p with h | h | h
  · have h1 : ¬ i = p := by omega
    have h2 : ¬ (p + 1 ≤ i ∧ i < p + 1 + (n 0 - p)) := by omega
    have h3 : i < n 0 := by omega
    have h4 : i < n 0 + 1 := by omega
    simp [va_up, va_cpy, lsF, updN, kE, upC, ins1, h, h1, h2, h3, h4]
  · subst h
    have h4 : i < n 0 + 1 := by omega
    simp [va_up, lsF, updN, kE, upC, ins1, h4]
  · have h1 : ¬ i = p := by omega
    have h0 : ¬ i < p := by omega
    by_cases h2 : i < n 0 + 1
    · have h3 : p + 1 ≤ i ∧ i < p + 1 + (n 0 - p) := by omega
      have h4 : p + (i - (p + 1)) = i - 1 := by omega
      have h5 : i - 1 < n 0 := by omega
      simp [va_up, va_cpy, lsF, updN, kE, upC, ins1, h0, h1, h2, h3, h4, h5]
    · have h3 : ¬ (p + 1 ≤ i ∧ i < p + 1 + (n 0 - p)) := by omega
      have h5 : ¬ i < n 0 := by omega
      simp [va_up, va_cpy, lsF, updN, h1, h2, h3, h5]
theorem cC_add0 (hl : l.stackTraces = false) {p q r : Nat} {x t cv : Int32} {f : Nat → Int32} (hN : n 0 ≤ cap 0) (hc : cap 0 < 1000) (hcap : n 0 < cap 0 ∨ cap 0 = 0 ∨ (2 ≤ cap 0 ∧ cap 0 + cap 0 / 2 ≤ 22)) (hp : p ≤ n 0) : Ct (gm D a E0) l yJx4a65c_add_7a177 wsJx4a65c_add_7a177 { frames := 24, cells := 1, slots := 22, locals := 600 } [.ref (A 3 0), .int (nI p), .ref q] (wC a E0 n cap A g en S ++ ([(q, .inr (5, [.int x, .int t, .int cv, .int 0, .ref r])), (r, .inl (a 0, 12, .inl f))] : va_W)) (qV fun w => ∃ e c', CapN (cap 0) (n 0) c' ∧ w = wC a E0 (updN n 0 (n 0 + 1)) (updN cap 0 c') (upC (ins1 (ins1 A 5 p q) 6 p r) 11 0 e) g en (uS (ins1 (ins1 S 5 p (cuR x t cv)) 6 p f) 3 0 0 (S 3 0 0 + 1))) noX := by
  have h0 := ad0_in (a := a) (E0 := E0) (n := n) (cap := cap) (A := A) (g := g) (en := en) (S := S) (p := p) (q := q) (r := r) (x := x) (t := t) (cv := cv) (f := f) hp
  have hxx : elO (wC a E0 n cap A g en S ++ ([(q, .inr (5, [.int x, .int t, .int cv, .int 0, .ref r])), (r, .inl (a 0, 12, .inl f))] : va_W)) (fun _ => some q) := fun _ y hy => by
    cases hy
    exact ⟨_, _, _, _, _, List.mem_append_right _ List.mem_cons_self, rfl, by decide⟩
  by_cases hz : cap 0 = 0
  · have hn0 : n 0 = 0 := by omega
    obtain rfl : p = 0 := by omega
    have h1 := pool_take (icn (icn (cntC n cap) 5) 6) (ins1 (ins1 A 5 0 q) 6 0 r) (ins1 (ins1 (cells a E0 n cap A g en S) 5 0 (.inr (5, [.int x, .int t, .int cv, .int 0, .ref r]))) 6 0 (.inl (a 0, 12, .inl f))) (k := 3) (p := 0) (show 0 < 4 by decide) 15 (by decide)
    have e1 : (ins1 (ins1 (cells a E0 n cap A g en S) 5 0 (.inr (5, [.int x, .int t, .int cv, .int 0, .ref r]))) 6 0 (.inl (a 0, 12, .inl f))) 3 0 = .inr (3, [.int (S 3 0 0), .ref E0, .int (nI 0)]) := by
      show Sum.inr (3, [Value.int (S 3 0 0), .ref (if cap 0 = 0 then E0 else A (11 + 0) 0), .int (nI (n 0))]) = _
      rw [if_pos hz, hn0]
    rw [e1] at h1
    have h2 := h0.trans h1
    refine Ct.lift (cA_insE hl (b := A 3 0) (mc := S 3 0 0) (x := q) (elO_oneE h2 ⟨_, rfl⟩ hxx)) [] (by rw [List.append_nil]; exact h2) (fun z w hr => ?_) (fun _ _ h => h.elim)
    obtain ⟨rfl, e, rfl⟩ := hr
    refine ⟨_, [], ⟨rfl, e, 10, Or.inr (Or.inl ⟨hz, rfl⟩), rfl⟩, ?_⟩
    rw [List.append_nil, List.append_nil]
    have h3 := pool_take (icn (icn (cntC n cap) 5) 6) (ins1 (ins1 A 5 0 q) 6 0 r) (upC (ins1 (ins1 (cells a E0 n cap A g en S) 5 0 (.inr (5, [.int x, .int t, .int cv, .int 0, .ref r]))) 6 0 (.inl (a 0, 12, .inl f))) 3 0 (.inr (3, [.int (S 3 0 0 + 1), .ref e, .int (nI (n 0 + 1))]))) (k := 3) (p := 0) (show 0 < 4 by decide) 15 (by decide)
    rw [skp_upC, upC_s] at h3
    have h4 := pool_ins0 (icn (icn (cntC n cap) 5) 6) (ins1 (ins1 A 5 0 q) 6 0 r) (upC (ins1 (ins1 (cells a E0 n cap A g en S) 5 0 (.inr (5, [.int x, .int t, .int cv, .int 0, .ref r]))) 6 0 (.inl (a 0, 12, .inl f))) 3 0 (.inr (3, [.int (S 3 0 0 + 1), .ref e, .int (nI (n 0 + 1))]))) (k := 11) e (.inl (a 6, 10, .inr (.inr (.inr (.inr (va_up (fun _ => none) 0 (some q))))))) (show (if cap 0 = 0 then 0 else 1) = 0 from if_pos hz) (K := 15) (by decide)
    refine ((?_ : List.Perm _ _).trans ((List.Perm.cons _ h3.symm).trans h4)).trans (List.Perm.of_eq ?_)
    · rw [hn0]
      have e5 : va_up (va_cpy (fun _ => (none : Option Nat)) (fun _ => none) 0 (0 + 1) (0 - 0)) 0 (some q) = va_up (fun _ => none) 0 (some q) := by
        funext i
        unfold va_up va_cpy
        split
        · rfl
        · split <;> rfl
      rw [e5]
      exact List.Perm.swap _ _ _
    · have hrow : va_up (fun _ => none) 0 (some q) = lsF (updN n 0 (n 0 + 1)) (upC (ins1 (ins1 A 5 0 q) 6 0 r) 11 0 e) 0 := by
        rw [← ad0_row (n := n) (A := A) (p := 0) (q := q) (r := r) (e := e) (Nat.zero_le _)]
        funext i
        have e6 : ∀ z, lsF n A 0 z = none := fun z => lsF_no (by omega)
        unfold va_up va_cpy
        split
        · rfl
        · split <;> simp [e6]
      rw [hrow]
      refine ad0_fin (fun k hk => ?_) (by decide) (Nat.zero_le _)
      have hk2 : k = 0 ∨ k = 1 ∨ k = 2 ∨ k = 3 ∨ k = 4 ∨ k = 5 ∨ k = 6 ∨ k = 7 ∨ k = 8 ∨ k = 9 ∨ k = 10 ∨ k = 11 ∨ k = 12 ∨ k = 13 ∨ k = 14 := by omega
      rcases hk2 with rfl | rfl | rfl | rfl | rfl | rfl | rfl | rfl | rfl | rfl | rfl | rfl | rfl | rfl | rfl <;> first | rfl | simp [icn, cntC, updN, hz] | simp [icn, cntC, updN]
  · have h1 := pool_two (icn (icn (cntC n cap) 5) 6) (ins1 (ins1 A 5 p q) 6 p r) (ins1 (ins1 (cells a E0 n cap A g en S) 5 p (.inr (5, [.int x, .int t, .int cv, .int 0, .ref r]))) 6 p (.inl (a 0, 12, .inl f))) (k := 3) (p := 0) (k2 := 11) (p2 := 0) (K := 15) (show 0 < 4 by decide) (show 0 < (if cap 0 = 0 then 0 else 1) by rw [if_neg hz]; decide) (by decide) (by decide) (by decide)
    have e1 : (ins1 (ins1 (cells a E0 n cap A g en S) 5 p (.inr (5, [.int x, .int t, .int cv, .int 0, .ref r]))) 6 p (.inl (a 0, 12, .inl f))) 3 0 = .inr (3, [.int (S 3 0 0), .ref (A 11 0), .int (nI (n 0))]) := by
      show Sum.inr (3, [Value.int (S 3 0 0), .ref (if cap 0 = 0 then E0 else A (11 + 0) 0), .int (nI (n 0))]) = _
      rw [if_neg hz]
    have e2 : (ins1 (ins1 (cells a E0 n cap A g en S) 5 p (.inr (5, [.int x, .int t, .int cv, .int 0, .ref r]))) 6 p (.inl (a 0, 12, .inl f))) 11 0 = .inl (a 6, cap 0, .inr (.inr (.inr (.inr (lsF n A 0))))) := rfl
    rw [e1, e2] at h1
    have h2 := h0.trans h1
    have hx2 := elO_one (b := 0) (fs := []) (z := .inr (0, [])) h2 ⟨_, rfl⟩ (fun _ h => by cases h) hxx
    have hel : elO (wC a E0 n cap A g en S ++ ([(q, .inr (5, [.int x, .int t, .int cv, .int 0, .ref r])), (r, .inl (a 0, 12, .inl f))] : va_W)) (lsF n A 0) := fun i y hy => by
      unfold lsF at hy
      split at hy
      · rename_i hi
        cases hy
        exact ⟨_, _, _, _, _, List.mem_append_left _ (pool_mem (cntC n cap) A (cells a E0 n cap A g en S) (k := 5) (p := i) (show i < n 0 from hi) (by decide)), rfl, by decide⟩
      · cases hy
    have hel2 := elO_one (b := 0) (fs := []) (z := .inr (0, [])) h2 ⟨_, rfl⟩ (fun _ h => by cases h) hel
    by_cases hr0 : n 0 < cap 0
    · refine Ct.lift (cA_insR hl hx2 hel2 hp hr0 hc) [] (by rw [List.append_nil]; exact h2) (fun z w hr => ?_) (fun _ _ h => h.elim)
      obtain ⟨rfl, rfl⟩ := hr
      refine ⟨_, [], ⟨rfl, A 11 0, cap 0, Or.inl ⟨rfl, hr0⟩, rfl⟩, ?_⟩
      rw [ad0_row (r := r) (e := A 11 0) hp]
      rw [List.append_nil, List.append_nil]
      have h3 := pool_two_put (icn (icn (cntC n cap) 5) 6) (ins1 (ins1 A 5 p q) 6 p r) (ins1 (ins1 (cells a E0 n cap A g en S) 5 p (.inr (5, [.int x, .int t, .int cv, .int 0, .ref r]))) 6 p (.inl (a 0, 12, .inl f))) (k := 3) (p := 0) (k2 := 11) (p2 := 0) (K := 15) (A 11 0) (.inr (3, [.int (S 3 0 0 + 1), .ref (A 11 0), .int (nI (n 0 + 1))])) (.inl (a 6, cap 0, .inr (.inr (.inr (.inr (lsF (updN n 0 (n 0 + 1)) (upC (ins1 (ins1 A 5 p q) 6 p r) 11 0 (A 11 0)) 0)))))) (show 0 < 4 by decide) (show 0 < (if cap 0 = 0 then 0 else 1) by rw [if_neg hz]; decide) (by decide) (by decide) (by decide)
      refine List.Perm.trans h3 (List.Perm.of_eq ?_)
      refine ad0_fin (fun k hk => ?_) (by omega) hp
      have hk2 : k = 0 ∨ k = 1 ∨ k = 2 ∨ k = 3 ∨ k = 4 ∨ k = 5 ∨ k = 6 ∨ k = 7 ∨ k = 8 ∨ k = 9 ∨ k = 10 ∨ k = 11 ∨ k = 12 ∨ k = 13 ∨ k = 14 := by omega
      rcases hk2 with rfl | rfl | rfl | rfl | rfl | rfl | rfl | rfl | rfl | rfl | rfl | rfl | rfl | rfl | rfl <;> first | rfl | simp [icn, cntC, updN, hz] | (simp only [icn, cntC, updN]; simp [hz]; omega)
    · have hcn : n 0 = cap 0 := by omega
      have hc2 : 2 ≤ cap 0 ∧ cap 0 + cap 0 / 2 ≤ 22 := by omega
      rw [hcn] at h2
      refine Ct.lift (cA_insN hl hx2 hc2.1 hc2.2 hel2 (hcn ▸ hp)) [] (by rw [List.append_nil]; exact h2) (fun z w hr => ?_) (fun _ _ h => h.elim)
      obtain ⟨rfl, e, rfl⟩ := hr
      refine ⟨_, [], ⟨rfl, e, cap 0 + cap 0 / 2, Or.inr (Or.inr ⟨hcn, hc2.1, rfl, hc2.2⟩), rfl⟩, ?_⟩
      have e9 : va_up (va_cpy (lsF n A 0) (lsF n A 0) p (p + 1) (cap 0 - p)) p (some q) = (lsF (updN n 0 (n 0 + 1)) (upC (ins1 (ins1 A 5 p q) 6 p r) 11 0 e) 0) := by
        rw [← hcn]
        exact ad0_row (r := r) (e := e) hp
      have e10 : nI (cap 0 + 1) = nI (n 0 + 1) := by rw [hcn]
      rw [cpy_all (fun i hi => lsF_no (by omega)), e9, e10]
      rw [List.append_nil, List.append_nil]
      have h3 := pool_two_put (icn (icn (cntC n cap) 5) 6) (ins1 (ins1 A 5 p q) 6 p r) (ins1 (ins1 (cells a E0 n cap A g en S) 5 p (.inr (5, [.int x, .int t, .int cv, .int 0, .ref r]))) 6 p (.inl (a 0, 12, .inl f))) (k := 3) (p := 0) (k2 := 11) (p2 := 0) (K := 15) e (.inr (3, [.int (S 3 0 0 + 1), .ref e, .int (nI (n 0 + 1))])) (.inl (a 6, (cap 0 + cap 0 / 2), .inr (.inr (.inr (.inr (lsF (updN n 0 (n 0 + 1)) (upC (ins1 (ins1 A 5 p q) 6 p r) 11 0 e) 0)))))) (show 0 < 4 by decide) (show 0 < (if cap 0 = 0 then 0 else 1) by rw [if_neg hz]; decide) (by decide) (by decide) (by decide)
      refine List.Perm.trans h3 (List.Perm.of_eq ?_)
      refine ad0_fin (fun k hk => ?_) (by omega) hp
      have hk2 : k = 0 ∨ k = 1 ∨ k = 2 ∨ k = 3 ∨ k = 4 ∨ k = 5 ∨ k = 6 ∨ k = 7 ∨ k = 8 ∨ k = 9 ∨ k = 10 ∨ k = 11 ∨ k = 12 ∨ k = 13 ∨ k = 14 := by omega
      rcases hk2 with rfl | rfl | rfl | rfl | rfl | rfl | rfl | rfl | rfl | rfl | rfl | rfl | rfl | rfl | rfl <;> first | rfl | simp [icn, cntC, updN, hz] | (simp only [icn, cntC, updN]; simp [hz]; omega)
theorem ad1_in {q r : Nat} {f : Nat → Int32}  : (wC a E0 n cap A g en S ++ ([(q, .inr (7, [.ref r, .int 0])), (r, .inl (a 1, 12, .inl f))] : va_W)).Perm (pool 15 (icn (icn (cntC n cap) 7) 8) (ins1 (ins1 A 7 (n 1) q) 8 (n 1) r) (ins1 (ins1 (cells a E0 n cap A g en S) 7 (n 1) (.inr (7, [.ref r, .int 0]))) 8 (n 1) (.inl (a 1, 12, .inl f)))) := by
  refine (List.perm_append_comm).trans ((List.Perm.swap _ _ _).trans ?_)
  refine (List.Perm.cons _ (pool_ins (cntC n cap) A (cells a E0 n cap A g en S) (k := 7) (p := (n 1)) q _ (show (n 1) ≤ n 1 from (Nat.le_refl _)) (by decide))).trans ?_
  exact pool_ins _ _ _ (k := 8) (p := (n 1)) r _ (show (n 1) ≤ n 1 from (Nat.le_refl _)) (by decide)
theorem ad1_fin {q r : Nat} {f : Nat → Int32} {e c' : Nat} {cnt : Nat → Nat} (hcnt : ∀ k, k < 15 → cnt k = cntC (updN n 1 (n 1 + 1)) (updN cap 1 c') k) (hc0 : ¬ c' = 0) (hg : ∀ i, i < n 2 → g i < n 1) : pool 15 cnt (upC (ins1 (ins1 A 7 (n 1) q) 8 (n 1) r) 12 0 e) (upC (upC (ins1 (ins1 (cells a E0 n cap A g en S) 7 (n 1) (.inr (7, [.ref r, .int 0]))) 8 (n 1) (.inl (a 1, 12, .inl f))) 3 1 (.inr (3, [.int (S 3 1 0 + 1), .ref e, .int (nI (n 1 + 1))]))) 12 0 (.inl (a 6, c', .inr (.inr (.inr (.inr (lsF (updN n 1 (n 1 + 1)) (upC (ins1 (ins1 A 7 (n 1) q) 8 (n 1) r) 12 0 e) 1))))))) = wC a E0 (updN n 1 (n 1 + 1)) (updN cap 1 c') (upC (ins1 (ins1 A 7 (n 1) q) 8 (n 1) r) 12 0 e) g en (uS (ins1 (ins1 S 7 (n 1) (fun _ => 0)) 8 (n 1) f) 3 1 0 (S 3 1 0 + 1)) := by
  refine pool_congr 15 (fun k hk => ⟨hcnt k hk, fun i hi => ⟨rfl, ?_⟩⟩)
  rw [hcnt k hk] at hi
  have hk2 : k = 0 ∨ k = 1 ∨ k = 2 ∨ k = 3 ∨ k = 4 ∨ k = 5 ∨ k = 6 ∨ k = 7 ∨ k = 8 ∨ k = 9 ∨ k = 10 ∨ k = 11 ∨ k = 12 ∨ k = 13 ∨ k = 14 := by omega
  rcases hk2 with rfl | rfl | rfl | rfl | rfl | rfl | rfl | rfl | rfl | rfl | rfl | rfl | rfl | rfl | rfl
  · rfl
  · rfl
  · rfl
  · have hi2 : i < 4 := hi
    have hk3 : i = 0 ∨ i = 1 ∨ i = 2 ∨ i = 3 := by omega
    rcases hk3 with rfl | rfl | rfl | rfl
    · rfl
    · show Sum.inr (3, [Value.int (S 3 1 0 + 1), .ref e, .int (nI (n 1 + 1))]) = Sum.inr (3, [Value.int (S 3 1 0 + 1), .ref (if updN cap 1 c' 1 = 0 then E0 else e), .int (nI (updN n 1 (n 1 + 1) 1))])
      rw [updN_s, if_neg hc0, updN_s]
    · rfl
    · rfl
  · rfl
  · rfl
  · rfl
  · rcases Nat.lt_trichotomy i (n 1) with h | h | h
    · simp [upC, ins1, cells, cellC, uS, updN, h]
    · subst h
      simp [upC, ins1, cells, cellC, uS, updN, cuR, efR, stR]
    · exact absurd (show i < n 1 + 1 by have hi2 : i < updN n 1 (n 1 + 1) 1 := hi; rwa [updN_s] at hi2) (by omega)
  · rcases Nat.lt_trichotomy i (n 1) with h | h | h
    · simp [upC, ins1, cells, cellC, uS, updN, h]
    · subst h
      simp [upC, ins1, cells, cellC, uS, updN, cuR, efR, stR]
    · exact absurd (show i < n 1 + 1 by have hi2 : i < updN n 1 (n 1 + 1) 1 := hi; rwa [updN_s] at hi2) (by omega)
  · have hi2 : i < n 2 := hi
    have h := hg i hi2
    simp [upC, ins1, cells, cellC, uS, h]
  · rfl
  · rfl
  · have hi2 : i < (if updN cap 1 c' 1 = 0 then 0 else 1) := hi
    rw [updN_s, if_neg hc0] at hi2
    obtain rfl : i = 0 := by omega
    show Sum.inl (a 6, c', Sum.inr (Sum.inr (Sum.inr (Sum.inr (lsF (updN n 1 (n 1 + 1)) (upC (ins1 (ins1 A 7 (n 1) q) 8 (n 1) r) 12 0 e) 1))))) = Sum.inl (a 6, updN cap 1 c' 1, _)
    rw [updN_s]
  · rfl
  · rfl
theorem ad1_row {q r e : Nat} : va_up (lsF n A 1) (n 1) (some q) = (lsF (updN n 1 (n 1 + 1)) (upC (ins1 (ins1 A 7 (n 1) q) 8 (n 1) r) 12 0 e) 1) := by
  funext i
  rcases Nat.lt_trichotomy i (n 1) with h | h | h
  · have h4 : i < n 1 + 1 := by omega
    simp [va_up, lsF, updN, kE, upC, ins1, h, h4, Nat.ne_of_lt h]
  · subst h
    simp [va_up, lsF, updN, kE, upC, ins1]
  · have h4 : ¬ i < n 1 + 1 := by omega
    simp [va_up, lsF, updN, Nat.not_lt.mpr (Nat.le_of_lt h), Nat.ne_of_gt h, h4]
theorem cC_add1 (hl : l.stackTraces = false) {q r : Nat} {f : Nat → Int32} (hN : n 1 ≤ cap 1) (hc : cap 1 < 1000) (hcap : n 1 < cap 1 ∨ cap 1 = 0) (hg : ∀ i, i < n 2 → g i < n 1) : Ct (gm D a E0) l yJx4a65c_add_9ea2d wsJx4a65c_add_9ea2d { frames := 24, cells := 1, slots := 22, locals := 600 } [.ref (A 3 1), .ref q] (wC a E0 n cap A g en S ++ ([(q, .inr (7, [.ref r, .int 0])), (r, .inl (a 1, 12, .inl f))] : va_W)) (qI fun v w => v = 1 ∧ ∃ e c', CapN (cap 1) (n 1) c' ∧ w = wC a E0 (updN n 1 (n 1 + 1)) (updN cap 1 c') (upC (ins1 (ins1 A 7 (n 1) q) 8 (n 1) r) 12 0 e) g en (uS (ins1 (ins1 S 7 (n 1) (fun _ => 0)) 8 (n 1) f) 3 1 0 (S 3 1 0 + 1))) noX := by
  have h0 := ad1_in (a := a) (E0 := E0) (n := n) (cap := cap) (A := A) (g := g) (en := en) (S := S) (q := q) (r := r) (f := f) 
  have hxx : elO (wC a E0 n cap A g en S ++ ([(q, .inr (7, [.ref r, .int 0])), (r, .inl (a 1, 12, .inl f))] : va_W)) (fun _ => some q) := fun _ y hy => by
    cases hy
    exact ⟨_, _, _, _, _, List.mem_append_right _ List.mem_cons_self, rfl, by decide⟩
  by_cases hz : cap 1 = 0
  · have hn0 : n 1 = 0 := by omega
    have h1 := pool_take (icn (icn (cntC n cap) 7) 8) (ins1 (ins1 A 7 (n 1) q) 8 (n 1) r) (ins1 (ins1 (cells a E0 n cap A g en S) 7 (n 1) (.inr (7, [.ref r, .int 0]))) 8 (n 1) (.inl (a 1, 12, .inl f))) (k := 3) (p := 1) (show 1 < 4 by decide) 15 (by decide)
    have e1 : (ins1 (ins1 (cells a E0 n cap A g en S) 7 (n 1) (.inr (7, [.ref r, .int 0]))) 8 (n 1) (.inl (a 1, 12, .inl f))) 3 1 = .inr (3, [.int (S 3 1 0), .ref E0, .int (nI 0)]) := by
      show Sum.inr (3, [Value.int (S 3 1 0), .ref (if cap 1 = 0 then E0 else A (11 + 1) 0), .int (nI (n 1))]) = _
      rw [if_pos hz, hn0]
    rw [e1] at h1
    have h2 := h0.trans h1
    refine Ct.lift (cA_addE hl (b := A 3 1) (mc := S 3 1 0) (x := q) (elO_oneE h2 ⟨_, rfl⟩ hxx)) [] (by rw [List.append_nil]; exact h2) (fun z w hr => ?_) (fun _ _ h => h.elim)
    obtain ⟨v, rfl, rfl, e, rfl⟩ := hr
    refine ⟨_, [], ⟨_, rfl, rfl, e, 10, Or.inr (Or.inl ⟨hz, rfl⟩), rfl⟩, ?_⟩
    rw [List.append_nil, List.append_nil]
    have h3 := pool_take (icn (icn (cntC n cap) 7) 8) (ins1 (ins1 A 7 (n 1) q) 8 (n 1) r) (upC (ins1 (ins1 (cells a E0 n cap A g en S) 7 (n 1) (.inr (7, [.ref r, .int 0]))) 8 (n 1) (.inl (a 1, 12, .inl f))) 3 1 (.inr (3, [.int (S 3 1 0 + 1), .ref e, .int (nI (n 1 + 1))]))) (k := 3) (p := 1) (show 1 < 4 by decide) 15 (by decide)
    rw [skp_upC, upC_s] at h3
    have h4 := pool_ins0 (icn (icn (cntC n cap) 7) 8) (ins1 (ins1 A 7 (n 1) q) 8 (n 1) r) (upC (ins1 (ins1 (cells a E0 n cap A g en S) 7 (n 1) (.inr (7, [.ref r, .int 0]))) 8 (n 1) (.inl (a 1, 12, .inl f))) 3 1 (.inr (3, [.int (S 3 1 0 + 1), .ref e, .int (nI (n 1 + 1))]))) (k := 12) e (.inl (a 6, 10, .inr (.inr (.inr (.inr (va_up (fun _ => none) 0 (some q))))))) (show (if cap 1 = 0 then 0 else 1) = 0 from if_pos hz) (K := 15) (by decide)
    refine ((?_ : List.Perm _ _).trans ((List.Perm.cons _ h3.symm).trans h4)).trans (List.Perm.of_eq ?_)
    · rw [hn0]
      exact List.Perm.swap _ _ _
    · have hrow : va_up (fun _ => none) 0 (some q) = lsF (updN n 1 (n 1 + 1)) (upC (ins1 (ins1 A 7 (n 1) q) 8 (n 1) r) 12 0 e) 1 := by
        rw [← ad1_row (n := n) (A := A) (q := q) (r := r) (e := e), hn0]
        funext i
        have e6 : ∀ z, lsF n A 1 z = none := fun z => lsF_no (by omega)
        unfold va_up
        split
        · rfl
        · exact (e6 i).symm
      rw [hrow]
      refine ad1_fin (fun k hk => ?_) (by decide) hg
      have hk2 : k = 0 ∨ k = 1 ∨ k = 2 ∨ k = 3 ∨ k = 4 ∨ k = 5 ∨ k = 6 ∨ k = 7 ∨ k = 8 ∨ k = 9 ∨ k = 10 ∨ k = 11 ∨ k = 12 ∨ k = 13 ∨ k = 14 := by omega
      rcases hk2 with rfl | rfl | rfl | rfl | rfl | rfl | rfl | rfl | rfl | rfl | rfl | rfl | rfl | rfl | rfl <;> first | rfl | simp [icn, cntC, updN, hz] | simp [icn, cntC, updN]
  · have h1 := pool_two (icn (icn (cntC n cap) 7) 8) (ins1 (ins1 A 7 (n 1) q) 8 (n 1) r) (ins1 (ins1 (cells a E0 n cap A g en S) 7 (n 1) (.inr (7, [.ref r, .int 0]))) 8 (n 1) (.inl (a 1, 12, .inl f))) (k := 3) (p := 1) (k2 := 12) (p2 := 0) (K := 15) (show 1 < 4 by decide) (show 0 < (if cap 1 = 0 then 0 else 1) by rw [if_neg hz]; decide) (by decide) (by decide) (by decide)
    have e1 : (ins1 (ins1 (cells a E0 n cap A g en S) 7 (n 1) (.inr (7, [.ref r, .int 0]))) 8 (n 1) (.inl (a 1, 12, .inl f))) 3 1 = .inr (3, [.int (S 3 1 0), .ref (A 12 0), .int (nI (n 1))]) := by
      show Sum.inr (3, [Value.int (S 3 1 0), .ref (if cap 1 = 0 then E0 else A (11 + 1) 0), .int (nI (n 1))]) = _
      rw [if_neg hz]
    have e2 : (ins1 (ins1 (cells a E0 n cap A g en S) 7 (n 1) (.inr (7, [.ref r, .int 0]))) 8 (n 1) (.inl (a 1, 12, .inl f))) 12 0 = .inl (a 6, cap 1, .inr (.inr (.inr (.inr (lsF n A 1))))) := rfl
    rw [e1, e2] at h1
    have h2 := h0.trans h1
    have hx2 := elO_one (b := 0) (fs := []) (z := .inr (0, [])) h2 ⟨_, rfl⟩ (fun _ h => by cases h) hxx
    by_cases hr0 : n 1 < cap 1
    · refine Ct.lift (cA_addR hl hx2 hr0 hc) [] (by rw [List.append_nil]; exact h2) (fun z w hr => ?_) (fun _ _ h => h.elim)
      obtain ⟨v, rfl, rfl, rfl⟩ := hr
      refine ⟨_, [], ⟨_, rfl, rfl, A 12 0, cap 1, Or.inl ⟨rfl, hr0⟩, rfl⟩, ?_⟩
      rw [ad1_row (r := r) (e := A 12 0)]
      rw [List.append_nil, List.append_nil]
      have h3 := pool_two_put (icn (icn (cntC n cap) 7) 8) (ins1 (ins1 A 7 (n 1) q) 8 (n 1) r) (ins1 (ins1 (cells a E0 n cap A g en S) 7 (n 1) (.inr (7, [.ref r, .int 0]))) 8 (n 1) (.inl (a 1, 12, .inl f))) (k := 3) (p := 1) (k2 := 12) (p2 := 0) (K := 15) (A 12 0) (.inr (3, [.int (S 3 1 0 + 1), .ref (A 12 0), .int (nI (n 1 + 1))])) (.inl (a 6, cap 1, .inr (.inr (.inr (.inr (lsF (updN n 1 (n 1 + 1)) (upC (ins1 (ins1 A 7 (n 1) q) 8 (n 1) r) 12 0 (A 12 0)) 1)))))) (show 1 < 4 by decide) (show 0 < (if cap 1 = 0 then 0 else 1) by rw [if_neg hz]; decide) (by decide) (by decide) (by decide)
      refine List.Perm.trans h3 (List.Perm.of_eq ?_)
      refine ad1_fin (fun k hk => ?_) (by omega) hg
      have hk2 : k = 0 ∨ k = 1 ∨ k = 2 ∨ k = 3 ∨ k = 4 ∨ k = 5 ∨ k = 6 ∨ k = 7 ∨ k = 8 ∨ k = 9 ∨ k = 10 ∨ k = 11 ∨ k = 12 ∨ k = 13 ∨ k = 14 := by omega
      rcases hk2 with rfl | rfl | rfl | rfl | rfl | rfl | rfl | rfl | rfl | rfl | rfl | rfl | rfl | rfl | rfl <;> first | rfl | simp [icn, cntC, updN, hz] | (simp only [icn, cntC, updN]; simp [hz]; omega)
    · exact absurd hcap (by omega)
theorem ad2_in {q G : Nat} {s0 s1 s2 s3 : Int32}  : (wC a E0 n cap A g en S ++ ([(q, .inr (6, [.ref (A 7 G), .int s0, .int s1, .int s2, .int s3, .int 0, .int 0]))] : va_W)).Perm (pool 15 (icn (cntC n cap) 9) (ins1 A 9 (n 2) q) (ins1 (cells a E0 n cap A g en S) 9 (n 2) (.inr (6, [.ref (A 7 G), .int s0, .int s1, .int s2, .int s3, .int 0, .int 0])))) := by
  refine (List.perm_append_comm).trans ?_
  exact pool_ins (cntC n cap) A (cells a E0 n cap A g en S) (k := 9) (p := (n 2)) q _ (show (n 2) ≤ n 2 from (Nat.le_refl _)) (by decide)
theorem ad2_fin {q G : Nat} {s0 s1 s2 s3 : Int32} {e c' : Nat} {cnt : Nat → Nat} (hcnt : ∀ k, k < 15 → cnt k = cntC (updN n 2 (n 2 + 1)) (updN cap 2 c') k) (hc0 : ¬ c' = 0) : pool 15 cnt (upC (ins1 A 9 (n 2) q) 13 0 e) (upC (upC (ins1 (cells a E0 n cap A g en S) 9 (n 2) (.inr (6, [.ref (A 7 G), .int s0, .int s1, .int s2, .int s3, .int 0, .int 0]))) 3 2 (.inr (3, [.int (S 3 2 0 + 1), .ref e, .int (nI (n 2 + 1))]))) 13 0 (.inl (a 6, c', .inr (.inr (.inr (.inr (lsF (updN n 2 (n 2 + 1)) (upC (ins1 A 9 (n 2) q) 13 0 e) 2))))))) = wC a E0 (updN n 2 (n 2 + 1)) (updN cap 2 c') (upC (ins1 A 9 (n 2) q) 13 0 e) (updN g (n 2) G) en (uS (ins1 S 9 (n 2) (efR s0 s1 s2 s3)) 3 2 0 (S 3 2 0 + 1)) := by
  refine pool_congr 15 (fun k hk => ⟨hcnt k hk, fun i hi => ⟨rfl, ?_⟩⟩)
  rw [hcnt k hk] at hi
  have hk2 : k = 0 ∨ k = 1 ∨ k = 2 ∨ k = 3 ∨ k = 4 ∨ k = 5 ∨ k = 6 ∨ k = 7 ∨ k = 8 ∨ k = 9 ∨ k = 10 ∨ k = 11 ∨ k = 12 ∨ k = 13 ∨ k = 14 := by omega
  rcases hk2 with rfl | rfl | rfl | rfl | rfl | rfl | rfl | rfl | rfl | rfl | rfl | rfl | rfl | rfl | rfl
  · rfl
  · rfl
  · rfl
  · have hi2 : i < 4 := hi
    have hk3 : i = 0 ∨ i = 1 ∨ i = 2 ∨ i = 3 := by omega
    rcases hk3 with rfl | rfl | rfl | rfl
    · rfl
    · rfl
    · show Sum.inr (3, [Value.int (S 3 2 0 + 1), .ref e, .int (nI (n 2 + 1))]) = Sum.inr (3, [Value.int (S 3 2 0 + 1), .ref (if updN cap 2 c' 2 = 0 then E0 else e), .int (nI (updN n 2 (n 2 + 1) 2))])
      rw [updN_s, if_neg hc0, updN_s]
    · rfl
  · rfl
  · rfl
  · rfl
  · rfl
  · rfl
  · rcases Nat.lt_trichotomy i (n 2) with h | h | h
    · simp [upC, ins1, cells, cellC, uS, updN, h, Nat.ne_of_lt h]
    · subst h
      simp [upC, ins1, cells, cellC, uS, updN, cuR, efR, stR]
    · exact absurd (show i < n 2 + 1 by have hi2 : i < updN n 2 (n 2 + 1) 2 := hi; rwa [updN_s] at hi2) (by omega)
  · rfl
  · rfl
  · rfl
  · have hi2 : i < (if updN cap 2 c' 2 = 0 then 0 else 1) := hi
    rw [updN_s, if_neg hc0] at hi2
    obtain rfl : i = 0 := by omega
    show Sum.inl (a 6, c', Sum.inr (Sum.inr (Sum.inr (Sum.inr (lsF (updN n 2 (n 2 + 1)) (upC (ins1 A 9 (n 2) q) 13 0 e) 2))))) = Sum.inl (a 6, updN cap 2 c' 2, _)
    rw [updN_s]
  · rfl
theorem ad2_row {q e : Nat} : va_up (lsF n A 2) (n 2) (some q) = (lsF (updN n 2 (n 2 + 1)) (upC (ins1 A 9 (n 2) q) 13 0 e) 2) := by
  funext i
  rcases Nat.lt_trichotomy i (n 2) with h | h | h
  · have h4 : i < n 2 + 1 := by omega
    simp [va_up, lsF, updN, kE, upC, ins1, h, h4, Nat.ne_of_lt h]
  · subst h
    simp [va_up, lsF, updN, kE, upC, ins1]
  · have h4 : ¬ i < n 2 + 1 := by omega
    simp [va_up, lsF, updN, Nat.not_lt.mpr (Nat.le_of_lt h), Nat.ne_of_gt h, h4]
theorem cC_add2 (hl : l.stackTraces = false) {q G : Nat} {s0 s1 s2 s3 : Int32} (hN : n 2 ≤ cap 2) (hc : cap 2 < 1000) (hcap : n 2 < cap 2 ∨ cap 2 = 0) : Ct (gm D a E0) l yJx4a65c_add_9ea2d wsJx4a65c_add_9ea2d { frames := 24, cells := 1, slots := 22, locals := 600 } [.ref (A 3 2), .ref q] (wC a E0 n cap A g en S ++ ([(q, .inr (6, [.ref (A 7 G), .int s0, .int s1, .int s2, .int s3, .int 0, .int 0]))] : va_W)) (qI fun v w => v = 1 ∧ ∃ e c', CapN (cap 2) (n 2) c' ∧ w = wC a E0 (updN n 2 (n 2 + 1)) (updN cap 2 c') (upC (ins1 A 9 (n 2) q) 13 0 e) (updN g (n 2) G) en (uS (ins1 S 9 (n 2) (efR s0 s1 s2 s3)) 3 2 0 (S 3 2 0 + 1))) noX := by
  have h0 := ad2_in (a := a) (E0 := E0) (n := n) (cap := cap) (A := A) (g := g) (en := en) (S := S) (q := q) (G := G) (s0 := s0) (s1 := s1) (s2 := s2) (s3 := s3) 
  have hxx : elO (wC a E0 n cap A g en S ++ ([(q, .inr (6, [.ref (A 7 G), .int s0, .int s1, .int s2, .int s3, .int 0, .int 0]))] : va_W)) (fun _ => some q) := fun _ y hy => by
    cases hy
    exact ⟨_, _, _, _, _, List.mem_append_right _ List.mem_cons_self, rfl, by decide⟩
  by_cases hz : cap 2 = 0
  · have hn0 : n 2 = 0 := by omega
    have h1 := pool_take (icn (cntC n cap) 9) (ins1 A 9 (n 2) q) (ins1 (cells a E0 n cap A g en S) 9 (n 2) (.inr (6, [.ref (A 7 G), .int s0, .int s1, .int s2, .int s3, .int 0, .int 0]))) (k := 3) (p := 2) (show 2 < 4 by decide) 15 (by decide)
    have e1 : (ins1 (cells a E0 n cap A g en S) 9 (n 2) (.inr (6, [.ref (A 7 G), .int s0, .int s1, .int s2, .int s3, .int 0, .int 0]))) 3 2 = .inr (3, [.int (S 3 2 0), .ref E0, .int (nI 0)]) := by
      show Sum.inr (3, [Value.int (S 3 2 0), .ref (if cap 2 = 0 then E0 else A (11 + 2) 0), .int (nI (n 2))]) = _
      rw [if_pos hz, hn0]
    rw [e1] at h1
    have h2 := h0.trans h1
    refine Ct.lift (cA_addE hl (b := A 3 2) (mc := S 3 2 0) (x := q) (elO_oneE h2 ⟨_, rfl⟩ hxx)) [] (by rw [List.append_nil]; exact h2) (fun z w hr => ?_) (fun _ _ h => h.elim)
    obtain ⟨v, rfl, rfl, e, rfl⟩ := hr
    refine ⟨_, [], ⟨_, rfl, rfl, e, 10, Or.inr (Or.inl ⟨hz, rfl⟩), rfl⟩, ?_⟩
    rw [List.append_nil, List.append_nil]
    have h3 := pool_take (icn (cntC n cap) 9) (ins1 A 9 (n 2) q) (upC (ins1 (cells a E0 n cap A g en S) 9 (n 2) (.inr (6, [.ref (A 7 G), .int s0, .int s1, .int s2, .int s3, .int 0, .int 0]))) 3 2 (.inr (3, [.int (S 3 2 0 + 1), .ref e, .int (nI (n 2 + 1))]))) (k := 3) (p := 2) (show 2 < 4 by decide) 15 (by decide)
    rw [skp_upC, upC_s] at h3
    have h4 := pool_ins0 (icn (cntC n cap) 9) (ins1 A 9 (n 2) q) (upC (ins1 (cells a E0 n cap A g en S) 9 (n 2) (.inr (6, [.ref (A 7 G), .int s0, .int s1, .int s2, .int s3, .int 0, .int 0]))) 3 2 (.inr (3, [.int (S 3 2 0 + 1), .ref e, .int (nI (n 2 + 1))]))) (k := 13) e (.inl (a 6, 10, .inr (.inr (.inr (.inr (va_up (fun _ => none) 0 (some q))))))) (show (if cap 2 = 0 then 0 else 1) = 0 from if_pos hz) (K := 15) (by decide)
    refine ((?_ : List.Perm _ _).trans ((List.Perm.cons _ h3.symm).trans h4)).trans (List.Perm.of_eq ?_)
    · rw [hn0]
      exact List.Perm.swap _ _ _
    · have hrow : va_up (fun _ => none) 0 (some q) = lsF (updN n 2 (n 2 + 1)) (upC (ins1 A 9 (n 2) q) 13 0 e) 2 := by
        rw [← ad2_row (n := n) (A := A) (q := q) (e := e), hn0]
        funext i
        have e6 : ∀ z, lsF n A 2 z = none := fun z => lsF_no (by omega)
        unfold va_up
        split
        · rfl
        · exact (e6 i).symm
      rw [hrow]
      refine ad2_fin (fun k hk => ?_) (by decide)
      have hk2 : k = 0 ∨ k = 1 ∨ k = 2 ∨ k = 3 ∨ k = 4 ∨ k = 5 ∨ k = 6 ∨ k = 7 ∨ k = 8 ∨ k = 9 ∨ k = 10 ∨ k = 11 ∨ k = 12 ∨ k = 13 ∨ k = 14 := by omega
      rcases hk2 with rfl | rfl | rfl | rfl | rfl | rfl | rfl | rfl | rfl | rfl | rfl | rfl | rfl | rfl | rfl <;> first | rfl | simp [icn, cntC, updN, hz] | simp [icn, cntC, updN]
  · have h1 := pool_two (icn (cntC n cap) 9) (ins1 A 9 (n 2) q) (ins1 (cells a E0 n cap A g en S) 9 (n 2) (.inr (6, [.ref (A 7 G), .int s0, .int s1, .int s2, .int s3, .int 0, .int 0]))) (k := 3) (p := 2) (k2 := 13) (p2 := 0) (K := 15) (show 2 < 4 by decide) (show 0 < (if cap 2 = 0 then 0 else 1) by rw [if_neg hz]; decide) (by decide) (by decide) (by decide)
    have e1 : (ins1 (cells a E0 n cap A g en S) 9 (n 2) (.inr (6, [.ref (A 7 G), .int s0, .int s1, .int s2, .int s3, .int 0, .int 0]))) 3 2 = .inr (3, [.int (S 3 2 0), .ref (A 13 0), .int (nI (n 2))]) := by
      show Sum.inr (3, [Value.int (S 3 2 0), .ref (if cap 2 = 0 then E0 else A (11 + 2) 0), .int (nI (n 2))]) = _
      rw [if_neg hz]
    have e2 : (ins1 (cells a E0 n cap A g en S) 9 (n 2) (.inr (6, [.ref (A 7 G), .int s0, .int s1, .int s2, .int s3, .int 0, .int 0]))) 13 0 = .inl (a 6, cap 2, .inr (.inr (.inr (.inr (lsF n A 2))))) := rfl
    rw [e1, e2] at h1
    have h2 := h0.trans h1
    have hx2 := elO_one (b := 0) (fs := []) (z := .inr (0, [])) h2 ⟨_, rfl⟩ (fun _ h => by cases h) hxx
    by_cases hr0 : n 2 < cap 2
    · refine Ct.lift (cA_addR hl hx2 hr0 hc) [] (by rw [List.append_nil]; exact h2) (fun z w hr => ?_) (fun _ _ h => h.elim)
      obtain ⟨v, rfl, rfl, rfl⟩ := hr
      refine ⟨_, [], ⟨_, rfl, rfl, A 13 0, cap 2, Or.inl ⟨rfl, hr0⟩, rfl⟩, ?_⟩
      rw [ad2_row (e := A 13 0)]
      rw [List.append_nil, List.append_nil]
      have h3 := pool_two_put (icn (cntC n cap) 9) (ins1 A 9 (n 2) q) (ins1 (cells a E0 n cap A g en S) 9 (n 2) (.inr (6, [.ref (A 7 G), .int s0, .int s1, .int s2, .int s3, .int 0, .int 0]))) (k := 3) (p := 2) (k2 := 13) (p2 := 0) (K := 15) (A 13 0) (.inr (3, [.int (S 3 2 0 + 1), .ref (A 13 0), .int (nI (n 2 + 1))])) (.inl (a 6, cap 2, .inr (.inr (.inr (.inr (lsF (updN n 2 (n 2 + 1)) (upC (ins1 A 9 (n 2) q) 13 0 (A 13 0)) 2)))))) (show 2 < 4 by decide) (show 0 < (if cap 2 = 0 then 0 else 1) by rw [if_neg hz]; decide) (by decide) (by decide) (by decide)
      refine List.Perm.trans h3 (List.Perm.of_eq ?_)
      refine ad2_fin (fun k hk => ?_) (by omega)
      have hk2 : k = 0 ∨ k = 1 ∨ k = 2 ∨ k = 3 ∨ k = 4 ∨ k = 5 ∨ k = 6 ∨ k = 7 ∨ k = 8 ∨ k = 9 ∨ k = 10 ∨ k = 11 ∨ k = 12 ∨ k = 13 ∨ k = 14 := by omega
      rcases hk2 with rfl | rfl | rfl | rfl | rfl | rfl | rfl | rfl | rfl | rfl | rfl | rfl | rfl | rfl | rfl <;> first | rfl | simp [icn, cntC, updN, hz] | (simp only [icn, cntC, updN]; simp [hz]; omega)
    · exact absurd hcap (by omega)
theorem ad3_in {q : Nat} {s0 s1 s2 : Int32}  : (wC a E0 n cap A g en S ++ ([(q, .inr (8, [.int s0, .int s1, .int s2]))] : va_W)).Perm (pool 15 (icn (cntC n cap) 10) (ins1 A 10 (n 3) q) (ins1 (cells a E0 n cap A g en S) 10 (n 3) (.inr (8, [.int s0, .int s1, .int s2])))) := by
  refine (List.perm_append_comm).trans ?_
  exact pool_ins (cntC n cap) A (cells a E0 n cap A g en S) (k := 10) (p := (n 3)) q _ (show (n 3) ≤ n 3 from (Nat.le_refl _)) (by decide)
theorem ad3_fin {q : Nat} {s0 s1 s2 : Int32} {e c' : Nat} {cnt : Nat → Nat} (hcnt : ∀ k, k < 15 → cnt k = cntC (updN n 3 (n 3 + 1)) (updN cap 3 c') k) (hc0 : ¬ c' = 0) : pool 15 cnt (upC (ins1 A 10 (n 3) q) 14 0 e) (upC (upC (ins1 (cells a E0 n cap A g en S) 10 (n 3) (.inr (8, [.int s0, .int s1, .int s2]))) 3 3 (.inr (3, [.int (S 3 3 0 + 1), .ref e, .int (nI (n 3 + 1))]))) 14 0 (.inl (a 6, c', .inr (.inr (.inr (.inr (lsF (updN n 3 (n 3 + 1)) (upC (ins1 A 10 (n 3) q) 14 0 e) 3))))))) = wC a E0 (updN n 3 (n 3 + 1)) (updN cap 3 c') (upC (ins1 A 10 (n 3) q) 14 0 e) g en (uS (ins1 S 10 (n 3) (stR s0 s1 s2)) 3 3 0 (S 3 3 0 + 1)) := by
  refine pool_congr 15 (fun k hk => ⟨hcnt k hk, fun i hi => ⟨rfl, ?_⟩⟩)
  rw [hcnt k hk] at hi
  have hk2 : k = 0 ∨ k = 1 ∨ k = 2 ∨ k = 3 ∨ k = 4 ∨ k = 5 ∨ k = 6 ∨ k = 7 ∨ k = 8 ∨ k = 9 ∨ k = 10 ∨ k = 11 ∨ k = 12 ∨ k = 13 ∨ k = 14 := by omega
  rcases hk2 with rfl | rfl | rfl | rfl | rfl | rfl | rfl | rfl | rfl | rfl | rfl | rfl | rfl | rfl | rfl
  · rfl
  · rfl
  · rfl
  · have hi2 : i < 4 := hi
    have hk3 : i = 0 ∨ i = 1 ∨ i = 2 ∨ i = 3 := by omega
    rcases hk3 with rfl | rfl | rfl | rfl
    · rfl
    · rfl
    · rfl
    · show Sum.inr (3, [Value.int (S 3 3 0 + 1), .ref e, .int (nI (n 3 + 1))]) = Sum.inr (3, [Value.int (S 3 3 0 + 1), .ref (if updN cap 3 c' 3 = 0 then E0 else e), .int (nI (updN n 3 (n 3 + 1) 3))])
      rw [updN_s, if_neg hc0, updN_s]
  · rfl
  · rfl
  · rfl
  · rfl
  · rfl
  · rfl
  · rcases Nat.lt_trichotomy i (n 3) with h | h | h
    · simp [upC, ins1, cells, cellC, uS, updN, h]
    · subst h
      simp [upC, ins1, cells, cellC, uS, updN, cuR, efR, stR]
    · exact absurd (show i < n 3 + 1 by have hi2 : i < updN n 3 (n 3 + 1) 3 := hi; rwa [updN_s] at hi2) (by omega)
  · rfl
  · rfl
  · rfl
  · have hi2 : i < (if updN cap 3 c' 3 = 0 then 0 else 1) := hi
    rw [updN_s, if_neg hc0] at hi2
    obtain rfl : i = 0 := by omega
    show Sum.inl (a 6, c', Sum.inr (Sum.inr (Sum.inr (Sum.inr (lsF (updN n 3 (n 3 + 1)) (upC (ins1 A 10 (n 3) q) 14 0 e) 3))))) = Sum.inl (a 6, updN cap 3 c' 3, _)
    rw [updN_s]
theorem ad3_row {q e : Nat} : va_up (lsF n A 3) (n 3) (some q) = (lsF (updN n 3 (n 3 + 1)) (upC (ins1 A 10 (n 3) q) 14 0 e) 3) := by
  funext i
  rcases Nat.lt_trichotomy i (n 3) with h | h | h
  · have h4 : i < n 3 + 1 := by omega
    simp [va_up, lsF, updN, kE, upC, ins1, h, h4, Nat.ne_of_lt h]
  · subst h
    simp [va_up, lsF, updN, kE, upC, ins1]
  · have h4 : ¬ i < n 3 + 1 := by omega
    simp [va_up, lsF, updN, Nat.not_lt.mpr (Nat.le_of_lt h), Nat.ne_of_gt h, h4]
theorem cC_add3 (hl : l.stackTraces = false) {q : Nat} {s0 s1 s2 : Int32} (hN : n 3 ≤ cap 3) (hc : cap 3 < 1000) (hcap : n 3 < cap 3 ∨ cap 3 = 0) : Ct (gm D a E0) l yJx4a65c_add_9ea2d wsJx4a65c_add_9ea2d { frames := 24, cells := 1, slots := 22, locals := 600 } [.ref (A 3 3), .ref q] (wC a E0 n cap A g en S ++ ([(q, .inr (8, [.int s0, .int s1, .int s2]))] : va_W)) (qI fun v w => v = 1 ∧ ∃ e c', CapN (cap 3) (n 3) c' ∧ w = wC a E0 (updN n 3 (n 3 + 1)) (updN cap 3 c') (upC (ins1 A 10 (n 3) q) 14 0 e) g en (uS (ins1 S 10 (n 3) (stR s0 s1 s2)) 3 3 0 (S 3 3 0 + 1))) noX := by
  have h0 := ad3_in (a := a) (E0 := E0) (n := n) (cap := cap) (A := A) (g := g) (en := en) (S := S) (q := q) (s0 := s0) (s1 := s1) (s2 := s2) 
  have hxx : elO (wC a E0 n cap A g en S ++ ([(q, .inr (8, [.int s0, .int s1, .int s2]))] : va_W)) (fun _ => some q) := fun _ y hy => by
    cases hy
    exact ⟨_, _, _, _, _, List.mem_append_right _ List.mem_cons_self, rfl, by decide⟩
  by_cases hz : cap 3 = 0
  · have hn0 : n 3 = 0 := by omega
    have h1 := pool_take (icn (cntC n cap) 10) (ins1 A 10 (n 3) q) (ins1 (cells a E0 n cap A g en S) 10 (n 3) (.inr (8, [.int s0, .int s1, .int s2]))) (k := 3) (p := 3) (show 3 < 4 by decide) 15 (by decide)
    have e1 : (ins1 (cells a E0 n cap A g en S) 10 (n 3) (.inr (8, [.int s0, .int s1, .int s2]))) 3 3 = .inr (3, [.int (S 3 3 0), .ref E0, .int (nI 0)]) := by
      show Sum.inr (3, [Value.int (S 3 3 0), .ref (if cap 3 = 0 then E0 else A (11 + 3) 0), .int (nI (n 3))]) = _
      rw [if_pos hz, hn0]
    rw [e1] at h1
    have h2 := h0.trans h1
    refine Ct.lift (cA_addE hl (b := A 3 3) (mc := S 3 3 0) (x := q) (elO_oneE h2 ⟨_, rfl⟩ hxx)) [] (by rw [List.append_nil]; exact h2) (fun z w hr => ?_) (fun _ _ h => h.elim)
    obtain ⟨v, rfl, rfl, e, rfl⟩ := hr
    refine ⟨_, [], ⟨_, rfl, rfl, e, 10, Or.inr (Or.inl ⟨hz, rfl⟩), rfl⟩, ?_⟩
    rw [List.append_nil, List.append_nil]
    have h3 := pool_take (icn (cntC n cap) 10) (ins1 A 10 (n 3) q) (upC (ins1 (cells a E0 n cap A g en S) 10 (n 3) (.inr (8, [.int s0, .int s1, .int s2]))) 3 3 (.inr (3, [.int (S 3 3 0 + 1), .ref e, .int (nI (n 3 + 1))]))) (k := 3) (p := 3) (show 3 < 4 by decide) 15 (by decide)
    rw [skp_upC, upC_s] at h3
    have h4 := pool_ins0 (icn (cntC n cap) 10) (ins1 A 10 (n 3) q) (upC (ins1 (cells a E0 n cap A g en S) 10 (n 3) (.inr (8, [.int s0, .int s1, .int s2]))) 3 3 (.inr (3, [.int (S 3 3 0 + 1), .ref e, .int (nI (n 3 + 1))]))) (k := 14) e (.inl (a 6, 10, .inr (.inr (.inr (.inr (va_up (fun _ => none) 0 (some q))))))) (show (if cap 3 = 0 then 0 else 1) = 0 from if_pos hz) (K := 15) (by decide)
    refine ((?_ : List.Perm _ _).trans ((List.Perm.cons _ h3.symm).trans h4)).trans (List.Perm.of_eq ?_)
    · rw [hn0]
      exact List.Perm.swap _ _ _
    · have hrow : va_up (fun _ => none) 0 (some q) = lsF (updN n 3 (n 3 + 1)) (upC (ins1 A 10 (n 3) q) 14 0 e) 3 := by
        rw [← ad3_row (n := n) (A := A) (q := q) (e := e), hn0]
        funext i
        have e6 : ∀ z, lsF n A 3 z = none := fun z => lsF_no (by omega)
        unfold va_up
        split
        · rfl
        · exact (e6 i).symm
      rw [hrow]
      refine ad3_fin (fun k hk => ?_) (by decide)
      have hk2 : k = 0 ∨ k = 1 ∨ k = 2 ∨ k = 3 ∨ k = 4 ∨ k = 5 ∨ k = 6 ∨ k = 7 ∨ k = 8 ∨ k = 9 ∨ k = 10 ∨ k = 11 ∨ k = 12 ∨ k = 13 ∨ k = 14 := by omega
      rcases hk2 with rfl | rfl | rfl | rfl | rfl | rfl | rfl | rfl | rfl | rfl | rfl | rfl | rfl | rfl | rfl <;> first | rfl | simp [icn, cntC, updN, hz] | simp [icn, cntC, updN]
  · have h1 := pool_two (icn (cntC n cap) 10) (ins1 A 10 (n 3) q) (ins1 (cells a E0 n cap A g en S) 10 (n 3) (.inr (8, [.int s0, .int s1, .int s2]))) (k := 3) (p := 3) (k2 := 14) (p2 := 0) (K := 15) (show 3 < 4 by decide) (show 0 < (if cap 3 = 0 then 0 else 1) by rw [if_neg hz]; decide) (by decide) (by decide) (by decide)
    have e1 : (ins1 (cells a E0 n cap A g en S) 10 (n 3) (.inr (8, [.int s0, .int s1, .int s2]))) 3 3 = .inr (3, [.int (S 3 3 0), .ref (A 14 0), .int (nI (n 3))]) := by
      show Sum.inr (3, [Value.int (S 3 3 0), .ref (if cap 3 = 0 then E0 else A (11 + 3) 0), .int (nI (n 3))]) = _
      rw [if_neg hz]
    have e2 : (ins1 (cells a E0 n cap A g en S) 10 (n 3) (.inr (8, [.int s0, .int s1, .int s2]))) 14 0 = .inl (a 6, cap 3, .inr (.inr (.inr (.inr (lsF n A 3))))) := rfl
    rw [e1, e2] at h1
    have h2 := h0.trans h1
    have hx2 := elO_one (b := 0) (fs := []) (z := .inr (0, [])) h2 ⟨_, rfl⟩ (fun _ h => by cases h) hxx
    by_cases hr0 : n 3 < cap 3
    · refine Ct.lift (cA_addR hl hx2 hr0 hc) [] (by rw [List.append_nil]; exact h2) (fun z w hr => ?_) (fun _ _ h => h.elim)
      obtain ⟨v, rfl, rfl, rfl⟩ := hr
      refine ⟨_, [], ⟨_, rfl, rfl, A 14 0, cap 3, Or.inl ⟨rfl, hr0⟩, rfl⟩, ?_⟩
      rw [ad3_row (e := A 14 0)]
      rw [List.append_nil, List.append_nil]
      have h3 := pool_two_put (icn (cntC n cap) 10) (ins1 A 10 (n 3) q) (ins1 (cells a E0 n cap A g en S) 10 (n 3) (.inr (8, [.int s0, .int s1, .int s2]))) (k := 3) (p := 3) (k2 := 14) (p2 := 0) (K := 15) (A 14 0) (.inr (3, [.int (S 3 3 0 + 1), .ref (A 14 0), .int (nI (n 3 + 1))])) (.inl (a 6, cap 3, .inr (.inr (.inr (.inr (lsF (updN n 3 (n 3 + 1)) (upC (ins1 A 10 (n 3) q) 14 0 (A 14 0)) 3)))))) (show 3 < 4 by decide) (show 0 < (if cap 3 = 0 then 0 else 1) by rw [if_neg hz]; decide) (by decide) (by decide) (by decide)
      refine List.Perm.trans h3 (List.Perm.of_eq ?_)
      refine ad3_fin (fun k hk => ?_) (by omega)
      have hk2 : k = 0 ∨ k = 1 ∨ k = 2 ∨ k = 3 ∨ k = 4 ∨ k = 5 ∨ k = 6 ∨ k = 7 ∨ k = 8 ∨ k = 9 ∨ k = 10 ∨ k = 11 ∨ k = 12 ∨ k = 13 ∨ k = 14 := by omega
      rcases hk2 with rfl | rfl | rfl | rfl | rfl | rfl | rfl | rfl | rfl | rfl | rfl | rfl | rfl | rfl | rfl <;> first | rfl | simp [icn, cntC, updN, hz] | (simp only [icn, cntC, updN]; simp [hz]; omega)
    · exact absurd hcap (by omega)
end CA
