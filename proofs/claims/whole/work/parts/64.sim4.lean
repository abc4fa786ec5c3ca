/-! cues put in and taken out: class and reference alike -/
section S4
variable {n cap g : Nat → Nat} {en e : Int64} {S T : Nat → Nat → Nat → Int32} {I J : Nat → Nat → Int32} {q ng ne nt c : Nat}
/-- cue j of J is cue k of I -/
def cuM (I : Nat → Nat → Int32) (k : Nat) (J : Nat → Nat → Int32) (j : Nat) : Prop := J 0 j = I 0 k ∧ J 1 j = I 1 k ∧ J 2 j = I 2 k ∧ J 3 j = I 3 k ∧ ∀ c, c < 12 → J 4 (12 * j + c) = I 4 (12 * k + c)
theorem cuM.rf (I : Nat → Nat → Int32) (k : Nat) : cuM I k I k := ⟨rfl, rfl, rfl, rfl, fun _ _ => rfl⟩
theorem cuM.tr {K : Nat → Nat → Int32} {i j k : Nat} (h1 : cuM I i J j) (h2 : cuM J j K k) : cuM I i K k := ⟨h2.1.trans h1.1, h2.2.1.trans h1.2.1, h2.2.2.1.trans h1.2.2.1, h2.2.2.2.1.trans h1.2.2.2.1, fun c hc => (h2.2.2.2.2 c hc).trans (h1.2.2.2.2 c hc)⟩
theorem cuM.ok {i j : Nat} (h : cuM I i J j) (hk : cuOK I i) : cuOK J j := by
  obtain ⟨a, b, c, d, f⟩ := h
  unfold cuOK
  rw [a, b, c, d]
  refine ⟨hk.1, hk.2.1, hk.2.2.1, hk.2.2.2.1, fun c hc => ?_⟩
  rw [f c hc]
  exact hk.2.2.2.2 c hc
theorem cuM.cu {i j : Nat} (h : cuM I i J j) (h5 : ∀ r, T 5 j r = S 5 i r) (h6 : ∀ c, c < 12 → T 6 j c = S 6 i c) (hk : cuE S I i) : cuE T J j := by
  obtain ⟨a, b, c, d, f⟩ := h
  unfold cuE
  rw [a, b, c, d, h5, h5, h5, h5]
  refine ⟨hk.1, hk.2.1, hk.2.2.1, hk.2.2.2.1, fun c hc => ?_⟩
  rw [f c hc, h6 c hc]
  exact hk.2.2.2.2 c hc
theorem cpL_at (x y : Nat) : ∀ (m c : Nat) (I : Nat → Nat → Int32) (z : Nat), c + m ≤ 12 → cpL x y m c I 4 z = if 12 * y + c ≤ z ∧ z < 12 * y + c + m then I 4 (12 * x + (z - 12 * y)) else I 4 z
  | 0, c, I, z, _ => by rw [cpL, if_neg (by omega)]
  | m + 1, c, I, z, hm => by
    rw [cpL, cpL_at x y m (c + 1) _ z (by omega)]
    by_cases h1 : 12 * y + (c + 1) ≤ z ∧ z < 12 * y + (c + 1) + m
    · rw [if_pos h1, if_pos (by omega), uI_s, if_neg (by omega)]
    · rw [if_neg h1, uI_s]
      by_cases h2 : z = 12 * y + c
      · rw [if_pos h2, if_pos (by omega)]
        congr 1
        omega
      · rw [if_neg h2, if_neg (by omega)]
theorem cp1_4 (I : Nat → Nat → Int32) (x y : Nat) : cp1 I x y 4 = I 4 := rfl
theorem cpM_4 (I : Nat → Nat → Int32) (x y z : Nat) : cpM I x y 4 z = if 12 * y ≤ z ∧ z < 12 * y + 12 then I 4 (12 * x + (z - 12 * y)) else I 4 z := by
  rw [cpM, cpL_at x y 12 0 _ z (by omega), cp1_4]
  rfl
theorem cpM_r (I : Nat → Nat → Int32) (x y : Nat) : cpM I x y 0 = upd (I 0) y (I 0 x) ∧ cpM I x y 1 = upd (I 1) y (I 1 x) ∧ cpM I x y 2 = upd (I 2) y (I 2 x) ∧ cpM I x y 3 = upd (I 3) y (I 3 x) := by
  refine ⟨?_, ?_, ?_, ?_⟩ <;> rw [cpM, cpL_row x y (by decide)] <;> rfl
theorem cpM_y (I : Nat → Nat → Int32) (x y : Nat) : cuM I x (cpM I x y) y := by
  obtain ⟨a, b, c, d⟩ := cpM_r I x y
  unfold cuM
  rw [a, b, c, d]
  refine ⟨by simp [upd], by simp [upd], by simp [upd], by simp [upd], fun z hz => ?_⟩
  rw [cpM_4, if_pos (by omega)]
  congr 1
  omega
theorem cpM_n (I : Nat → Nat → Int32) (x : Nat) {y k : Nat} (h : k ≠ y) : cuM I k (cpM I x y) k := by
  obtain ⟨a, b, c, d⟩ := cpM_r I x y
  unfold cuM
  rw [a, b, c, d]
  refine ⟨by simp [upd, h], by simp [upd, h], by simp [upd, h], by simp [upd, h], fun z hz => ?_⟩
  rw [cpM_4, if_neg (by omega)]
/-- shifted up, from above down to the place -/
theorem ac_spec (x : Int32) : ∀ (m : Nat) (I : Nat → Nat → Int32), (acL x m I).1 ≤ m ∧ ((acL x m I).1 = 0 ∨ I 0 ((acL x m I).1 - 1) ≤ x) ∧ (∀ k, (acL x m I).1 ≤ k → k < m → ¬ I 0 k ≤ x) ∧ (∀ k, k < (acL x m I).1 → cuM I k (acL x m I).2 k) ∧ (∀ k, (acL x m I).1 ≤ k → k < m → cuM I k (acL x m I).2 (k + 1)) ∧ (∀ k, m < k → cuM I k (acL x m I).2 k) ∧ (∀ r, r ≠ 0 → r ≠ 1 → r ≠ 2 → r ≠ 3 → r ≠ 4 → (acL x m I).2 r = I r)
  | 0, I => ⟨Nat.le_refl 0, Or.inl rfl, fun k _ h => absurd h (Nat.not_lt_zero k), fun k h => absurd h (Nat.not_lt_zero k), fun k _ h => absurd h (Nat.not_lt_zero k), fun k _ => cuM.rf I k, fun _ _ _ _ _ _ => rfl⟩
  | m + 1, I => by
    unfold acL
    by_cases z : I 0 m ≤ x
    · rw [if_pos z]
      exact ⟨Nat.le_refl _, Or.inr z, fun k h1 h2 => absurd h2 (by omega), fun k _ => cuM.rf I k, fun k h1 h2 => absurd h2 (by omega), fun k _ => cuM.rf I k, fun _ _ _ _ _ _ => rfl⟩
    · rw [if_neg z]
      obtain ⟨a, b, c, d, f, h, i⟩ := ac_spec x m (cpM I m (m + 1))
      generalize hP : acL x m (cpM I m (m + 1)) = P at *
      obtain ⟨p, J⟩ := P
      dsimp only at *
      have e0 : ∀ k, k ≠ m + 1 → cpM I m (m + 1) 0 k = I 0 k := fun k hk => (cpM_n I m hk).1
      refine ⟨by omega, ?_, fun k h1 h2 => ?_, fun k h1 => (cpM_n I m (by omega)).tr (d k h1), fun k h1 h2 => ?_, fun k h1 => (cpM_n I m (by omega)).tr (h k (by omega)), fun r r0 r1 r2 r3 r4 => (i r r0 r1 r2 r3 r4).trans (cpM_row I m (m + 1) r0 r1 r2 r3 r4)⟩
      · rcases b with b | b
        · exact Or.inl b
        · refine Or.inr ?_
          rw [e0 _ (by omega)] at b
          exact b
      · by_cases y : k = m
        · rw [y]
          exact z
        · rw [← e0 k (by omega)]
          exact c k h1 (by omega)
      · by_cases y : k = m
        · rw [y]
          exact (cpM_y I m (m + 1)).tr (h (m + 1) (by omega))
        · exact (cpM_n I m (by omega)).tr (f k h1 (by omega))
theorem clL_at (i : Nat) : ∀ (m c : Nat) (I : Nat → Nat → Int32) (z : Nat), clL i m c I 4 z = if 12 * i + c ≤ z ∧ z < 12 * i + c + m then -1 else I 4 z
  | 0, c, I, z => by rw [clL, if_neg (by omega)]
  | m + 1, c, I, z => by
    rw [clL, clL_at i m (c + 1), uI_s]
    by_cases h1 : 12 * i + (c + 1) ≤ z ∧ z < 12 * i + (c + 1) + m
    · rw [if_pos h1, if_pos (by omega)]
    · rw [if_neg h1]
      by_cases h2 : z = 12 * i + c
      · rw [if_pos h2, if_pos (by omega)]
      · rw [if_neg h2, if_neg (by omega)]
theorem acN_r (J : Nat → Nat → Int32) (i : Nat) (x t cv : Int32) : acN J i x t cv 0 = upd (J 0) i x ∧ acN J i x t cv 1 = upd (J 1) i t ∧ acN J i x t cv 2 = upd (J 2) i cv ∧ acN J i x t cv 3 = upd (J 3) i 0 := by
  refine ⟨?_, ?_, ?_, ?_⟩ <;> rw [acN, clL_row i (by decide)] <;> rfl
theorem acN_4 (J : Nat → Nat → Int32) (i : Nat) (x t cv : Int32) (z : Nat) : acN J i x t cv 4 z = if 12 * i ≤ z ∧ z < 12 * i + 12 then -1 else J 4 z := by
  rw [acN, clL_at]
  rfl
theorem acN_n (J : Nat → Nat → Int32) {i k : Nat} (x t cv : Int32) (h : k ≠ i) : cuM J k (acN J i x t cv) k := by
  obtain ⟨a, b, c, d⟩ := acN_r J i x t cv
  unfold cuM
  rw [a, b, c, d]
  refine ⟨by simp [upd, h], by simp [upd, h], by simp [upd, h], by simp [upd, h], fun z hz => ?_⟩
  rw [acN_4, if_neg (by omega)]
theorem acN_row (J : Nat → Nat → Int32) (i : Nat) (x t cv : Int32) {r : Nat} (h0 : r ≠ 0) (h1 : r ≠ 1) (h2 : r ≠ 2) (h3 : r ≠ 3) (h4 : r ≠ 4) : acN J i x t cv r = J r := by rw [acN, clL_row i h4, uI_n _ _ _ h3, uI_n _ _ _ h2, uI_n _ _ _ h1, uI_n _ _ _ h0]
theorem acL_hc (x : Int32) : ∀ (m : Nat) (I : Nat → Nat → Int32), m < 16 → HC I → HC (acL x m I).2
  | 0, _, _, h => h
  | m + 1, I, hm, h => by
    unfold acL
    split
    · exact h
    · exact acL_hc x m _ (by omega) (cpM_hc (by omega) h)
theorem rmL_hc : ∀ (m i : Nat) (I : Nat → Nat → Int32), i + m < 16 → HC I → HC (rmL m i I)
  | 0, _, _, _, h => h
  | m + 1, i, I, hm, h => by
    rw [rmL]
    exact rmL_hc m (i + 1) _ (by omega) (cpM_hc (by omega) h)
theorem ins1_ge {α : Type} (F : Nat → Nat → α) {k p i : Nat} (x : α) (h : p < i) : ins1 F k p x k i = F k (i - 1) := by simp [ins1, show ¬ i < p by omega, show ¬ i = p by omega]
theorem nar0 : vp_nar .boolean 0 = 0 := rfl
/-- a cue is added: the rows of the cues -/
theorem rc_add (h : RC q S I) (hq16 : q < 16) {x t cv : Int32} (hb : cueB x t cv = true) (hx : ¬ fnd (I 0) x q 0 < q) {f : Nat → Int32} (hf : ∀ i, i < 12 → f i = -1) (hcv : vp_nar .char cv = cv) :
    RC (q + 1) (ins1 (ins1 S 5 (poC S q x) (cuR x t cv)) 6 (poC S q x) f) (acN (acL x q I).2 (acL x q I).1 x t cv) := by
  obtain ⟨a, b, c, d, ff, hh, i⟩ := ac_spec x q I
  have hne : ∀ k, k < q → I 0 k ≠ x := fun k hk => fnd_no (I 0) x q 0 k (Nat.zero_le _) (by omega)
  have hlt : ∀ k, k < (acL x q I).1 → I 0 k < x := by
    intro k hk
    have h1 : I 0 k ≤ x := by
      rcases b with b | b
      · omega
      · rcases Nat.lt_or_ge k ((acL x q I).1 - 1) with z | z
        · have h2 := h.2.1 k _ z (by omega)
          exact Int32.le_trans (Int32.le_iff_toInt_le.mpr (by rw [Int32.lt_iff_toInt_lt] at h2; omega)) b
        · have : k = (acL x q I).1 - 1 := by omega
          rw [this]
          exact b
    rcases Int32.lt_or_le (I 0 k) x with z | z
    · exact z
    · exact absurd (Int32.le_antisymm h1 z) (hne k (by omega))
  have hp : poC S q x = (acL x q I).1 := poC_uniq h.s5 a hlt (fun hz y => c _ (Nat.le_refl _) hz (Int32.le_iff_toInt_le.mpr (by rw [Int32.lt_iff_toInt_lt] at y; omega)))
  have hhc : HC (acL x q I).2 := acL_hc x q I hq16 h.2.2
  rw [hp]
  generalize hP : acL x q I = P at *
  obtain ⟨p, J⟩ := P
  dsimp only at *
  obtain ⟨r0, r1, r2, r3⟩ := acN_r J p x t cv
  have e5 : ∀ k r, ins1 (ins1 S 5 p (cuR x t cv)) 6 p f 5 k r = ins1 S 5 p (cuR x t cv) 5 k r := fun k r => by rw [ins1_n _ _ _ _ (by decide)]
  have e6 : ∀ k r, ins1 (ins1 S 5 p (cuR x t cv)) 6 p f 6 k r = ins1 S 6 p f 6 k r := fun k r => by simp [ins1]
  have old : ∀ k, k < q → ∃ j, (j = if k < p then k else k + 1) ∧ cuM I k (acN J p x t cv) j ∧ cuE (ins1 (ins1 S 5 p (cuR x t cv)) 6 p f) (acN J p x t cv) j := by
    intro k hk
    by_cases z : k < p
    · have m1 := (d k z).tr (acN_n J x t cv (show k ≠ p by omega))
      exact ⟨k, (if_pos z).symm, m1, m1.cu (fun r => by rw [e5, ins1_lt _ _ z]) (fun c _ => by rw [e6, ins1_lt _ _ z]) (h.1 k hk).1⟩
    · have m1 := (ff k (by omega) hk).tr (acN_n J x t cv (show k + 1 ≠ p by omega))
      exact ⟨k + 1, (if_neg z).symm, m1, m1.cu (fun r => by rw [e5, ins1_ge _ _ (show p < k + 1 by omega), Nat.add_sub_cancel]) (fun c _ => by rw [e6, ins1_ge _ _ (show p < k + 1 by omega), Nat.add_sub_cancel]) (h.1 k hk).1⟩
  have bx := cueB_t hb
  refine ⟨fun k hk => ?_, fun i j hij hj => ?_, fun j hj => ?_⟩
  · by_cases z : k = p
    · subst z
      refine ⟨⟨?_, ?_, ?_, ?_, fun c hc => ?_⟩, ?_, ?_, ?_, ?_, fun c hc => Or.inl ?_⟩
      · rw [e5, ins1_s, r0]; simp [upd, cuR]
      · rw [e5, ins1_s, r1]; simp [upd, cuR]
      · rw [e5, ins1_s, r2]; simp [upd, cuR]
      · rw [e5, ins1_s, r3]; simp [upd, cuR]
      · rw [e6, ins1_s, hf c hc, acN_4, if_pos (by omega)]
      · rw [r0]
        have h1 := (inB_int x 1 99).mp bx.1
        rw [show (99 : Int32).toInt = 99 by decide, show (1 : Int32).toInt = 1 by decide] at h1
        obtain ⟨v, hv1, hv2⟩ := vp_in_of (vp_in_iff.mpr ⟨by omega, by omega⟩ : vp_in x 100) (by decide)
        refine ⟨v, ?_, hv1, by simp [upd, hv2]⟩
        rw [hv2, nI_toInt (by omega)] at h1
        omega
      · rw [r1]
        have h1 := (inB_int t 0 40).mp bx.2.1
        rw [show (40 : Int32).toInt = 40 by decide, show (0 : Int32).toInt = 0 by decide] at h1
        obtain ⟨v, hv1, hv2⟩ := vp_in_of (vp_in_iff.mpr ⟨by omega, by omega⟩ : vp_in t 41) (by decide)
        exact ⟨v, by omega, by simp [upd, hv2]⟩
      · rw [r2]; simpa [upd] using bx.2.2
      · rw [r3]; exact Or.inl (by simp [upd])
      · rw [acN_4, if_pos (by omega)]
    · by_cases z2 : k < p
      · obtain ⟨j, hj, m1, m2⟩ := old k (by omega)
        rw [if_pos z2] at hj
        subst hj
        exact ⟨m2, m1.ok (h.1 j (by omega)).2⟩
      · obtain ⟨j, hj, m1, m2⟩ := old (k - 1) (by omega)
        rw [if_neg (by omega), Nat.sub_add_cancel (by omega)] at hj
        subst hj
        exact ⟨m2, m1.ok (h.1 (j - 1) (by omega)).2⟩
  · have v : ∀ k, k < q + 1 → acN J p x t cv 0 k = if k < p then I 0 k else if k = p then x else I 0 (k - 1) := by
      intro k hk
      by_cases z : k = p
      · rw [if_neg (by omega), if_pos z, r0]; simp [upd, z]
      · by_cases z2 : k < p
        · obtain ⟨j, hj, m1, -⟩ := old k (by omega)
          rw [if_pos z2] at hj
          subst hj
          rw [if_pos z2]
          exact m1.1
        · obtain ⟨j, hj, m1, -⟩ := old (k - 1) (by omega)
          rw [if_neg (by omega), Nat.sub_add_cancel (by omega)] at hj
          subst hj
          rw [if_neg z2, if_neg z]
          exact m1.1
    rw [v i (by omega), v j (by omega)]
    have hgt : ∀ k, p ≤ k → k < q → x < I 0 k := fun k h1 h2 => Int32.not_le.mp (c k h1 h2)
    rcases Nat.lt_trichotomy i p with z | z | z
    · rw [if_pos z]
      rcases Nat.lt_trichotomy j p with w | w | w
      · rw [if_pos w]
        exact h.2.1 i j hij (by omega)
      · rw [if_neg (by omega), if_pos w]
        exact hlt i z
      · rw [if_neg (by omega), if_neg (by omega)]
        exact Int32.lt_trans (hlt i z) (hgt _ (by omega) (by omega))
    · rw [if_neg (by omega), if_pos z, if_neg (by omega), if_neg (by omega)]
      exact hgt _ (by omega) (by omega)
    · rw [if_neg (by omega), if_neg (by omega), if_neg (by omega), if_neg (by omega)]
      exact h.2.1 _ _ (by omega) (by omega)
  · rw [r2, r3]
    unfold upd
    by_cases z : j = p
    · rw [if_pos z, if_pos z]
      exact ⟨hcv, nar0⟩
    · rw [if_neg z, if_neg z]
      exact hhc j hj
/-- shifted down -/
theorem rm_spec : ∀ (m i : Nat) (I : Nat → Nat → Int32), (∀ k, k < i → cuM I k (rmL m i I) k) ∧ (∀ k, i ≤ k → k < i + m → cuM I (k + 1) (rmL m i I) k) ∧ (∀ r, r ≠ 0 → r ≠ 1 → r ≠ 2 → r ≠ 3 → r ≠ 4 → rmL m i I r = I r)
  | 0, i, I => ⟨fun k _ => cuM.rf I k, fun k h1 h2 => absurd h2 (by omega), fun _ _ _ _ _ _ => rfl⟩
  | m + 1, i, I => by
    rw [rmL]
    obtain ⟨a, b, c⟩ := rm_spec m (i + 1) (cpM I (i + 1) i)
    refine ⟨fun k h1 => (cpM_n I (i + 1) (by omega)).tr (a k (by omega)), fun k h1 h2 => ?_, fun r r0 r1 r2 r3 r4 => (c r r0 r1 r2 r3 r4).trans (cpM_row I (i + 1) i r0 r1 r2 r3 r4)⟩
    by_cases z : k = i
    · rw [z]
      exact (cpM_y I (i + 1) i).tr (a i (by omega))
    · exact (cpM_n I (i + 1) (by omega)).tr (b k (by omega) (by omega))
theorem rc_rem (h : RC q S I) (hq16 : q ≤ 16) {p : Nat} (hp : p < q) : RC (q - 1) (skp (skp S 5 p) 6 p) (rmL (q - 1 - p) p I) := by
  obtain ⟨a, b, -⟩ := rm_spec (q - 1 - p) p I
  have e5 : ∀ k r, skp (skp S 5 p) 6 p 5 k r = (if k < p then S 5 k else S 5 (k + 1)) r := fun k r => by
    rw [skp_n _ _ _ (by decide)]
    simp [skp]
  have e6 : ∀ k r, skp (skp S 5 p) 6 p 6 k r = (if k < p then S 6 k else S 6 (k + 1)) r := fun k r => by simp [skp]
  have hhc : HC (rmL (q - 1 - p) p I) := rmL_hc _ _ _ (by omega) h.2.2
  have old : ∀ k, k < q - 1 → ∃ j, (j = if k < p then k else k + 1) ∧ cuM I j (rmL (q - 1 - p) p I) k ∧ cuE (skp (skp S 5 p) 6 p) (rmL (q - 1 - p) p I) k := by
    intro k hk
    by_cases z : k < p
    · exact ⟨k, (if_pos z).symm, a k z, (a k z).cu (fun r => by rw [e5, if_pos z]) (fun c _ => by rw [e6, if_pos z]) (h.1 k (by omega)).1⟩
    · have m1 := b k (by omega) (by omega)
      exact ⟨k + 1, (if_neg z).symm, m1, m1.cu (fun r => by rw [e5, if_neg z]) (fun c _ => by rw [e6, if_neg z]) (h.1 (k + 1) (by omega)).1⟩
  refine ⟨fun k hk => ?_, fun i j hij hj => ?_, hhc⟩
  · obtain ⟨j, hj, m1, m2⟩ := old k hk
    refine ⟨m2, m1.ok (h.1 j ?_).2⟩
    rw [hj]
    split <;> omega
  · obtain ⟨i2, hi2, m1, -⟩ := old i (by omega)
    obtain ⟨j2, hj2, m2, -⟩ := old j hj
    rw [m1.1, m2.1]
    refine h.2.1 i2 j2 ?_ ?_
    · rw [hi2, hj2]
      split <;> split <;> omega
    · rw [hj2]
      split <;> omega
end S4
