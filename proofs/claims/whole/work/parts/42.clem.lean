/-! what the class's functions leave as it is -/
theorem in_of {v : Int32} {m : Nat} (h1 : ¬ v < 0) (h2 : ¬ nI m ≤ v) (hm : m < 1000) : ∃ k, k < m ∧ v = nI k := by
  have h3 : v.toInt < (m : Int) := by
    have := Int32.lt_iff_toInt_lt.mp (Int32.not_le.mp h2)
    rwa [nI_toInt (by omega)] at this
  have h4 : 0 ≤ v.toInt := by
    have := Int32.le_iff_toInt_le.mp (Int32.not_lt.mp h1)
    rwa [show (0 : Int32).toInt = 0 by decide] at this
  exact vp_in_of (vp_in_iff.mpr ⟨h4, h3⟩) (by omega)
theorem lt_e {a b : Int32} (h : a = b) (q : a < 0) : b < 0 := h ▸ q
theorem ge_e {a b m : Int32} (h : a = b) (q : m ≤ a) : m ≤ b := h ▸ q
theorem laC_neg {S : Nat → Nat → Nat → Int32} {ng c : Nat} (h : S 4 c 7 < 0) : laC S ng c = S 4 c 0 := if_neg fun q => Int32.not_le.mpr h q.1
theorem laC_ge {S : Nat → Nat → Nat → Int32} {ng c : Nat} (h : nI ng ≤ S 4 c 7) : laC S ng c = S 4 c 0 := if_neg fun q => Int32.not_lt.mpr h q.2.1
theorem laC_in {S : Nat → Nat → Nat → Int32} {ng c k : Nat} (h : S 4 c 7 = nI k) (hk : k < ng) (hg : ng < 1000) : laC S ng c = if S 8 k c = 0 then S 4 c 0 else S 7 k 0 := by
  unfold laC
  rw [h, nI_clamp (by omega)]
  by_cases q : S 8 k c = 0
  · rw [if_pos q, if_neg fun z => z.2.2 q]
  · rw [if_neg q, if_pos ⟨Int32.not_lt.mp (nI_pos (by omega)), nI_lt hk (by omega), q⟩]
theorem uS_row (S : Nat → Nat → Nat → Int32) {k k' : Nat} (i f : Nat) (v : Int32) (h : k' ≠ k) : uS S k i f v k' = S k' := by
  funext i'
  exact uS_n S f v fun q => h q.1
theorem flS_n (S : Nat → Nat → Nat → Int32) (c : Nat) (tr t cv : Int32) {k : Nat} (h : k ≠ 4) : flS S c tr t cv k = S k := by
  unfold flS
  split
  · simp only [uS_row _ _ _ _ h]
  · split <;> simp only [uS_row _ _ _ _ h]
theorem ppL_n (p : Nat) {k : Nat} (h : k ≠ 4) : ∀ (n c : Nat) (S : Nat → Nat → Nat → Int32), ppL p n c S k = S k
  | 0, _, _ => rfl
  | n + 1, c, S => by rw [ppL, ppL_n p h n, flS_n _ _ _ _ _ h]
theorem foS_n (S : Nat → Nat → Nat → Int32) (c : Nat) {k : Nat} (h : k ≠ 4) : foS S c k = S k := by
  unfold foS
  split
  · split <;> simp only [uS_row _ _ _ _ h]
  · rfl
theorem foL_n {k : Nat} (h : k ≠ 4) : ∀ (n c : Nat) (S : Nat → Nat → Nat → Int32), foL n c S k = S k
  | 0, _, _ => rfl
  | n + 1, c, S => by rw [foL, foL_n h n, foS_n _ _ h]
theorem f1L_n (ng : Nat) {k : Nat} (h : k ≠ 2) : ∀ (n c : Nat) (S : Nat → Nat → Nat → Int32), f1L ng n c S k = S k
  | 0, _, _ => rfl
  | n + 1, c, S => by rw [f1L, f1L_n ng h n, uS_row _ _ _ _ h]
theorem adL_n (g : Nat → Nat) (e : Nat) {k : Nat} (h : k ≠ 2) : ∀ (n c m : Nat) (S : Nat → Nat → Nat → Int32), adL g e n c m S k = S k
  | 0, _, _, _ => rfl
  | n + 1, c, m, S => by
    rw [adL]
    split
    · rw [adL_n g e h n]
    · rw [adL_n g e h n, uS_row _ _ _ _ h]
theorem f2L_n (g : Nat → Nat) {k : Nat} (h : k ≠ 2) : ∀ (n e : Nat) (S : Nat → Nat → Nat → Int32), f2L g n e S k = S k
  | 0, _, _ => rfl
  | n + 1, e, S => by
    rw [f2L, f2L_n g h n]
    split
    · rfl
    · rw [adL_n _ _ h]
theorem f3L_n {k : Nat} (h : k ≠ 2) : ∀ (n c : Nat) (S : Nat → Nat → Nat → Int32), f3L n c S k = S k
  | 0, _, _ => rfl
  | n + 1, c, S => by rw [f3L, f3L_n h n, uS_row _ _ _ _ h]
theorem flv_n (g : Nat → Nat) (ng ne : Nat) (S : Nat → Nat → Nat → Int32) {k : Nat} (h : k ≠ 2) : flv g ng ne S k = S k := by
  rw [flv, f3L_n h, f2L_n g h, f1L_n ng h]
theorem mfL_n (G : Nat) {k : Nat} (h : k ≠ 4) : ∀ (n c : Nat) (S : Nat → Nat → Nat → Int32), mfL G n c S k = S k
  | 0, _, _ => rfl
  | n + 1, c, S => by
    rw [mfL, mfL_n G h n]
    split
    · rfl
    · rw [uS_row _ _ _ _ h]
theorem CE.to {n g : Nat → Nat} {S T : Nat → Nat → Nat → Int32} (h : CE n g S) (e : T 9 = S 9) : CE n g T := fun i hi => by rw [e]; exact h i hi
theorem CF.to {S T : Nat → Nat → Nat → Int32} (h : CF S) (e : T 4 = S 4) : CF T := fun c hc => by rw [e]; exact h c hc
theorem CF_foS {S : Nat → Nat → Nat → Int32} (h : CF S) (c : Nat) : CF (foS S c) := by
  intro d hd
  obtain ⟨t, q, h1, h2, h3, h4⟩ := h d hd
  by_cases e : d = c
  · subst e
    unfold foS
    split
    · rename_i z
      have hq : q < t := by
        rw [h3, h4] at z
        exact (nI_ltI (by omega) (by omega)).mp z
      have e2 : S 4 d 2 + 1 = nI (q + 1) := by rw [h4]; exact nI_add q 1
      split
      · exact ⟨t, q + 1, h1, by omega, by simp [uS, upd, h3], by simp [uS, upd]; exact e2⟩
      · exact ⟨t, q + 1, h1, by omega, by simp [uS, upd, h3], by simp [uS, upd]; exact e2⟩
    · exact ⟨t, q, h1, h2, h3, h4⟩
  · refine ⟨t, q, h1, h2, ?_, ?_⟩
    · rw [← h3]
      unfold foS
      split
      · split <;> simp [uS, e]
      · rfl
    · rw [← h4]
      unfold foS
      split
      · split <;> simp [uS, e]
      · rfl
theorem CF_foL : ∀ (n c : Nat) {S : Nat → Nat → Nat → Int32}, CF S → CF (foL n c S)
  | 0, _, _, h => h
  | n + 1, c, _, h => CF_foL n (c + 1) (CF_foS h c)
theorem CF_tcS (g : Nat → Nat) (ng ne : Nat) {S : Nat → Nat → Nat → Int32} (h : CF S) : CF (tcS g ng ne S) :=
  (CF_foL 12 0 (h.to (uS_row S 0 1 _ (by decide)))).to (flv_n g ng ne _ (by decide))
theorem CE_tcS {n g : Nat → Nat} (ng ne : Nat) {S : Nat → Nat → Nat → Int32} (h : CE n g S) : CE n g (tcS g ng ne S) :=
  h.to (by rw [tcS, flv_n g ng ne _ (by decide), foL_n (by decide), uS_row _ _ _ _ (by decide)])
