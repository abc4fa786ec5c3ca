/-! the class's state (n, cap, g, S, en) and the reference's (I, e): what holds between them -/
def R0 (n cap : Nat → Nat) : Prop := CN n cap ∧ (cap 0 = 0 ∨ cap 0 = 10 ∨ cap 0 = 15 ∨ cap 0 = 22) ∧ (cap 1 = 0 ∨ cap 1 = 10) ∧ (cap 2 = 0 ∨ cap 2 = 10) ∧ (cap 3 = 0 ∨ cap 3 = 10)
def RI (n : Nat → Nat) (I : Nat → Nat → Int32) : Prop := I 30 0 = nI (n 0) ∧ I 30 2 = nI (n 1) ∧ I 30 3 = nI (n 2) ∧ I 30 4 = nI (n 3)
def RN (S : Nat → Nat → Nat → Int32) (I : Nat → Nat → Int32) : Prop := S 0 0 0 = I 30 1 ∧ S 0 0 1 = I 30 6 ∧ S 0 0 2 = I 30 7 ∧ S 0 0 3 = I 30 5 ∧ (∃ v, v < 100 ∧ I 30 1 = nI v) ∧ chK (I 30 5)
def cuOK (I : Nat → Nat → Int32) (k : Nat) : Prop := (∃ v, 1 ≤ v ∧ v < 100 ∧ I 0 k = nI v) ∧ (∃ t, t ≤ 40 ∧ I 1 k = nI t) ∧ cvB (I 2 k) = true ∧ (I 3 k = 0 ∨ I 3 k = 1) ∧ ∀ c, c < 12 → (I 4 (12 * k + c) = -1 ∨ ∃ v, v < 256 ∧ I 4 (12 * k + c) = nI v)
def cuE (S : Nat → Nat → Nat → Int32) (I : Nat → Nat → Int32) (k : Nat) : Prop := S 5 k 0 = I 0 k ∧ S 5 k 1 = I 1 k ∧ S 5 k 2 = I 2 k ∧ S 5 k 3 = I 3 k ∧ ∀ c, c < 12 → S 6 k c = I 4 (12 * k + c)
def RC (q : Nat) (S : Nat → Nat → Nat → Int32) (I : Nat → Nat → Int32) : Prop := (∀ k, k < q → cuE S I k ∧ cuOK I k) ∧ (∀ i j, i < j → j < q → I 0 i < I 0 j) ∧ HC I
def fdR (S : Nat → Nat → Nat → Int32) (I : Nat → Nat → Int32) (c : Nat) : Prop := (I 10 c = 0 ∧ S 4 c 0 = I 5 c ∧ ∃ t, t ≤ 40 ∧ S 4 c 1 = nI t ∧ S 4 c 2 = nI t) ∨ (I 10 c = 1 ∧ ∃ t d, d < t ∧ t ≤ 40 ∧ S 4 c 1 = nI t ∧ S 4 c 2 = nI d ∧ I 8 c = nI t ∧ I 30 6 - I 7 c = nI d ∧ S 4 c 3 = I 5 c ∧ S 4 c 4 = I 6 c ∧ S 4 c 5 = I 9 c ∧ cvB (I 9 c) = true ∧ S 4 c 0 = fadF I c)
def RF (S : Nat → Nat → Nat → Int32) (I : Nat → Nat → Int32) : Prop := ∀ c, c < 12 → fdR S I c
def RLt (ng : Nat) (S : Nat → Nat → Nat → Int32) (I : Nat → Nat → Int32) : Prop := ∀ c, c < 12 → S 4 c 6 = I 11 c ∧ (I 11 c = 0 ∨ I 11 c = 1) ∧ S 4 c 7 = I 12 c ∧ (¬ I 12 c < 0 → ∃ g, g < ng ∧ I 12 c = nI g) ∧ S 4 c 8 = I 13 c
def RG (ng : Nat) (S : Nat → Nat → Nat → Int32) (I : Nat → Nat → Int32) : Prop := (∀ g, g < ng → S 7 g 0 = I 15 g ∧ ∀ c, c < 12 → S 8 g c = bI (mbB (I 14 g) c)) ∧ ∀ g, ng ≤ g → g < 5 → I 14 g = 0 ∧ I 15 g = 0
def RE (ng ne : Nat) (g : Nat → Nat) (S : Nat → Nat → Nat → Int32) (I : Nat → Nat → Int32) : Prop := ∀ e, e < ne → I 16 e = nI (g e) ∧ g e < ng ∧ S 9 e 0 = I 17 e ∧ shB (I 17 e) = true ∧ S 9 e 1 = I 18 e ∧ (∃ p, 2 ≤ p ∧ p ≤ 40 ∧ I 18 e = nI p) ∧ S 9 e 2 = I 19 e ∧ S 9 e 3 = I 20 e ∧ S 9 e 4 = I 22 e ∧ (I 22 e = 0 ∨ I 22 e = 1) ∧ (¬ I 22 e = 0 → S 9 e 5 = I 21 e)
def RS (nt : Nat) (S : Nat → Nat → Nat → Int32) (I : Nat → Nat → Int32) : Prop := ∀ k, k < nt → S 10 k 0 = I 23 k ∧ S 10 k 1 = I 24 k ∧ S 10 k 2 = I 25 k ∧ caB (I 23 k) = true
def RR (n cap g : Nat → Nat) (en : Int64) (S : Nat → Nat → Nat → Int32) (I : Nat → Nat → Int32) (e : Int64) : Prop := R0 n cap ∧ RI n I ∧ RN S I ∧ RC (n 0) S I ∧ RF S I ∧ RLt (n 1) S I ∧ RG (n 1) S I ∧ RE (n 1) (n 2) g S I ∧ RS (n 3) S I ∧ en = e
section CG
variable {n cap g : Nat → Nat} {en e : Int64} {S T : Nat → Nat → Nat → Int32} {I J : Nat → Nat → Int32} {q ng ne nt c : Nat}
theorem RI.to (h : RI n I) (i : ∀ j, j < 8 → J 30 j = I 30 j) : RI n J := by
  unfold RI
  rw [i 0 (by decide), i 2 (by decide), i 3 (by decide), i 4 (by decide)]
  exact h
theorem RN.to (h : RN S I) (s : T 0 = S 0) (i : ∀ j, j < 8 → J 30 j = I 30 j) : RN T J := by
  unfold RN
  rw [i 1 (by decide), i 5 (by decide), i 6 (by decide), i 7 (by decide), s]
  exact h
theorem RC.to (h : RC q S I) (s5 : T 5 = S 5) (s6 : T 6 = S 6) (i0 : J 0 = I 0) (i1 : J 1 = I 1) (i2 : J 2 = I 2) (i3 : J 3 = I 3) (i4 : J 4 = I 4) : RC q T J := by
  unfold RC cuE cuOK HC
  rw [s5, s6, i0, i1, i2, i3, i4]
  exact h
theorem fdR.to (h : fdR S I c) (s4 : T 4 c = S 4 c) (i5 : J 5 c = I 5 c) (i6 : J 6 c = I 6 c) (i7 : J 7 c = I 7 c) (i8 : J 8 c = I 8 c) (i9 : J 9 c = I 9 c) (i10 : J 10 c = I 10 c) (i : J 30 6 = I 30 6) : fdR T J c := by
  unfold fdR fadF
  rw [s4, i5, i6, i7, i8, i9, i10, i]
  exact h
theorem RF.to (h : RF S I) (s4 : T 4 = S 4) (i5 : J 5 = I 5) (i6 : J 6 = I 6) (i7 : J 7 = I 7) (i8 : J 8 = I 8) (i9 : J 9 = I 9) (i10 : J 10 = I 10) (i : J 30 6 = I 30 6) : RF T J := fun c hc => (h c hc).to (by rw [s4]) (by rw [i5]) (by rw [i6]) (by rw [i7]) (by rw [i8]) (by rw [i9]) (by rw [i10]) i
theorem RLt.to (h : RLt ng S I) (s4 : ∀ c, c < 12 → T 4 c 6 = S 4 c 6 ∧ T 4 c 7 = S 4 c 7 ∧ T 4 c 8 = S 4 c 8) (i11 : J 11 = I 11) (i12 : J 12 = I 12) (i13 : J 13 = I 13) : RLt ng T J := by
  intro c hc
  rw [i11, i12, i13, (s4 c hc).1, (s4 c hc).2.1, (s4 c hc).2.2]
  exact h c hc
theorem RLt.to4 (h : RLt ng S I) (s4 : T 4 = S 4) (i11 : J 11 = I 11) (i12 : J 12 = I 12) (i13 : J 13 = I 13) : RLt ng T J := h.to (fun c _ => by rw [s4]; exact ⟨rfl, rfl, rfl⟩) i11 i12 i13
theorem RG.to (h : RG ng S I) (s7 : T 7 = S 7) (s8 : T 8 = S 8) (i14 : J 14 = I 14) (i15 : J 15 = I 15) : RG ng T J := by
  unfold RG
  rw [s7, s8, i14, i15]
  exact h
theorem RE.to (h : RE ng ne g S I) (s9 : T 9 = S 9) (i16 : J 16 = I 16) (i17 : J 17 = I 17) (i18 : J 18 = I 18) (i19 : J 19 = I 19) (i20 : J 20 = I 20) (i21 : J 21 = I 21) (i22 : J 22 = I 22) : RE ng ne g T J := by
  unfold RE
  rw [s9, i16, i17, i18, i19, i20, i21, i22]
  exact h
theorem RS.to (h : RS nt S I) (s10 : T 10 = S 10) (i23 : J 23 = I 23) (i24 : J 24 = I 24) (i25 : J 25 = I 25) : RS nt T J := by
  unfold RS
  rw [s10, i23, i24, i25]
  exact h
/-- rows that stay -/
theorem u30 (v : Int32) : ∀ j, j < 8 → uI I 30 8 v 30 j = I 30 j := fun j hj => by rw [uI_s, if_neg (by omega)]
theorem RR.thr (h : RR n cap g en S I e) (v : Int32) : RR n cap g en S (uI I 30 8 v) e := by
  obtain ⟨h0, hi, hn, hc, hf, hl, hg, he, hs, hen⟩ := h
  exact ⟨h0, hi.to (u30 v), hn.to rfl (u30 v), hc.to rfl rfl rfl rfl rfl rfl rfl, hf.to rfl rfl rfl rfl rfl rfl rfl (u30 v 6 (by decide)), hl.to4 rfl rfl rfl rfl, hg.to rfl rfl rfl rfl, he.to rfl rfl rfl rfl rfl rfl rfl rfl, hs.to rfl rfl rfl rfl, hen⟩
/-- what the reference's walks need -/
theorem RR.mi (h : RR n cap g en S I e) : MI I g (n 0) (n 1) (n 2) (n 3) := by
  obtain ⟨h0, hi, hn, hc, hf, hl, hg, he, hs, hen⟩ := h
  refine ⟨⟨hi.1, h0.1.2.1⟩, ⟨hi.2.1, h0.1.2.2.1⟩, ⟨hi.2.2.1, h0.1.2.2.2.1⟩, ⟨hi.2.2.2, h0.1.2.2.2.2⟩, fun c hc2 => (hl c hc2).2.2.2.1, fun c hc2 hq => ?_, fun e he2 => ⟨(he e he2).1, (he e he2).2.1⟩, fun e he2 => (he e he2).2.2.2.2.2.1⟩
  rcases hf c hc2 with ⟨a, -⟩ | ⟨-, t, d, h1, h2, -, -, h3, -⟩
  · exact absurd a hq
  · exact ⟨t, by omega, h2, h3⟩
theorem RR.ht (h : RR n cap g en S I e) : HT I := fun c hc hq => h.mi.2.2.2.2.2.1 c hc hq
theorem RR.hc (h : RR n cap g en S I e) : HC I := h.2.2.2.1.2.2
theorem RR.cn (h : RR n cap g en S I e) : CN n cap := h.1.1
theorem RR.ce (h : RR n cap g en S I e) : CE n g S := fun i hi => by
  have := h.2.2.2.2.2.2.2.1 i hi
  exact ⟨this.2.1, by rw [this.2.2.2.2.1]; exact this.2.2.2.2.2.1⟩
theorem RR.cf (h : RR n cap g en S I e) : CF S := fun c hc => by
  rcases h.2.2.2.2.1 c hc with ⟨-, -, t, h1, h2, h3⟩ | ⟨-, t, d, h1, h2, h3, h4, -⟩
  · exact ⟨t, t, h1, Nat.le_refl t, h2, h3⟩
  · exact ⟨t, d, h2, by omega, h3, h4⟩
theorem cvK {x : Int32} (h : cvB x = true) : chK x := by
  simp only [cvB, Bool.or_eq_true, decide_eq_true_eq] at h
  rcases h with (h | h) | h <;> rw [h]
  · exact chK_nI (q := 108) (by decide)
  · exact chK_nI (q := 113) (by decide)
  · exact chK_nI (q := 115) (by decide)
theorem RR.ck (h : RR n cap g en S I e) {p : Nat} (hp : p < n 0) : chK (S 5 p 2) := by
  have := h.2.2.2.1.1 p hp
  rw [this.1.2.2.1]
  exact cvK this.2.2.2.1
theorem RR.num (h : RR n cap g en S I e) {k : Nat} (hk : k < n 0) : ¬ I 0 k = -1 := by
  obtain ⟨v, h1, h2, h3⟩ := (h.2.2.2.1.1 k hk).2.1
  rw [h3]
  exact nI_nm1 (by omega)
theorem RR.tim (h : RR n cap g en S I e) {k : Nat} (hk : k < n 0) : ∃ t, t ≤ 40 ∧ I 1 k = nI t := (h.2.2.2.1.1 k hk).2.2.1
theorem RR.bi (h : RR n cap g en S I e) : BI I g (n 0) (n 1) (n 2) (n 3) := ⟨h.mi, h.hc, fun _ hk => ⟨h.num hk, h.tim hk⟩⟩
/-! places of numbers -/
theorem poL_spec (num : Nat → Int32) (x : Int32) : ∀ n i, i ≤ poL num x n i ∧ poL num x n i ≤ i + n ∧ (∀ k, i ≤ k → k < poL num x n i → num k < x) ∧ (poL num x n i < i + n → ¬ num (poL num x n i) < x)
  | 0, i => ⟨Nat.le_refl i, Nat.le_refl i, fun k h1 h2 => absurd h2 (by unfold poL; omega), fun h => absurd h (by unfold poL; omega)⟩
  | n + 1, i => by
    have ih := poL_spec num x n (i + 1)
    unfold poL
    split
    · rename_i q
      refine ⟨by omega, by omega, fun k h1 h2 => ?_, fun h => ih.2.2.2 (by omega)⟩
      rcases Nat.lt_or_ge i k with z | z
      · exact ih.2.2.1 k z h2
      · have : k = i := by omega
        subst this
        exact q
    · rename_i q
      exact ⟨Nat.le_refl i, by omega, fun k h1 h2 => absurd h2 (by omega), fun _ => q⟩
theorem poC_spec (x : Int32) (h : ∀ k, k < q → S 5 k 0 = I 0 k) : poC S q x ≤ q ∧ (∀ k, k < poC S q x → I 0 k < x) ∧ (poC S q x < q → ¬ I 0 (poC S q x) < x) := by
  have sp := poL_spec (nuC S) x q 0
  have hle : poC S q x ≤ q := poC_le S q x
  refine ⟨hle, fun k hk => ?_, fun hk => ?_⟩
  · rw [← h k (by omega)]
    exact sp.2.2.1 k (Nat.zero_le _) hk
  · rw [← h _ hk]
    exact sp.2.2.2 (by rw [Nat.zero_add]; exact hk)
theorem poC_uniq {x : Int32} {p : Nat} (h : ∀ k, k < q → S 5 k 0 = I 0 k) (hp : p ≤ q) (h1 : ∀ k, k < p → I 0 k < x) (h2 : p < q → ¬ I 0 p < x) : poC S q x = p := by
  obtain ⟨a, b, c⟩ := poC_spec (S := S) (I := I) (q := q) x h
  rcases Nat.lt_trichotomy (poC S q x) p with z | z | z
  · exact absurd (h1 _ z) (c (by omega))
  · exact z
  · exact absurd (b _ z) (h2 (by omega))
theorem RC.s5 (h : RC q S I) : ∀ k, k < q → S 5 k 0 = I 0 k := fun k hk => (h.1 k hk).1.1
theorem po_eq (h : RC q S I) {x : Int32} (hf : fnd (I 0) x q 0 < q) : poC S q x = fnd (I 0) x q 0 := by
  have ha : I 0 (fnd (I 0) x q 0) = x := fnd_at (I 0) x q 0 (by omega)
  refine poC_uniq h.s5 (by omega) (fun k hk => ?_) (fun _ => ?_)
  · have := h.2.1 k _ hk hf
    rwa [ha] at this
  · rw [ha]
    exact Int32.lt_irrefl
theorem hq_t (h : RC q S I) {x : Int32} (hf : fnd (I 0) x q 0 < q) : hqC S q x = true := by
  unfold hqC
  rw [po_eq h hf, decide_eq_true hf, h.s5 _ hf, fnd_at (I 0) x q 0 (by omega)]
  simp
theorem hq_f (h : RC q S I) {x : Int32} (hf : ¬ fnd (I 0) x q 0 < q) : hqC S q x = false := by
  unfold hqC
  by_cases hp : poC S q x < q
  · have := fnd_no (I 0) x q 0 (poC S q x) (Nat.zero_le _) (by omega)
    rw [h.s5 _ hp, decide_eq_false this, Bool.and_false]
  · rw [decide_eq_false hp, Bool.false_and]
/-- the next cue -/
theorem fg_po (num : Nat → Int32) (cur : Int32) {p N : Nat} (h1 : ∀ k, k < p → k < N → num k ≤ cur) (h2 : p < N → ¬ num p ≤ cur) : ∀ (m : Nat) (v : Int32), m ≤ N → fgL num cur m v = if p < m then nI p else v
  | 0, v, _ => by rw [fgL, if_neg (Nat.not_lt_zero p)]
  | m + 1, v, hm => by
    rw [fgL, fg_po num cur h1 h2 m _ (by omega)]
    rcases Nat.lt_trichotomy p m with z | z | z
    · rw [if_pos z, if_pos (by omega)]
    · subst z
      rw [if_neg (Nat.lt_irrefl p), if_neg (h2 (by omega)), if_pos (by omega)]
    · rw [if_neg (by omega), if_pos (h1 m z (by omega)), if_neg (by omega)]
theorem fb_po (num : Nat → Int32) (cur : Int32) {p N : Nat} (hp : p ≤ N) (h1 : ∀ k, k < p → ¬ cur ≤ num k) (h2 : ∀ k, p ≤ k → k < N → cur ≤ num k) : ∀ (m i : Nat) (v : Int32), i + m = N → fbL num cur m i v = if i < p then nI (p - 1) else v
  | 0, i, v, hi => by rw [fbL, if_neg (by omega)]
  | m + 1, i, v, hi => by
    rw [fbL, fb_po num cur hp h1 h2 m (i + 1) _ (by omega)]
    rcases Nat.lt_trichotomy (i + 1) p with z | z | z
    · rw [if_pos z, if_pos (by omega)]
    · rw [if_neg (by omega), if_neg (h1 i (by omega)), if_pos (by omega)]
      congr 1
      omega
    · rw [if_neg (by omega), if_pos (h2 i (by omega) (by omega)), if_neg (by omega)]
theorem lt_suc {a : Int32} {v : Nat} (hv : v < 100) : a < nI v + 1 ↔ a ≤ nI v := by
  have e : nI v + 1 = nI (v + 1) := nI_add v 1
  rw [e, Int32.lt_iff_toInt_lt, Int32.le_iff_toInt_le, nI_toInt (by omega), nI_toInt (by omega)]
  omega
theorem go_po (h : RC q S I) {v : Nat} (hv : v < 100) {cur : Int32} (hc : cur = nI v) : fgL (I 0) cur q (-1) = if poC S q (cur + 1) < q then nI (poC S q (cur + 1)) else -1 := by
  obtain ⟨a, b, c⟩ := poC_spec (S := S) (I := I) (q := q) (cur + 1) h.s5
  subst hc
  exact fg_po (I 0) (nI v) (fun k hk _ => (lt_suc hv).mp (b k hk)) (fun hk => mt (lt_suc hv).mpr (c hk)) q (-1) (Nat.le_refl q)
theorem back_po (h : RC q S I) (cur : Int32) : fbL (I 0) cur q 0 (-1) = if 0 < poC S q cur then nI (poC S q cur - 1) else -1 := by
  obtain ⟨a, b, c⟩ := poC_spec (S := S) (I := I) (q := q) cur h.s5
  refine fb_po (I 0) cur a (fun k hk => Int32.not_le.mpr (b k hk)) (fun k h1 h2 => ?_) q 0 (-1) (Nat.zero_add q)
  have h3 : cur ≤ I 0 (poC S q cur) := Int32.not_lt.mp (c (by omega))
  rcases Nat.lt_or_ge (poC S q cur) k with z | z
  · have h4 := h.2.1 _ k z h2
    exact Int32.le_trans h3 (Int32.le_iff_toInt_le.mpr (by rw [Int32.lt_iff_toInt_lt] at h4; omega))
  · have : k = poC S q cur := by omega
    rw [this]
    exact h3
end CG
