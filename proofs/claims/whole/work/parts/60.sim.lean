/-! the class's state (n, cap, g, S, en) and the reference's (I, e): what holds between them -/
def R0 (n cap : Nat → Nat) : Prop := CN n cap ∧ (cap 0 = 0 ∨ cap 0 = 10 ∨ cap 0 = 15 ∨ cap 0 = 22) ∧ (cap 1 = 0 ∨ cap 1 = 10) ∧ (cap 2 = 0 ∨ cap 2 = 10) ∧ (cap 3 = 0 ∨ cap 3 = 10)
def RI (n : Nat → Nat) (I : Nat → Nat → Int32) : Prop := I 30 0 = nI (n 0) ∧ I 30 2 = nI (n 1) ∧ I 30 3 = nI (n 2) ∧ I 30 4 = nI (n 3)
def RN (S : Nat → Nat → Nat → Int32) (I : Nat → Nat → Int32) : Prop := S 0 0 0 = I 30 1 ∧ S 0 0 1 = I 30 6 ∧ S 0 0 2 = I 30 7 ∧ S 0 0 3 = I 30 5 ∧ (∃ v, v < 100 ∧ I 30 1 = nI v) ∧ chK (I 30 5)
def cuOK (I : Nat → Nat → Int32) (k : Nat) : Prop := (∃ v, 1 ≤ v ∧ v < 100 ∧ I 0 k = nI v) ∧ (∃ t, t ≤ 40 ∧ I 1 k = nI t) ∧ cvB (I 2 k) = true ∧ (I 3 k = 0 ∨ I 3 k = 1) ∧ ∀ c, c < 12 → (I 4 (12 * k + c) = -1 ∨ ∃ v, v < 256 ∧ I 4 (12 * k + c) = nI v)
def cuE (S : Nat → Nat → Nat → Int32) (I : Nat → Nat → Int32) (k : Nat) : Prop := S 5 k 0 = I 0 k ∧ S 5 k 1 = I 1 k ∧ S 5 k 2 = I 2 k ∧ S 5 k 3 = I 3 k ∧ ∀ c, c < 12 → S 6 k c = I 4 (12 * k + c)
def RC (q : Nat) (S : Nat → Nat → Nat → Int32) (I : Nat → Nat → Int32) : Prop := (∀ k, k < q → cuE S I k ∧ cuOK I k) ∧ (∀ i j, i < j → j < q → I 0 i < I 0 j) ∧ HC I
def fdR (S : Nat → Nat → Nat → Int32) (I : Nat → Nat → Int32) (c : Nat) : Prop := (I 10 c = 0 ∧ S 4 c 0 = I 5 c ∧ ∃ t, t ≤ 40 ∧ S 4 c 1 = nI t ∧ S 4 c 2 = nI t) ∨ (I 10 c = 1 ∧ ∃ t d, d < t ∧ t ≤ 40 ∧ S 4 c 1 = nI t ∧ S 4 c 2 = nI d ∧ I 8 c = nI t ∧ I 30 6 - I 7 c = nI d ∧ S 4 c 3 = I 5 c ∧ S 4 c 4 = I 6 c ∧ S 4 c 5 = I 9 c ∧ cvB (I 9 c) = true ∧ S 4 c 0 = fadF I c)
def RF (S : Nat → Nat → Nat → Int32) (I : Nat → Nat → Int32) : Prop := ∀ c, c < 12 → fdR S I c
def RLt (ng : Nat) (S : Nat → Nat → Nat → Int32) (I : Nat → Nat → Int32) : Prop := ∀ c, c < 12 → S 4 c 6 = I 11 c ∧ (I 11 c = 0 ∨ I 11 c = 1) ∧ S 4 c 7 = I 12 c ∧ (¬ I 12 c < 0 → ∃ g, g < ng ∧ I 12 c = nI g) ∧ S 4 c 8 = I 13 c
def RG (ng : Nat) (S : Nat → Nat → Nat → Int32) (I : Nat → Nat → Int32) : Prop := (∀ g, g < ng → S 7 g 0 = I 15 g ∧ ∀ c, c < 12 → S 8 g c = bI (mbB (I 14 g) c)) ∧ ∀ g, ng ≤ g → g < 5 → I 14 g = 0 ∧ I 15 g = 0
def RE (ng ne : Nat) (g : Nat → Nat) (S : Nat → Nat → Nat → Int32) (I : Nat → Nat → Int32) : Prop := ∀ e, e < ne → I 16 e = nI (g e) ∧ g e < ng ∧ S 9 e 0 = I 17 e ∧ shB (I 17 e) = true ∧ S 9 e 1 = I 18 e ∧ (∃ p, 2 ≤ p ∧ p ≤ 40 ∧ I 18 e = nI p) ∧ S 9 e 2 = I 19 e ∧ S 9 e 3 = I 20 e ∧ S 9 e 4 = I 22 e ∧ (I 22 e = 0 ∨ I 22 e = 1) ∧ (¬ I 22 e = 0 → S 9 e 5 = I 21 e)
def RS (nt : Nat) (S : Nat → Nat → Nat → Int32) (I : Nat → Nat → Int32) : Prop := ∀ k, k < nt → S 10 k 0 = I 23 k ∧ S 10 k 1 = I 24 k ∧ S 10 k 2 = I 25 k ∧ caB (I 23 k) = true
def RR (n cap g : Nat → Nat) (en : Int64) (S : Nat → Nat → Nat → Int32) (I : Nat → Nat → Int32) (e : Int64) : Prop := R0 n cap ∧ RI n I ∧ RN S I ∧ RC (n 0) S I ∧ RF S I ∧ RLt (n 1) S I ∧ RG (n 1) S I ∧ RE (n 1) (n 2) g S I ∧ RS (n 3) S I ∧ en = e
section CG
variable {n cap g : Nat → Nat} {en e : Int64} {S T : Nat → Nat → Nat → Int32} {I J : Nat → Nat → Int32} {q ng ne nt c : Nat}
theorem RI.to (h : RI n I) (i : ∀ j, j < 8 → J 30 j = I 30 j) : RI n J := by
  unfold RI
  rw [i 0 (by decide), i 2 (by decide), i 3 (by decide), i 4 (by decide)]
  exact h
theorem RN.to (h : RN S I) (s : T 0 = S 0) (i : ∀ j, j < 8 → J 30 j = I 30 j) : RN T J := by
  unfold RN
  rw [i 1 (by decide), i 5 (by decide), i 6 (by decide), i 7 (by decide), s]
  exact h
theorem RC.to (h : RC q S I) (s5 : T 5 = S 5) (s6 : T 6 = S 6) (i0 : J 0 = I 0) (i1 : J 1 = I 1) (i2 : J 2 = I 2) (i3 : J 3 = I 3) (i4 : J 4 = I 4) : RC q T J := by
  unfold RC cuE cuOK HC
  rw [s5, s6, i0, i1, i2, i3, i4]
  exact h
theorem fdR.to (h : fdR S I c) (s4 : T 4 c = S 4 c) (i5 : J 5 c = I 5 c) (i6 : J 6 c = I 6 c) (i7 : J 7 c = I 7 c) (i8 : J 8 c = I 8 c) (i9 : J 9 c = I 9 c) (i10 : J 10 c = I 10 c) (i : J 30 6 = I 30 6) : fdR T J c := by
  unfold fdR fadF
  rw [s4, i5, i6, i7, i8, i9, i10, i]
  exact h
theorem RF.to (h : RF S I) (s4 : T 4 = S 4) (i5 : J 5 = I 5) (i6 : J 6 = I 6) (i7 : J 7 = I 7) (i8 : J 8 = I 8) (i9 : J 9 = I 9) (i10 : J 10 = I 10) (i : J 30 6 = I 30 6) : RF T J := fun c hc => (h c hc).to (by rw [s4]) (by rw [i5]) (by rw [i6]) (by rw [i7]) (by rw [i8]) (by rw [i9]) (by rw [i10]) i
theorem RLt.to (h : RLt ng S I) (s4 : ∀ c, c < 12 → T 4 c 6 = S 4 c 6 ∧ T 4 c 7 = S 4 c 7 ∧ T 4 c 8 = S 4 c 8) (i11 : J 11 = I 11) (i12 : J 12 = I 12) (i13 : J 13 = I 13) : RLt ng T J := by
  intro c hc
  rw [i11, i12, i13, (s4 c hc).1, (s4 c hc).2.1, (s4 c hc).2.2]
  exact h c hc
theorem RLt.to4 (h : RLt ng S I) (s4 : T 4 = S 4) (i11 : J 11 = I 11) (i12 : J 12 = I 12) (i13 : J 13 = I 13) : RLt ng T J := h.to (fun c _ => by rw [s4]; exact ⟨rfl, rfl, rfl⟩) i11 i12 i13
theorem RG.to (h : RG ng S I) (s7 : T 7 = S 7) (s8 : T 8 = S 8) (i14 : J 14 = I 14) (i15 : J 15 = I 15) : RG ng T J := by
  unfold RG
  rw [s7, s8, i14, i15]
  exact h
theorem RE.to (h : RE ng ne g S I) (s9 : T 9 = S 9) (i16 : J 16 = I 16) (i17 : J 17 = I 17) (i18 : J 18 = I 18) (i19 : J 19 = I 19) (i20 : J 20 = I 20) (i21 : J 21 = I 21) (i22 : J 22 = I 22) : RE ng ne g T J := by
  unfold RE
  rw [s9, i16, i17, i18, i19, i20, i21, i22]
  exact h
theorem RS.to (h : RS nt S I) (s10 : T 10 = S 10) (i23 : J 23 = I 23) (i24 : J 24 = I 24) (i25 : J 25 = I 25) : RS nt T J := by
  unfold RS
  rw [s10, i23, i24, i25]
  exact h
/-- rows that stay -/
theorem u30 (v : Int32) : ∀ j, j < 8 → uI I 30 8 v 30 j = I 30 j := fun j hj => by rw [uI_s, if_neg (by omega)]
theorem RR.thr (h : RR n cap g en S I e) (v : Int32) : RR n cap g en S (uI I 30 8 v) e := by
  obtain ⟨h0, hi, hn, hc, hf, hl, hg, he, hs, hen⟩ := h
  exact ⟨h0, hi.to (u30 v), hn.to rfl (u30 v), hc.to rfl rfl rfl rfl rfl rfl rfl, hf.to rfl rfl rfl rfl rfl rfl rfl (u30 v 6 (by decide)), hl.to4 rfl rfl rfl rfl, hg.to rfl rfl rfl rfl, he.to rfl rfl rfl rfl rfl rfl rfl rfl, hs.to rfl rfl rfl rfl, hen⟩
/-- what the reference's walks need -/
theorem RR.mi (h : RR n cap g en S I e) : MI I g (n 0) (n 1) (n 2) (n 3) := by
  obtain ⟨h0, hi, hn, hc, hf, hl, hg, he, hs, hen⟩ := h
  refine ⟨⟨hi.1, h0.1.2.1⟩, ⟨hi.2.1, h0.1.2.2.1⟩, ⟨hi.2.2.1, h0.1.2.2.2.1⟩, ⟨hi.2.2.2, h0.1.2.2.2.2⟩, fun c hc2 => (hl c hc2).2.2.2.1, fun c hc2 hq => ?_, fun e he2 => ⟨(he e he2).1, (he e he2).2.1⟩, fun e he2 => (he e he2).2.2.2.2.2.1⟩
  rcases hf c hc2 with ⟨a, -⟩ | ⟨-, t, d, h1, h2, -, -, h3, -⟩
  · exact absurd a hq
  · exact ⟨t, by omega, h2, h3⟩
theorem RR.ht (h : RR n cap g en S I e) : HT I := fun c hc hq => h.mi.2.2.2.2.2.1 c hc hq
theorem RR.hc (h : RR n cap g en S I e) : HC I := h.2.2.2.1.2.2
theorem RR.cn (h : RR n cap g en S I e) : CN n cap := h.1.1
theorem RR.ce (h : RR n cap g en S I e) : CE n g S := fun i hi => by
  have := h.2.2.2.2.2.2.2.1 i hi
  exact ⟨this.2.1, by rw [this.2.2.2.2.1]; exact this.2.2.2.2.2.1⟩
theorem RR.cf (h : RR n cap g en S I e) : CF S := fun c hc => by
  rcases h.2.2.2.2.1 c hc with ⟨-, -, t, h1, h2, h3⟩ | ⟨-, t, d, h1, h2, h3, h4, -⟩
  · exact ⟨t, t, h1, Nat.le_refl t, h2, h3⟩
  · exact ⟨t, d, h2, by omega, h3, h4⟩
theorem cvK {x : Int32} (h : cvB x = true) : chK x := by
  simp only [cvB, Bool.or_eq_true, decide_eq_true_eq] at h
  rcases h with (h | h) | h <;> rw [h]
  · exact chK_nI (q := 108) (by decide)
  · exact chK_nI (q := 113) (by decide)
  · exact chK_nI (q := 115) (by decide)
theorem RR.ck (h : RR n cap g en S I e) {p : Nat} (hp : p < n 0) : chK (S 5 p 2) := by
  have := h.2.2.2.1.1 p hp
  rw [this.1.2.2.1]
  exact cvK this.2.2.2.1
theorem RR.num (h : RR n cap g en S I e) {k : Nat} (hk : k < n 0) : ¬ I 0 k = -1 := by
  obtain ⟨v, h1, h2, h3⟩ := (h.2.2.2.1.1 k hk).2.1
  rw [h3]
  exact nI_nm1 (by omega)
theorem RR.tim (h : RR n cap g en S I e) {k : Nat} (hk : k < n 0) : ∃ t, t ≤ 40 ∧ I 1 k = nI t := (h.2.2.2.1.1 k hk).2.2.1
theorem RR.bi (h : RR n cap g en S I e) : BI I g (n 0) (n 1) (n 2) (n 3) := ⟨h.mi, h.hc, fun _ hk => ⟨h.num hk, h.tim hk⟩⟩
/-! places of numbers -/
theorem poL_spec (num : Nat → Int32) (x : Int32) : ∀ n i, i ≤ poL num x n i ∧ poL num x n i ≤ i + n ∧ (∀ k, i ≤ k → k < poL num x n i → num k < x) ∧ (poL num x n i < i + n → ¬ num (poL num x n i) < x)
  | 0, i => ⟨Nat.le_refl i, Nat.le_refl i, fun k h1 h2 => absurd h2 (by unfold poL; omega), fun h => absurd h (by unfold poL; omega)⟩
  | n + 1, i => by
    have ih := poL_spec num x n (i + 1)
    unfold poL
    split
    · rename_i q
      refine ⟨by omega, by omega, fun k h1 h2 => ?_, fun h => ih.2.2.2 (by omega)⟩
      rcases Nat.lt_or_ge i k with z | z
      · exact ih.2.2.1 k z h2
      · have : k = i := by omega
        subst this
        exact q
    · rename_i q
      exact ⟨Nat.le_refl i, by omega, fun k h1 h2 => absurd h2 (by omega), fun _ => q⟩
theorem poC_spec (x : Int32) (h : ∀ k, k < q → S 5 k 0 = I 0 k) : poC S q x ≤ q ∧ (∀ k, k < poC S q x → I 0 k < x) ∧ (poC S q x < q → ¬ I 0 (poC S q x) < x) := by
  have sp := poL_spec (nuC S) x q 0
  have hle : poC S q x ≤ q := poC_le S q x
  refine ⟨hle, fun k hk => ?_, fun hk => ?_⟩
  · rw [← h k (by omega)]
    exact sp.2.2.1 k (Nat.zero_le _) hk
  · rw [← h _ hk]
    exact sp.2.2.2 (by rw [Nat.zero_add]; exact hk)
theorem poC_uniq {x : Int32} {p : Nat} (h : ∀ k, k < q → S 5 k 0 = I 0 k) (hp : p ≤ q) (h1 : ∀ k, k < p → I 0 k < x) (h2 : p < q → ¬ I 0 p < x) : poC S q x = p := by
  obtain ⟨a, b, c⟩ := poC_spec (S := S) (I := I) (q := q) x h
  rcases Nat.lt_trichotomy (poC S q x) p with z | z | z
  · exact absurd (h1 _ z) (c (by omega))
  · exact z
  · exact absurd (b _ z) (h2 (by omega))
theorem RC.s5 (h : RC q S I) : ∀ k, k < q → S 5 k 0 = I 0 k := fun k hk => (h.1 k hk).1.1
theorem po_eq (h : RC q S I) {x : Int32} (hf : fnd (I 0) x q 0 < q) : poC S q x = fnd (I 0) x q 0 := by
  have ha : I 0 (fnd (I 0) x q 0) = x := fnd_at (I 0) x q 0 (by omega)
  refine poC_uniq h.s5 (by omega) (fun k hk => ?_) (fun _ => ?_)
  · have := h.2.1 k _ hk hf
    rwa [ha] at this
  · rw [ha]
    exact Int32.lt_irrefl
theorem hq_t (h : RC q S I) {x : Int32} (hf : fnd (I 0) x q 0 < q) : hqC S q x = true := by
  unfold hqC
  rw [po_eq h hf, decide_eq_true hf, h.s5 _ hf, fnd_at (I 0) x q 0 (by omega)]
  simp
theorem hq_f (h : RC q S I) {x : Int32} (hf : ¬ fnd (I 0) x q 0 < q) : hqC S q x = false := by
  unfold hqC
  by_cases hp : poC S q x < q
  · have := fnd_no (I 0) x q 0 (poC S q x) (Nat.zero_le _) (by omega)
    rw [h.s5 _ hp, decide_eq_false this, Bool.and_false]
  · rw [decide_eq_false hp, Bool.false_and]
/-- the next cue -/
theorem fg_po (num : Nat → Int32) (cur : Int32) {p N : Nat} (h1 : ∀ k, k < p → k < N → num k ≤ cur) (h2 : p < N → ¬ num p ≤ cur) : ∀ (m : Nat) (v : Int32), m ≤ N → fgL num cur m v = if p < m then nI p else v
  | 0, v, _ => by rw [fgL, if_neg (Nat.not_lt_zero p)]
  | m + 1, v, hm => by
    rw [fgL, fg_po num cur h1 h2 m _ (by omega)]
    rcases Nat.lt_trichotomy p m with z | z | z
    · rw [if_pos z, if_pos (by omega)]
    · subst z
      rw [if_neg (Nat.lt_irrefl p), if_neg (h2 (by omega)), if_pos (by omega)]
    · rw [if_neg (by omega), if_pos (h1 m z (by omega)), if_neg (by omega)]
theorem fb_po (num : Nat → Int32) (cur : Int32) {p N : Nat} (hp : p ≤ N) (h1 : ∀ k, k < p → ¬ cur ≤ num k) (h2 : ∀ k, p ≤ k → k < N → cur ≤ num k) : ∀ (m i : Nat) (v : Int32), i + m = N → fbL num cur m i v = if i < p then nI (p - 1) else v
  | 0, i, v, hi => by rw [fbL, if_neg (by omega)]
  | m + 1, i, v, hi => by
    rw [fbL, fb_po num cur hp h1 h2 m (i + 1) _ (by omega)]
    rcases Nat.lt_trichotomy (i + 1) p with z | z | z
    · rw [if_pos z, if_pos (by omega)]
    · rw [if_neg (by omega), if_neg (h1 i (by omega)), if_pos (by omega)]
      congr 1
      omega
    · rw [if_neg (by omega), if_pos (h2 i (by omega) (by omega)), if_neg (by omega)]
theorem lt_suc {a : Int32} {v : Nat} (hv : v < 100) : a < nI v + 1 ↔ a ≤ nI v := by
  have e : nI v + 1 = nI (v + 1) := nI_add v 1
  rw [e, Int32.lt_iff_toInt_lt, Int32.le_iff_toInt_le, nI_toInt (by omega), nI_toInt (by omega)]
  omega
theorem go_po (h : RC q S I) {v : Nat} (hv : v < 100) {cur : Int32} (hc : cur = nI v) : fgL (I 0) cur q (-1) = if poC S q (cur + 1) < q then nI (poC S q (cur + 1)) else -1 := by
  obtain ⟨a, b, c⟩ := poC_spec (S := S) (I := I) (q := q) (cur + 1) h.s5
  subst hc
  exact fg_po (I 0) (nI v) (fun k hk _ => (lt_suc hv).mp (b k hk)) (fun hk => mt (lt_suc hv).mpr (c hk)) q (-1) (Nat.le_refl q)
theorem back_po (h : RC q S I) (cur : Int32) : fbL (I 0) cur q 0 (-1) = if 0 < poC S q cur then nI (poC S q cur - 1) else -1 := by
  obtain ⟨a, b, c⟩ := poC_spec (S := S) (I := I) (q := q) cur h.s5
  refine fb_po (I 0) cur a (fun k hk => Int32.not_le.mpr (b k hk)) (fun k h1 h2 => ?_) q 0 (-1) (Nat.zero_add q)
  have h3 : cur ≤ I 0 (poC S q cur) := Int32.not_lt.mp (c (by omega))
  rcases Nat.lt_or_ge (poC S q cur) k with z | z
  · have h4 := h.2.1 _ k z h2
    exact Int32.le_trans h3 (Int32.le_iff_toInt_le.mpr (by rw [Int32.lt_iff_toInt_lt] at h4; omega))
  · have : k = poC S q cur := by omega
    rw [this]
    exact h3
end CG
/-! tracking, fades, plays: class and reference alike -/
section S1
variable {n cap g : Nat → Nat} {en e : Int64} {S T : Nat → Nat → Nat → Int32} {I J : Nat → Nat → Int32} {q ng ne nt c : Nat}
theorem mx_nI (v : Nat) (h : v < 2 ^ 31) : mx 0 (nI v) = nI v := by
  unfold mx
  by_cases z : v = 0
  · subst z
    rfl
  · rw [if_pos (show (0 : Int32) < nI v from (nI_ltI (a := 0) (b := v) (by omega) h).mpr (by omega))]
theorem tr_eq (h : RC q S I) (hc : c < 12) : ∀ k, k ≤ q → trC S c k = trk (I 4) (I 3) c k
  | 0, _ => rfl
  | k + 1, hk => by
    have ih := tr_eq h hc k (by omega)
    obtain ⟨⟨a0, a1, a2, a3, a4⟩, b0, b1, b2, b3, b4⟩ := h.1 k (by omega)
    rw [trC, trk, a4 c hc, a3]
    by_cases z : I 4 (12 * k + c) = -1
    · rw [if_pos z]
      by_cases z2 : I 3 k = 0
      · rw [if_pos z2, if_pos ⟨z, z2⟩]
        exact ih
      · rw [if_neg z2, if_neg (fun y => z2 y.2), z]
        rfl
    · rw [if_neg z, if_neg (fun y => z y.1)]
      rcases b4 c hc with w | ⟨v, w1, w2⟩
      · exact absurd w z
      · rw [w2, mx_nI v (by omega)]
theorem fdR.lvl (h : fdR S I c) : S 4 c 0 = fadF I c := by
  rcases h with ⟨a, b, -⟩ | ⟨a, t, d, -, -, -, -, -, -, -, -, -, -, b⟩
  · rw [fadF, if_pos a, b]
  · exact b
theorem fdV_0 (how w t : Int32) : fdV how w 0 t = 0 := by
  unfold fdV
  split
  · rw [Int32.mul_zero, Int32.zero_div]
  split
  · rw [Int32.mul_zero, Int32.mul_zero, Int32.zero_div]
  · simp only [Int32.mul_zero, Int32.zero_mul, Int32.sub_zero, Int32.zero_div]
theorem fdP_V {cv : Int32} (h : cvB cv = true) (d k t : Int32) : fdP cv d k t = fdV cv d k t := by
  simp only [cvB, Bool.or_eq_true, decide_eq_true_eq] at h
  rcases h with (h | h) | h <;> subst h <;> rfl
/-- other channels stay -/
theorem flS_ne (S : Nat → Nat → Nat → Int32) {c d : Nat} (tr t cv : Int32) (h : d ≠ c) : flS S c tr t cv 4 d = S 4 d := by
  have z : ¬ (4 = 4 ∧ d = c) := fun y => h y.2
  unfold flS
  split
  · rw [uS_n _ _ _ z, uS_n _ _ _ z]
  split
  · rw [uS_n _ _ _ z, uS_n _ _ _ z, uS_n _ _ _ z, uS_n _ _ _ z]
  · rw [uS_n _ _ _ z, uS_n _ _ _ z, uS_n _ _ _ z, uS_n _ _ _ z, uS_n _ _ _ z, uS_n _ _ _ z, uS_n _ _ _ z]
theorem uI_ne (I : Nat → Nat → Int32) {r i d : Nat} (x : Int32) (r2 : Nat) (h : d ≠ i) : uI I r i x r2 d = I r2 d := by
  by_cases z : r2 = r
  · subst z
    rw [uI_s, if_neg h]
  · rw [uI_n _ _ _ z]
theorem plB_ne (I : Nat → Nat → Int32) {k c d : Nat} (r : Nat) (h : d ≠ c) : plB k c I r d = I r d := by
  unfold plB
  split
  · rw [uI_ne _ _ _ h, uI_ne _ _ _ h]
  split
  · rw [uI_ne _ _ _ h, uI_ne _ _ _ h, uI_ne _ _ _ h, uI_ne _ _ _ h, uI_ne _ _ _ h, uI_ne _ _ _ h, uI_ne _ _ _ h, uI_ne _ _ _ h, uI_ne _ _ _ h]
  · rw [uI_ne _ _ _ h, uI_ne _ _ _ h, uI_ne _ _ _ h, uI_ne _ _ _ h, uI_ne _ _ _ h, uI_ne _ _ _ h, uI_ne _ _ _ h, uI_ne _ _ _ h, uI_ne _ _ _ h]
/-- one channel follows a cue -/
theorem pl_one {p : Nat} (hC : RC q S I) (hp : p < q) (hc : c < 12) (hF : fdR S I c) (hL : S 4 c 6 = I 11 c ∧ (I 11 c = 0 ∨ I 11 c = 1) ∧ S 4 c 7 = I 12 c ∧ (¬ I 12 c < 0 → ∃ g, g < ng ∧ I 12 c = nI g) ∧ S 4 c 8 = I 13 c) :
    fdR (flS S c (trC S c (p + 1)) (S 5 p 1) (S 5 p 2)) (plB p c I) c ∧ (flS S c (trC S c (p + 1)) (S 5 p 1) (S 5 p 2) 4 c 6 = plB p c I 11 c ∧ (plB p c I 11 c = 0 ∨ plB p c I 11 c = 1) ∧ flS S c (trC S c (p + 1)) (S 5 p 1) (S 5 p 2) 4 c 7 = plB p c I 12 c ∧ (¬ plB p c I 12 c < 0 → ∃ g, g < ng ∧ plB p c I 12 c = nI g) ∧ flS S c (trC S c (p + 1)) (S 5 p 1) (S 5 p 2) 4 c 8 = plB p c I 13 c) := by
  obtain ⟨⟨a0, a1, a2, a3, a4⟩, b0, ⟨t, b1, b1e⟩, b2, b3, b4⟩ := hC.1 p hp
  have htr := tr_eq hC hc (p + 1) hp
  have hlv := hF.lvl
  rw [htr, a1, a2]
  unfold flS plB
  rw [hlv]
  by_cases z : trk (I 4) (I 3) c (p + 1) = fadF I c
  · rw [if_pos z.symm, if_pos z]
    refine ⟨Or.inl ⟨by simp [uI, upd], by simp [uS, uI, upd, hlv], 0, by omega, by simp [uS, upd]; try rfl, by simp [uS, upd]; try rfl⟩, ?_⟩
    simpa [uS, uI, upd] using hL
  · rw [if_neg (fun y => z y.symm), if_neg z]
    by_cases z2 : t = 0
    · have e1 : I 1 p = 0 := by rw [b1e, z2]; rfl
      rw [if_pos e1, if_pos (by rw [e1]; exact Int32.le_refl _)]
      refine ⟨Or.inl ⟨by simp [uI, upd], by simp [uS, uI, upd], 0, by omega, by simp [uS, upd]; try rfl, by simp [uS, upd]; try rfl⟩, ?_⟩
      refine ⟨by simpa [uS, uI, upd] using hL.1, by simpa [uI, upd] using hL.2.1, by simp [uS, uI, upd], ?_, by simpa [uS, uI, upd] using hL.2.2.2.2⟩
      intro y
      exact absurd (show (-1 : Int32) < 0 by decide) (by simpa [uI, upd] using y)
    · have e1 : ¬ I 1 p = 0 := by rw [b1e]; exact nI_ne0 (by omega) (by omega)
      have e2 : ¬ I 1 p ≤ 0 := by
        rw [b1e]
        exact mt (nI_leI (a := t) (b := 0) (by omega) (by omega)).mp (by omega)
      rw [if_neg e1, if_neg e2]
      refine ⟨Or.inr ⟨by simp [uI, upd], t, 0, by omega, b1, by simp [uS, upd, b1e], by simp [uS, upd]; try rfl, by simp [uI, upd, b1e], by simp [uI, upd]; try rfl, by simp [uS, uI, upd, hlv], by simp [uS, uI, upd], by simp [uS, uI, upd], by simpa [uI, upd] using b2, ?_⟩, ?_⟩
      · have e3 : ∀ K : Nat → Nat → Int32, ¬ K 10 c = 0 → K 30 6 - K 7 c = 0 → fadF K c = K 5 c := fun K h1 h2 => by rw [fadF, if_neg h1, h2, fdV_0, Int32.add_zero]
        refine Eq.trans ?_ (e3 _ ?_ ?_).symm
        · simp [uS, uI, upd, hlv]
        · simp [uI, upd]
        · simp [uI, upd]
      · refine ⟨by simpa [uS, uI, upd] using hL.1, by simpa [uI, upd] using hL.2.1, by simp [uS, uI, upd], ?_, by simpa [uS, uI, upd] using hL.2.2.2.2⟩
        intro y
        exact absurd (show (-1 : Int32) < 0 by decide) (by simpa [uI, upd] using y)
theorem plB_30 (k c : Nat) (I : Nat → Nat → Int32) : plB k c I 30 = I 30 := plB_row k c I (by decide) (by decide) (by decide) (by decide) (by decide) (by decide) (by decide)
theorem pl_rel {p : Nat} (hp : p < q) : ∀ (m c : Nat) (S : Nat → Nat → Nat → Int32) (I : Nat → Nat → Int32), c + m = 12 → RC q S I → RF S I → RLt ng S I → RF (ppL p m c S) (plL p m c I) ∧ RLt ng (ppL p m c S) (plL p m c I)
  | 0, _, _, _, _, _, hF, hL => ⟨hF, hL⟩
  | m + 1, c, S, I, hm, hC, hF, hL => by
    have k1 := pl_one (ng := ng) hC hp (show c < 12 by omega) (hF c (by omega)) (hL c (by omega))
    rw [ppL, plL]
    have i : ∀ r, r ≠ 5 → r ≠ 6 → r ≠ 7 → r ≠ 8 → r ≠ 9 → r ≠ 10 → r ≠ 12 → plB p c I r = I r := fun r a b d e f g h => plB_row p c I a b d e f g h
    refine pl_rel hp m (c + 1) _ _ (by omega) (hC.to (flS_n _ _ _ _ _ (by decide)) (flS_n _ _ _ _ _ (by decide)) (i 0 (by decide) (by decide) (by decide) (by decide) (by decide) (by decide) (by decide)) (i 1 (by decide) (by decide) (by decide) (by decide) (by decide) (by decide) (by decide)) (i 2 (by decide) (by decide) (by decide) (by decide) (by decide) (by decide) (by decide)) (i 3 (by decide) (by decide) (by decide) (by decide) (by decide) (by decide) (by decide)) (i 4 (by decide) (by decide) (by decide) (by decide) (by decide) (by decide) (by decide))) (fun d hd => ?_) (fun d hd => ?_)
    · by_cases z : d = c
      · rw [z]; exact k1.1
      · exact (hF d hd).to (flS_ne _ _ _ _ z) (plB_ne _ _ z) (plB_ne _ _ z) (plB_ne _ _ z) (plB_ne _ _ z) (plB_ne _ _ z) (plB_ne _ _ z) (by rw [plB_30])
    · by_cases z : d = c
      · rw [z]; exact k1.2
      · rw [flS_ne _ _ _ _ z, plB_ne _ _ z, plB_ne _ _ z, plB_ne _ _ z]
        exact hL d hd
theorem ppS_n (p : Nat) (S : Nat → Nat → Nat → Int32) {k : Nat} (h4 : k ≠ 4) (h0 : k ≠ 0) : ppS p S k = S k := by rw [ppS, uS_row _ _ _ _ h0, ppL_n p h4]
theorem ppS_4 (p : Nat) (S : Nat → Nat → Nat → Int32) : ppS p S 4 = ppL p 12 0 S 4 := by rw [ppS, uS_row _ _ _ _ (by decide)]
theorem plS_row (k : Nat) (I : Nat → Nat → Int32) {r : Nat} (h5 : r ≠ 5) (h6 : r ≠ 6) (h7 : r ≠ 7) (h8 : r ≠ 8) (h9 : r ≠ 9) (h10 : r ≠ 10) (h12 : r ≠ 12) (h30 : r ≠ 30) : plS k I r = I r := by rw [plS, plL_row k h5 h6 h7 h8 h9 h10 h12, uI_n _ _ _ h30]
theorem plS_30 (k : Nat) (I : Nat → Nat → Int32) : plS k I 30 = upd (I 30) 1 (I 0 k) := by
  rw [plS, plL_row k (by decide) (by decide) (by decide) (by decide) (by decide) (by decide) (by decide)]
  rfl
/-- a cue is played -/
theorem RR.play (h : RR n cap g en S I e) {p : Nat} (hp : p < n 0) : RR n cap g en (ppS p S) (plS p I) e := by
  obtain ⟨h0, hi, hn, hc, hf, hl, hg, he, hs, hen⟩ := h
  have k := pl_rel (ng := n 1) hp 12 0 S (uI I 30 1 (I 0 p)) rfl (hc.to rfl rfl rfl rfl rfl rfl rfl) (hf.to rfl rfl rfl rfl rfl rfl rfl (by rw [uI_s]; rfl)) (hl.to4 rfl rfl rfl rfl)
  have i : ∀ r, r ≠ 5 → r ≠ 6 → r ≠ 7 → r ≠ 8 → r ≠ 9 → r ≠ 10 → r ≠ 12 → r ≠ 30 → plS p I r = I r := fun r a b d e f g h j => plS_row p I a b d e f g h j
  have z : ∀ r, r ≠ 5 ∧ r ≠ 6 ∧ r ≠ 7 ∧ r ≠ 8 ∧ r ≠ 9 ∧ r ≠ 10 ∧ r ≠ 12 ∧ r ≠ 30 → plS p I r = I r := fun r y => i r y.1 y.2.1 y.2.2.1 y.2.2.2.1 y.2.2.2.2.1 y.2.2.2.2.2.1 y.2.2.2.2.2.2.1 y.2.2.2.2.2.2.2
  obtain ⟨⟨v, w1, w2, w3⟩, -⟩ := (hc.1 p hp).2
  refine ⟨h0, ?_, ?_, hc.to (ppS_n p S (by decide) (by decide)) (ppS_n p S (by decide) (by decide)) (z 0 (by decide)) (z 1 (by decide)) (z 2 (by decide)) (z 3 (by decide)) (z 4 (by decide)), k.1.to (ppS_4 p S) rfl rfl rfl rfl rfl rfl rfl, k.2.to4 (ppS_4 p S) rfl rfl rfl, hg.to (ppS_n p S (by decide) (by decide)) (ppS_n p S (by decide) (by decide)) (z 14 (by decide)) (z 15 (by decide)), he.to (ppS_n p S (by decide) (by decide)) (z 16 (by decide)) (z 17 (by decide)) (z 18 (by decide)) (z 19 (by decide)) (z 20 (by decide)) (z 21 (by decide)) (z 22 (by decide)), hs.to (ppS_n p S (by decide) (by decide)) (z 23 (by decide)) (z 24 (by decide)) (z 25 (by decide)), hen⟩
  · unfold RI
    rw [plS_30]
    exact hi
  · have e1 : ppS p S 0 0 0 = I 0 p := by
      rw [ppS, uS_s, ppL_n p (k := 5) (by decide), ppL_n p (k := 0) (by decide)]
      unfold upd
      rw [if_pos rfl]
      exact (hc.1 p hp).1.1
    have e2 : ∀ j, j ≠ 0 → ppS p S 0 0 j = S 0 0 j := fun j hj => by
      rw [ppS, uS_s, ppL_n p (k := 0) (by decide)]
      simp [upd, hj]
    unfold RN
    rw [plS_30, e1, e2 1 (by decide), e2 2 (by decide), e2 3 (by decide)]
    exact ⟨rfl, hn.2.1, hn.2.2.1, hn.2.2.2.1, ⟨v, w2, w3⟩, hn.2.2.2.2.2⟩
/-- how many fade; how long -/
theorem fc_eq (hF : RF S I) : ∀ (m c k : Nat), c + m = 12 → fcL S m c k = ctL (I 10) m c k
  | 0, _, _, _ => rfl
  | m + 1, c, k, h => by
    have e1 : (if S 4 c 1 - S 4 c 2 ≤ 0 then k else k + 1) = (if I 10 c = 0 then k else k + 1) := by
      rcases hF c (by omega) with ⟨a, -, t, b1, b2, b3⟩ | ⟨a, t, d, b1, b2, b3, b4, -⟩
      · rw [if_pos a, b2, b3, Int32.sub_self, if_pos (Int32.le_refl _)]
      · rw [if_neg (show ¬ I 10 c = 0 by rw [a]; decide), b3, b4, pk_sub (by omega), if_neg (show ¬ nI (t - d) ≤ 0 from mt (nI_leI (a := t - d) (b := 0) (by omega) (by omega)).mp (by omega))]
    rw [fcL, ctL, e1]
    exact fc_eq hF m (c + 1) _ (by omega)
theorem ld_eq (hF : RF S I) : ∀ (m c : Nat) (v : Int32), c + m = 12 → ldL S m c v = tlL I m c v
  | 0, _, _, _ => rfl
  | m + 1, c, v, h => by
    have e1 : S 4 c 1 - S 4 c 2 = (if I 10 c = 0 then 0 else I 8 c - (I 30 6 - I 7 c)) := by
      rcases hF c (by omega) with ⟨a, -, t, b1, b2, b3⟩ | ⟨a, t, d, b1, b2, b3, b4, b5, b6, -⟩
      · rw [if_pos a, b2, b3, Int32.sub_self]
      · rw [if_neg (by rw [a]; decide), b3, b4, b5, b6]
    rw [ldL, tlL, e1]
    exact ld_eq hF m (c + 1) _ (by omega)
end S1
/-! levels and time: class and reference alike -/
section S2
variable {n cap g : Nat → Nat} {en e : Int64} {S T : Nat → Nat → Nat → Int32} {I J : Nat → Nat → Int32} {q ng ne nt c : Nat}
theorem bI_z (b : Bool) : bI b = 0 ↔ b = false := bI_eq0
theorem hi_eq (hG : RG ng S I) (hc : c < 12) : ∀ (m i : Nat) (v : Int32), i + m ≤ ng → hiL S c m i v = bsL (I 14) (I 15) c m i v
  | 0, _, _, _ => rfl
  | m + 1, i, v, h => by
    have e1 : (if S 8 i c = 0 then v else mx v (S 7 i 0)) = (if mbB (I 14 i) c then mx v (I 15 i) else v) := by
      obtain ⟨a, b⟩ := hG.1 i (by omega)
      rw [b c hc, a]
      cases hb : mbB (I 14 i) c with
      | false => rfl
      | true => rfl
    rw [hiL, bsL, e1]
    exact hi_eq hG hc m (i + 1) _ (by omega)
theorem bs_eq (hF : RF S I) (hL : RLt ng S I) (hG : RG ng S I) (hg : ng ≤ 5) (hc : c < 12) : bsC S ng c = bsF I ng c := by
  obtain ⟨l1, l2, l3, l4, l5⟩ := hL c hc
  unfold bsC bsF
  rw [l1, (hF c hc).lvl]
  by_cases z : I 11 c = 0
  · rw [if_pos z, if_pos z]
    exact hi_eq hG hc ng 0 _ (by omega)
  · rw [if_neg z, if_neg z]
    by_cases z2 : I 12 c < 0
    · rw [if_pos z2, laC_neg (by rw [l3]; exact z2), (hF c hc).lvl]
    · rw [if_neg z2]
      obtain ⟨k, hk, he⟩ := l4 z2
      rw [laC_in (l3.trans he) hk (by omega), he, nI_clamp (by omega), (hF c hc).lvl]
      obtain ⟨a, b⟩ := hG.1 k hk
      rw [b c hc, a]
      cases hb : mbB (I 14 k) c with
      | false => rfl
      | true => rfl
theorem mb_eq {G : Nat} (h : ∀ c, c < 12 → S 8 G c = bI (mbB (I 14 G) c)) : ∀ (m i k : Nat), i + m ≤ 12 → mbC (S 8 G) m i k = ahd (I 14 G) m i k
  | 0, _, _, _ => rfl
  | m + 1, i, k, hm => by
    have e1 : (if S 8 G i = 0 then k else k + 1) = (if mbB (I 14 G) i then k + 1 else k) := by
      rw [h i (by omega)]
      cases hb : mbB (I 14 G) i with
      | false => rfl
      | true => rfl
    rw [mbC, ahd, e1]
    exact mb_eq h m (i + 1) _ (by omega)
theorem vl_eq {sh : Int32} (h : shB sh = true) (p sz ph : Int32) : vlP sh p sz ph = effV sh sz p ph := by
  simp only [shB, Bool.or_eq_true, decide_eq_true_eq] at h
  unfold vlP effV
  have n1 : ¬ (116 : Int32) = 119 := by decide
  have n2 : ¬ (116 : Int32) = 113 := by decide
  have n3 : ¬ (113 : Int32) = 119 := by decide
  have n4 : ¬ (113 : Int32) = 116 := by decide
  rcases h with (h | h) | h <;> subst h
  · rw [if_pos (show (119 : Int32) = 119 from rfl), if_pos (show (119 : Int32) = 119 from rfl)]
  · rw [if_neg n1, if_neg n2, if_neg n1, if_pos (show (116 : Int32) = 116 from rfl)]
    by_cases z : ph ≤ p / 2
    · rw [if_pos z, if_neg (Int32.not_lt.mpr z)]
    · rw [if_neg z, if_pos (Int32.not_le.mp z)]
  · rw [if_neg n3, if_pos (show (113 : Int32) = 113 from rfl), if_neg n3, if_neg n4]
    by_cases z : ph < p / 2
    · rw [if_pos z, if_neg (Int32.not_le.mpr z)]
    · rw [if_neg z, if_pos (Int32.not_lt.mp z)]
theorem gv_eq (h0 : S 0 0 1 = I 30 6) (hG : RG ng S I) (hE : RE ng ne g S I) (hc : c < 12) {e : Nat} (he : e < ne) : gvC S g e c = gvF I g e c := by
  obtain ⟨a1, a2, a3, a4, a5, a6, a7, a8, a9, a10, a11⟩ := hE e he
  obtain ⟨-, b⟩ := hG.1 (g e) a2
  unfold gvC gvF
  rw [a9]
  by_cases z : I 22 e = 0
  · rw [if_pos z, if_pos z]
  · rw [if_neg z, if_neg z, b c hc]
    cases hb : mbB (I 14 (g e)) c with
    | false => rw [if_pos (show bI false = 0 from rfl), if_pos (show false = false from rfl)]
    | true => rw [if_neg (show ¬ bI true = 0 by decide), if_neg (show ¬ true = false by decide), vlC, a3, a5, a7, a8, h0, a11 z, mb_eq b c 0 0 (by omega), vl_eq a4, phF]
theorem sa_eq (h0 : S 0 0 1 = I 30 6) (hG : RG ng S I) (hE : RE ng ne g S I) (hc : c < 12) : ∀ (m e : Nat) (v : Int32), e + m ≤ ne → saL S g c m e v = smL I g c m e v
  | 0, _, _, _ => rfl
  | m + 1, e, v, h => by
    rw [saL, smL, gv_eq h0 hG hE hc (show e < ne by omega)]
    exact sa_eq h0 hG hE hc m (e + 1) _ (by omega)
theorem mn_c (x : Int32) : mn x 255 = mn 255 x := by
  unfold mn
  by_cases h : 255 < x
  · rw [if_pos h, if_neg (Int32.not_lt.mpr (Int32.le_iff_toInt_le.mpr (by rw [Int32.lt_iff_toInt_lt] at h; omega)))]
  · rw [if_neg h]
    by_cases h2 : x < 255
    · rw [if_pos h2]
    · rw [if_neg h2]
      exact Int32.le_antisymm (Int32.not_lt.mp h) (Int32.not_lt.mp h2)
theorem ou_eq (h2 : S 0 0 2 = I 30 7) (hL : RLt ng S I) (hc : c < 12) (v : Int32) : ouC S c v = if I 13 c = -1 then mn 255 v * I 30 7 / 255 else I 13 c := by
  unfold ouC
  rw [(hL c hc).2.2.2.2, h2, mn_c]
theorem al_eq (h : RR n cap g en S I e) (hc : c < 12) : ouC S c (saL S g c (n 2) 0 (bsC S (n 1) c)) = lvF I g (n 1) (n 2) c := by
  obtain ⟨h0, hi, hn, hC, hf, hl, hg, he, hs, hen⟩ := h
  rw [ou_eq hn.2.2.1 hl hc, sa_eq hn.2.1 hg he hc (n 2) 0 _ (by omega), bs_eq hf hl hg h0.1.2.2.1 hc]
  rfl
/-! the row of the levels -/
theorem bsC_u (S : Nat → Nat → Nat → Int32) (i : Nat) (v : Int32) (ng c : Nat) : bsC (uS S 2 0 i v) ng c = bsC S ng c := by
  have e4 : uS S 2 0 i v 4 = S 4 := uS_row _ _ _ _ (by decide)
  have e7 : uS S 2 0 i v 7 = S 7 := uS_row _ _ _ _ (by decide)
  have e8 : uS S 2 0 i v 8 = S 8 := uS_row _ _ _ _ (by decide)
  have hh : ∀ (m i2 : Nat) (w : Int32), hiL (uS S 2 0 i v) c m i2 w = hiL S c m i2 w := by
    intro m
    induction m with
    | zero => intro i2 w; rfl
    | succ m ih =>
      intro i2 w
      rw [hiL, hiL, e7, e8]
      exact ih _ _
  unfold bsC laC
  rw [hh, e4, e7, e8]
theorem uS2 (S : Nat → Nat → Nat → Int32) (i j : Nat) (v : Int32) : uS S 2 0 i v 2 0 j = if j = i then v else S 2 0 j := by
  rw [uS_s]
  rfl
theorem f1_at (ng : Nat) : ∀ (m i : Nat) (S : Nat → Nat → Nat → Int32) (c : Nat), f1L ng m i S 2 0 c = if i ≤ c ∧ c < i + m then bsC S ng c else S 2 0 c
  | 0, i, S, c => by rw [f1L, if_neg (by omega)]
  | m + 1, i, S, c => by
    rw [f1L, f1_at ng m (i + 1), bsC_u, uS2]
    by_cases z : i + 1 ≤ c ∧ c < i + 1 + m
    · rw [if_pos z, if_pos (by omega)]
    · rw [if_neg z]
      by_cases z2 : c = i
      · subst z2
        rw [if_pos rfl, if_pos (by omega)]
      · rw [if_neg z2, if_neg (by omega)]
theorem vlC_u (S : Nat → Nat → Nat → Int32) (i : Nat) (v : Int32) (e : Nat) (tk mb : Int32) : vlC (uS S 2 0 i v) e tk mb = vlC S e tk mb := by
  have e9 : uS S 2 0 i v 9 = S 9 := uS_row _ _ _ _ (by decide)
  unfold vlC
  rw [e9]
theorem ad_at (g : Nat → Nat) (e : Nat) : ∀ (m i k : Nat) (S : Nat → Nat → Nat → Int32) (c : Nat), adL g e m i k S 2 0 c = if i ≤ c ∧ c < i + m ∧ ¬ S 8 (g e) c = 0 then S 2 0 c + vlC S e (S 0 0 1 - S 9 e 5) (nI (mbC (S 8 (g e)) (c - i) i k)) else S 2 0 c
  | 0, i, k, S, c => by rw [adL, if_neg (by omega)]
  | m + 1, i, k, S, c => by
    by_cases z : S 8 (g e) i = 0
    · rw [adL, if_pos z, ad_at g e m (i + 1)]
      by_cases z1 : i + 1 ≤ c ∧ c < i + 1 + m ∧ ¬ S 8 (g e) c = 0
      · rw [if_pos z1, if_pos ⟨by omega, by omega, z1.2.2⟩, show c - i = (c - (i + 1)) + 1 by omega, mbC, if_pos z]
      · rw [if_neg z1, if_neg]
        intro y
        by_cases z2 : c = i
        · subst z2
          exact y.2.2 z
        · exact z1 ⟨by omega, by omega, y.2.2⟩
    · rw [adL, if_neg z, ad_at g e m (i + 1)]
      have e8 : ∀ w, uS S 2 0 i w 8 = S 8 := fun w => uS_row _ _ _ _ (by decide)
      have e9 : ∀ w, uS S 2 0 i w 9 = S 9 := fun w => uS_row _ _ _ _ (by decide)
      have e0 : ∀ w, uS S 2 0 i w 0 = S 0 := fun w => uS_row _ _ _ _ (by decide)
      rw [e8, e9, e0, vlC_u, uS2]
      by_cases z1 : i + 1 ≤ c ∧ c < i + 1 + m ∧ ¬ S 8 (g e) c = 0
      · rw [if_pos z1, if_neg (show ¬ c = i by omega), if_pos ⟨by omega, by omega, z1.2.2⟩, show c - i = (c - (i + 1)) + 1 by omega, mbC, if_neg z]
      · rw [if_neg z1]
        by_cases z2 : c = i
        · subst z2
          rw [if_pos rfl, if_pos ⟨Nat.le_refl _, by omega, z⟩, Nat.sub_self]
          rfl
        · rw [if_neg z2, if_neg]
          intro y
          exact z1 ⟨by omega, by omega, y.2.2⟩
theorem adL_row (g : Nat → Nat) (e : Nat) (S : Nat → Nat → Nat → Int32) (c : Nat) (hc : c < 12) : (if S 9 e 4 = 0 then S else adL g e 12 0 0 S) 2 0 c = S 2 0 c + gvC S g e c := by
  unfold gvC
  by_cases z : S 9 e 4 = 0
  · rw [if_pos z, if_pos z, Int32.add_zero]
  · rw [if_neg z, if_neg z, ad_at]
    by_cases z2 : S 8 (g e) c = 0
    · rw [if_neg (fun y => y.2.2 z2), if_pos z2, Int32.add_zero]
    · rw [if_pos ⟨Nat.zero_le _, by omega, z2⟩, if_neg z2, Nat.sub_zero]
theorem gvC_to {g : Nat → Nat} {e c : Nat} (s0 : T 0 = S 0) (s8 : T 8 = S 8) (s9 : T 9 = S 9) : gvC T g e c = gvC S g e c := by
  unfold gvC vlC
  rw [s0, s8, s9]
theorem saL_to {g : Nat → Nat} {c : Nat} (s0 : T 0 = S 0) (s8 : T 8 = S 8) (s9 : T 9 = S 9) : ∀ (m e : Nat) (v : Int32), saL T g c m e v = saL S g c m e v
  | 0, _, _ => rfl
  | m + 1, e, v => by
    rw [saL, saL, gvC_to s0 s8 s9]
    exact saL_to s0 s8 s9 m (e + 1) _
theorem f2_at (g : Nat → Nat) (c : Nat) (hc : c < 12) : ∀ (m e : Nat) (S : Nat → Nat → Nat → Int32), f2L g m e S 2 0 c = saL S g c m e (S 2 0 c)
  | 0, _, _ => rfl
  | m + 1, e, S => by
    rw [f2L, f2_at g c hc m (e + 1), adL_row g e S c hc, saL]
    have k : ∀ j, j ≠ 2 → (if S 9 e 4 = 0 then S else adL g e 12 0 0 S) j = S j := fun j hj => by
      split
      · rfl
      · exact adL_n g e hj 12 0 0 S
    exact saL_to (k 0 (by decide)) (k 8 (by decide)) (k 9 (by decide)) m (e + 1) _
theorem ouC_to {c : Nat} {v : Int32} (s0 : T 0 = S 0) (s4 : T 4 = S 4) : ouC T c v = ouC S c v := by
  unfold ouC
  rw [s0, s4]
theorem f3_at : ∀ (m i : Nat) (S : Nat → Nat → Nat → Int32) (c : Nat), f3L m i S 2 0 c = if i ≤ c ∧ c < i + m then ouC S c (S 2 0 c) else S 2 0 c
  | 0, i, S, c => by rw [f3L, if_neg (by omega)]
  | m + 1, i, S, c => by
    rw [f3L, f3_at m (i + 1), ouC_to (uS_row _ _ _ _ (by decide)) (uS_row _ _ _ _ (by decide)), uS2]
    by_cases z : i + 1 ≤ c ∧ c < i + 1 + m
    · rw [if_pos z, if_neg (show ¬ c = i by omega), if_pos (by omega)]
    · rw [if_neg z]
      by_cases z2 : c = i
      · subst z2
        rw [if_pos rfl, if_pos (by omega)]
      · rw [if_neg z2, if_neg (by omega)]
theorem flv_at (g : Nat → Nat) (ng ne : Nat) (S : Nat → Nat → Nat → Int32) (hc : c < 12) : flv g ng ne S 2 0 c = ouC S c (saL S g c ne 0 (bsC S ng c)) := by
  have k : ∀ j, j ≠ 2 → f1L ng 12 0 S j = S j := fun j hj => f1L_n ng hj 12 0 S
  have k2 : ∀ j, j ≠ 2 → f2L g ne 0 (f1L ng 12 0 S) j = S j := fun j hj => (f2L_n g hj ne 0 _).trans (k j hj)
  rw [flv, f3_at, if_pos ⟨Nat.zero_le c, by omega⟩, ouC_to (k2 0 (by decide)) (k2 4 (by decide)), f2_at g c hc, saL_to (k 0 (by decide)) (k 8 (by decide)) (k 9 (by decide)), f1_at, if_pos ⟨Nat.zero_le c, by omega⟩]
theorem RR.lev (h : RR n cap g en S I e) (hc : c < 12) : flv g (n 1) (n 2) S 2 0 c = lvF I g (n 1) (n 2) c := (flv_at g _ _ S hc).trans (al_eq h hc)
theorem RR.row (h : RR n cap g en S I e) : RR n cap g en (flv g (n 1) (n 2) S) I e := by
  obtain ⟨h0, hi, hn, hC, hf, hl, hg, he, hs, hen⟩ := h
  have k : ∀ j, j ≠ 2 → flv g (n 1) (n 2) S j = S j := fun j hj => flv_n g _ _ S hj
  exact ⟨h0, hi, hn.to (k 0 (by decide)) (fun _ _ => rfl), hC.to (k 5 (by decide)) (k 6 (by decide)) rfl rfl rfl rfl rfl, hf.to (k 4 (by decide)) rfl rfl rfl rfl rfl rfl rfl, hl.to4 (k 4 (by decide)) rfl rfl rfl, hg.to (k 7 (by decide)) (k 8 (by decide)) rfl rfl, he.to (k 9 (by decide)) rfl rfl rfl rfl rfl rfl rfl, hs.to (k 10 (by decide)) rfl rfl rfl, hen⟩
/-! time -/
def fdQ (S : Nat → Nat → Nat → Int32) (I : Nat → Nat → Int32) (c : Nat) : Prop := (I 10 c = 0 ∧ S 4 c 0 = I 5 c ∧ ∃ t, t ≤ 40 ∧ S 4 c 1 = nI t ∧ S 4 c 2 = nI t) ∨ (I 10 c = 1 ∧ ∃ t d, d < t ∧ t ≤ 40 ∧ S 4 c 1 = nI t ∧ S 4 c 2 = nI d ∧ I 8 c = nI t ∧ I 30 6 - I 7 c = nI (d + 1) ∧ S 4 c 3 = I 5 c ∧ S 4 c 4 = I 6 c ∧ S 4 c 5 = I 9 c ∧ cvB (I 9 c) = true)
def ptB (I : Nat → Nat → Int32) (c : Nat) : Nat → Nat → Int32 := if I 10 c = 0 then I else if I 30 6 - I 7 c = I 8 c then uI (uI I 10 c 0) 5 c (I 6 c) else I
theorem foS_ne (S : Nat → Nat → Nat → Int32) {c d : Nat} (h : d ≠ c) : foS S c 4 d = S 4 d := by
  have z : ¬ (4 = 4 ∧ d = c) := fun y => h y.2
  unfold foS
  split
  · split <;> rw [uS_n _ _ _ z, uS_n _ _ _ z]
  · rfl
theorem foS_hi (S : Nat → Nat → Nat → Int32) (c d f : Nat) (h : 6 ≤ f) : foS S c 4 d f = S 4 d f := by
  unfold foS
  have h0 : ¬ f = 0 := by omega
  have h2 : ¬ f = 2 := by omega
  by_cases z : d = c
  · subst z
    split
    · split <;> simp [uS, upd, h0, h2]
    · rfl
  · split
    · split <;> simp [uS, z]
    · rfl
theorem foL_hi (d f : Nat) (h : 6 ≤ f) : ∀ (m c : Nat) (S : Nat → Nat → Nat → Int32), foL m c S 4 d f = S 4 d f
  | 0, _, _ => rfl
  | m + 1, c, S => by rw [foL, foL_hi d f h m, foS_hi S c d f h]
theorem ptB_ne (I : Nat → Nat → Int32) {c d : Nat} (r : Nat) (h : d ≠ c) : ptB I c r d = I r d := by
  unfold ptB
  split
  · rfl
  · split
    · rw [uI_ne _ _ _ h, uI_ne _ _ _ h]
    · rfl
theorem ptB_30 (I : Nat → Nat → Int32) (c : Nat) : ptB I c 30 = I 30 := by
  unfold ptB
  split
  · rfl
  · split <;> rfl
theorem fo_one (h : fdQ S I c) : fdR (foS S c) (ptB I c) c := by
  rcases h with ⟨a, b, t, h1, h2, h3⟩ | ⟨a, t, d, h1, h2, h3, h4, h5, h6, h7, h8, h9, h10⟩
  · unfold foS ptB
    rw [if_pos a, if_neg (by rw [h2, h3]; exact Int32.lt_irrefl)]
    exact Or.inl ⟨a, b, t, h1, h2, h3⟩
  · have e1 : nI d + 1 = nI (d + 1) := nI_add d 1
    have l1 : S 4 c 2 < S 4 c 1 := by rw [h3, h4]; exact nI_lt h1 (by omega)
    unfold foS ptB
    rw [if_pos l1, if_neg (show ¬ I 10 c = 0 by rw [a]; decide)]
    by_cases z : d + 1 < t
    · have l2 : S 4 c 2 + 1 < S 4 c 1 := by rw [h3, h4, e1]; exact nI_lt z (by omega)
      have l3 : ¬ I 30 6 - I 7 c = I 8 c := by rw [h6, h5]; exact mt (nI_eq (a := d + 1) (b := t) (by omega) (by omega)).mp (by omega)
      rw [if_pos l2, if_neg l3]
      refine Or.inr ⟨a, t, d + 1, z, h2, by simp [uS, upd, h3], by simp [uS, upd, h4, e1], h5, h6, by simp [uS, upd, h7], by simp [uS, upd, h8], by simp [uS, upd, h9], h10, ?_⟩
      rw [fadF, if_neg (show ¬ I 10 c = 0 by rw [a]; decide), h6, h5, ← fdP_V h10]
      simp [uS, upd, h3, h4, h7, h8, h9, e1]
    · have hd : d + 1 = t := by omega
      have l2 : ¬ S 4 c 2 + 1 < S 4 c 1 := by rw [h3, h4, e1, hd]; exact Int32.lt_irrefl
      have l3 : I 30 6 - I 7 c = I 8 c := by rw [h6, h5, hd]
      rw [if_neg l2, if_pos l3]
      exact Or.inl ⟨by simp [uI, upd], by simp [uS, uI, upd, h8], t, h2, by simp [uS, upd, h3], by simp [uS, upd, h4, e1, hd]⟩
theorem fdQ.to (h : fdQ S I c) (s4 : T 4 c = S 4 c) (i5 : J 5 c = I 5 c) (i6 : J 6 c = I 6 c) (i7 : J 7 c = I 7 c) (i8 : J 8 c = I 8 c) (i9 : J 9 c = I 9 c) (i10 : J 10 c = I 10 c) (i : J 30 6 = I 30 6) : fdQ T J c := by
  unfold fdQ
  rw [s4, i5, i6, i7, i8, i9, i10, i]
  exact h
theorem ptL_B (m c : Nat) (I : Nat → Nat → Int32) : ptL (m + 1) c I = ptL m (c + 1) (ptB I c) := rfl
theorem fo_rel : ∀ (m c : Nat) (S : Nat → Nat → Nat → Int32) (I : Nat → Nat → Int32), c + m = 12 → (∀ d, d < c → fdR S I d) → (∀ d, c ≤ d → d < 12 → fdQ S I d) → RF (foL m c S) (ptL m c I)
  | 0, c, S, I, hm, h1, h2 => fun d hd => h1 d (by omega)
  | m + 1, c, S, I, hm, h1, h2 => by
    rw [foL, ptL_B]
    refine fo_rel m (c + 1) _ _ (by omega) (fun d hd => ?_) (fun d hd1 hd2 => ?_)
    · by_cases z : d = c
      · rw [z]
        exact fo_one (h2 c (Nat.le_refl c) (by omega))
      · exact (h1 d (by omega)).to (foS_ne _ z) (ptB_ne _ _ z) (ptB_ne _ _ z) (ptB_ne _ _ z) (ptB_ne _ _ z) (ptB_ne _ _ z) (ptB_ne _ _ z) (by rw [ptB_30])
    · have z : d ≠ c := by omega
      exact (h2 d (by omega) hd2).to (foS_ne _ z) (ptB_ne _ _ z) (ptB_ne _ _ z) (ptB_ne _ _ z) (ptB_ne _ _ z) (ptB_ne _ _ z) (ptB_ne _ _ z) (by rw [ptB_30])
theorem sub_one (a b : Int32) {d : Nat} (h : a - b = nI d) : a + 1 - b = nI (d + 1) := by
  have e1 : nI (d + 1) = nI d + 1 := (nI_add d 1).symm
  rw [e1, ← h, Int32.sub_eq_add_neg, Int32.sub_eq_add_neg, Int32.add_assoc, Int32.add_comm 1, Int32.add_assoc]
/-- the state behind now + 1, fades gone on -/
theorem RR.tick (h : RR n cap g en S I e) : RR n cap g en (foL 12 0 (uS S 0 0 1 (S 0 0 1 + 1))) (tkI I) e := by
  obtain ⟨h0, hi, hn, hC, hf, hl, hg, he, hs, hen⟩ := h
  have k : ∀ j, j ≠ 4 → j ≠ 0 → foL 12 0 (uS S 0 0 1 (S 0 0 1 + 1)) j = S j := fun j a b => (foL_n a 12 0 _).trans (uS_row _ _ _ _ b)
  have i : ∀ r, r ≠ 10 → r ≠ 5 → r ≠ 30 → tkI I r = I r := fun r a b c => by rw [tkI, ptL_row a b, uI_n _ _ _ c]
  have hF : RF (foL 12 0 (uS S 0 0 1 (S 0 0 1 + 1))) (tkI I) := by
    refine fo_rel 12 0 _ _ rfl (fun d hd => absurd hd (Nat.not_lt_zero d)) (fun d _ hd => ?_)
    rcases hf d hd with ⟨a, b, t, h1, h2, h3⟩ | ⟨a, t, d2, h1, h2, h3, h4, h5, h6, h7, h8, h9, h10, -⟩
    · exact Or.inl ⟨a, b, t, h1, h2, h3⟩
    · exact Or.inr ⟨a, t, d2, h1, h2, h3, h4, h5, sub_one _ _ h6, h7, h8, h9, h10⟩
  have e30 := tkI_30 I
  refine ⟨h0, ?_, ?_, hC.to (k 5 (by decide) (by decide)) (k 6 (by decide) (by decide)) (i 0 (by decide) (by decide) (by decide)) (i 1 (by decide) (by decide) (by decide)) (i 2 (by decide) (by decide) (by decide)) (i 3 (by decide) (by decide) (by decide)) (i 4 (by decide) (by decide) (by decide)), hF, hl.to (fun d hd => ⟨foL_hi d 6 (by decide) 12 0 _, foL_hi d 7 (by decide) 12 0 _, foL_hi d 8 (by decide) 12 0 _⟩) (i 11 (by decide) (by decide) (by decide)) (i 12 (by decide) (by decide) (by decide)) (i 13 (by decide) (by decide) (by decide)), hg.to (k 7 (by decide) (by decide)) (k 8 (by decide) (by decide)) (i 14 (by decide) (by decide) (by decide)) (i 15 (by decide) (by decide) (by decide)), he.to (k 9 (by decide) (by decide)) (i 16 (by decide) (by decide) (by decide)) (i 17 (by decide) (by decide) (by decide)) (i 18 (by decide) (by decide) (by decide)) (i 19 (by decide) (by decide) (by decide)) (i 20 (by decide) (by decide) (by decide)) (i 21 (by decide) (by decide) (by decide)) (i 22 (by decide) (by decide) (by decide)), hs.to (k 10 (by decide) (by decide)) (i 23 (by decide) (by decide) (by decide)) (i 24 (by decide) (by decide) (by decide)) (i 25 (by decide) (by decide) (by decide)), hen⟩
  · unfold RI
    rw [e30]
    exact hi
  · have e0 : foL 12 0 (uS S 0 0 1 (S 0 0 1 + 1)) 0 = uS S 0 0 1 (S 0 0 1 + 1) 0 := foL_n (by decide) 12 0 _
    unfold RN
    rw [e30, e0, uS_s]
    refine ⟨hn.1, ?_, hn.2.2.1, hn.2.2.2.1, hn.2.2.2.2.1, hn.2.2.2.2.2⟩
    show S 0 0 1 + 1 = I 30 6 + 1
    rw [hn.2.1]
theorem es_eq (h : RR n cap g en S I e) : ∀ (m c : Nat) (v : Int64), c + m = 12 → esL (flv g (n 1) (n 2) S) m c v = enL I g (n 1) (n 2) m c v
  | 0, _, _, _ => rfl
  | m + 1, c, v, hm => by
    rw [esL, enL, h.lev (show c < 12 by omega)]
    exact es_eq h m (c + 1) _ (by omega)
theorem RR.pass : ∀ (t : Nat) {en e : Int64} {S : Nat → Nat → Nat → Int32} {I : Nat → Nat → Int32}, RR n cap g en S I e → RR n cap g (tcL g (n 1) (n 2) t S en).2 (tcL g (n 1) (n 2) t S en).1 (tkL g (n 1) (n 2) t I e).1 (tkL g (n 1) (n 2) t I e).2
  | 0, _, _, _, _, h => h
  | t + 1, en, e, S, I, h => by
    have h2 := h.tick
    have h3 := h2.row
    rw [tcL, tkL]
    refine RR.pass t ?_
    have e1 : esL (tcS g (n 1) (n 2) S) 12 0 en = enL (tkI I) g (n 1) (n 2) 12 0 e := by
      rw [← h.2.2.2.2.2.2.2.2.2]
      exact es_eq h2 12 0 en rfl
    rw [e1]
    obtain ⟨h0, hi, hn, hC, hf, hl, hg, he, hs, hen⟩ := h3
    exact ⟨h0, hi, hn, hC, hf, hl, hg, he, hs, rfl⟩
end S2
/-! ranks, means, members' bits, cues put in and taken out: class and reference alike -/
section S3
variable {n cap g : Nat → Nat} {en e : Int64} {S T : Nat → Nat → Nat → Int32} {I J : Nat → Nat → Int32} {q ng ne nt c : Nat}
theorem lt_eq {f h : Nat → Int32} : ∀ (m i k : Nat), (∀ j, i ≤ j → j < i + m → f j = h j) → ltL f m i k = ltL h m i k
  | 0, _, _, _ => rfl
  | m + 1, i, k, hh => by
    rw [ltL, ltL, hh i (Nat.le_refl i) (by omega)]
    exact lt_eq m (i + 1) _ (fun j a b => hh j (by omega) (by omega))
theorem np_eq {f h : Nat → Int32} : ∀ (m i k : Nat), (∀ j, i ≤ j → j < i + m → f j = h j) → npL f m i k = npL h m i k
  | 0, _, _, _ => rfl
  | m + 1, i, k, hh => by
    rw [npL, npL, hh i (Nat.le_refl i) (by omega)]
    exact np_eq m (i + 1) _ (fun j a b => hh j (by omega) (by omega))
theorem sp_eq {f h a b : Nat → Int32} : ∀ (m i : Nat) (v : Int32), (∀ j, i ≤ j → j < i + m → f j = h j ∧ a j = b j) → spL f a m i v = spL h b m i v
  | 0, _, _, _ => rfl
  | m + 1, i, v, hh => by
    rw [spL, spL, (hh i (Nat.le_refl i) (by omega)).1, (hh i (Nat.le_refl i) (by omega)).2]
    exact sp_eq m (i + 1) _ (fun j a b => hh j (by omega) (by omega))
theorem rk_eq {f h : Nat → Int32} {c : Nat} (hc : f c = h c) : ∀ (m i k : Nat), (∀ j, i ≤ j → j < i + m → f j = h j) → rkL f c m i k = rkL h c m i k
  | 0, _, _, _ => rfl
  | m + 1, i, k, hh => by
    rw [rkL, rkL, hh i (Nat.le_refl i) (by omega), hc]
    exact rk_eq hc m (i + 1) _ (fun j a b => hh j (by omega) (by omega))
theorem cb_eq {f h : Nat → Int32} (r : Nat) (hh : ∀ j, j < 12 → f j = h j) : ∀ (m i : Nat) (v : Int32), i + m = 12 → cbL f r m i v = cbL h r m i v
  | 0, _, _, _ => rfl
  | m + 1, i, v, hm => by
    rw [cbL, cbL, rk_eq (hh i (by omega)) 12 0 0 (fun j _ b => hh j (by omega))]
    exact cb_eq r hh m (i + 1) _ (by omega)
/-! every rank has its channel -/
def rkP (f : Nat → Int32) (i c : Nat) : Prop := f c < f i ∨ (f i = f c ∧ i < c)
theorem rk_up (f : Nat → Int32) (c : Nat) : ∀ (m i k : Nat), rkL f c (m + 1) i k = if f c < f (i + m) ∨ (f (i + m) = f c ∧ i + m < c) then rkL f c m i k + 1 else rkL f c m i k
  | 0, _, _ => rfl
  | m + 1, i, k => by
    rw [rkL, rk_up f c m (i + 1), show i + 1 + m = i + (m + 1) by omega]
    rfl
theorem rkP_trans {f : Nat → Int32} {i a b : Nat} (h1 : rkP f i a) (h2 : rkP f a b) : rkP f i b := by
  rcases h1 with h1 | ⟨h1, h3⟩
  · rcases h2 with h2 | ⟨h2, h4⟩
    · exact Or.inl (Int32.lt_trans h2 h1)
    · exact Or.inl (h2 ▸ h1)
  · rcases h2 with h2 | ⟨h2, h4⟩
    · exact Or.inl (h1 ▸ h2)
    · exact Or.inr ⟨h1.trans h2, by omega⟩
theorem rkP_tot {f : Nat → Int32} {a b : Nat} (h : a ≠ b) : rkP f a b ∨ rkP f b a := by
  by_cases z : f a = f b
  · rcases Nat.lt_or_ge a b with w | w
    · exact Or.inl (Or.inr ⟨z, w⟩)
    · exact Or.inr (Or.inr ⟨z.symm, by omega⟩)
  · rcases Int32.lt_or_le (f a) (f b) with w | w
    · exact Or.inr (Or.inl w)
    · refine Or.inl (Or.inl ?_)
      rcases Int32.lt_or_le (f b) (f a) with y | y
      · exact y
      · exact absurd (Int32.le_antisymm y w) z
theorem rkP_irr {f : Nat → Int32} {a : Nat} (h : rkP f a a) : False := by
  rcases h with h | ⟨-, h⟩
  · exact Int32.lt_irrefl h
  · exact Nat.lt_irrefl a h
theorem rk_s (f : Nat → Int32) (c N : Nat) : (rkP f N c → rkL f c (N + 1) 0 0 = rkL f c N 0 0 + 1) ∧ (¬ rkP f N c → rkL f c (N + 1) 0 0 = rkL f c N 0 0) := by
  have h := rk_up f c N 0 0
  rw [Nat.zero_add] at h
  exact ⟨fun q => by rw [h, if_pos (show f c < f N ∨ (f N = f c ∧ N < c) from q)], fun q => by rw [h, if_neg (show ¬ (f c < f N ∨ (f N = f c ∧ N < c)) from q)]⟩
theorem rk_mono (f : Nat → Int32) {a b : Nat} (hab : rkP f a b) : ∀ N, rkL f a N 0 0 ≤ rkL f b N 0 0
  | 0 => Nat.le_refl _
  | N + 1 => by
    have ih := rk_mono f hab N
    have h1 := rk_s f a N
    have h2 := rk_s f b N
    by_cases z : rkP f N a
    · rw [h1.1 z, h2.1 (rkP_trans z hab)]
      omega
    · rw [h1.2 z]
      by_cases w : rkP f N b
      · rw [h2.1 w]
        omega
      · rw [h2.2 w]
        exact ih
theorem rk_lt (f : Nat → Int32) {a b : Nat} (hab : rkP f a b) : ∀ N, a < N → rkL f a N 0 0 < rkL f b N 0 0
  | 0, h => absurd h (Nat.not_lt_zero a)
  | N + 1, h => by
    have h1 := rk_s f a N
    have h2 := rk_s f b N
    by_cases y : a = N
    · subst y
      rw [h1.2 rkP_irr, h2.1 hab]
      have := rk_mono f hab a
      omega
    · have ih := rk_lt f hab N (by omega)
      by_cases z : rkP f N a
      · rw [h1.1 z, h2.1 (rkP_trans z hab)]
        omega
      · rw [h1.2 z]
        by_cases w : rkP f N b
        · rw [h2.1 w]
          omega
        · rw [h2.2 w]
          exact ih
theorem rk_sur (f : Nat → Int32) : ∀ N r, r < N → ∃ c, c < N ∧ rkL f c N 0 0 = r
  | 0, _, h => absurd h (Nat.not_lt_zero _)
  | N + 1, r, h => by
    have hN := (rk_s f N N).2 rkP_irr
    have hle := rkL_le f N N 0 0
    rcases Nat.lt_trichotomy r (rkL f N N 0 0) with z | z | z
    · obtain ⟨c, h1, h2⟩ := rk_sur f N r (by omega)
      refine ⟨c, by omega, ?_⟩
      have w : ¬ rkP f N c := fun w => by
        have := rk_mono f w N
        omega
      rw [(rk_s f c N).2 w, h2]
    · exact ⟨N, by omega, by rw [hN, z]⟩
    · obtain ⟨c, h1, h2⟩ := rk_sur f N (r - 1) (by omega)
      refine ⟨c, by omega, ?_⟩
      have w : rkP f N c := by
        rcases rkP_tot (f := f) (a := N) (b := c) (by omega) with w | w
        · exact w
        · have := rk_lt f w N h1
          omega
      rw [(rk_s f c N).1 w, h2]
      omega
theorem cb_any {f : Nat → Int32} {r : Nat} : ∀ (m i : Nat) (v w : Int32), (∃ c, i ≤ c ∧ c < i + m ∧ rkL f c 12 0 0 = r) → cbL f r m i v = cbL f r m i w
  | 0, i, _, _, ⟨c, h1, h2, _⟩ => absurd h2 (by omega)
  | m + 1, i, v, w, ⟨c, h1, h2, h3⟩ => by
    rw [cbL, cbL]
    by_cases z : rkL f i 12 0 0 = r
    · rw [if_pos z, if_pos z]
    · rw [if_neg z, if_neg z]
      refine cb_any m (i + 1) v w ⟨c, ?_, by omega, h3⟩
      rcases Nat.lt_or_ge i c with y | y
      · omega
      · have : c = i := by omega
        rw [this] at h3
        exact absurd h3 z
theorem cb_all {f h : Nat → Int32} {r : Nat} (hr : r < 12) (hh : ∀ j, j < 12 → f j = h j) (v w : Int32) : cbL f r 12 0 v = cbL h r 12 0 w := by
  rw [cb_eq r hh 12 0 v rfl]
  obtain ⟨c, h1, h2⟩ := rk_sur h 12 r hr
  exact cb_any 12 0 v w ⟨c, Nat.zero_le c, by omega, h2⟩
/-! the mean is a number -/
def okD (v : FP.Core.Datum) : Prop := match v with
  | .nan => False
  | .inf _ => True
  | .fin _ c q => c < 9007199254740992 ∧ q ≤ 971
theorem b64t : FP.Core.b64.tails = 4503599627370496 := by decide
theorem b64e : FP.Core.b64.exps = 2048 := by decide
theorem b64q : FP.Core.b64.qmin = -1074 := by decide
theorem b64x : FP.Core.b64.qmax = 971 := by decide
theorem b64p : 2 ^ FP.Core.b64.p = 9007199254740992 := by decide
theorem vf_mod (x : UInt64) : vf_n64 x ↔ x.toNat % 9223372036854775808 ≤ 9218868437227405312 := by
  unfold vf_n64
  rw [UInt64.le_iff_toNat_le, UInt64.toNat_and]
  have h1 : (0x7fffffffffffffff : UInt64).toNat = 2 ^ 63 - 1 := by decide
  have h2 : (0x7ff0000000000000 : UInt64).toNat = 9218868437227405312 := by decide
  rw [h1, h2, Nat.and_two_pow_sub_one_eq_mod]
theorem enc64 (v : FP.Core.Datum) (h : okD v) : vf_n64 (UInt64.ofNat (FP.Core.encode FP.Core.b64 v)) := by
  rw [vf_mod, UInt64.toNat_ofNat']
  cases v with
  | nan => exact h.elim
  | inf s =>
    show (FP.Core.assemble FP.Core.b64 s (FP.Core.b64.exps - 1) 0) % 2 ^ 64 % 9223372036854775808 ≤ _
    unfold FP.Core.assemble
    rw [b64t, b64e]
    cases s <;> decide
  | fin s c q =>
    obtain ⟨h1, h2⟩ := h
    show (if c < FP.Core.b64.tails then FP.Core.assemble FP.Core.b64 s 0 c else FP.Core.assemble FP.Core.b64 s ((q - FP.Core.b64.qmin).toNat + 1) (c - FP.Core.b64.tails)) % 2 ^ 64 % 9223372036854775808 ≤ 9218868437227405312
    have hf : (false : Bool).toNat = 0 := rfl
    have ht : (true : Bool).toNat = 1 := rfl
    have hp : (2 : Nat) ^ 64 = 18446744073709551616 := by decide
    rw [b64t, b64q, hp]
    split
    · rename_i z
      unfold FP.Core.assemble
      rw [b64t, b64e]
      cases s
      · rw [hf]
        omega
      · rw [ht]
        omega
    · rename_i z
      unfold FP.Core.assemble
      rw [b64t, b64e]
      have h3 : (q - -1074).toNat + 1 ≤ 2046 := by omega
      generalize (q - -1074).toNat + 1 = k at h3
      cases s
      · rw [hf]
        omega
      · rw [ht]
        omega
theorem okD_bound {s : Bool} {c : Nat} {q : Int} (h : c < 9007199254740992) : okD (FP.Core.bound FP.Core.b64 s c q) := by
  unfold FP.Core.bound
  rw [b64x]
  split
  · exact ⟨h, by assumption⟩
  · trivial
theorem okD_round (s : Bool) (num den : Nat) (e : Int) : okD (FP.Core.roundRatio FP.Core.b64 s num den e) := by
  unfold FP.Core.roundRatio
  split
  · rw [b64q]
    exact ⟨by decide, by decide⟩
  · unfold FP.Core.roundAt FP.Core.settle
    rw [b64p]
    split
    · exact okD_bound (by assumption)
    · exact okD_bound (by rw [b64t]; decide)
theorem dec_no {x : UInt64} (h : vf_n64 x) : FP.Core.decode FP.Core.b64 x.toNat ≠ .nan := by
  rw [vf_mod] at h
  unfold FP.Core.decode FP.Core.fieldE FP.Core.fieldT
  rw [b64t, b64e]
  split
  · split
    · exact fun q => by cases q
    · omega
  · split <;> exact fun q => by cases q
theorem quo_ok {x y : FP.Core.Datum} {s : Bool} {c : Nat} {q : Int} (hx : x ≠ .nan) (hy : y = .fin s c q) (hc : c ≠ 0) : okD (FP.Core.quotient FP.Core.b64 x y) := by
  subst hy
  cases x with
  | nan => exact absurd rfl hx
  | inf t => trivial
  | fin t d r =>
    show okD (if c = 0 then (if d = 0 then FP.Core.Datum.nan else FP.Core.Datum.inf (t != s)) else FP.Core.roundRatio FP.Core.b64 (t != s) d c (r - q))
    rw [if_neg hc]
    exact okD_round _ _ _ _
theorem i2d_n (s : Int32) : vf_n64 (FP.i2d s) := by
  show vf_n64 (UInt64.ofNat (FP.Core.encode FP.Core.b64 (FP.Core.round FP.Core.b64 (FP.Core.ofInt s.toInt))))
  exact enc64 _ (okD_round _ _ _ _)
theorem dec_k : ∀ k, k < 13 → k ≠ 0 → ∃ s c q, FP.Core.decode FP.Core.b64 (FP.i2d (nI k)).toNat = .fin s c q ∧ c ≠ 0 := by
  intro k h1 h2
  have h3 : k = 1 ∨ k = 2 ∨ k = 3 ∨ k = 4 ∨ k = 5 ∨ k = 6 ∨ k = 7 ∨ k = 8 ∨ k = 9 ∨ k = 10 ∨ k = 11 ∨ k = 12 := by omega
  rcases h3 with rfl | rfl | rfl | rfl | rfl | rfl | rfl | rfl | rfl | rfl | rfl | rfl
  · exact ⟨false, 4503599627370496, -52, by decide +kernel, by decide⟩
  · exact ⟨false, 4503599627370496, -51, by decide +kernel, by decide⟩
  · exact ⟨false, 6755399441055744, -51, by decide +kernel, by decide⟩
  · exact ⟨false, 4503599627370496, -50, by decide +kernel, by decide⟩
  · exact ⟨false, 5629499534213120, -50, by decide +kernel, by decide⟩
  · exact ⟨false, 6755399441055744, -50, by decide +kernel, by decide⟩
  · exact ⟨false, 7881299347898368, -50, by decide +kernel, by decide⟩
  · exact ⟨false, 4503599627370496, -49, by decide +kernel, by decide⟩
  · exact ⟨false, 5066549580791808, -49, by decide +kernel, by decide⟩
  · exact ⟨false, 5629499534213120, -49, by decide +kernel, by decide⟩
  · exact ⟨false, 6192449487634432, -49, by decide +kernel, by decide⟩
  · exact ⟨false, 6755399441055744, -49, by decide +kernel, by decide⟩
theorem mean_n (s : Int32) {k : Nat} (h0 : ¬ k = 0) (hk : k ≤ 12) : vf_n64 (FP.ddiv (FP.i2d s) (FP.i2d (nI k))) := by
  obtain ⟨s2, c, q, h1, h2⟩ := dec_k k (by omega) h0
  show vf_n64 (UInt64.ofNat (FP.Core.encode FP.Core.b64 (FP.Core.quotient FP.Core.b64 (FP.Core.decode FP.Core.b64 (FP.i2d s).toNat) (FP.Core.decode FP.Core.b64 (FP.i2d (nI k)).toNat))))
  exact enc64 _ (quo_ok (dec_no (i2d_n s)) h1 h2)
/-! members as bits -/
def bt (x : Int32) (i : Nat) : Bool := x.toBitVec.getLsbD i
theorem b_ext {x y : Int32} (h : ∀ i, i < 32 → bt x i = bt y i) : x = y := Int32.toBitVec_inj.mp (BitVec.eq_of_getLsbD_eq (fun i hi => h i hi))
theorem b_and (x y : Int32) (i : Nat) : bt (x &&& y) i = (bt x i && bt y i) := by unfold bt; rw [Int32.toBitVec_and, BitVec.getLsbD_and]
theorem b_xor (x y : Int32) (i : Nat) : bt (x ^^^ y) i = (bt x i ^^ bt y i) := by unfold bt; rw [Int32.toBitVec_xor, BitVec.getLsbD_xor]
theorem s_l : ∀ n, n < 32 → ((nI n &&& 31).toBitVec.smod 32).toNat = n := by decide +kernel
theorem b_shl (n : Nat) (hn : n < 32) (x : Int32) {i : Nat} (hi : i < 32) : bt (x <<< (nI n &&& 31)) i = (decide (n ≤ i) && bt x (i - n)) := by
  unfold bt
  rw [Int32.toBitVec_shiftLeft]
  show (x.toBitVec <<< ((nI n &&& 31).toBitVec.smod 32).toNat).getLsbD i = _
  rw [s_l n hn, BitVec.getLsbD_shiftLeft]
  rcases Nat.lt_or_ge i n with h | h
  · simp [h, Nat.not_le.mpr h]
  · simp [hi, h, Nat.not_lt.mpr h]
theorem b_sshr (n : Nat) (hn : n < 32) (x : Int32) {i : Nat} (hi : i < 32) : bt (x >>> (nI n &&& 31)) i = if n + i < 32 then bt x (n + i) else bt x 31 := by
  unfold bt
  rw [Int32.toBitVec_shiftRight]
  show (x.toBitVec.sshiftRight ((nI n &&& 31).toBitVec.smod 32).toNat).getLsbD i = _
  rw [s_l n hn, BitVec.getLsbD_sshiftRight, BitVec.msb_eq_getLsbD_last]
  simp [hi]
theorem b_one : ∀ i, i < 32 → bt 1 i = decide (i = 0) := by decide +kernel
theorem mbB_bt (ms : Int32) {c : Nat} (hc : c < 12) : mbB ms c = bt ms c := by
  have k : bt (ms >>> (nI c &&& 31)) 0 = bt ms c := by
    rw [b_sshr c (by omega) ms (by decide), if_pos (by omega), Nat.add_zero]
  unfold mbB
  cases hb : bt ms c with
  | true =>
    refine decide_eq_true (b_ext fun i hi => ?_)
    rw [b_and, b_one i hi]
    by_cases z : i = 0
    · subst z
      rw [k, hb]
      rfl
    · rw [decide_eq_false z, Bool.and_false]
  | false =>
    refine decide_eq_false fun q => ?_
    have h2 := congrArg (fun y => bt y 0) q
    rw [b_and, k, hb, b_one 0 (by decide)] at h2
    exact absurd h2 (by decide)
theorem mbB_x (ms : Int32) {c d : Nat} (hc : c < 12) (hd : d < 12) : mbB (ms ^^^ (1 <<< (nI c &&& 31))) d = if d = c then !mbB ms d else mbB ms d := by
  rw [mbB_bt _ hd, mbB_bt _ hd, b_xor, b_shl c (by omega) 1 (by omega)]
  by_cases z : d = c
  · subst z
    rw [if_pos rfl, Nat.sub_self, b_one 0 (by decide)]
    cases bt ms d <;> simp
  · rw [if_neg z]
    by_cases w : c ≤ d
    · rw [b_one (d - c) (by omega), decide_eq_false (show ¬ d - c = 0 by omega)]
      simp
    · rw [decide_eq_false w]
      simp
theorem mbB_0 {c : Nat} (hc : c < 12) : mbB 0 c = false := by
  rw [mbB_bt _ hc]
  exact BitVec.getLsbD_zero
end S3
/-! cues put in and taken out: class and reference alike -/
section S4
variable {n cap g : Nat → Nat} {en e : Int64} {S T : Nat → Nat → Nat → Int32} {I J : Nat → Nat → Int32} {q ng ne nt c : Nat}
/-- cue j of J is cue k of I -/
def cuM (I : Nat → Nat → Int32) (k : Nat) (J : Nat → Nat → Int32) (j : Nat) : Prop := J 0 j = I 0 k ∧ J 1 j = I 1 k ∧ J 2 j = I 2 k ∧ J 3 j = I 3 k ∧ ∀ c, c < 12 → J 4 (12 * j + c) = I 4 (12 * k + c)
theorem cuM.rf (I : Nat → Nat → Int32) (k : Nat) : cuM I k I k := ⟨rfl, rfl, rfl, rfl, fun _ _ => rfl⟩
theorem cuM.tr {K : Nat → Nat → Int32} {i j k : Nat} (h1 : cuM I i J j) (h2 : cuM J j K k) : cuM I i K k := ⟨h2.1.trans h1.1, h2.2.1.trans h1.2.1, h2.2.2.1.trans h1.2.2.1, h2.2.2.2.1.trans h1.2.2.2.1, fun c hc => (h2.2.2.2.2 c hc).trans (h1.2.2.2.2 c hc)⟩
theorem cuM.ok {i j : Nat} (h : cuM I i J j) (hk : cuOK I i) : cuOK J j := by
  obtain ⟨a, b, c, d, f⟩ := h
  unfold cuOK
  rw [a, b, c, d]
  refine ⟨hk.1, hk.2.1, hk.2.2.1, hk.2.2.2.1, fun c hc => ?_⟩
  rw [f c hc]
  exact hk.2.2.2.2 c hc
theorem cuM.cu {i j : Nat} (h : cuM I i J j) (h5 : ∀ r, T 5 j r = S 5 i r) (h6 : ∀ c, c < 12 → T 6 j c = S 6 i c) (hk : cuE S I i) : cuE T J j := by
  obtain ⟨a, b, c, d, f⟩ := h
  unfold cuE
  rw [a, b, c, d, h5, h5, h5, h5]
  refine ⟨hk.1, hk.2.1, hk.2.2.1, hk.2.2.2.1, fun c hc => ?_⟩
  rw [f c hc, h6 c hc]
  exact hk.2.2.2.2 c hc
theorem cpL_at (x y : Nat) : ∀ (m c : Nat) (I : Nat → Nat → Int32) (z : Nat), c + m ≤ 12 → cpL x y m c I 4 z = if 12 * y + c ≤ z ∧ z < 12 * y + c + m then I 4 (12 * x + (z - 12 * y)) else I 4 z
  | 0, c, I, z, _ => by rw [cpL, if_neg (by omega)]
  | m + 1, c, I, z, hm => by
    rw [cpL, cpL_at x y m (c + 1) _ z (by omega)]
    by_cases h1 : 12 * y + (c + 1) ≤ z ∧ z < 12 * y + (c + 1) + m
    · rw [if_pos h1, if_pos (by omega), uI_s, if_neg (by omega)]
    · rw [if_neg h1, uI_s]
      by_cases h2 : z = 12 * y + c
      · rw [if_pos h2, if_pos (by omega)]
        congr 1
        omega
      · rw [if_neg h2, if_neg (by omega)]
theorem cp1_4 (I : Nat → Nat → Int32) (x y : Nat) : cp1 I x y 4 = I 4 := rfl
theorem cpM_4 (I : Nat → Nat → Int32) (x y z : Nat) : cpM I x y 4 z = if 12 * y ≤ z ∧ z < 12 * y + 12 then I 4 (12 * x + (z - 12 * y)) else I 4 z := by
  rw [cpM, cpL_at x y 12 0 _ z (by omega), cp1_4]
  rfl
theorem cpM_r (I : Nat → Nat → Int32) (x y : Nat) : cpM I x y 0 = upd (I 0) y (I 0 x) ∧ cpM I x y 1 = upd (I 1) y (I 1 x) ∧ cpM I x y 2 = upd (I 2) y (I 2 x) ∧ cpM I x y 3 = upd (I 3) y (I 3 x) := by
  refine ⟨?_, ?_, ?_, ?_⟩ <;> rw [cpM, cpL_row x y (by decide)] <;> rfl
theorem cpM_y (I : Nat → Nat → Int32) (x y : Nat) : cuM I x (cpM I x y) y := by
  obtain ⟨a, b, c, d⟩ := cpM_r I x y
  unfold cuM
  rw [a, b, c, d]
  refine ⟨by simp [upd], by simp [upd], by simp [upd], by simp [upd], fun z hz => ?_⟩
  rw [cpM_4, if_pos (by omega)]
  congr 1
  omega
theorem cpM_n (I : Nat → Nat → Int32) (x : Nat) {y k : Nat} (h : k ≠ y) : cuM I k (cpM I x y) k := by
  obtain ⟨a, b, c, d⟩ := cpM_r I x y
  unfold cuM
  rw [a, b, c, d]
  refine ⟨by simp [upd, h], by simp [upd, h], by simp [upd, h], by simp [upd, h], fun z hz => ?_⟩
  rw [cpM_4, if_neg (by omega)]
/-- shifted up, from above down to the place -/
theorem ac_spec (x : Int32) : ∀ (m : Nat) (I : Nat → Nat → Int32), (acL x m I).1 ≤ m ∧ ((acL x m I).1 = 0 ∨ I 0 ((acL x m I).1 - 1) ≤ x) ∧ (∀ k, (acL x m I).1 ≤ k → k < m → ¬ I 0 k ≤ x) ∧ (∀ k, k < (acL x m I).1 → cuM I k (acL x m I).2 k) ∧ (∀ k, (acL x m I).1 ≤ k → k < m → cuM I k (acL x m I).2 (k + 1)) ∧ (∀ k, m < k → cuM I k (acL x m I).2 k) ∧ (∀ r, r ≠ 0 → r ≠ 1 → r ≠ 2 → r ≠ 3 → r ≠ 4 → (acL x m I).2 r = I r)
  | 0, I => ⟨Nat.le_refl 0, Or.inl rfl, fun k _ h => absurd h (Nat.not_lt_zero k), fun k h => absurd h (Nat.not_lt_zero k), fun k _ h => absurd h (Nat.not_lt_zero k), fun k _ => cuM.rf I k, fun _ _ _ _ _ _ => rfl⟩
  | m + 1, I => by
    unfold acL
    by_cases z : I 0 m ≤ x
    · rw [if_pos z]
      exact ⟨Nat.le_refl _, Or.inr z, fun k h1 h2 => absurd h2 (by omega), fun k _ => cuM.rf I k, fun k h1 h2 => absurd h2 (by omega), fun k _ => cuM.rf I k, fun _ _ _ _ _ _ => rfl⟩
    · rw [if_neg z]
      obtain ⟨a, b, c, d, f, h, i⟩ := ac_spec x m (cpM I m (m + 1))
      generalize hP : acL x m (cpM I m (m + 1)) = P at *
      obtain ⟨p, J⟩ := P
      dsimp only at *
      have e0 : ∀ k, k ≠ m + 1 → cpM I m (m + 1) 0 k = I 0 k := fun k hk => (cpM_n I m hk).1
      refine ⟨by omega, ?_, fun k h1 h2 => ?_, fun k h1 => (cpM_n I m (by omega)).tr (d k h1), fun k h1 h2 => ?_, fun k h1 => (cpM_n I m (by omega)).tr (h k (by omega)), fun r r0 r1 r2 r3 r4 => (i r r0 r1 r2 r3 r4).trans (cpM_row I m (m + 1) r0 r1 r2 r3 r4)⟩
      · rcases b with b | b
        · exact Or.inl b
        · refine Or.inr ?_
          rw [e0 _ (by omega)] at b
          exact b
      · by_cases y : k = m
        · rw [y]
          exact z
        · rw [← e0 k (by omega)]
          exact c k h1 (by omega)
      · by_cases y : k = m
        · rw [y]
          exact (cpM_y I m (m + 1)).tr (h (m + 1) (by omega))
        · exact (cpM_n I m (by omega)).tr (f k h1 (by omega))
theorem clL_at (i : Nat) : ∀ (m c : Nat) (I : Nat → Nat → Int32) (z : Nat), clL i m c I 4 z = if 12 * i + c ≤ z ∧ z < 12 * i + c + m then -1 else I 4 z
  | 0, c, I, z => by rw [clL, if_neg (by omega)]
  | m + 1, c, I, z => by
    rw [clL, clL_at i m (c + 1), uI_s]
    by_cases h1 : 12 * i + (c + 1) ≤ z ∧ z < 12 * i + (c + 1) + m
    · rw [if_pos h1, if_pos (by omega)]
    · rw [if_neg h1]
      by_cases h2 : z = 12 * i + c
      · rw [if_pos h2, if_pos (by omega)]
      · rw [if_neg h2, if_neg (by omega)]
theorem acN_r (J : Nat → Nat → Int32) (i : Nat) (x t cv : Int32) : acN J i x t cv 0 = upd (J 0) i x ∧ acN J i x t cv 1 = upd (J 1) i t ∧ acN J i x t cv 2 = upd (J 2) i cv ∧ acN J i x t cv 3 = upd (J 3) i 0 := by
  refine ⟨?_, ?_, ?_, ?_⟩ <;> rw [acN, clL_row i (by decide)] <;> rfl
theorem acN_4 (J : Nat → Nat → Int32) (i : Nat) (x t cv : Int32) (z : Nat) : acN J i x t cv 4 z = if 12 * i ≤ z ∧ z < 12 * i + 12 then -1 else J 4 z := by
  rw [acN, clL_at]
  rfl
theorem acN_n (J : Nat → Nat → Int32) {i k : Nat} (x t cv : Int32) (h : k ≠ i) : cuM J k (acN J i x t cv) k := by
  obtain ⟨a, b, c, d⟩ := acN_r J i x t cv
  unfold cuM
  rw [a, b, c, d]
  refine ⟨by simp [upd, h], by simp [upd, h], by simp [upd, h], by simp [upd, h], fun z hz => ?_⟩
  rw [acN_4, if_neg (by omega)]
theorem acN_row (J : Nat → Nat → Int32) (i : Nat) (x t cv : Int32) {r : Nat} (h0 : r ≠ 0) (h1 : r ≠ 1) (h2 : r ≠ 2) (h3 : r ≠ 3) (h4 : r ≠ 4) : acN J i x t cv r = J r := by rw [acN, clL_row i h4, uI_n _ _ _ h3, uI_n _ _ _ h2, uI_n _ _ _ h1, uI_n _ _ _ h0]
theorem acL_hc (x : Int32) : ∀ (m : Nat) (I : Nat → Nat → Int32), m < 16 → HC I → HC (acL x m I).2
  | 0, _, _, h => h
  | m + 1, I, hm, h => by
    unfold acL
    split
    · exact h
    · exact acL_hc x m _ (by omega) (cpM_hc (by omega) h)
theorem rmL_hc : ∀ (m i : Nat) (I : Nat → Nat → Int32), i + m < 16 → HC I → HC (rmL m i I)
  | 0, _, _, _, h => h
  | m + 1, i, I, hm, h => by
    rw [rmL]
    exact rmL_hc m (i + 1) _ (by omega) (cpM_hc (by omega) h)
theorem ins1_ge {α : Type} (F : Nat → Nat → α) {k p i : Nat} (x : α) (h : p < i) : ins1 F k p x k i = F k (i - 1) := by simp [ins1, show ¬ i < p by omega, show ¬ i = p by omega]
theorem nar0 : vp_nar .boolean 0 = 0 := rfl
/-- a cue is added: the rows of the cues -/
theorem rc_add (h : RC q S I) (hq16 : q < 16) {x t cv : Int32} (hb : cueB x t cv = true) (hx : ¬ fnd (I 0) x q 0 < q) {f : Nat → Int32} (hf : ∀ i, i < 12 → f i = -1) (hcv : vp_nar .char cv = cv) :
    RC (q + 1) (ins1 (ins1 S 5 (poC S q x) (cuR x t cv)) 6 (poC S q x) f) (acN (acL x q I).2 (acL x q I).1 x t cv) := by
  obtain ⟨a, b, c, d, ff, hh, i⟩ := ac_spec x q I
  have hne : ∀ k, k < q → I 0 k ≠ x := fun k hk => fnd_no (I 0) x q 0 k (Nat.zero_le _) (by omega)
  have hlt : ∀ k, k < (acL x q I).1 → I 0 k < x := by
    intro k hk
    have h1 : I 0 k ≤ x := by
      rcases b with b | b
      · omega
      · rcases Nat.lt_or_ge k ((acL x q I).1 - 1) with z | z
        · have h2 := h.2.1 k _ z (by omega)
          exact Int32.le_trans (Int32.le_iff_toInt_le.mpr (by rw [Int32.lt_iff_toInt_lt] at h2; omega)) b
        · have : k = (acL x q I).1 - 1 := by omega
          rw [this]
          exact b
    rcases Int32.lt_or_le (I 0 k) x with z | z
    · exact z
    · exact absurd (Int32.le_antisymm h1 z) (hne k (by omega))
  have hp : poC S q x = (acL x q I).1 := poC_uniq h.s5 a hlt (fun hz y => c _ (Nat.le_refl _) hz (Int32.le_iff_toInt_le.mpr (by rw [Int32.lt_iff_toInt_lt] at y; omega)))
  have hhc : HC (acL x q I).2 := acL_hc x q I hq16 h.2.2
  rw [hp]
  generalize hP : acL x q I = P at *
  obtain ⟨p, J⟩ := P
  dsimp only at *
  obtain ⟨r0, r1, r2, r3⟩ := acN_r J p x t cv
  have e5 : ∀ k r, ins1 (ins1 S 5 p (cuR x t cv)) 6 p f 5 k r = ins1 S 5 p (cuR x t cv) 5 k r := fun k r => by rw [ins1_n _ _ _ _ (by decide)]
  have e6 : ∀ k r, ins1 (ins1 S 5 p (cuR x t cv)) 6 p f 6 k r = ins1 S 6 p f 6 k r := fun k r => by simp [ins1]
  have old : ∀ k, k < q → ∃ j, (j = if k < p then k else k + 1) ∧ cuM I k (acN J p x t cv) j ∧ cuE (ins1 (ins1 S 5 p (cuR x t cv)) 6 p f) (acN J p x t cv) j := by
    intro k hk
    by_cases z : k < p
    · have m1 := (d k z).tr (acN_n J x t cv (show k ≠ p by omega))
      exact ⟨k, (if_pos z).symm, m1, m1.cu (fun r => by rw [e5, ins1_lt _ _ z]) (fun c _ => by rw [e6, ins1_lt _ _ z]) (h.1 k hk).1⟩
    · have m1 := (ff k (by omega) hk).tr (acN_n J x t cv (show k + 1 ≠ p by omega))
      exact ⟨k + 1, (if_neg z).symm, m1, m1.cu (fun r => by rw [e5, ins1_ge _ _ (show p < k + 1 by omega), Nat.add_sub_cancel]) (fun c _ => by rw [e6, ins1_ge _ _ (show p < k + 1 by omega), Nat.add_sub_cancel]) (h.1 k hk).1⟩
  have bx := cueB_t hb
  refine ⟨fun k hk => ?_, fun i j hij hj => ?_, fun j hj => ?_⟩
  · by_cases z : k = p
    · subst z
      refine ⟨⟨?_, ?_, ?_, ?_, fun c hc => ?_⟩, ?_, ?_, ?_, ?_, fun c hc => Or.inl ?_⟩
      · rw [e5, ins1_s, r0]; simp [upd, cuR]
      · rw [e5, ins1_s, r1]; simp [upd, cuR]
      · rw [e5, ins1_s, r2]; simp [upd, cuR]
      · rw [e5, ins1_s, r3]; simp [upd, cuR]
      · rw [e6, ins1_s, hf c hc, acN_4, if_pos (by omega)]
      · rw [r0]
        have h1 := (inB_int x 1 99).mp bx.1
        rw [show (99 : Int32).toInt = 99 by decide, show (1 : Int32).toInt = 1 by decide] at h1
        obtain ⟨v, hv1, hv2⟩ := vp_in_of (vp_in_iff.mpr ⟨by omega, by omega⟩ : vp_in x 100) (by decide)
        refine ⟨v, ?_, hv1, by simp [upd, hv2]⟩
        rw [hv2, nI_toInt (by omega)] at h1
        omega
      · rw [r1]
        have h1 := (inB_int t 0 40).mp bx.2.1
        rw [show (40 : Int32).toInt = 40 by decide, show (0 : Int32).toInt = 0 by decide] at h1
        obtain ⟨v, hv1, hv2⟩ := vp_in_of (vp_in_iff.mpr ⟨by omega, by omega⟩ : vp_in t 41) (by decide)
        exact ⟨v, by omega, by simp [upd, hv2]⟩
      · rw [r2]; simpa [upd] using bx.2.2
      · rw [r3]; exact Or.inl (by simp [upd])
      · rw [acN_4, if_pos (by omega)]
    · by_cases z2 : k < p
      · obtain ⟨j, hj, m1, m2⟩ := old k (by omega)
        rw [if_pos z2] at hj
        subst hj
        exact ⟨m2, m1.ok (h.1 j (by omega)).2⟩
      · obtain ⟨j, hj, m1, m2⟩ := old (k - 1) (by omega)
        rw [if_neg (by omega), Nat.sub_add_cancel (by omega)] at hj
        subst hj
        exact ⟨m2, m1.ok (h.1 (j - 1) (by omega)).2⟩
  · have v : ∀ k, k < q + 1 → acN J p x t cv 0 k = if k < p then I 0 k else if k = p then x else I 0 (k - 1) := by
      intro k hk
      by_cases z : k = p
      · rw [if_neg (by omega), if_pos z, r0]; simp [upd, z]
      · by_cases z2 : k < p
        · obtain ⟨j, hj, m1, -⟩ := old k (by omega)
          rw [if_pos z2] at hj
          subst hj
          rw [if_pos z2]
          exact m1.1
        · obtain ⟨j, hj, m1, -⟩ := old (k - 1) (by omega)
          rw [if_neg (by omega), Nat.sub_add_cancel (by omega)] at hj
          subst hj
          rw [if_neg z2, if_neg z]
          exact m1.1
    rw [v i (by omega), v j (by omega)]
    have hgt : ∀ k, p ≤ k → k < q → x < I 0 k := fun k h1 h2 => Int32.not_le.mp (c k h1 h2)
    rcases Nat.lt_trichotomy i p with z | z | z
    · rw [if_pos z]
      rcases Nat.lt_trichotomy j p with w | w | w
      · rw [if_pos w]
        exact h.2.1 i j hij (by omega)
      · rw [if_neg (by omega), if_pos w]
        exact hlt i z
      · rw [if_neg (by omega), if_neg (by omega)]
        exact Int32.lt_trans (hlt i z) (hgt _ (by omega) (by omega))
    · rw [if_neg (by omega), if_pos z, if_neg (by omega), if_neg (by omega)]
      exact hgt _ (by omega) (by omega)
    · rw [if_neg (by omega), if_neg (by omega), if_neg (by omega), if_neg (by omega)]
      exact h.2.1 _ _ (by omega) (by omega)
  · rw [r2, r3]
    unfold upd
    by_cases z : j = p
    · rw [if_pos z, if_pos z]
      exact ⟨hcv, nar0⟩
    · rw [if_neg z, if_neg z]
      exact hhc j hj
/-- shifted down -/
theorem rm_spec : ∀ (m i : Nat) (I : Nat → Nat → Int32), (∀ k, k < i → cuM I k (rmL m i I) k) ∧ (∀ k, i ≤ k → k < i + m → cuM I (k + 1) (rmL m i I) k) ∧ (∀ r, r ≠ 0 → r ≠ 1 → r ≠ 2 → r ≠ 3 → r ≠ 4 → rmL m i I r = I r)
  | 0, i, I => ⟨fun k _ => cuM.rf I k, fun k h1 h2 => absurd h2 (by omega), fun _ _ _ _ _ _ => rfl⟩
  | m + 1, i, I => by
    rw [rmL]
    obtain ⟨a, b, c⟩ := rm_spec m (i + 1) (cpM I (i + 1) i)
    refine ⟨fun k h1 => (cpM_n I (i + 1) (by omega)).tr (a k (by omega)), fun k h1 h2 => ?_, fun r r0 r1 r2 r3 r4 => (c r r0 r1 r2 r3 r4).trans (cpM_row I (i + 1) i r0 r1 r2 r3 r4)⟩
    by_cases z : k = i
    · rw [z]
      exact (cpM_y I (i + 1) i).tr (a i (by omega))
    · exact (cpM_n I (i + 1) (by omega)).tr (b k (by omega) (by omega))
theorem rc_rem (h : RC q S I) (hq16 : q ≤ 16) {p : Nat} (hp : p < q) : RC (q - 1) (skp (skp S 5 p) 6 p) (rmL (q - 1 - p) p I) := by
  obtain ⟨a, b, -⟩ := rm_spec (q - 1 - p) p I
  have e5 : ∀ k r, skp (skp S 5 p) 6 p 5 k r = (if k < p then S 5 k else S 5 (k + 1)) r := fun k r => by
    rw [skp_n _ _ _ (by decide)]
    simp [skp]
  have e6 : ∀ k r, skp (skp S 5 p) 6 p 6 k r = (if k < p then S 6 k else S 6 (k + 1)) r := fun k r => by simp [skp]
  have hhc : HC (rmL (q - 1 - p) p I) := rmL_hc _ _ _ (by omega) h.2.2
  have old : ∀ k, k < q - 1 → ∃ j, (j = if k < p then k else k + 1) ∧ cuM I j (rmL (q - 1 - p) p I) k ∧ cuE (skp (skp S 5 p) 6 p) (rmL (q - 1 - p) p I) k := by
    intro k hk
    by_cases z : k < p
    · exact ⟨k, (if_pos z).symm, a k z, (a k z).cu (fun r => by rw [e5, if_pos z]) (fun c _ => by rw [e6, if_pos z]) (h.1 k (by omega)).1⟩
    · have m1 := b k (by omega) (by omega)
      exact ⟨k + 1, (if_neg z).symm, m1, m1.cu (fun r => by rw [e5, if_neg z]) (fun c _ => by rw [e6, if_neg z]) (h.1 (k + 1) (by omega)).1⟩
  refine ⟨fun k hk => ?_, fun i j hij hj => ?_, hhc⟩
  · obtain ⟨j, hj, m1, m2⟩ := old k hk
    refine ⟨m2, m1.ok (h.1 j ?_).2⟩
    rw [hj]
    split <;> omega
  · obtain ⟨i2, hi2, m1, -⟩ := old i (by omega)
    obtain ⟨j2, hj2, m2, -⟩ := old j hj
    rw [m1.1, m2.1]
    refine h.2.1 i2 j2 ?_ ?_
    · rw [hi2, hj2]
      split <;> split <;> omega
    · rw [hj2]
      split <;> omega
end S4
