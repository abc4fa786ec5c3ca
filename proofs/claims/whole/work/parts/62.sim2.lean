/-! levels and time: class and reference alike -/
section S2
variable {n cap g : Nat → Nat} {en e : Int64} {S T : Nat → Nat → Nat → Int32} {I J : Nat → Nat → Int32} {q ng ne nt c : Nat}
theorem bI_z (b : Bool) : bI b = 0 ↔ b = false := bI_eq0
theorem hi_eq (hG : RG ng S I) (hc : c < 12) : ∀ (m i : Nat) (v : Int32), i + m ≤ ng → hiL S c m i v = bsL (I 14) (I 15) c m i v
  | 0, _, _, _ => rfl
  | m + 1, i, v, h => by
    have e1 : (if S 8 i c = 0 then v else mx v (S 7 i 0)) = (if mbB (I 14 i) c then mx v (I 15 i) else v) := by
      obtain ⟨a, b⟩ := hG.1 i (by omega)
      rw [b c hc, a]
      cases hb : mbB (I 14 i) c with
      | false => rfl
      | true => rfl
    rw [hiL, bsL, e1]
    exact hi_eq hG hc m (i + 1) _ (by omega)
theorem bs_eq (hF : RF S I) (hL : RLt ng S I) (hG : RG ng S I) (hg : ng ≤ 5) (hc : c < 12) : bsC S ng c = bsF I ng c := by
  obtain ⟨l1, l2, l3, l4, l5⟩ := hL c hc
  unfold bsC bsF
  rw [l1, (hF c hc).lvl]
  by_cases z : I 11 c = 0
  · rw [if_pos z, if_pos z]
    exact hi_eq hG hc ng 0 _ (by omega)
  · rw [if_neg z, if_neg z]
    by_cases z2 : I 12 c < 0
    · rw [if_pos z2, laC_neg (by rw [l3]; exact z2), (hF c hc).lvl]
    · rw [if_neg z2]
      obtain ⟨k, hk, he⟩ := l4 z2
      rw [laC_in (l3.trans he) hk (by omega), he, nI_clamp (by omega), (hF c hc).lvl]
      obtain ⟨a, b⟩ := hG.1 k hk
      rw [b c hc, a]
      cases hb : mbB (I 14 k) c with
      | false => rfl
      | true => rfl
theorem mb_eq {G : Nat} (h : ∀ c, c < 12 → S 8 G c = bI (mbB (I 14 G) c)) : ∀ (m i k : Nat), i + m ≤ 12 → mbC (S 8 G) m i k = ahd (I 14 G) m i k
  | 0, _, _, _ => rfl
  | m + 1, i, k, hm => by
    have e1 : (if S 8 G i = 0 then k else k + 1) = (if mbB (I 14 G) i then k + 1 else k) := by
      rw [h i (by omega)]
      cases hb : mbB (I 14 G) i with
      | false => rfl
      | true => rfl
    rw [mbC, ahd, e1]
    exact mb_eq h m (i + 1) _ (by omega)
theorem vl_eq {sh : Int32} (h : shB sh = true) (p sz ph : Int32) : vlP sh p sz ph = effV sh sz p ph := by
  simp only [shB, Bool.or_eq_true, decide_eq_true_eq] at h
  unfold vlP effV
  have n1 : ¬ (116 : Int32) = 119 := by decide
  have n2 : ¬ (116 : Int32) = 113 := by decide
  have n3 : ¬ (113 : Int32) = 119 := by decide
  have n4 : ¬ (113 : Int32) = 116 := by decide
  rcases h with (h | h) | h <;> subst h
  · rw [if_pos (show (119 : Int32) = 119 from rfl), if_pos (show (119 : Int32) = 119 from rfl)]
  · rw [if_neg n1, if_neg n2, if_neg n1, if_pos (show (116 : Int32) = 116 from rfl)]
    by_cases z : ph ≤ p / 2
    · rw [if_pos z, if_neg (Int32.not_lt.mpr z)]
    · rw [if_neg z, if_pos (Int32.not_le.mp z)]
  · rw [if_neg n3, if_pos (show (113 : Int32) = 113 from rfl), if_neg n3, if_neg n4]
    by_cases z : ph < p / 2
    · rw [if_pos z, if_neg (Int32.not_le.mpr z)]
    · rw [if_neg z, if_pos (Int32.not_lt.mp z)]
theorem gv_eq (h0 : S 0 0 1 = I 30 6) (hG : RG ng S I) (hE : RE ng ne g S I) (hc : c < 12) {e : Nat} (he : e < ne) : gvC S g e c = gvF I g e c := by
  obtain ⟨a1, a2, a3, a4, a5, a6, a7, a8, a9, a10, a11⟩ := hE e he
  obtain ⟨-, b⟩ := hG.1 (g e) a2
  unfold gvC gvF
  rw [a9]
  by_cases z : I 22 e = 0
  · rw [if_pos z, if_pos z]
  · rw [if_neg z, if_neg z, b c hc]
    cases hb : mbB (I 14 (g e)) c with
    | false => rw [if_pos (show bI false = 0 from rfl), if_pos (show false = false from rfl)]
    | true => rw [if_neg (show ¬ bI true = 0 by decide), if_neg (show ¬ true = false by decide), vlC, a3, a5, a7, a8, h0, a11 z, mb_eq b c 0 0 (by omega), vl_eq a4, phF]
theorem sa_eq (h0 : S 0 0 1 = I 30 6) (hG : RG ng S I) (hE : RE ng ne g S I) (hc : c < 12) : ∀ (m e : Nat) (v : Int32), e + m ≤ ne → saL S g c m e v = smL I g c m e v
  | 0, _, _, _ => rfl
  | m + 1, e, v, h => by
    rw [saL, smL, gv_eq h0 hG hE hc (show e < ne by omega)]
    exact sa_eq h0 hG hE hc m (e + 1) _ (by omega)
theorem mn_c (x : Int32) : mn x 255 = mn 255 x := by
  unfold mn
  by_cases h : 255 < x
  · rw [if_pos h, if_neg (Int32.not_lt.mpr (Int32.le_iff_toInt_le.mpr (by rw [Int32.lt_iff_toInt_lt] at h; omega)))]
  · rw [if_neg h]
    by_cases h2 : x < 255
    · rw [if_pos h2]
    · rw [if_neg h2]
      exact Int32.le_antisymm (Int32.not_lt.mp h) (Int32.not_lt.mp h2)
theorem ou_eq (h2 : S 0 0 2 = I 30 7) (hL : RLt ng S I) (hc : c < 12) (v : Int32) : ouC S c v = if I 13 c = -1 then mn 255 v * I 30 7 / 255 else I 13 c := by
  unfold ouC
  rw [(hL c hc).2.2.2.2, h2, mn_c]
theorem al_eq (h : RR n cap g en S I e) (hc : c < 12) : ouC S c (saL S g c (n 2) 0 (bsC S (n 1) c)) = lvF I g (n 1) (n 2) c := by
  obtain ⟨h0, hi, hn, hC, hf, hl, hg, he, hs, hen⟩ := h
  rw [ou_eq hn.2.2.1 hl hc, sa_eq hn.2.1 hg he hc (n 2) 0 _ (by omega), bs_eq hf hl hg h0.1.2.2.1 hc]
  rfl
/-! the row of the levels -/
theorem bsC_u (S : Nat → Nat → Nat → Int32) (i : Nat) (v : Int32) (ng c : Nat) : bsC (uS S 2 0 i v) ng c = bsC S ng c := by
  have e4 : uS S 2 0 i v 4 = S 4 := uS_row _ _ _ _ (by decide)
  have e7 : uS S 2 0 i v 7 = S 7 := uS_row _ _ _ _ (by decide)
  have e8 : uS S 2 0 i v 8 = S 8 := uS_row _ _ _ _ (by decide)
  have hh : ∀ (m i2 : Nat) (w : Int32), hiL (uS S 2 0 i v) c m i2 w = hiL S c m i2 w := by
    intro m
    induction m with
    | zero => intro i2 w; rfl
    | succ m ih =>
      intro i2 w
      rw [hiL, hiL, e7, e8]
      exact ih _ _
  unfold bsC laC
  rw [hh, e4, e7, e8]
theorem uS2 (S : Nat → Nat → Nat → Int32) (i j : Nat) (v : Int32) : uS S 2 0 i v 2 0 j = if j = i then v else S 2 0 j := by
  rw [uS_s]
  rfl
theorem f1_at (ng : Nat) : ∀ (m i : Nat) (S : Nat → Nat → Nat → Int32) (c : Nat), f1L ng m i S 2 0 c = if i ≤ c ∧ c < i + m then bsC S ng c else S 2 0 c
  | 0, i, S, c => by rw [f1L, if_neg (by omega)]
  | m + 1, i, S, c => by
    rw [f1L, f1_at ng m (i + 1), bsC_u, uS2]
    by_cases z : i + 1 ≤ c ∧ c < i + 1 + m
    · rw [if_pos z, if_pos (by omega)]
    · rw [if_neg z]
      by_cases z2 : c = i
      · subst z2
        rw [if_pos rfl, if_pos (by omega)]
      · rw [if_neg z2, if_neg (by omega)]
theorem vlC_u (S : Nat → Nat → Nat → Int32) (i : Nat) (v : Int32) (e : Nat) (tk mb : Int32) : vlC (uS S 2 0 i v) e tk mb = vlC S e tk mb := by
  have e9 : uS S 2 0 i v 9 = S 9 := uS_row _ _ _ _ (by decide)
  unfold vlC
  rw [e9]
theorem ad_at (g : Nat → Nat) (e : Nat) : ∀ (m i k : Nat) (S : Nat → Nat → Nat → Int32) (c : Nat), adL g e m i k S 2 0 c = if i ≤ c ∧ c < i + m ∧ ¬ S 8 (g e) c = 0 then S 2 0 c + vlC S e (S 0 0 1 - S 9 e 5) (nI (mbC (S 8 (g e)) (c - i) i k)) else S 2 0 c
  | 0, i, k, S, c => by rw [adL, if_neg (by omega)]
  | m + 1, i, k, S, c => by
    by_cases z : S 8 (g e) i = 0
    · rw [adL, if_pos z, ad_at g e m (i + 1)]
      by_cases z1 : i + 1 ≤ c ∧ c < i + 1 + m ∧ ¬ S 8 (g e) c = 0
      · rw [if_pos z1, if_pos ⟨by omega, by omega, z1.2.2⟩, show c - i = (c - (i + 1)) + 1 by omega, mbC, if_pos z]
      · rw [if_neg z1, if_neg]
        intro y
        by_cases z2 : c = i
        · subst z2
          exact y.2.2 z
        · exact z1 ⟨by omega, by omega, y.2.2⟩
    · rw [adL, if_neg z, ad_at g e m (i + 1)]
      have e8 : ∀ w, uS S 2 0 i w 8 = S 8 := fun w => uS_row _ _ _ _ (by decide)
      have e9 : ∀ w, uS S 2 0 i w 9 = S 9 := fun w => uS_row _ _ _ _ (by decide)
      have e0 : ∀ w, uS S 2 0 i w 0 = S 0 := fun w => uS_row _ _ _ _ (by decide)
      rw [e8, e9, e0, vlC_u, uS2]
      by_cases z1 : i + 1 ≤ c ∧ c < i + 1 + m ∧ ¬ S 8 (g e) c = 0
      · rw [if_pos z1, if_neg (show ¬ c = i by omega), if_pos ⟨by omega, by omega, z1.2.2⟩, show c - i = (c - (i + 1)) + 1 by omega, mbC, if_neg z]
      · rw [if_neg z1]
        by_cases z2 : c = i
        · subst z2
          rw [if_pos rfl, if_pos ⟨Nat.le_refl _, by omega, z⟩, Nat.sub_self]
          rfl
        · rw [if_neg z2, if_neg]
          intro y
          exact z1 ⟨by omega, by omega, y.2.2⟩
theorem adL_row (g : Nat → Nat) (e : Nat) (S : Nat → Nat → Nat → Int32) (c : Nat) (hc : c < 12) : (if S 9 e 4 = 0 then S else adL g e 12 0 0 S) 2 0 c = S 2 0 c + gvC S g e c := by
  unfold gvC
  by_cases z : S 9 e 4 = 0
  · rw [if_pos z, if_pos z, Int32.add_zero]
  · rw [if_neg z, if_neg z, ad_at]
    by_cases z2 : S 8 (g e) c = 0
    · rw [if_neg (fun y => y.2.2 z2), if_pos z2, Int32.add_zero]
    · rw [if_pos ⟨Nat.zero_le _, by omega, z2⟩, if_neg z2, Nat.sub_zero]
theorem gvC_to {g : Nat → Nat} {e c : Nat} (s0 : T 0 = S 0) (s8 : T 8 = S 8) (s9 : T 9 = S 9) : gvC T g e c = gvC S g e c := by
  unfold gvC vlC
  rw [s0, s8, s9]
theorem saL_to {g : Nat → Nat} {c : Nat} (s0 : T 0 = S 0) (s8 : T 8 = S 8) (s9 : T 9 = S 9) : ∀ (m e : Nat) (v : Int32), saL T g c m e v = saL S g c m e v
  | 0, _, _ => rfl
  | m + 1, e, v => by
    rw [saL, saL, gvC_to s0 s8 s9]
    exact saL_to s0 s8 s9 m (e + 1) _
theorem f2_at (g : Nat → Nat) (c : Nat) (hc : c < 12) : ∀ (m e : Nat) (S : Nat → Nat → Nat → Int32), f2L g m e S 2 0 c = saL S g c m e (S 2 0 c)
  | 0, _, _ => rfl
  | m + 1, e, S => by
    rw [f2L, f2_at g c hc m (e + 1), adL_row g e S c hc, saL]
    have k : ∀ j, j ≠ 2 → (if S 9 e 4 = 0 then S else adL g e 12 0 0 S) j = S j := fun j hj => by
      split
      · rfl
      · exact adL_n g e hj 12 0 0 S
    exact saL_to (k 0 (by decide)) (k 8 (by decide)) (k 9 (by decide)) m (e + 1) _
theorem ouC_to {c : Nat} {v : Int32} (s0 : T 0 = S 0) (s4 : T 4 = S 4) : ouC T c v = ouC S c v := by
  unfold ouC
  rw [s0, s4]
theorem f3_at : ∀ (m i : Nat) (S : Nat → Nat → Nat → Int32) (c : Nat), f3L m i S 2 0 c = if i ≤ c ∧ c < i + m then ouC S c (S 2 0 c) else S 2 0 c
  | 0, i, S, c => by rw [f3L, if_neg (by omega)]
  | m + 1, i, S, c => by
    rw [f3L, f3_at m (i + 1), ouC_to (uS_row _ _ _ _ (by decide)) (uS_row _ _ _ _ (by decide)), uS2]
    by_cases z : i + 1 ≤ c ∧ c < i + 1 + m
    · rw [if_pos z, if_neg (show ¬ c = i by omega), if_pos (by omega)]
    · rw [if_neg z]
      by_cases z2 : c = i
      · subst z2
        rw [if_pos rfl, if_pos (by omega)]
      · rw [if_neg z2, if_neg (by omega)]
theorem flv_at (g : Nat → Nat) (ng ne : Nat) (S : Nat → Nat → Nat → Int32) (hc : c < 12) : flv g ng ne S 2 0 c = ouC S c (saL S g c ne 0 (bsC S ng c)) := by
  have k : ∀ j, j ≠ 2 → f1L ng 12 0 S j = S j := fun j hj => f1L_n ng hj 12 0 S
  have k2 : ∀ j, j ≠ 2 → f2L g ne 0 (f1L ng 12 0 S) j = S j := fun j hj => (f2L_n g hj ne 0 _).trans (k j hj)
  rw [flv, f3_at, if_pos ⟨Nat.zero_le c, by omega⟩, ouC_to (k2 0 (by decide)) (k2 4 (by decide)), f2_at g c hc, saL_to (k 0 (by decide)) (k 8 (by decide)) (k 9 (by decide)), f1_at, if_pos ⟨Nat.zero_le c, by omega⟩]
theorem RR.lev (h : RR n cap g en S I e) (hc : c < 12) : flv g (n 1) (n 2) S 2 0 c = lvF I g (n 1) (n 2) c := (flv_at g _ _ S hc).trans (al_eq h hc)
theorem RR.row (h : RR n cap g en S I e) : RR n cap g en (flv g (n 1) (n 2) S) I e := by
  obtain ⟨h0, hi, hn, hC, hf, hl, hg, he, hs, hen⟩ := h
  have k : ∀ j, j ≠ 2 → flv g (n 1) (n 2) S j = S j := fun j hj => flv_n g _ _ S hj
  exact ⟨h0, hi, hn.to (k 0 (by decide)) (fun _ _ => rfl), hC.to (k 5 (by decide)) (k 6 (by decide)) rfl rfl rfl rfl rfl, hf.to (k 4 (by decide)) rfl rfl rfl rfl rfl rfl rfl, hl.to4 (k 4 (by decide)) rfl rfl rfl, hg.to (k 7 (by decide)) (k 8 (by decide)) rfl rfl, he.to (k 9 (by decide)) rfl rfl rfl rfl rfl rfl rfl, hs.to (k 10 (by decide)) rfl rfl rfl, hen⟩
/-! time -/
def fdQ (S : Nat → Nat → Nat → Int32) (I : Nat → Nat → Int32) (c : Nat) : Prop := (I 10 c = 0 ∧ S 4 c 0 = I 5 c ∧ ∃ t, t ≤ 40 ∧ S 4 c 1 = nI t ∧ S 4 c 2 = nI t) ∨ (I 10 c = 1 ∧ ∃ t d, d < t ∧ t ≤ 40 ∧ S 4 c 1 = nI t ∧ S 4 c 2 = nI d ∧ I 8 c = nI t ∧ I 30 6 - I 7 c = nI (d + 1) ∧ S 4 c 3 = I 5 c ∧ S 4 c 4 = I 6 c ∧ S 4 c 5 = I 9 c ∧ cvB (I 9 c) = true)
def ptB (I : Nat → Nat → Int32) (c : Nat) : Nat → Nat → Int32 := if I 10 c = 0 then I else if I 30 6 - I 7 c = I 8 c then uI (uI I 10 c 0) 5 c (I 6 c) else I
theorem foS_ne (S : Nat → Nat → Nat → Int32) {c d : Nat} (h : d ≠ c) : foS S c 4 d = S 4 d := by
  have z : ¬ (4 = 4 ∧ d = c) := fun y => h y.2
  unfold foS
  split
  · split <;> rw [uS_n _ _ _ z, uS_n _ _ _ z]
  · rfl
theorem foS_hi (S : Nat → Nat → Nat → Int32) (c d f : Nat) (h : 6 ≤ f) : foS S c 4 d f = S 4 d f := by
  unfold foS
  have h0 : ¬ f = 0 := by omega
  have h2 : ¬ f = 2 := by omega
  by_cases z : d = c
  · subst z
    split
    · split <;> simp [uS, upd, h0, h2]
    · rfl
  · split
    · split <;> simp [uS, z]
    · rfl
theorem foL_hi (d f : Nat) (h : 6 ≤ f) : ∀ (m c : Nat) (S : Nat → Nat → Nat → Int32), foL m c S 4 d f = S 4 d f
  | 0, _, _ => rfl
  | m + 1, c, S => by rw [foL, foL_hi d f h m, foS_hi S c d f h]
theorem ptB_ne (I : Nat → Nat → Int32) {c d : Nat} (r : Nat) (h : d ≠ c) : ptB I c r d = I r d := by
  unfold ptB
  split
  · rfl
  · split
    · rw [uI_ne _ _ _ h, uI_ne _ _ _ h]
    · rfl
theorem ptB_30 (I : Nat → Nat → Int32) (c : Nat) : ptB I c 30 = I 30 := by
  unfold ptB
  split
  · rfl
  · split <;> rfl
theorem fo_one (h : fdQ S I c) : fdR (foS S c) (ptB I c) c := by
  rcases h with ⟨a, b, t, h1, h2, h3⟩ | ⟨a, t, d, h1, h2, h3, h4, h5, h6, h7, h8, h9, h10⟩
  · unfold foS ptB
    rw [if_pos a, if_neg (by rw [h2, h3]; exact Int32.lt_irrefl)]
    exact Or.inl ⟨a, b, t, h1, h2, h3⟩
  · have e1 : nI d + 1 = nI (d + 1) := nI_add d 1
    have l1 : S 4 c 2 < S 4 c 1 := by rw [h3, h4]; exact nI_lt h1 (by omega)
    unfold foS ptB
    rw [if_pos l1, if_neg (show ¬ I 10 c = 0 by rw [a]; decide)]
    by_cases z : d + 1 < t
    · have l2 : S 4 c 2 + 1 < S 4 c 1 := by rw [h3, h4, e1]; exact nI_lt z (by omega)
      have l3 : ¬ I 30 6 - I 7 c = I 8 c := by rw [h6, h5]; exact mt (nI_eq (a := d + 1) (b := t) (by omega) (by omega)).mp (by omega)
      rw [if_pos l2, if_neg l3]
      refine Or.inr ⟨a, t, d + 1, z, h2, by simp [uS, upd, h3], by simp [uS, upd, h4, e1], h5, h6, by simp [uS, upd, h7], by simp [uS, upd, h8], by simp [uS, upd, h9], h10, ?_⟩
      rw [fadF, if_neg (show ¬ I 10 c = 0 by rw [a]; decide), h6, h5, ← fdP_V h10]
      simp [uS, upd, h3, h4, h7, h8, h9, e1]
    · have hd : d + 1 = t := by omega
      have l2 : ¬ S 4 c 2 + 1 < S 4 c 1 := by rw [h3, h4, e1, hd]; exact Int32.lt_irrefl
      have l3 : I 30 6 - I 7 c = I 8 c := by rw [h6, h5, hd]
      rw [if_neg l2, if_pos l3]
      exact Or.inl ⟨by simp [uI, upd], by simp [uS, uI, upd, h8], t, h2, by simp [uS, upd, h3], by simp [uS, upd, h4, e1, hd]⟩
theorem fdQ.to (h : fdQ S I c) (s4 : T 4 c = S 4 c) (i5 : J 5 c = I 5 c) (i6 : J 6 c = I 6 c) (i7 : J 7 c = I 7 c) (i8 : J 8 c = I 8 c) (i9 : J 9 c = I 9 c) (i10 : J 10 c = I 10 c) (i : J 30 6 = I 30 6) : fdQ T J c := by
  unfold fdQ
  rw [s4, i5, i6, i7, i8, i9, i10, i]
  exact h
theorem ptL_B (m c : Nat) (I : Nat → Nat → Int32) : ptL (m + 1) c I = ptL m (c + 1) (ptB I c) := rfl
theorem fo_rel : ∀ (m c : Nat) (S : Nat → Nat → Nat → Int32) (I : Nat → Nat → Int32), c + m = 12 → (∀ d, d < c → fdR S I d) → (∀ d, c ≤ d → d < 12 → fdQ S I d) → RF (foL m c S) (ptL m c I)
  | 0, c, S, I, hm, h1, h2 => fun d hd => h1 d (by omega)
  | m + 1, c, S, I, hm, h1, h2 => by
    rw [foL, ptL_B]
    refine fo_rel m (c + 1) _ _ (by omega) (fun d hd => ?_) (fun d hd1 hd2 => ?_)
    · by_cases z : d = c
      · rw [z]
        exact fo_one (h2 c (Nat.le_refl c) (by omega))
      · exact (h1 d (by omega)).to (foS_ne _ z) (ptB_ne _ _ z) (ptB_ne _ _ z) (ptB_ne _ _ z) (ptB_ne _ _ z) (ptB_ne _ _ z) (ptB_ne _ _ z) (by rw [ptB_30])
    · have z : d ≠ c := by omega
      exact (h2 d (by omega) hd2).to (foS_ne _ z) (ptB_ne _ _ z) (ptB_ne _ _ z) (ptB_ne _ _ z) (ptB_ne _ _ z) (ptB_ne _ _ z) (ptB_ne _ _ z) (by rw [ptB_30])
theorem sub_one (a b : Int32) {d : Nat} (h : a - b = nI d) : a + 1 - b = nI (d + 1) := by
  have e1 : nI (d + 1) = nI d + 1 := (nI_add d 1).symm
  rw [e1, ← h, Int32.sub_eq_add_neg, Int32.sub_eq_add_neg, Int32.add_assoc, Int32.add_comm 1, Int32.add_assoc]
/-- the state behind now + 1, fades gone on -/
theorem RR.tick (h : RR n cap g en S I e) : RR n cap g en (foL 12 0 (uS S 0 0 1 (S 0 0 1 + 1))) (tkI I) e := by
  obtain ⟨h0, hi, hn, hC, hf, hl, hg, he, hs, hen⟩ := h
  have k : ∀ j, j ≠ 4 → j ≠ 0 → foL 12 0 (uS S 0 0 1 (S 0 0 1 + 1)) j = S j := fun j a b => (foL_n a 12 0 _).trans (uS_row _ _ _ _ b)
  have i : ∀ r, r ≠ 10 → r ≠ 5 → r ≠ 30 → tkI I r = I r := fun r a b c => by rw [tkI, ptL_row a b, uI_n _ _ _ c]
  have hF : RF (foL 12 0 (uS S 0 0 1 (S 0 0 1 + 1))) (tkI I) := by
    refine fo_rel 12 0 _ _ rfl (fun d hd => absurd hd (Nat.not_lt_zero d)) (fun d _ hd => ?_)
    rcases hf d hd with ⟨a, b, t, h1, h2, h3⟩ | ⟨a, t, d2, h1, h2, h3, h4, h5, h6, h7, h8, h9, h10, -⟩
    · exact Or.inl ⟨a, b, t, h1, h2, h3⟩
    · exact Or.inr ⟨a, t, d2, h1, h2, h3, h4, h5, sub_one _ _ h6, h7, h8, h9, h10⟩
  have e30 := tkI_30 I
  refine ⟨h0, ?_, ?_, hC.to (k 5 (by decide) (by decide)) (k 6 (by decide) (by decide)) (i 0 (by decide) (by decide) (by decide)) (i 1 (by decide) (by decide) (by decide)) (i 2 (by decide) (by decide) (by decide)) (i 3 (by decide) (by decide) (by decide)) (i 4 (by decide) (by decide) (by decide)), hF, hl.to (fun d hd => ⟨foL_hi d 6 (by decide) 12 0 _, foL_hi d 7 (by decide) 12 0 _, foL_hi d 8 (by decide) 12 0 _⟩) (i 11 (by decide) (by decide) (by decide)) (i 12 (by decide) (by decide) (by decide)) (i 13 (by decide) (by decide) (by decide)), hg.to (k 7 (by decide) (by decide)) (k 8 (by decide) (by decide)) (i 14 (by decide) (by decide) (by decide)) (i 15 (by decide) (by decide) (by decide)), he.to (k 9 (by decide) (by decide)) (i 16 (by decide) (by decide) (by decide)) (i 17 (by decide) (by decide) (by decide)) (i 18 (by decide) (by decide) (by decide)) (i 19 (by decide) (by decide) (by decide)) (i 20 (by decide) (by decide) (by decide)) (i 21 (by decide) (by decide) (by decide)) (i 22 (by decide) (by decide) (by decide)), hs.to (k 10 (by decide) (by decide)) (i 23 (by decide) (by decide) (by decide)) (i 24 (by decide) (by decide) (by decide)) (i 25 (by decide) (by decide) (by decide)), hen⟩
  · unfold RI
    rw [e30]
    exact hi
  · have e0 : foL 12 0 (uS S 0 0 1 (S 0 0 1 + 1)) 0 = uS S 0 0 1 (S 0 0 1 + 1) 0 := foL_n (by decide) 12 0 _
    unfold RN
    rw [e30, e0, uS_s]
    refine ⟨hn.1, ?_, hn.2.2.1, hn.2.2.2.1, hn.2.2.2.2.1, hn.2.2.2.2.2⟩
    show S 0 0 1 + 1 = I 30 6 + 1
    rw [hn.2.1]
theorem es_eq (h : RR n cap g en S I e) : ∀ (m c : Nat) (v : Int64), c + m = 12 → esL (flv g (n 1) (n 2) S) m c v = enL I g (n 1) (n 2) m c v
  | 0, _, _, _ => rfl
  | m + 1, c, v, hm => by
    rw [esL, enL, h.lev (show c < 12 by omega)]
    exact es_eq h m (c + 1) _ (by omega)
theorem RR.pass : ∀ (t : Nat) {en e : Int64} {S : Nat → Nat → Nat → Int32} {I : Nat → Nat → Int32}, RR n cap g en S I e → RR n cap g (tcL g (n 1) (n 2) t S en).2 (tcL g (n 1) (n 2) t S en).1 (tkL g (n 1) (n 2) t I e).1 (tkL g (n 1) (n 2) t I e).2
  | 0, _, _, _, _, h => h
  | t + 1, en, e, S, I, h => by
    have h2 := h.tick
    have h3 := h2.row
    rw [tcL, tkL]
    refine RR.pass t ?_
    have e1 : esL (tcS g (n 1) (n 2) S) 12 0 en = enL (tkI I) g (n 1) (n 2) 12 0 e := by
      rw [← h.2.2.2.2.2.2.2.2.2]
      exact es_eq h2 12 0 en rfl
    rw [e1]
    obtain ⟨h0, hi, hn, hC, hf, hl, hg, he, hs, hen⟩ := h3
    exact ⟨h0, hi, hn, hC, hf, hl, hg, he, hs, rfl⟩
end S2
