/-! tracking, fades, plays: class and reference alike -/
section S1
variable {n cap g : Nat → Nat} {en e : Int64} {S T : Nat → Nat → Nat → Int32} {I J : Nat → Nat → Int32} {q ng ne nt c : Nat}
theorem mx_nI (v : Nat) (h : v < 2 ^ 31) : mx 0 (nI v) = nI v := by
  unfold mx
  by_cases z : v = 0
  · subst z
    rfl
  · rw [if_pos (show (0 : Int32) < nI v from (nI_ltI (a := 0) (b := v) (by omega) h).mpr (by omega))]
theorem tr_eq (h : RC q S I) (hc : c < 12) : ∀ k, k ≤ q → trC S c k = trk (I 4) (I 3) c k
  | 0, _ => rfl
  | k + 1, hk => by
    have ih := tr_eq h hc k (by omega)
    obtain ⟨⟨a0, a1, a2, a3, a4⟩, b0, b1, b2, b3, b4⟩ := h.1 k (by omega)
    rw [trC, trk, a4 c hc, a3]
    by_cases z : I 4 (12 * k + c) = -1
    · rw [if_pos z]
      by_cases z2 : I 3 k = 0
      · rw [if_pos z2, if_pos ⟨z, z2⟩]
        exact ih
      · rw [if_neg z2, if_neg (fun y => z2 y.2), z]
        rfl
    · rw [if_neg z, if_neg (fun y => z y.1)]
      rcases b4 c hc with w | ⟨v, w1, w2⟩
      · exact absurd w z
      · rw [w2, mx_nI v (by omega)]
theorem fdR.lvl (h : fdR S I c) : S 4 c 0 = fadF I c := by
  rcases h with ⟨a, b, -⟩ | ⟨a, t, d, -, -, -, -, -, -, -, -, -, -, b⟩
  · rw [fadF, if_pos a, b]
  · exact b
theorem fdV_0 (how w t : Int32) : fdV how w 0 t = 0 := by
  unfold fdV
  split
  · rw [Int32.mul_zero, Int32.zero_div]
  split
  · rw [Int32.mul_zero, Int32.mul_zero, Int32.zero_div]
  · simp only [Int32.mul_zero, Int32.zero_mul, Int32.sub_zero, Int32.zero_div]
theorem fdP_V {cv : Int32} (h : cvB cv = true) (d k t : Int32) : fdP cv d k t = fdV cv d k t := by
  simp only [cvB, Bool.or_eq_true, decide_eq_true_eq] at h
  rcases h with (h | h) | h <;> subst h <;> rfl
/-- other channels stay -/
theorem flS_ne (S : Nat → Nat → Nat → Int32) {c d : Nat} (tr t cv : Int32) (h : d ≠ c) : flS S c tr t cv 4 d = S 4 d := by
  have z : ¬ (4 = 4 ∧ d = c) := fun y => h y.2
  unfold flS
  split
  · rw [uS_n _ _ _ z, uS_n _ _ _ z]
  split
  · rw [uS_n _ _ _ z, uS_n _ _ _ z, uS_n _ _ _ z, uS_n _ _ _ z]
  · rw [uS_n _ _ _ z, uS_n _ _ _ z, uS_n _ _ _ z, uS_n _ _ _ z, uS_n _ _ _ z, uS_n _ _ _ z, uS_n _ _ _ z]
theorem uI_ne (I : Nat → Nat → Int32) {r i d : Nat} (x : Int32) (r2 : Nat) (h : d ≠ i) : uI I r i x r2 d = I r2 d := by
  by_cases z : r2 = r
  · subst z
    rw [uI_s, if_neg h]
  · rw [uI_n _ _ _ z]
theorem plB_ne (I : Nat → Nat → Int32) {k c d : Nat} (r : Nat) (h : d ≠ c) : plB k c I r d = I r d := by
  unfold plB
  split
  · rw [uI_ne _ _ _ h, uI_ne _ _ _ h]
  split
  · rw [uI_ne _ _ _ h, uI_ne _ _ _ h, uI_ne _ _ _ h, uI_ne _ _ _ h, uI_ne _ _ _ h, uI_ne _ _ _ h, uI_ne _ _ _ h, uI_ne _ _ _ h, uI_ne _ _ _ h]
  · rw [uI_ne _ _ _ h, uI_ne _ _ _ h, uI_ne _ _ _ h, uI_ne _ _ _ h, uI_ne _ _ _ h, uI_ne _ _ _ h, uI_ne _ _ _ h, uI_ne _ _ _ h, uI_ne _ _ _ h]
/-- one channel follows a cue -/
theorem pl_one {p : Nat} (hC : RC q S I) (hp : p < q) (hc : c < 12) (hF : fdR S I c) (hL : S 4 c 6 = I 11 c ∧ (I 11 c = 0 ∨ I 11 c = 1) ∧ S 4 c 7 = I 12 c ∧ (¬ I 12 c < 0 → ∃ g, g < ng ∧ I 12 c = nI g) ∧ S 4 c 8 = I 13 c) :
    fdR (flS S c (trC S c (p + 1)) (S 5 p 1) (S 5 p 2)) (plB p c I) c ∧ (flS S c (trC S c (p + 1)) (S 5 p 1) (S 5 p 2) 4 c 6 = plB p c I 11 c ∧ (plB p c I 11 c = 0 ∨ plB p c I 11 c = 1) ∧ flS S c (trC S c (p + 1)) (S 5 p 1) (S 5 p 2) 4 c 7 = plB p c I 12 c ∧ (¬ plB p c I 12 c < 0 → ∃ g, g < ng ∧ plB p c I 12 c = nI g) ∧ flS S c (trC S c (p + 1)) (S 5 p 1) (S 5 p 2) 4 c 8 = plB p c I 13 c) := by
  obtain ⟨⟨a0, a1, a2, a3, a4⟩, b0, ⟨t, b1, b1e⟩, b2, b3, b4⟩ := hC.1 p hp
  have htr := tr_eq hC hc (p + 1) hp
  have hlv := hF.lvl
  rw [htr, a1, a2]
  unfold flS plB
  rw [hlv]
  by_cases z : trk (I 4) (I 3) c (p + 1) = fadF I c
  · rw [if_pos z.symm, if_pos z]
    refine ⟨Or.inl ⟨by simp [uI, upd], by simp [uS, uI, upd, hlv], 0, by omega, by simp [uS, upd]; try rfl, by simp [uS, upd]; try rfl⟩, ?_⟩
    simpa [uS, uI, upd] using hL
  · rw [if_neg (fun y => z y.symm), if_neg z]
    by_cases z2 : t = 0
    · have e1 : I 1 p = 0 := by rw [b1e, z2]; rfl
      rw [if_pos e1, if_pos (by rw [e1]; exact Int32.le_refl _)]
      refine ⟨Or.inl ⟨by simp [uI, upd], by simp [uS, uI, upd], 0, by omega, by simp [uS, upd]; try rfl, by simp [uS, upd]; try rfl⟩, ?_⟩
      refine ⟨by simpa [uS, uI, upd] using hL.1, by simpa [uI, upd] using hL.2.1, by simp [uS, uI, upd], ?_, by simpa [uS, uI, upd] using hL.2.2.2.2⟩
      intro y
      exact absurd (show (-1 : Int32) < 0 by decide) (by simpa [uI, upd] using y)
    · have e1 : ¬ I 1 p = 0 := by rw [b1e]; exact nI_ne0 (by omega) (by omega)
      have e2 : ¬ I 1 p ≤ 0 := by
        rw [b1e]
        exact mt (nI_leI (a := t) (b := 0) (by omega) (by omega)).mp (by omega)
      rw [if_neg e1, if_neg e2]
      refine ⟨Or.inr ⟨by simp [uI, upd], t, 0, by omega, b1, by simp [uS, upd, b1e], by simp [uS, upd]; try rfl, by simp [uI, upd, b1e], by simp [uI, upd]; try rfl, by simp [uS, uI, upd, hlv], by simp [uS, uI, upd], by simp [uS, uI, upd], by simpa [uI, upd] using b2, ?_⟩, ?_⟩
      · have e3 : ∀ K : Nat → Nat → Int32, ¬ K 10 c = 0 → K 30 6 - K 7 c = 0 → fadF K c = K 5 c := fun K h1 h2 => by rw [fadF, if_neg h1, h2, fdV_0, Int32.add_zero]
        refine Eq.trans ?_ (e3 _ ?_ ?_).symm
        · simp [uS, uI, upd, hlv]
        · simp [uI, upd]
        · simp [uI, upd]
      · refine ⟨by simpa [uS, uI, upd] using hL.1, by simpa [uI, upd] using hL.2.1, by simp [uS, uI, upd], ?_, by simpa [uS, uI, upd] using hL.2.2.2.2⟩
        intro y
        exact absurd (show (-1 : Int32) < 0 by decide) (by simpa [uI, upd] using y)
theorem plB_30 (k c : Nat) (I : Nat → Nat → Int32) : plB k c I 30 = I 30 := plB_row k c I (by decide) (by decide) (by decide) (by decide) (by decide) (by decide) (by decide)
theorem pl_rel {p : Nat} (hp : p < q) : ∀ (m c : Nat) (S : Nat → Nat → Nat → Int32) (I : Nat → Nat → Int32), c + m = 12 → RC q S I → RF S I → RLt ng S I → RF (ppL p m c S) (plL p m c I) ∧ RLt ng (ppL p m c S) (plL p m c I)
  | 0, _, _, _, _, _, hF, hL => ⟨hF, hL⟩
  | m + 1, c, S, I, hm, hC, hF, hL => by
    have k1 := pl_one (ng := ng) hC hp (show c < 12 by omega) (hF c (by omega)) (hL c (by omega))
    rw [ppL, plL]
    have i : ∀ r, r ≠ 5 → r ≠ 6 → r ≠ 7 → r ≠ 8 → r ≠ 9 → r ≠ 10 → r ≠ 12 → plB p c I r = I r := fun r a b d e f g h => plB_row p c I a b d e f g h
    refine pl_rel hp m (c + 1) _ _ (by omega) (hC.to (flS_n _ _ _ _ _ (by decide)) (flS_n _ _ _ _ _ (by decide)) (i 0 (by decide) (by decide) (by decide) (by decide) (by decide) (by decide) (by decide)) (i 1 (by decide) (by decide) (by decide) (by decide) (by decide) (by decide) (by decide)) (i 2 (by decide) (by decide) (by decide) (by decide) (by decide) (by decide) (by decide)) (i 3 (by decide) (by decide) (by decide) (by decide) (by decide) (by decide) (by decide)) (i 4 (by decide) (by decide) (by decide) (by decide) (by decide) (by decide) (by decide))) (fun d hd => ?_) (fun d hd => ?_)
    · by_cases z : d = c
      · rw [z]; exact k1.1
      · exact (hF d hd).to (flS_ne _ _ _ _ z) (plB_ne _ _ z) (plB_ne _ _ z) (plB_ne _ _ z) (plB_ne _ _ z) (plB_ne _ _ z) (plB_ne _ _ z) (by rw [plB_30])
    · by_cases z : d = c
      · rw [z]; exact k1.2
      · rw [flS_ne _ _ _ _ z, plB_ne _ _ z, plB_ne _ _ z, plB_ne _ _ z]
        exact hL d hd
theorem ppS_n (p : Nat) (S : Nat → Nat → Nat → Int32) {k : Nat} (h4 : k ≠ 4) (h0 : k ≠ 0) : ppS p S k = S k := by rw [ppS, uS_row _ _ _ _ h0, ppL_n p h4]
theorem ppS_4 (p : Nat) (S : Nat → Nat → Nat → Int32) : ppS p S 4 = ppL p 12 0 S 4 := by rw [ppS, uS_row _ _ _ _ (by decide)]
theorem plS_row (k : Nat) (I : Nat → Nat → Int32) {r : Nat} (h5 : r ≠ 5) (h6 : r ≠ 6) (h7 : r ≠ 7) (h8 : r ≠ 8) (h9 : r ≠ 9) (h10 : r ≠ 10) (h12 : r ≠ 12) (h30 : r ≠ 30) : plS k I r = I r := by rw [plS, plL_row k h5 h6 h7 h8 h9 h10 h12, uI_n _ _ _ h30]
theorem plS_30 (k : Nat) (I : Nat → Nat → Int32) : plS k I 30 = upd (I 30) 1 (I 0 k) := by
  rw [plS, plL_row k (by decide) (by decide) (by decide) (by decide) (by decide) (by decide) (by decide)]
  rfl
/-- a cue is played -/
theorem RR.play (h : RR n cap g en S I e) {p : Nat} (hp : p < n 0) : RR n cap g en (ppS p S) (plS p I) e := by
  obtain ⟨h0, hi, hn, hc, hf, hl, hg, he, hs, hen⟩ := h
  have k := pl_rel (ng := n 1) hp 12 0 S (uI I 30 1 (I 0 p)) rfl (hc.to rfl rfl rfl rfl rfl rfl rfl) (hf.to rfl rfl rfl rfl rfl rfl rfl (by rw [uI_s]; rfl)) (hl.to4 rfl rfl rfl rfl)
  have i : ∀ r, r ≠ 5 → r ≠ 6 → r ≠ 7 → r ≠ 8 → r ≠ 9 → r ≠ 10 → r ≠ 12 → r ≠ 30 → plS p I r = I r := fun r a b d e f g h j => plS_row p I a b d e f g h j
  have z : ∀ r, r ≠ 5 ∧ r ≠ 6 ∧ r ≠ 7 ∧ r ≠ 8 ∧ r ≠ 9 ∧ r ≠ 10 ∧ r ≠ 12 ∧ r ≠ 30 → plS p I r = I r := fun r y => i r y.1 y.2.1 y.2.2.1 y.2.2.2.1 y.2.2.2.2.1 y.2.2.2.2.2.1 y.2.2.2.2.2.2.1 y.2.2.2.2.2.2.2
  obtain ⟨⟨v, w1, w2, w3⟩, -⟩ := (hc.1 p hp).2
  refine ⟨h0, ?_, ?_, hc.to (ppS_n p S (by decide) (by decide)) (ppS_n p S (by decide) (by decide)) (z 0 (by decide)) (z 1 (by decide)) (z 2 (by decide)) (z 3 (by decide)) (z 4 (by decide)), k.1.to (ppS_4 p S) rfl rfl rfl rfl rfl rfl rfl, k.2.to4 (ppS_4 p S) rfl rfl rfl, hg.to (ppS_n p S (by decide) (by decide)) (ppS_n p S (by decide) (by decide)) (z 14 (by decide)) (z 15 (by decide)), he.to (ppS_n p S (by decide) (by decide)) (z 16 (by decide)) (z 17 (by decide)) (z 18 (by decide)) (z 19 (by decide)) (z 20 (by decide)) (z 21 (by decide)) (z 22 (by decide)), hs.to (ppS_n p S (by decide) (by decide)) (z 23 (by decide)) (z 24 (by decide)) (z 25 (by decide)), hen⟩
  · unfold RI
    rw [plS_30]
    exact hi
  · have e1 : ppS p S 0 0 0 = I 0 p := by
      rw [ppS, uS_s, ppL_n p (k := 5) (by decide), ppL_n p (k := 0) (by decide)]
      unfold upd
      rw [if_pos rfl]
      exact (hc.1 p hp).1.1
    have e2 : ∀ j, j ≠ 0 → ppS p S 0 0 j = S 0 0 j := fun j hj => by
      rw [ppS, uS_s, ppL_n p (k := 0) (by decide)]
      simp [upd, hj]
    unfold RN
    rw [plS_30, e1, e2 1 (by decide), e2 2 (by decide), e2 3 (by decide)]
    exact ⟨rfl, hn.2.1, hn.2.2.1, hn.2.2.2.1, ⟨v, w2, w3⟩, hn.2.2.2.2.2⟩
/-- how many fade; how long -/
theorem fc_eq (hF : RF S I) : ∀ (m c k : Nat), c + m = 12 → fcL S m c k = ctL (I 10) m c k
  | 0, _, _, _ => rfl
  | m + 1, c, k, h => by
    have e1 : (if S 4 c 1 - S 4 c 2 ≤ 0 then k else k + 1) = (if I 10 c = 0 then k else k + 1) := by
      rcases hF c (by omega) with ⟨a, -, t, b1, b2, b3⟩ | ⟨a, t, d, b1, b2, b3, b4, -⟩
      · rw [if_pos a, b2, b3, Int32.sub_self, if_pos (Int32.le_refl _)]
      · rw [if_neg (show ¬ I 10 c = 0 by rw [a]; decide), b3, b4, pk_sub (by omega), if_neg (show ¬ nI (t - d) ≤ 0 from mt (nI_leI (a := t - d) (b := 0) (by omega) (by omega)).mp (by omega))]
    rw [fcL, ctL, e1]
    exact fc_eq hF m (c + 1) _ (by omega)
theorem ld_eq (hF : RF S I) : ∀ (m c : Nat) (v : Int32), c + m = 12 → ldL S m c v = tlL I m c v
  | 0, _, _, _ => rfl
  | m + 1, c, v, h => by
    have e1 : S 4 c 1 - S 4 c 2 = (if I 10 c = 0 then 0 else I 8 c - (I 30 6 - I 7 c)) := by
      rcases hF c (by omega) with ⟨a, -, t, b1, b2, b3⟩ | ⟨a, t, d, b1, b2, b3, b4, b5, b6, -⟩
      · rw [if_pos a, b2, b3, Int32.sub_self]
      · rw [if_neg (by rw [a]; decide), b3, b4, b5, b6]
    rw [ldL, tlL, e1]
    exact ld_eq hF m (c + 1) _ (by omega)
end S1
