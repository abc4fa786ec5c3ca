/-! what each call changes: class and reference alike -/
section S5
variable {n cap g : Nat → Nat} {en e : Int64} {S T : Nat → Nat → Nat → Int32} {I J : Nat → Nat → Int32} {q ng ne nt c : Nat}
theorem fdR.tp (h : fdR S I c) (s4 : ∀ f, f < 6 → T 4 c f = S 4 c f) (i5 : J 5 c = I 5 c) (i6 : J 6 c = I 6 c) (i7 : J 7 c = I 7 c) (i8 : J 8 c = I 8 c) (i9 : J 9 c = I 9 c) (i10 : J 10 c = I 10 c) (i : J 30 6 = I 30 6) : fdR T J c := by
  unfold fdR fadF
  rw [s4 0 (by decide), s4 1 (by decide), s4 2 (by decide), s4 3 (by decide), s4 4 (by decide), s4 5 (by decide), i5, i6, i7, i8, i9, i10, i]
  exact h
theorem RF.tp (h : RF S I) (s4 : ∀ c f, f < 6 → T 4 c f = S 4 c f) (i5 : J 5 = I 5) (i6 : J 6 = I 6) (i7 : J 7 = I 7) (i8 : J 8 = I 8) (i9 : J 9 = I 9) (i10 : J 10 = I 10) (i : J 30 6 = I 30 6) : RF T J := fun c hc => (h c hc).tp (s4 c) (by rw [i5]) (by rw [i6]) (by rw [i7]) (by rw [i8]) (by rw [i9]) (by rw [i10]) i
theorem uS4_hi (S : Nat → Nat → Nat → Int32) (d f : Nat) (v : Int32) (hf : 6 ≤ f) (c j : Nat) (hj : j < 6) : uS S 4 d f v 4 c j = S 4 c j := by
  unfold uS upd
  by_cases z : c = d
  · subst z
    simp [show ¬ j = f by omega]
  · simp [z]
/-- park, unpark -/
theorem RR.prk (h : RR n cap g en S I e) (v : Int32) (c : Nat) : RR n cap g en (uS S 4 c 8 v) (uI I 13 c v) e := by
  obtain ⟨h0, hi, hn, hc, hf, hl, hg, he, hs, hen⟩ := h
  refine ⟨h0, hi, hn.to (uS_row _ _ _ _ (by decide)) (fun _ _ => rfl), hc.to (uS_row _ _ _ _ (by decide)) (uS_row _ _ _ _ (by decide)) rfl rfl rfl rfl rfl, hf.tp (uS4_hi S c 8 v (by decide)) rfl rfl rfl rfl rfl rfl rfl, fun d hd => ?_, hg.to (uS_row _ _ _ _ (by decide)) (uS_row _ _ _ _ (by decide)) rfl rfl, he.to (uS_row _ _ _ _ (by decide)) rfl rfl rfl rfl rfl rfl rfl, hs.to (uS_row _ _ _ _ (by decide)) rfl rfl rfl, hen⟩
  have := hl d hd
  by_cases z : d = c
  · subst z
    exact ⟨by simpa [uS, uI, upd] using this.1, by simpa [uI, upd] using this.2.1, by simpa [uS, uI, upd] using this.2.2.1, this.2.2.2.1, by simp [uS, uI, upd]⟩
  · simpa [uS, uI, upd, z] using this
/-- the mode -/
theorem RR.lat (h : RR n cap g en S I e) (b : Bool) (c : Nat) : RR n cap g en (uS S 4 c 6 (bI b)) (uI I 11 c (bI b)) e := by
  obtain ⟨h0, hi, hn, hc, hf, hl, hg, he, hs, hen⟩ := h
  refine ⟨h0, hi, hn.to (uS_row _ _ _ _ (by decide)) (fun _ _ => rfl), hc.to (uS_row _ _ _ _ (by decide)) (uS_row _ _ _ _ (by decide)) rfl rfl rfl rfl rfl, hf.tp (uS4_hi S c 6 _ (by decide)) rfl rfl rfl rfl rfl rfl rfl, fun d hd => ?_, hg.to (uS_row _ _ _ _ (by decide)) (uS_row _ _ _ _ (by decide)) rfl rfl, he.to (uS_row _ _ _ _ (by decide)) rfl rfl rfl rfl rfl rfl rfl, hs.to (uS_row _ _ _ _ (by decide)) rfl rfl rfl, hen⟩
  have := hl d hd
  by_cases z : d = c
  · subst z
    have hb : bI b = 0 ∨ bI b = 1 := by cases b; exact Or.inl rfl; exact Or.inr rfl
    refine ⟨by simp [uS, uI, upd], by simpa [uI, upd] using hb, by simpa [uS, uI, upd] using this.2.2.1, this.2.2.2.1, by simpa [uS, uI, upd] using this.2.2.2.2⟩
  · simpa [uS, uI, upd, z] using this
/-- the master, the fault -/
theorem RR.mas (h : RR n cap g en S I e) (v : Int32) : RR n cap g en (uS S 0 0 2 v) (uI I 30 7 v) e := by
  obtain ⟨h0, hi, hn, hc, hf, hl, hg, he, hs, hen⟩ := h
  have k : ∀ j, j ≠ 0 → uS S 0 0 2 v j = S j := fun j hj => uS_row _ _ _ _ hj
  refine ⟨h0, hi, ?_, hc.to (k 5 (by decide)) (k 6 (by decide)) rfl rfl rfl rfl rfl, hf.to (k 4 (by decide)) rfl rfl rfl rfl rfl rfl rfl, hl.to4 (k 4 (by decide)) rfl rfl rfl, hg.to (k 7 (by decide)) (k 8 (by decide)) rfl rfl, he.to (k 9 (by decide)) rfl rfl rfl rfl rfl rfl rfl, hs.to (k 10 (by decide)) rfl rfl rfl, hen⟩
  unfold RN at hn ⊢
  refine ⟨by simpa [uS, uI, upd] using hn.1, by simpa [uS, uI, upd] using hn.2.1, by simp [uS, uI, upd], by simpa [uS, uI, upd] using hn.2.2.2.1, hn.2.2.2.2.1, hn.2.2.2.2.2⟩
theorem RR.flt (h : RR n cap g en S I e) (v : Int32) (hv : chK v) : RR n cap g en (uS S 0 0 3 v) (uI I 30 5 v) e := by
  obtain ⟨h0, hi, hn, hc, hf, hl, hg, he, hs, hen⟩ := h
  have k : ∀ j, j ≠ 0 → uS S 0 0 3 v j = S j := fun j hj => uS_row _ _ _ _ hj
  refine ⟨h0, hi, ?_, hc.to (k 5 (by decide)) (k 6 (by decide)) rfl rfl rfl rfl rfl, hf.to (k 4 (by decide)) rfl rfl rfl rfl rfl rfl rfl, hl.to4 (k 4 (by decide)) rfl rfl rfl, hg.to (k 7 (by decide)) (k 8 (by decide)) rfl rfl, he.to (k 9 (by decide)) rfl rfl rfl rfl rfl rfl rfl, hs.to (k 10 (by decide)) rfl rfl rfl, hen⟩
  unfold RN at hn ⊢
  refine ⟨by simpa [uS, uI, upd] using hn.1, by simpa [uS, uI, upd] using hn.2.1, by simpa [uS, uI, upd] using hn.2.2.1, by simp [uS, uI, upd], hn.2.2.2.2.1, by simpa [uI, upd] using hv⟩
/-- changes, blocks -/
theorem HC.chg (h : HC I) (z : Nat) (v : Int32) : HC (uI I 4 z v) := h
theorem RR.chg (h : RR n cap g en S I e) {p : Nat} (hc : c < 12) (v : Int32) (hv : v = -1 ∨ ∃ w, w < 256 ∧ v = nI w) : RR n cap g en (uS S 6 p c v) (uI I 4 (12 * p + c) v) e := by
  obtain ⟨h0, hi, hn, hC, hf, hl, hg, he, hs, hen⟩ := h
  have k : ∀ j, j ≠ 6 → uS S 6 p c v j = S j := fun j hj => uS_row _ _ _ _ hj
  refine ⟨h0, hi, hn.to (k 0 (by decide)) (fun _ _ => rfl), ⟨fun i hi => ?_, hC.2.1, hC.2.2⟩, hf.to (k 4 (by decide)) rfl rfl rfl rfl rfl rfl rfl, hl.to4 (k 4 (by decide)) rfl rfl rfl, hg.to (k 7 (by decide)) (k 8 (by decide)) rfl rfl, he.to (k 9 (by decide)) rfl rfl rfl rfl rfl rfl rfl, hs.to (k 10 (by decide)) rfl rfl rfl, hen⟩
  obtain ⟨⟨a0, a1, a2, a3, a4⟩, b0, b1, b2, b3, b4⟩ := hC.1 i hi
  refine ⟨⟨by rw [k 5 (by decide)]; exact a0, by rw [k 5 (by decide)]; exact a1, by rw [k 5 (by decide)]; exact a2, by rw [k 5 (by decide)]; exact a3, fun d hd => ?_⟩, b0, b1, b2, b3, fun d hd => ?_⟩
  · rw [uI_s]
    by_cases z : i = p ∧ d = c
    · obtain ⟨rfl, rfl⟩ := z
      rw [if_pos rfl]
      simp [uS, upd]
    · rw [if_neg (by omega)]
      have e1 : uS S 6 p c v 6 i d = S 6 i d := by
        unfold uS upd
        by_cases y : i = p
        · have y2 : ¬ d = c := fun w => z ⟨y, w⟩
          simp [y, y2]
        · simp [y]
      rw [e1]
      exact a4 d hd
  · rw [uI_s]
    split
    · exact hv
    · exact b4 d hd
theorem RR.blk (h : RR n cap g en S I e) {p : Nat} (b : Bool) : RR n cap g en (uS S 5 p 3 (bI b)) (uI I 3 p (bI b)) e := by
  obtain ⟨h0, hi, hn, hC, hf, hl, hg, he, hs, hen⟩ := h
  have k : ∀ j, j ≠ 5 → uS S 5 p 3 (bI b) j = S j := fun j hj => uS_row _ _ _ _ hj
  have hb : bI b = 0 ∨ bI b = 1 := by cases b; exact Or.inl rfl; exact Or.inr rfl
  refine ⟨h0, hi, hn.to (k 0 (by decide)) (fun _ _ => rfl), ⟨fun i hi => ?_, hC.2.1, fun j hj => ⟨(hC.2.2 j hj).1, ?_⟩⟩, hf.to (k 4 (by decide)) rfl rfl rfl rfl rfl rfl rfl, hl.to4 (k 4 (by decide)) rfl rfl rfl, hg.to (k 7 (by decide)) (k 8 (by decide)) rfl rfl, he.to (k 9 (by decide)) rfl rfl rfl rfl rfl rfl rfl, hs.to (k 10 (by decide)) rfl rfl rfl, hen⟩
  · obtain ⟨⟨a0, a1, a2, a3, a4⟩, b0, b1, b2, b3, b4⟩ := hC.1 i hi
    have e5 : ∀ f, f ≠ 3 → uS S 5 p 3 (bI b) 5 i f = S 5 i f := fun f hf => by
      unfold uS upd
      by_cases y : i = p
      · simp [y, hf]
      · simp [y]
    refine ⟨⟨by rw [e5 0 (by decide)]; exact a0, by rw [e5 1 (by decide)]; exact a1, by rw [e5 2 (by decide)]; exact a2, ?_, fun d hd => by rw [k 6 (by decide)]; exact a4 d hd⟩, b0, b1, b2, ?_, b4⟩
    · rw [uI_s]
      by_cases z : i = p
      · rw [if_pos z]
        simp [uS, upd, z]
      · rw [if_neg z]
        simpa [uS, z] using a3
    · rw [uI_s]
      split
      · exact hb
      · exact b3
  · rw [uI_s]
    split
    · exact bI_arr b
    · exact (hC.2.2 j hj).2
/-- members, faders -/
theorem RR.mem (h : RR n cap g en S I e) {G : Nat} (hG : G < n 1) (hc : c < 12) (b : Bool) : RR n cap g en (uS S 8 G c (bI b)) (if mbB (I 14 G) c = b then I else uI I 14 G (I 14 G ^^^ (1 <<< (nI c &&& 31)))) e := by
  obtain ⟨h0, hi, hn, hC, hf, hl, hg, he, hs, hen⟩ := h
  have k : ∀ j, j ≠ 8 → uS S 8 G c (bI b) j = S j := fun j hj => uS_row _ _ _ _ hj
  have i : ∀ r, r ≠ 14 → (if mbB (I 14 G) c = b then I else uI I 14 G (I 14 G ^^^ (1 <<< (nI c &&& 31)))) r = I r := fun r hr => by
    split
    · rfl
    · exact uI_n _ _ _ hr
  refine ⟨h0, hi.to (fun j _ => by rw [i 30 (by decide)]), hn.to (k 0 (by decide)) (fun j _ => by rw [i 30 (by decide)]), hC.to (k 5 (by decide)) (k 6 (by decide)) (i 0 (by decide)) (i 1 (by decide)) (i 2 (by decide)) (i 3 (by decide)) (i 4 (by decide)), hf.to (k 4 (by decide)) (i 5 (by decide)) (i 6 (by decide)) (i 7 (by decide)) (i 8 (by decide)) (i 9 (by decide)) (i 10 (by decide)) (by rw [i 30 (by decide)]), hl.to4 (k 4 (by decide)) (i 11 (by decide)) (i 12 (by decide)) (i 13 (by decide)), ⟨fun G2 hG2 => ⟨?_, fun d hd => ?_⟩, fun G2 h1 h2 => ?_⟩, he.to (k 9 (by decide)) (i 16 (by decide)) (i 17 (by decide)) (i 18 (by decide)) (i 19 (by decide)) (i 20 (by decide)) (i 21 (by decide)) (i 22 (by decide)), hs.to (k 10 (by decide)) (i 23 (by decide)) (i 24 (by decide)) (i 25 (by decide)), hen⟩
  · rw [k 7 (by decide), i 15 (by decide)]
    exact (hg.1 G2 hG2).1
  · have o := (hg.1 G2 hG2).2 d hd
    by_cases z : G2 = G
    · subst z
      by_cases y : d = c
      · subst y
        have e1 : uS S 8 G2 d (bI b) 8 G2 d = bI b := by simp [uS, upd]
        rw [e1]
        congr 1
        split
        · rename_i w
          exact w.symm
        · rename_i w
          rw [uI_s, if_pos rfl, mbB_x _ hd hd, if_pos rfl]
          cases hb : mbB (I 14 G2) d <;> cases b <;> simp_all
      · have e1 : uS S 8 G2 c (bI b) 8 G2 d = S 8 G2 d := by simp [uS, upd, y]
        rw [e1, o]
        congr 1
        split
        · rfl
        · rw [uI_s, if_pos rfl, mbB_x _ hc hd, if_neg y]
    · have e1 : uS S 8 G c (bI b) 8 G2 d = S 8 G2 d := by simp [uS, z]
      rw [e1, o]
      congr 2
      split
      · rfl
      · rw [uI_s, if_neg z]
  · have o := hg.2 G2 h1 h2
    rw [i 15 (by decide)]
    refine ⟨?_, o.2⟩
    split
    · exact o.1
    · rw [uI_s, if_neg (by omega)]
      exact o.1
theorem mf_rel {G : Nat} (hg : ∀ c, c < 12 → S 8 G c = bI (mbB (I 14 G) c)) (hG : G < ng) : ∀ (m c : Nat) (T : Nat → Nat → Nat → Int32) (J : Nat → Nat → Int32), c + m = 12 → T 8 = S 8 → J 14 = I 14 → RF T J → RLt ng T J → RF (mfL G m c T) (sfL G m c J) ∧ RLt ng (mfL G m c T) (sfL G m c J)
  | 0, _, _, _, _, _, _, a, b => ⟨a, b⟩
  | m + 1, c, T, J, hm, hT, hJ, hF, hL => by
    rw [mfL, sfL]
    have hb := hg c (by omega)
    have e1 : (if T 8 G c = 0 then T else uS T 4 c 7 (nI G)) = uS T 4 c 7 (if mbB (J 14 G) c then nI G else T 4 c 7) := by
      rw [hT, hb, hJ]
      cases mbB (I 14 G) c with
      | true => rfl
      | false =>
        funext k i f
        unfold uS upd
        by_cases z : k = 4 ∧ i = c
        · obtain ⟨rfl, rfl⟩ := z
          by_cases y : f = 7
          · subst y
            simp [bI]
          · simp [bI, y]
        · simp [bI, z]
    rw [e1]
    refine mf_rel hg hG m (c + 1) _ _ (by omega) ((uS_row _ _ _ _ (by decide)).trans hT) ((uI_n _ _ _ (by decide)).trans hJ) (hF.tp (uS4_hi T c 7 _ (by decide)) rfl rfl rfl rfl rfl rfl rfl) (fun d hd => ?_)
    have o := hL d hd
    by_cases z : d = c
    · subst z
      refine ⟨by simpa [uS, uI, upd] using o.1, o.2.1, ?_, ?_, by simpa [uS, uI, upd] using o.2.2.2.2⟩
      · rw [uI_s, if_pos rfl, ← o.2.2.1]
        simp [uS, upd]
      · rw [uI_s, if_pos rfl]
        intro y
        split at y
        · rename_i w
          rw [if_pos w]
          exact ⟨G, hG, rfl⟩
        · rename_i w
          rw [if_neg w]
          exact o.2.2.2.1 y
    · simpa [uS, uI, upd, z] using o
theorem mfL_0 (G : Nat) (S : Nat → Nat → Nat → Int32) {k : Nat} (h : k ≠ 4) (h7 : k ≠ 7) (v : Int32) : mfS G v S k = S k := by rw [mfS, uS_row _ _ _ _ h7, mfL_n G h]
theorem RR.fad (h : RR n cap g en S I e) {G lv : Nat} (hG : G < n 1) : RR n cap g en (mfS G (nI lv) S) (sfM I G lv) e := by
  obtain ⟨h0, hi, hn, hC, hf, hl, hg, he, hs, hen⟩ := h
  have k : ∀ j, j ≠ 4 → j ≠ 7 → mfS G (nI lv) S j = S j := fun j a b => mfL_0 G S a b _
  have i : ∀ r, r ≠ 12 → r ≠ 15 → sfM I G lv r = I r := fun r a b => by rw [sfM, sfL_row G a, uI_n _ _ _ b]
  have m := mf_rel (S := S) (I := I) (hg.1 G hG).2 hG 12 0 S (uI I 15 G (nI lv)) rfl rfl rfl (hf.to rfl rfl rfl rfl rfl rfl rfl rfl) (hl.to4 rfl rfl rfl rfl)
  have e4 : mfS G (nI lv) S 4 = mfL G 12 0 S 4 := by rw [mfS, uS_row _ _ _ _ (by decide)]
  refine ⟨h0, hi.to (fun j _ => by rw [i 30 (by decide) (by decide)]), hn.to (k 0 (by decide) (by decide)) (fun j _ => by rw [i 30 (by decide) (by decide)]), hC.to (k 5 (by decide) (by decide)) (k 6 (by decide) (by decide)) (i 0 (by decide) (by decide)) (i 1 (by decide) (by decide)) (i 2 (by decide) (by decide)) (i 3 (by decide) (by decide)) (i 4 (by decide) (by decide)), m.1.to e4 rfl rfl rfl rfl rfl rfl rfl, m.2.to4 e4 rfl rfl rfl, ⟨fun G2 hG2 => ⟨?_, fun d hd => ?_⟩, fun G2 h1 h2 => ?_⟩, he.to (k 9 (by decide) (by decide)) (i 16 (by decide) (by decide)) (i 17 (by decide) (by decide)) (i 18 (by decide) (by decide)) (i 19 (by decide) (by decide)) (i 20 (by decide) (by decide)) (i 21 (by decide) (by decide)) (i 22 (by decide) (by decide)), hs.to (k 10 (by decide) (by decide)) (i 23 (by decide) (by decide)) (i 24 (by decide) (by decide)) (i 25 (by decide) (by decide)), hen⟩
  · have e7 : mfS G (nI lv) S 7 G2 0 = if G2 = G then nI lv else S 7 G2 0 := by
      rw [mfS]
      have : mfL G 12 0 S 7 = S 7 := mfL_n G (by decide) 12 0 S
      by_cases z : G2 = G
      · rw [if_pos z, z]
        simp [uS, upd]
      · rw [if_neg z]
        simp [uS, z, this]
    have e15 : sfM I G lv 15 G2 = if G2 = G then nI lv else I 15 G2 := by rw [sfM, sfL_row G (by decide), uI_s]
    rw [e7, e15]
    split
    · rfl
    · exact (hg.1 G2 hG2).1
  · rw [k 8 (by decide) (by decide), i 14 (by decide) (by decide)]
    exact (hg.1 G2 hG2).2 d hd
  · rw [i 14 (by decide) (by decide)]
    have e15 : sfM I G lv 15 G2 = I 15 G2 := by rw [sfM, sfL_row G (by decide), uI_s, if_neg (by omega)]
    rw [e15]
    exact hg.2 G2 h1 h2
/-- effects started and stopped -/
theorem RR.sta (h : RR n cap g en S I e) (e0 : Nat) : RR n cap g en (uS (uS S 9 e0 4 1) 9 e0 5 (S 0 0 1)) (uI (uI I 22 e0 1) 21 e0 (I 30 6)) e := by
  obtain ⟨h0, hi, hn, hC, hf, hl, hg, he, hs, hen⟩ := h
  have k : ∀ j, j ≠ 9 → uS (uS S 9 e0 4 1) 9 e0 5 (S 0 0 1) j = S j := fun j hj => by rw [uS_row _ _ _ _ hj, uS_row _ _ _ _ hj]
  refine ⟨h0, hi, hn.to (k 0 (by decide)) (fun _ _ => rfl), hC.to (k 5 (by decide)) (k 6 (by decide)) rfl rfl rfl rfl rfl, hf.to (k 4 (by decide)) rfl rfl rfl rfl rfl rfl rfl, hl.to4 (k 4 (by decide)) rfl rfl rfl, hg.to (k 7 (by decide)) (k 8 (by decide)) rfl rfl, fun i hi => ?_, hs.to (k 10 (by decide)) rfl rfl rfl, hen⟩
  have o := he i hi
  by_cases z : i = e0
  · subst z
    refine ⟨o.1, o.2.1, by simpa [uS, uI, upd] using o.2.2.1, o.2.2.2.1, by simpa [uS, uI, upd] using o.2.2.2.2.1, o.2.2.2.2.2.1, by simpa [uS, uI, upd] using o.2.2.2.2.2.2.1, by simpa [uS, uI, upd] using o.2.2.2.2.2.2.2.1, by simp [uS, uI, upd], Or.inr (by simp [uI, upd]), fun _ => by simp [uS, uI, upd, hn.2.1]⟩
  · simpa [uS, uI, upd, z] using o
theorem RR.sto (h : RR n cap g en S I e) (e0 : Nat) : RR n cap g en (uS S 9 e0 4 0) (uI I 22 e0 0) e := by
  obtain ⟨h0, hi, hn, hC, hf, hl, hg, he, hs, hen⟩ := h
  have k : ∀ j, j ≠ 9 → uS S 9 e0 4 0 j = S j := fun j hj => uS_row _ _ _ _ hj
  refine ⟨h0, hi, hn.to (k 0 (by decide)) (fun _ _ => rfl), hC.to (k 5 (by decide)) (k 6 (by decide)) rfl rfl rfl rfl rfl, hf.to (k 4 (by decide)) rfl rfl rfl rfl rfl rfl rfl, hl.to4 (k 4 (by decide)) rfl rfl rfl, hg.to (k 7 (by decide)) (k 8 (by decide)) rfl rfl, fun i hi => ?_, hs.to (k 10 (by decide)) rfl rfl rfl, hen⟩
  have o := he i hi
  by_cases z : i = e0
  · subst z
    refine ⟨o.1, o.2.1, by simpa [uS, uI, upd] using o.2.2.1, o.2.2.2.1, by simpa [uS, uI, upd] using o.2.2.2.2.1, o.2.2.2.2.2.1, by simpa [uS, uI, upd] using o.2.2.2.2.2.2.1, by simpa [uS, uI, upd] using o.2.2.2.2.2.2.2.1, by simp [uS, uI, upd], Or.inl (by simp [uI, upd]), fun y => absurd (by simp [uI, upd]) y⟩
  · simpa [uS, uI, upd, z] using o
theorem rn_eq (h : RE ng ne g S I) : ∀ (m i k : Nat), i + m ≤ ne → rnC S m i k = ctL (I 22) m i k
  | 0, _, _, _ => rfl
  | m + 1, i, k, hm => by
    rw [rnC, ctL, (h i (by omega)).2.2.2.2.2.2.2.2.1]
    exact rn_eq h m (i + 1) _ (by omega)
/-- what is added at the end of a list -/
theorem ins1_end {α : Type} (F : Nat → Nat → α) (k p : Nat) (x : α) {i : Nat} (h : i < p) : ins1 F k p x k i = F k i := by simp [ins1, h]
theorem cn_upd {j v c2 : Nat} (h : CN n cap) (hj : j < 4) (h1 : v ≤ c2) (h2 : c2 < 1000) (h3 : (j = 0 → v ≤ 16) ∧ (j = 1 → v ≤ 5) ∧ (j = 2 → v ≤ 4) ∧ (j = 3 → v ≤ 8)) : CN (updN n j v) (updN cap j c2) := by
  obtain ⟨a, b0, b1, b2, b3⟩ := h
  refine ⟨fun i hi => ?_, ?_, ?_, ?_, ?_⟩
  · unfold updN
    split
    · exact ⟨h1, h2⟩
    · exact a i hi
  all_goals (unfold updN; split <;> rename_i z <;> simp_all)
theorem updN_self (f : Nat → Nat) (k : Nat) : updN f k (f k) = f := by
  funext j
  unfold updN
  split
  · rename_i h
    rw [h]
  · rfl
theorem RR.add (h : RR n cap g en S I e) {x t cv : Int32} (hb : cueB x t cv = true) (hx : ¬ fnd (I 0) x (n 0) 0 < n 0) (hlt : n 0 < 16) {f : Nat → Int32} (hff : ∀ i, i < 12 → f i = -1) (hcv : vp_nar .char cv = cv) {c2 : Nat} (hc2 : CapN (cap 0) (n 0) c2) (v : Int32) :
    RR (updN n 0 (n 0 + 1)) (updN cap 0 c2) g en (uS (ins1 (ins1 S 5 (poC S (n 0) x) (cuR x t cv)) 6 (poC S (n 0) x) f) 3 0 0 v) (uI (acN (acL x (n 0) I).2 (acL x (n 0) I).1 x t cv) 30 0 (nI (n 0 + 1))) e := by
  obtain ⟨h0, hi, hn, hC, hf, hl, hg, he, hs, hen⟩ := h
  have k : ∀ j, j ≠ 5 → j ≠ 6 → j ≠ 3 → uS (ins1 (ins1 S 5 (poC S (n 0) x) (cuR x t cv)) 6 (poC S (n 0) x) f) 3 0 0 v j = S j := fun j a b d => by
    rw [uS_row _ _ _ _ d]
    funext i
    rw [ins1_n _ _ _ _ b, ins1_n _ _ _ _ a]
  have i : ∀ r, r ≠ 0 → r ≠ 1 → r ≠ 2 → r ≠ 3 → r ≠ 4 → r ≠ 30 → uI (acN (acL x (n 0) I).2 (acL x (n 0) I).1 x t cv) 30 0 (nI (n 0 + 1)) r = I r := fun r a b d f g9 h9 => by
    rw [uI_n _ _ _ h9, acN_row _ _ _ _ _ a b d f g9]
    exact (ac_spec x (n 0) I).2.2.2.2.2.2 r a b d f g9
  have e30 : uI (acN (acL x (n 0) I).2 (acL x (n 0) I).1 x t cv) 30 0 (nI (n 0 + 1)) 30 = upd (I 30) 0 (nI (n 0 + 1)) := by
    show upd (acN (acL x (n 0) I).2 (acL x (n 0) I).1 x t cv 30) 0 _ = _
    rw [acN_row _ _ _ _ _ (by decide) (by decide) (by decide) (by decide) (by decide), (ac_spec x (n 0) I).2.2.2.2.2.2 30 (by decide) (by decide) (by decide) (by decide) (by decide)]
  have r := rc_add hC hlt hb hx hff hcv
  have hcap : (c2 = cap 0 ∧ n 0 < cap 0) ∨ (cap 0 = 0 ∧ c2 = 10) ∨ (n 0 = cap 0 ∧ 2 ≤ cap 0 ∧ c2 = cap 0 + cap 0 / 2 ∧ c2 ≤ 22) := hc2
  have hcs := h0.2.1
  have hn0 := h0.1.1 0 (by decide)
  have e1 : updN n 0 (n 0 + 1) 1 = n 1 := updN_n _ _ (by decide)
  have e2 : updN n 0 (n 0 + 1) 2 = n 2 := updN_n _ _ (by decide)
  have e3 : updN n 0 (n 0 + 1) 3 = n 3 := updN_n _ _ (by decide)
  refine ⟨⟨cn_upd h0.1 (by decide) (by omega) (by omega) ⟨fun _ => by omega, fun z => absurd z (by decide), fun z => absurd z (by decide), fun z => absurd z (by decide)⟩, ?_, ?_, ?_, ?_⟩, ?_, ?_, ?_, hf.to (k 4 (by decide) (by decide) (by decide)) (i 5 (by decide) (by decide) (by decide) (by decide) (by decide) (by decide)) (i 6 (by decide) (by decide) (by decide) (by decide) (by decide) (by decide)) (i 7 (by decide) (by decide) (by decide) (by decide) (by decide) (by decide)) (i 8 (by decide) (by decide) (by decide) (by decide) (by decide) (by decide)) (i 9 (by decide) (by decide) (by decide) (by decide) (by decide) (by decide)) (i 10 (by decide) (by decide) (by decide) (by decide) (by decide) (by decide)) (by rw [e30]; rfl), ?_, ?_, ?_, ?_, hen⟩
  · rw [updN_s]; omega
  · rw [updN_n _ _ (by decide)]; exact h0.2.2.1
  · rw [updN_n _ _ (by decide)]; exact h0.2.2.2.1
  · rw [updN_n _ _ (by decide)]; exact h0.2.2.2.2
  · unfold RI
    rw [e30, e1, e2, e3, updN_s]
    exact ⟨rfl, hi.2⟩
  · unfold RN
    rw [e30, k 0 (by decide) (by decide) (by decide)]
    exact hn
  · rw [updN_s]
    exact r.to (uS_row _ _ _ _ (by decide)) (uS_row _ _ _ _ (by decide)) (uI_n _ _ _ (by decide)) (uI_n _ _ _ (by decide)) (uI_n _ _ _ (by decide)) (uI_n _ _ _ (by decide)) (uI_n _ _ _ (by decide))
  · rw [e1]
    exact hl.to4 (k 4 (by decide) (by decide) (by decide)) (i 11 (by decide) (by decide) (by decide) (by decide) (by decide) (by decide)) (i 12 (by decide) (by decide) (by decide) (by decide) (by decide) (by decide)) (i 13 (by decide) (by decide) (by decide) (by decide) (by decide) (by decide))
  · rw [e1]
    exact hg.to (k 7 (by decide) (by decide) (by decide)) (k 8 (by decide) (by decide) (by decide)) (i 14 (by decide) (by decide) (by decide) (by decide) (by decide) (by decide)) (i 15 (by decide) (by decide) (by decide) (by decide) (by decide) (by decide))
  · rw [e1, e2]
    exact he.to (k 9 (by decide) (by decide) (by decide)) (i 16 (by decide) (by decide) (by decide) (by decide) (by decide) (by decide)) (i 17 (by decide) (by decide) (by decide) (by decide) (by decide) (by decide)) (i 18 (by decide) (by decide) (by decide) (by decide) (by decide) (by decide)) (i 19 (by decide) (by decide) (by decide) (by decide) (by decide) (by decide)) (i 20 (by decide) (by decide) (by decide) (by decide) (by decide) (by decide)) (i 21 (by decide) (by decide) (by decide) (by decide) (by decide) (by decide)) (i 22 (by decide) (by decide) (by decide) (by decide) (by decide) (by decide))
  · rw [e3]
    exact hs.to (k 10 (by decide) (by decide) (by decide)) (i 23 (by decide) (by decide) (by decide) (by decide) (by decide) (by decide)) (i 24 (by decide) (by decide) (by decide) (by decide) (by decide) (by decide)) (i 25 (by decide) (by decide) (by decide) (by decide) (by decide) (by decide))
theorem RR.rem (h : RR n cap g en S I e) {p : Nat} (hp : p < n 0) (v : Int32) :
    RR (updN n 0 (n 0 - 1)) cap g en (uS (skp (skp S 5 p) 6 p) 3 0 0 v) (rmL (n 0 - 1 - p) p (uI I 30 0 (nI (n 0 - 1)))) e := by
  obtain ⟨h0, hi, hn, hC, hf, hl, hg, he, hs, hen⟩ := h
  have k : ∀ j, j ≠ 5 → j ≠ 6 → j ≠ 3 → uS (skp (skp S 5 p) 6 p) 3 0 0 v j = S j := fun j a b d => by
    rw [uS_row _ _ _ _ d]
    funext i
    rw [skp_n _ _ _ b, skp_n _ _ _ a]
  have i : ∀ r, r ≠ 0 → r ≠ 1 → r ≠ 2 → r ≠ 3 → r ≠ 4 → r ≠ 30 → rmL (n 0 - 1 - p) p (uI I 30 0 (nI (n 0 - 1))) r = I r := fun r a b d f g9 h9 => by
    rw [(rm_spec (n 0 - 1 - p) p (uI I 30 0 (nI (n 0 - 1)))).2.2 r a b d f g9, uI_n _ _ _ h9]
  have e30 : rmL (n 0 - 1 - p) p (uI I 30 0 (nI (n 0 - 1))) 30 = upd (I 30) 0 (nI (n 0 - 1)) := by
    rw [(rm_spec (n 0 - 1 - p) p (uI I 30 0 (nI (n 0 - 1)))).2.2 30 (by decide) (by decide) (by decide) (by decide) (by decide)]
    rfl
  have r := rc_rem (I := uI I 30 0 (nI (n 0 - 1))) (hC.to rfl rfl rfl rfl rfl rfl rfl) h0.1.2.1 hp
  have hn0 := h0.1.1 0 (by decide)
  have e1 : updN n 0 (n 0 - 1) 1 = n 1 := updN_n _ _ (by decide)
  have e2 : updN n 0 (n 0 - 1) 2 = n 2 := updN_n _ _ (by decide)
  have e3 : updN n 0 (n 0 - 1) 3 = n 3 := updN_n _ _ (by decide)
  have hcn : CN (updN n 0 (n 0 - 1)) cap := by
    have := cn_upd (j := 0) (v := n 0 - 1) (c2 := cap 0) h0.1 (by decide) (by omega) (by omega) ⟨fun _ => by have := h0.1.2.1; omega, fun z => absurd z (by decide), fun z => absurd z (by decide), fun z => absurd z (by decide)⟩
    rwa [updN_self cap] at this
  refine ⟨⟨hcn, h0.2⟩, ?_, ?_, ?_, hf.to (k 4 (by decide) (by decide) (by decide)) (i 5 (by decide) (by decide) (by decide) (by decide) (by decide) (by decide)) (i 6 (by decide) (by decide) (by decide) (by decide) (by decide) (by decide)) (i 7 (by decide) (by decide) (by decide) (by decide) (by decide) (by decide)) (i 8 (by decide) (by decide) (by decide) (by decide) (by decide) (by decide)) (i 9 (by decide) (by decide) (by decide) (by decide) (by decide) (by decide)) (i 10 (by decide) (by decide) (by decide) (by decide) (by decide) (by decide)) (by rw [e30]; rfl), ?_, ?_, ?_, ?_, hen⟩
  · unfold RI
    rw [e30, e1, e2, e3, updN_s]
    exact ⟨rfl, hi.2⟩
  · unfold RN
    rw [e30, k 0 (by decide) (by decide) (by decide)]
    exact hn
  · rw [updN_s]
    exact r.to (uS_row _ _ _ _ (by decide)) (uS_row _ _ _ _ (by decide)) rfl rfl rfl rfl rfl
  · rw [e1]
    exact hl.to4 (k 4 (by decide) (by decide) (by decide)) (i 11 (by decide) (by decide) (by decide) (by decide) (by decide) (by decide)) (i 12 (by decide) (by decide) (by decide) (by decide) (by decide) (by decide)) (i 13 (by decide) (by decide) (by decide) (by decide) (by decide) (by decide))
  · rw [e1]
    exact hg.to (k 7 (by decide) (by decide) (by decide)) (k 8 (by decide) (by decide) (by decide)) (i 14 (by decide) (by decide) (by decide) (by decide) (by decide) (by decide)) (i 15 (by decide) (by decide) (by decide) (by decide) (by decide) (by decide))
  · rw [e1, e2]
    exact he.to (k 9 (by decide) (by decide) (by decide)) (i 16 (by decide) (by decide) (by decide) (by decide) (by decide) (by decide)) (i 17 (by decide) (by decide) (by decide) (by decide) (by decide) (by decide)) (i 18 (by decide) (by decide) (by decide) (by decide) (by decide) (by decide)) (i 19 (by decide) (by decide) (by decide) (by decide) (by decide) (by decide)) (i 20 (by decide) (by decide) (by decide) (by decide) (by decide) (by decide)) (i 21 (by decide) (by decide) (by decide) (by decide) (by decide) (by decide)) (i 22 (by decide) (by decide) (by decide) (by decide) (by decide) (by decide))
  · rw [e3]
    exact hs.to (k 10 (by decide) (by decide) (by decide)) (i 23 (by decide) (by decide) (by decide) (by decide) (by decide) (by decide)) (i 24 (by decide) (by decide) (by decide) (by decide) (by decide) (by decide)) (i 25 (by decide) (by decide) (by decide) (by decide) (by decide) (by decide))
theorem RR.grp (h : RR n cap g en S I e) (hlt : n 1 < 5) {c2 : Nat} (hc2 : CapN (cap 1) (n 1) c2) (v : Int32) :
    RR (updN n 1 (n 1 + 1)) (updN cap 1 c2) g en (uS (ins1 (ins1 S 7 (n 1) (fun _ => 0)) 8 (n 1) (fun _ => 0)) 3 1 0 v) (uI I 30 2 (nI (n 1 + 1))) e := by
  obtain ⟨h0, hi, hn, hC, hf, hl, hg, he, hs, hen⟩ := h
  have k : ∀ j, j ≠ 7 → j ≠ 8 → j ≠ 3 → uS (ins1 (ins1 S 7 (n 1) (fun _ => 0)) 8 (n 1) (fun _ => 0)) 3 1 0 v j = S j := fun j a b d => by
    rw [uS_row _ _ _ _ d]
    funext i
    rw [ins1_n _ _ _ _ b, ins1_n _ _ _ _ a]
  have hcap : (c2 = cap 1 ∧ n 1 < cap 1) ∨ (cap 1 = 0 ∧ c2 = 10) ∨ (n 1 = cap 1 ∧ 2 ≤ cap 1 ∧ c2 = cap 1 + cap 1 / 2 ∧ c2 ≤ 22) := hc2
  have hcs := h0.2.2.1
  have hn0 := h0.1.1 1 (by decide)
  have e0 : updN n 1 (n 1 + 1) 0 = n 0 := updN_n _ _ (by decide)
  have e2 : updN n 1 (n 1 + 1) 2 = n 2 := updN_n _ _ (by decide)
  have e3 : updN n 1 (n 1 + 1) 3 = n 3 := updN_n _ _ (by decide)
  refine ⟨⟨cn_upd h0.1 (by decide) (by omega) (by omega) ⟨fun z => absurd z (by decide), fun _ => by omega, fun z => absurd z (by decide), fun z => absurd z (by decide)⟩, ?_, ?_, ?_, ?_⟩, ?_, ?_, ?_, hf.to (k 4 (by decide) (by decide) (by decide)) rfl rfl rfl rfl rfl rfl rfl, ?_, ?_, ?_, ?_, hen⟩
  · rw [updN_n _ _ (by decide)]; exact h0.2.1
  · rw [updN_s]; omega
  · rw [updN_n _ _ (by decide)]; exact h0.2.2.2.1
  · rw [updN_n _ _ (by decide)]; exact h0.2.2.2.2
  · unfold RI
    rw [e0, e2, e3, updN_s]
    exact ⟨hi.1, rfl, hi.2.2⟩
  · unfold RN
    rw [k 0 (by decide) (by decide) (by decide)]
    exact hn
  · rw [e0]
    exact hC.to (k 5 (by decide) (by decide) (by decide)) (k 6 (by decide) (by decide) (by decide)) rfl rfl rfl rfl rfl
  · rw [updN_s]
    intro c hc
    have o := hl c hc
    rw [k 4 (by decide) (by decide) (by decide)]
    refine ⟨o.1, o.2.1, o.2.2.1, fun y => ?_, o.2.2.2.2⟩
    obtain ⟨g2, w1, w2⟩ := o.2.2.2.1 y
    exact ⟨g2, by omega, w2⟩
  · rw [updN_s]
    refine ⟨fun G hG => ?_, fun G h1 h2 => hg.2 G (by omega) h2⟩
    have e7 : uS (ins1 (ins1 S 7 (n 1) (fun _ => 0)) 8 (n 1) (fun _ => 0)) 3 1 0 v 7 = ins1 S 7 (n 1) (fun _ => 0) 7 := by
      rw [uS_row _ _ _ _ (by decide)]
      funext i
      rw [ins1_n _ _ _ _ (by decide)]
    have e8 : uS (ins1 (ins1 S 7 (n 1) (fun _ => 0)) 8 (n 1) (fun _ => 0)) 3 1 0 v 8 = ins1 S 8 (n 1) (fun _ => 0) 8 := by
      rw [uS_row _ _ _ _ (by decide)]
      funext i
      simp [ins1]
    rw [e7, e8]
    by_cases z : G = n 1
    · subst z
      obtain ⟨w1, w2⟩ := hg.2 (n 1) (Nat.le_refl _) hlt
      rw [ins1_s, ins1_s]
      show 0 = I 15 (n 1) ∧ ∀ c, c < 12 → 0 = bI (mbB (I 14 (n 1)) c)
      rw [w1, w2]
      exact ⟨rfl, fun c hc => by rw [mbB_0 hc]; rfl⟩
    · rw [ins1_end _ _ _ _ (by omega), ins1_end _ _ _ _ (by omega)]
      exact hg.1 G (by omega)
  · rw [updN_s, e2]
    intro i hi2
    have o := he i hi2
    rw [k 9 (by decide) (by decide) (by decide)]
    exact ⟨o.1, by omega, o.2.2⟩
  · rw [e3]
    exact hs.to (k 10 (by decide) (by decide) (by decide)) rfl rfl rfl
theorem RR.eff (h : RR n cap g en S I e) (hlt : n 2 < 4) {c2 : Nat} (hc2 : CapN (cap 2) (n 2) c2) (v : Int32) {G : Nat} (hG : G < n 1) {s0 s1 s2 s3 : Int32} (hb : effB s0 s1 s2 s3 = true) :
    RR (updN n 2 (n 2 + 1)) (updN cap 2 c2) (updN g (n 2) G) en (uS (ins1 S 9 (n 2) (efR s0 s1 s2 s3)) 3 2 0 v) (uI (uI (uI (uI (uI (uI (uI I 16 (n 2) (nI G)) 17 (n 2) s0) 18 (n 2) s1) 19 (n 2) s2) 20 (n 2) s3) 22 (n 2) 0) 30 3 (nI (n 2 + 1))) e := by
  obtain ⟨h0, hi, hn, hC, hf, hl, hg, he, hs, hen⟩ := h
  have k : ∀ j, j ≠ 9 → j ≠ 3 → uS (ins1 S 9 (n 2) (efR s0 s1 s2 s3)) 3 2 0 v j = S j := fun j a d => by
    rw [uS_row _ _ _ _ d]
    funext i
    rw [ins1_n _ _ _ _ a]
  have hcap : (c2 = cap 2 ∧ n 2 < cap 2) ∨ (cap 2 = 0 ∧ c2 = 10) ∨ (n 2 = cap 2 ∧ 2 ≤ cap 2 ∧ c2 = cap 2 + cap 2 / 2 ∧ c2 ≤ 22) := hc2
  have hcs := h0.2.2.2.1
  have hn0 := h0.1.1 2 (by decide)
  have e0 : updN n 2 (n 2 + 1) 0 = n 0 := updN_n _ _ (by decide)
  have e1 : updN n 2 (n 2 + 1) 1 = n 1 := updN_n _ _ (by decide)
  have e3 : updN n 2 (n 2 + 1) 3 = n 3 := updN_n _ _ (by decide)
  refine ⟨⟨cn_upd h0.1 (by decide) (by omega) (by omega) ⟨fun z => absurd z (by decide), fun z => absurd z (by decide), fun _ => by omega, fun z => absurd z (by decide)⟩, ?_, ?_, ?_, ?_⟩, ?_, ?_, ?_, hf.to (k 4 (by decide) (by decide)) rfl rfl rfl rfl rfl rfl rfl, ?_, ?_, ?_, ?_, hen⟩
  · rw [updN_n _ _ (by decide)]; exact h0.2.1
  · rw [updN_n _ _ (by decide)]; exact h0.2.2.1
  · rw [updN_s]; omega
  · rw [updN_n _ _ (by decide)]; exact h0.2.2.2.2
  · unfold RI
    rw [e0, e1, e3, updN_s]
    exact ⟨hi.1, hi.2.1, rfl, hi.2.2.2⟩
  · unfold RN
    rw [k 0 (by decide) (by decide)]
    exact hn
  · rw [e0]
    exact hC.to (k 5 (by decide) (by decide)) (k 6 (by decide) (by decide)) rfl rfl rfl rfl rfl
  · rw [e1]
    exact hl.to4 (k 4 (by decide) (by decide)) rfl rfl rfl
  · rw [e1]
    exact hg.to (k 7 (by decide) (by decide)) (k 8 (by decide) (by decide)) rfl rfl
  · rw [updN_s, e1]
    intro i hi2
    have e9 : uS (ins1 S 9 (n 2) (efR s0 s1 s2 s3)) 3 2 0 v 9 = ins1 S 9 (n 2) (efR s0 s1 s2 s3) 9 := uS_row _ _ _ _ (by decide)
    rw [e9]
    by_cases z : i = n 2
    · subst z
      obtain ⟨w1, w2, -, -⟩ := effB_t hb
      have h1 := (inB_int s1 2 40).mp w2
      rw [show (40 : Int32).toInt = 40 by decide, show (2 : Int32).toInt = 2 by decide] at h1
      obtain ⟨p, hp1, hp2⟩ := vp_in_of (vp_in_iff.mpr ⟨by omega, by omega⟩ : vp_in s1 41) (by decide)
      rw [ins1_s]
      rw [hp2, nI_toInt (by omega)] at h1
      refine ⟨by simp [uI, upd, updN], by simpa [updN] using hG, by simp [uI, upd, efR], by simpa [uI, upd] using w1, by simp [uI, upd, efR], ⟨p, by omega, by omega, by simp [uI, upd, hp2]⟩, by simp [uI, upd, efR], by simp [uI, upd, efR], by simp [uI, upd, efR], Or.inl (by simp [uI, upd]), fun y => absurd (by simp [uI, upd]) y⟩
    · have o := he i (by omega)
      rw [ins1_end _ _ _ _ (by omega)]
      simpa [uI, upd, updN, z] using o
  · rw [e3]
    exact hs.to (k 10 (by decide) (by decide)) rfl rfl rfl
theorem RR.stp (h : RR n cap g en S I e) (hlt : n 3 < 8) {c2 : Nat} (hc2 : CapN (cap 3) (n 3) c2) (v : Int32) {s0 s1 s2 : Int32} (hb : caB s0 = true) :
    RR (updN n 3 (n 3 + 1)) (updN cap 3 c2) g en (uS (ins1 S 10 (n 3) (stR s0 s1 s2)) 3 3 0 v) (uI (uI (uI (uI I 23 (n 3) s0) 24 (n 3) s1) 25 (n 3) s2) 30 4 (nI (n 3 + 1))) e := by
  obtain ⟨h0, hi, hn, hC, hf, hl, hg, he, hs, hen⟩ := h
  have k : ∀ j, j ≠ 10 → j ≠ 3 → uS (ins1 S 10 (n 3) (stR s0 s1 s2)) 3 3 0 v j = S j := fun j a d => by
    rw [uS_row _ _ _ _ d]
    funext i
    rw [ins1_n _ _ _ _ a]
  have hcap : (c2 = cap 3 ∧ n 3 < cap 3) ∨ (cap 3 = 0 ∧ c2 = 10) ∨ (n 3 = cap 3 ∧ 2 ≤ cap 3 ∧ c2 = cap 3 + cap 3 / 2 ∧ c2 ≤ 22) := hc2
  have hcs := h0.2.2.2.2
  have hn0 := h0.1.1 3 (by decide)
  have e0 : updN n 3 (n 3 + 1) 0 = n 0 := updN_n _ _ (by decide)
  have e1 : updN n 3 (n 3 + 1) 1 = n 1 := updN_n _ _ (by decide)
  have e2 : updN n 3 (n 3 + 1) 2 = n 2 := updN_n _ _ (by decide)
  refine ⟨⟨cn_upd h0.1 (by decide) (by omega) (by omega) ⟨fun z => absurd z (by decide), fun z => absurd z (by decide), fun z => absurd z (by decide), fun _ => by omega⟩, ?_, ?_, ?_, ?_⟩, ?_, ?_, ?_, hf.to (k 4 (by decide) (by decide)) rfl rfl rfl rfl rfl rfl rfl, ?_, ?_, ?_, ?_, hen⟩
  · rw [updN_n _ _ (by decide)]; exact h0.2.1
  · rw [updN_n _ _ (by decide)]; exact h0.2.2.1
  · rw [updN_n _ _ (by decide)]; exact h0.2.2.2.1
  · rw [updN_s]; omega
  · unfold RI
    rw [e0, e1, e2, updN_s]
    exact ⟨hi.1, hi.2.1, hi.2.2.1, rfl⟩
  · unfold RN
    rw [k 0 (by decide) (by decide)]
    exact hn
  · rw [e0]
    exact hC.to (k 5 (by decide) (by decide)) (k 6 (by decide) (by decide)) rfl rfl rfl rfl rfl
  · rw [e1]
    exact hl.to4 (k 4 (by decide) (by decide)) rfl rfl rfl
  · rw [e1]
    exact hg.to (k 7 (by decide) (by decide)) (k 8 (by decide) (by decide)) rfl rfl
  · rw [e1, e2]
    exact he.to (k 9 (by decide) (by decide)) rfl rfl rfl rfl rfl rfl rfl
  · rw [updN_s]
    intro i hi2
    have e9 : uS (ins1 S 10 (n 3) (stR s0 s1 s2)) 3 3 0 v 10 = ins1 S 10 (n 3) (stR s0 s1 s2) 10 := uS_row _ _ _ _ (by decide)
    rw [e9]
    by_cases z : i = n 3
    · subst z
      rw [ins1_s]
      exact ⟨by simp [uI, upd, stR], by simp [uI, upd, stR], by simp [uI, upd, stR], by simpa [uI, upd] using hb⟩
    · have o := hs i (by omega)
      rw [ins1_end _ _ _ _ (by omega)]
      simpa [uI, upd, z] using o
theorem RR.clr (h : RR n cap g en S I e) (v : Int32) : RR (updN n 3 0) cap g en (uS S 3 3 0 v) (uI I 30 4 0) e := by
  obtain ⟨h0, hi, hn, hC, hf, hl, hg, he, hs, hen⟩ := h
  have k : ∀ j, j ≠ 3 → uS S 3 3 0 v j = S j := fun j d => uS_row _ _ _ _ d
  have hn0 := h0.1.1 3 (by decide)
  have e0 : updN n 3 0 0 = n 0 := updN_n _ _ (by decide)
  have e1 : updN n 3 0 1 = n 1 := updN_n _ _ (by decide)
  have e2 : updN n 3 0 2 = n 2 := updN_n _ _ (by decide)
  have hcn : CN (updN n 3 0) cap := by
    have := cn_upd (j := 3) (v := 0) (c2 := cap 3) h0.1 (by decide) (by omega) (by omega) ⟨fun z => absurd z (by decide), fun z => absurd z (by decide), fun z => absurd z (by decide), fun _ => by omega⟩
    rwa [updN_self cap] at this
  refine ⟨⟨hcn, h0.2⟩, ?_, ?_, ?_, hf.to (k 4 (by decide)) rfl rfl rfl rfl rfl rfl rfl, ?_, ?_, ?_, ?_, hen⟩
  · unfold RI
    rw [e0, e1, e2, updN_s]
    exact ⟨hi.1, hi.2.1, hi.2.2.1, rfl⟩
  · unfold RN
    rw [k 0 (by decide)]
    exact hn
  · rw [e0]
    exact hC.to (k 5 (by decide)) (k 6 (by decide)) rfl rfl rfl rfl rfl
  · rw [e1]
    exact hl.to4 (k 4 (by decide)) rfl rfl rfl
  · rw [e1]
    exact hg.to (k 7 (by decide)) (k 8 (by decide)) rfl rfl
  · rw [e1, e2]
    exact he.to (k 9 (by decide)) rfl rfl rfl rfl rfl rfl rfl
  · rw [updN_s]
    exact fun i hi => absurd hi (Nat.not_lt_zero i)
end S5
