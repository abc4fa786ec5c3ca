/-! the macro: class and reference alike -/
section S6
variable {n cap g : Nat → Nat} {en e : Int64} {S T : Nat → Nat → Nat → Int32} {I J : Nat → Nat → Int32} {q ng ne nt c : Nat}
theorem uI_self (I : Nat → Nat → Int32) (r i : Nat) {v : Int32} (h : I r i = v) : uI I r i v = I := by
  funext r2 i2
  by_cases z : r2 = r
  · subst z
    rw [uI_s]
    split
    · rename_i y
      rw [y, h]
    · rfl
  · rw [uI_n _ _ _ z]
theorem uS_self (S : Nat → Nat → Nat → Int32) (k i f : Nat) {v : Int32} (h : S k i f = v) : uS S k i f v = S := by
  funext k2 i2 f2
  unfold uS upd
  split
  · rename_i z
    obtain ⟨rfl, rfl⟩ := z
    split
    · rename_i y
      rw [y, h]
    · rfl
  · rfl
theorem RR.en (h : RR n cap g en S I e) (z : Int64) : RR n cap g z S I z := ⟨h.1, h.2.1, h.2.2.1, h.2.2.2.1, h.2.2.2.2.1, h.2.2.2.2.2.1, h.2.2.2.2.2.2.1, h.2.2.2.2.2.2.2.1, h.2.2.2.2.2.2.2.2.1, rfl⟩
theorem tkL_5 (eg : Nat → Nat) (ng ne : Nat) : ∀ (t : Nat) (I : Nat → Nat → Int32) (v : Int64), (tkL eg ng ne t I v).1 30 5 = I 30 5
  | 0, _, _ => rfl
  | t + 1, I, v => by
    rw [tkL, tkL_5 eg ng ne t, tkI_30]
    rfl
theorem sfM_5 (I : Nat → Nat → Int32) (G lv : Nat) : sfM I G lv 30 5 = I 30 5 := by rw [sfM, sfL_row G (by decide)]; rfl
theorem plS_5 (k : Nat) (I : Nat → Nat → Int32) : plS k I 30 5 = I 30 5 := by rw [plS_30]; rfl
theorem doM_5 (eg : Nat → Nat) (nq ng ne : Nat) (I : Nat → Nat → Int32) (v : Int64) (k : Nat) : (doM eg nq ng ne I v k).2.1 30 5 = I 30 5 := by
  unfold doM
  repeat' split
  all_goals first | rfl | exact plS_5 _ _ | exact sfM_5 _ _ _ | exact tkL_5 _ _ _ _ _ _
theorem okF_t2 {b : Bool} {f : Int32} (h : ¬ okF b f = 110) : b = false ∧ okF b f = f := by
  cases b with
  | true => exact absurd rfl h
  | false => exact ⟨rfl, rfl⟩
theorem flL_t2 {b : Bool} {x : Int32} (h : ¬ flL b x = 110) : (b = false ∧ flL b x = 105) ∨ (b = true ∧ lvB x = false ∧ flL b x = 97) := by
  cases b with
  | true =>
    have := okF_t2 (b := lvB x) (f := 97) h
    exact Or.inr ⟨rfl, this.1, this.2⟩
  | false => exact Or.inl ⟨rfl, rfl⟩
/-- one step of the macro -/
theorem RR.step (h : RR n cap g en S I e) {k : Nat} (hk : k < n 3) : (flC n S k = 110 → (doM g (n 0) (n 1) (n 2) I e k).1 = 110 ∧ RR n cap g (dsC n g S en k).2 (dsC n g S en k).1 (doM g (n 0) (n 1) (n 2) I e k).2.1 (doM g (n 0) (n 1) (n 2) I e k).2.2) ∧ (¬ flC n S k = 110 → (doM g (n 0) (n 1) (n 2) I e k).1 = flC n S k ∧ ∃ j, (doM g (n 0) (n 1) (n 2) I e k).2.1 = uI I 30 8 j ∧ (doM g (n 0) (n 1) (n 2) I e k).2.2 = e) := by
  have h0 := h.thr 0
  obtain ⟨a0, hi, hn, hC, hf, hl, hg, he, hs, hen⟩ := id h
  obtain ⟨s0, s1, s2, s3⟩ := hs k hk
  obtain ⟨v, hv, hve⟩ := hn.2.2.2.2.1
  have hgo := go_po hC hv hve
  have hba := back_po hC (I 30 1)
  have h5 := a0.1.2.2.1
  have h16 := a0.1.2.1
  unfold flC dsC doM
  rw [s0, s1, s2, hn.1]
  by_cases c1 : I 23 k = 103
  · simp only [if_pos c1]
    rw [hgo]
    by_cases z : poC S (n 0) (I 30 1 + 1) < n 0
    · rw [if_pos z, decide_eq_true z, if_neg (nI_nm1 (by omega)), gtK_nI (by omega)]
      exact ⟨fun _ => ⟨rfl, h0.play z⟩, fun y => absurd rfl y⟩
    · rw [if_neg z, decide_eq_false z, if_pos rfl]
      exact ⟨fun y => absurd y (by decide), fun _ => ⟨rfl, 1, rfl, rfl⟩⟩
  simp only [if_neg c1]
  by_cases c2 : I 23 k = 98
  · simp only [if_pos c2]
    rw [hba]
    by_cases z : 0 < poC S (n 0) (I 30 1)
    · have hle := poC_le S (n 0) (I 30 1)
      rw [if_pos z, decide_eq_true z, if_neg (nI_nm1 (by omega)), gtK_nI (by omega)]
      exact ⟨fun _ => ⟨rfl, h0.play (by omega)⟩, fun y => absurd rfl y⟩
    · rw [if_neg z, decide_eq_false z, if_pos rfl]
      exact ⟨fun y => absurd y (by decide), fun _ => ⟨rfl, 1, rfl, rfl⟩⟩
  simp only [if_neg c2]
  by_cases c3 : I 23 k = 116
  · simp only [if_pos c3]
    by_cases z : fnd (I 0) (I 24 k) (n 0) 0 < n 0
    · rw [if_pos z, hq_t hC z, po_eq hC z]
      exact ⟨fun _ => ⟨rfl, h0.play z⟩, fun y => absurd rfl y⟩
    · rw [if_neg z, hq_f hC z]
      exact ⟨fun y => absurd y (by decide), fun _ => ⟨rfl, 1, rfl, rfl⟩⟩
  simp only [if_neg c3]
  by_cases c4 : I 23 k = 102
  · simp only [if_pos c4]
    cases hu : upB (n 1) (I 24 k) with
    | true =>
      cases hv2 : lvB (I 25 k) with
      | true =>
        obtain ⟨G, hG, hGe⟩ := (upB_iff (by omega)).mp hu
        obtain ⟨w, hw, hwe⟩ := lvB_iff.mp hv2
        rw [hGe, hwe, gtK_nI (by omega), gtK_nI (by omega)]
        refine ⟨fun _ => ⟨rfl, h0.fad hG⟩, fun y => absurd ?_ y⟩
        rw [flL, if_pos rfl, ← hwe, hv2]
        rfl
      | false =>
        refine ⟨fun y => absurd y ?_, fun _ => ⟨?_, 2, rfl, rfl⟩⟩
        · rw [flL, if_pos rfl, hv2]
          decide
        · rw [flL, if_pos rfl, hv2]
          rfl
    | false => exact ⟨fun y => absurd y (by decide), fun _ => ⟨rfl, 1, rfl, rfl⟩⟩
  simp only [if_neg c4]
  by_cases c5 : I 23 k = 109
  · simp only [if_pos c5]
    cases hv2 : lvB (I 24 k) with
    | true => exact ⟨fun _ => ⟨rfl, h0.mas (I 24 k)⟩, fun y => absurd rfl y⟩
    | false => exact ⟨fun y => absurd y (by decide), fun _ => ⟨rfl, 1, rfl, rfl⟩⟩
  simp only [if_neg c5]
  by_cases c6 : I 23 k = 112
  · simp only [if_pos c6]
    cases hu : chB (I 24 k) with
    | true =>
      cases hv2 : lvB (I 25 k) with
      | true =>
        refine ⟨fun _ => ⟨rfl, h0.prk (I 25 k) (gtK (I 24 k))⟩, fun y => absurd ?_ y⟩
        rw [flL, if_pos rfl, hv2]
        rfl
      | false =>
        refine ⟨fun y => absurd y ?_, fun _ => ⟨?_, 2, rfl, rfl⟩⟩
        · rw [flL, if_pos rfl, hv2]
          decide
        · rw [flL, if_pos rfl, hv2]
          rfl
    | false => exact ⟨fun y => absurd y (by decide), fun _ => ⟨rfl, 1, rfl, rfl⟩⟩
  simp only [if_neg c6]
  have ht : tkB (I 24 k) = inB (I 24 k).toInt64 1 100 := rfl
  rw [ht]
  cases hu : inB (I 24 k).toInt64 1 100 with
  | true => exact ⟨fun _ => ⟨rfl, RR.pass _ h0⟩, fun y => absurd rfl y⟩
  | false => exact ⟨fun y => absurd y (by decide), fun _ => ⟨rfl, 1, rfl, rfl⟩⟩
/-- a run of the macro -/
theorem rm_rel : ∀ (m i : Nat) (S : Nat → Nat → Nat → Int32) (I : Nat → Nat → Int32) (en e : Int64), i + m = n 3 → RR n cap g en S I e → I 30 5 = 110 → (rmC n g m i S en).1 = (rnL g (n 0) (n 1) (n 2) m i I e).1 ∧ RR n cap g (rmC n g m i S en).2.2 (rmC n g m i S en).2.1 (rnL g (n 0) (n 1) (n 2) m i I e).2.1 (rnL g (n 0) (n 1) (n 2) m i I e).2.2
  | 0, _, _, _, _, _, _, h, _ => ⟨rfl, h⟩
  | m + 1, i, S, I, en, e, hm, h, h5 => by
    have h1 : RR n cap g en (uS S 0 0 3 110) I e := by
      have := h.flt 110 (chK_nI (q := 110) (by decide))
      rwa [uI_self I 30 5 h5] at this
    have s := h1.step (k := i) (by omega)
    rw [flC_u] at s
    rw [rmC, rnL]
    by_cases z : flC n S i = 110
    · obtain ⟨s1, s2⟩ := s.1 z
      rw [if_pos z, if_pos s1, s1, uI_self _ 30 5 ((doM_5 _ _ _ _ _ _ _).trans h5), z]
      exact rm_rel m (i + 1) _ _ _ _ (by omega) s2 ((doM_5 _ _ _ _ _ _ _).trans h5)
    · obtain ⟨s1, j, s2, s3⟩ := s.2 z
      rw [if_neg z, if_neg (by rw [s1]; exact z), s1, s2, s3]
      exact ⟨rfl, (h.thr j).flt _ (chK_fl (flC_c _ _ _))⟩
end S6
