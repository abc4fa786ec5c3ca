/-! the macro: class and reference alike -/
section S6
variable {n cap g : Nat → Nat} {en e : Int64} {S T : Nat → Nat → Nat → Int32} {I J : Nat → Nat → Int32} {q ng ne nt c : Nat}
theorem uI_self (I : Nat → Nat → Int32) (r i : Nat) {v : Int32} (h : I r i = v) : uI I r i v = I := by
  funext r2 i2
  by_cases z : r2 = r
  · subst z
    rw [uI_s]
    split
    · rename_i y
      rw [y, h]
    · rfl
  · rw [uI_n _ _ _ z]
theorem uS_self (S : Nat → Nat → Nat → Int32) (k i f : Nat) {v : Int32} (h : S k i f = v) : uS S k i f v = S := by
  funext k2 i2 f2
  unfold uS upd
  split
  · rename_i z
    obtain ⟨rfl, rfl⟩ := z
    show (if f2 = f then v else S k2 i2 f2) = S k2 i2 f2
    split
    · rename_i y
      rw [y, h]
    · rfl
  · rfl
theorem RR.ee (h : RR n cap g en S I e) (z : Int64) : RR n cap g z S I z := ⟨h.1, h.2.1, h.2.2.1, h.2.2.2.1, h.2.2.2.2.1, h.2.2.2.2.2.1, h.2.2.2.2.2.2.1, h.2.2.2.2.2.2.2.1, h.2.2.2.2.2.2.2.2.1, rfl⟩
theorem tkL_5 (eg : Nat → Nat) (ng ne : Nat) : ∀ (t : Nat) (I : Nat → Nat → Int32) (v : Int64), (tkL eg ng ne t I v).1 30 5 = I 30 5
  | 0, _, _ => rfl
  | t + 1, I, v => by
    rw [tkL, tkL_5 eg ng ne t, tkI_30]
    rfl
theorem sfM_5 (I : Nat → Nat → Int32) (G lv : Nat) : sfM I G lv 30 5 = I 30 5 := by rw [sfM, sfL_row G (by decide)]; rfl
theorem plS_5 (k : Nat) (I : Nat → Nat → Int32) : plS k I 30 5 = I 30 5 := by rw [plS_30]; rfl
theorem st_y {k : Nat} {z e2 : Int64} (h1 : flC n S k = 110) (h2 : dsC n g S en k = (T, z)) (h3 : doM g (n 0) (n 1) (n 2) I e k = (110, J, e2)) (hR : RR n cap g z T J e2) (h5 : J 30 5 = I 30 5) : (flC n S k = 110 → (doM g (n 0) (n 1) (n 2) I e k).1 = 110 ∧ RR n cap g (dsC n g S en k).2 (dsC n g S en k).1 (doM g (n 0) (n 1) (n 2) I e k).2.1 (doM g (n 0) (n 1) (n 2) I e k).2.2 ∧ (doM g (n 0) (n 1) (n 2) I e k).2.1 30 5 = I 30 5) ∧ (¬ flC n S k = 110 → (doM g (n 0) (n 1) (n 2) I e k).1 = flC n S k ∧ ∃ j, (doM g (n 0) (n 1) (n 2) I e k).2.1 = uI I 30 8 j ∧ (doM g (n 0) (n 1) (n 2) I e k).2.2 = e) := by
  rw [h1, h2, h3]
  exact ⟨fun _ => ⟨rfl, hR, h5⟩, fun y => absurd rfl y⟩
theorem st_n {k : Nat} {f j : Int32} (hf : ¬ f = 110) (h1 : flC n S k = f) (h3 : doM g (n 0) (n 1) (n 2) I e k = (f, uI I 30 8 j, e)) : (flC n S k = 110 → (doM g (n 0) (n 1) (n 2) I e k).1 = 110 ∧ RR n cap g (dsC n g S en k).2 (dsC n g S en k).1 (doM g (n 0) (n 1) (n 2) I e k).2.1 (doM g (n 0) (n 1) (n 2) I e k).2.2 ∧ (doM g (n 0) (n 1) (n 2) I e k).2.1 30 5 = I 30 5) ∧ (¬ flC n S k = 110 → (doM g (n 0) (n 1) (n 2) I e k).1 = flC n S k ∧ ∃ j, (doM g (n 0) (n 1) (n 2) I e k).2.1 = uI I 30 8 j ∧ (doM g (n 0) (n 1) (n 2) I e k).2.2 = e) := by
  rw [h1, h3]
  exact ⟨fun y => absurd y hf, fun _ => ⟨rfl, j, rfl, rfl⟩⟩
/-- one step of the macro -/
theorem RR.step (h : RR n cap g en S I e) {k : Nat} (hk : k < n 3) : (flC n S k = 110 → (doM g (n 0) (n 1) (n 2) I e k).1 = 110 ∧ RR n cap g (dsC n g S en k).2 (dsC n g S en k).1 (doM g (n 0) (n 1) (n 2) I e k).2.1 (doM g (n 0) (n 1) (n 2) I e k).2.2 ∧ (doM g (n 0) (n 1) (n 2) I e k).2.1 30 5 = I 30 5) ∧ (¬ flC n S k = 110 → (doM g (n 0) (n 1) (n 2) I e k).1 = flC n S k ∧ ∃ j, (doM g (n 0) (n 1) (n 2) I e k).2.1 = uI I 30 8 j ∧ (doM g (n 0) (n 1) (n 2) I e k).2.2 = e) := by
  have h0 := h.thr 0
  obtain ⟨a0, hi, hn, hC, hf, hl, hg, he, hs, hen⟩ := id h
  obtain ⟨s0, s1, s2, s3⟩ := hs k hk
  obtain ⟨v, hv, hve⟩ := hn.2.2.2.2.1
  have hgo := go_po hC hv hve
  have hba := back_po hC (I 30 1)
  have h5 := a0.1.2.2.1
  have h16 := a0.1.2.1
  have n101 : ¬ (101 : Int32) = 110 := by decide
  have n97 : ¬ (97 : Int32) = 110 := by decide
  have n105 : ¬ (105 : Int32) = 110 := by decide
  by_cases c1 : I 23 k = 103
  · have d1 := s0.trans c1
    by_cases z : poC S (n 0) (I 30 1 + 1) < n 0
    · exact st_y (by rw [flC, if_pos d1, hn.1, decide_eq_true z]; rfl) (by rw [dsC, if_pos d1, hn.1]) (by rw [doM, if_pos c1, hgo, if_pos z, if_neg (nI_nm1 (by omega)), gtK_nI (by omega)]) (h0.play z) (plS_5 _ _)
    · exact st_n n101 (by rw [flC, if_pos d1, hn.1, decide_eq_false z]; rfl) (by rw [doM, if_pos c1, hgo, if_neg z, if_pos rfl])
  have d1 : ¬ S 10 k 0 = 103 := fun y => c1 (s0.symm.trans y)
  by_cases c2 : I 23 k = 98
  · have d2 := s0.trans c2
    by_cases z : 0 < poC S (n 0) (I 30 1)
    · have hle := poC_le S (n 0) (I 30 1)
      exact st_y (by rw [flC, if_neg d1, if_pos d2, hn.1, decide_eq_true z]; rfl) (by rw [dsC, if_neg d1, if_pos d2, hn.1]) (by rw [doM, if_neg c1, if_pos c2, hba, if_pos z, if_neg (nI_nm1 (by omega)), gtK_nI (by omega)]) (h0.play (by omega)) (plS_5 _ _)
    · exact st_n n101 (by rw [flC, if_neg d1, if_pos d2, hn.1, decide_eq_false z]; rfl) (by rw [doM, if_neg c1, if_pos c2, hba, if_neg z, if_pos rfl])
  have d2 : ¬ S 10 k 0 = 98 := fun y => c2 (s0.symm.trans y)
  by_cases c3 : I 23 k = 116
  · have d3 := s0.trans c3
    by_cases z : fnd (I 0) (I 24 k) (n 0) 0 < n 0
    · exact st_y (by rw [flC, if_neg d1, if_neg d2, if_pos d3, s1, hq_t hC z]; rfl) (by rw [dsC, if_neg d1, if_neg d2, if_pos d3, s1, po_eq hC z]) (by rw [doM, if_neg c1, if_neg c2, if_pos c3, if_pos z]) (h0.play z) (plS_5 _ _)
    · exact st_n n101 (by rw [flC, if_neg d1, if_neg d2, if_pos d3, s1, hq_f hC z]; rfl) (by rw [doM, if_neg c1, if_neg c2, if_pos c3, if_neg z])
  have d3 : ¬ S 10 k 0 = 116 := fun y => c3 (s0.symm.trans y)
  by_cases c4 : I 23 k = 102
  · have d4 := s0.trans c4
    by_cases hu : upB (n 1) (I 24 k) = true
    · by_cases hv2 : lvB (I 25 k) = true
      · obtain ⟨G, hG, hGe⟩ := (upB_iff (by omega)).mp hu
        obtain ⟨w, hw, hwe⟩ := lvB_iff.mp hv2
        exact st_y (by rw [flC, if_neg d1, if_neg d2, if_neg d3, if_pos d4, s1, s2, flL, if_pos hu, hv2]; rfl) (by rw [dsC, if_neg d1, if_neg d2, if_neg d3, if_pos d4, s1, s2, hGe, hwe, gtK_nI (by omega)]) (by rw [doM, if_neg c1, if_neg c2, if_neg c3, if_pos c4, if_pos hu, if_pos hv2, hGe, hwe, gtK_nI (by omega), gtK_nI (by omega)]) (h0.fad hG) (sfM_5 _ _ _)
      · exact st_n n97 (by rw [flC, if_neg d1, if_neg d2, if_neg d3, if_pos d4, s1, s2, flL, if_pos hu, okF, if_neg hv2]) (by rw [doM, if_neg c1, if_neg c2, if_neg c3, if_pos c4, if_pos hu, if_neg hv2])
    · exact st_n n105 (by rw [flC, if_neg d1, if_neg d2, if_neg d3, if_pos d4, s1, flL, if_neg hu]) (by rw [doM, if_neg c1, if_neg c2, if_neg c3, if_pos c4, if_neg hu])
  have d4 : ¬ S 10 k 0 = 102 := fun y => c4 (s0.symm.trans y)
  by_cases c5 : I 23 k = 109
  · have d5 := s0.trans c5
    by_cases hv2 : lvB (I 24 k) = true
    · exact st_y (by rw [flC, if_neg d1, if_neg d2, if_neg d3, if_neg d4, if_pos d5, s1, okF, if_pos hv2]) (by rw [dsC, if_neg d1, if_neg d2, if_neg d3, if_neg d4, if_pos d5, s1]) (by rw [doM, if_neg c1, if_neg c2, if_neg c3, if_neg c4, if_pos c5, if_pos hv2]) (h0.mas (I 24 k)) rfl
    · exact st_n n97 (by rw [flC, if_neg d1, if_neg d2, if_neg d3, if_neg d4, if_pos d5, s1, okF, if_neg hv2]) (by rw [doM, if_neg c1, if_neg c2, if_neg c3, if_neg c4, if_pos c5, if_neg hv2])
  have d5 : ¬ S 10 k 0 = 109 := fun y => c5 (s0.symm.trans y)
  by_cases c6 : I 23 k = 112
  · have d6 := s0.trans c6
    by_cases hu : chB (I 24 k) = true
    · by_cases hv2 : lvB (I 25 k) = true
      · exact st_y (by rw [flC, if_neg d1, if_neg d2, if_neg d3, if_neg d4, if_neg d5, if_pos d6, s1, s2, flL, if_pos hu, okF, if_pos hv2]) (by rw [dsC, if_neg d1, if_neg d2, if_neg d3, if_neg d4, if_neg d5, if_pos d6, s1, s2]) (by rw [doM, if_neg c1, if_neg c2, if_neg c3, if_neg c4, if_neg c5, if_pos c6, if_pos hu, if_pos hv2]) (h0.prk (I 25 k) (gtK (I 24 k))) rfl
      · exact st_n n97 (by rw [flC, if_neg d1, if_neg d2, if_neg d3, if_neg d4, if_neg d5, if_pos d6, s1, s2, flL, if_pos hu, okF, if_neg hv2]) (by rw [doM, if_neg c1, if_neg c2, if_neg c3, if_neg c4, if_neg c5, if_pos c6, if_pos hu, if_neg hv2])
    · exact st_n n105 (by rw [flC, if_neg d1, if_neg d2, if_neg d3, if_neg d4, if_neg d5, if_pos d6, s1, flL, if_neg hu]) (by rw [doM, if_neg c1, if_neg c2, if_neg c3, if_neg c4, if_neg c5, if_pos c6, if_neg hu])
  have d6 : ¬ S 10 k 0 = 112 := fun y => c6 (s0.symm.trans y)
  by_cases hu : inB (I 24 k).toInt64 1 100 = true
  · have ht : tkB (I 24 k) = true := hu
    exact st_y (by rw [flC, if_neg d1, if_neg d2, if_neg d3, if_neg d4, if_neg d5, if_neg d6, s1, okF, if_pos ht]) (by rw [dsC, if_neg d1, if_neg d2, if_neg d3, if_neg d4, if_neg d5, if_neg d6, s1]) (by rw [doM, if_neg c1, if_neg c2, if_neg c3, if_neg c4, if_neg c5, if_neg c6, if_pos hu]) (RR.pass (gtK (I 24 k)) h0) (tkL_5 _ _ _ _ _ _)
  · have ht : ¬ tkB (I 24 k) = true := hu
    exact st_n n97 (by rw [flC, if_neg d1, if_neg d2, if_neg d3, if_neg d4, if_neg d5, if_neg d6, s1, okF, if_neg ht]) (by rw [doM, if_neg c1, if_neg c2, if_neg c3, if_neg c4, if_neg c5, if_neg c6, if_neg hu])
/-- a run of the macro -/
theorem rm_rel : ∀ (m i : Nat) (S : Nat → Nat → Nat → Int32) (I : Nat → Nat → Int32) (en e : Int64), i + m = n 3 → RR n cap g en S I e → I 30 5 = 110 → (rmC n g m i S en).1 = (rnL g (n 0) (n 1) (n 2) m i I e).1 ∧ RR n cap g (rmC n g m i S en).2.2 (rmC n g m i S en).2.1 (rnL g (n 0) (n 1) (n 2) m i I e).2.1 (rnL g (n 0) (n 1) (n 2) m i I e).2.2
  | 0, _, _, _, _, _, _, h, _ => ⟨rfl, h⟩
  | m + 1, i, S, I, en, e, hm, h, h5 => by
    have h1 : RR n cap g en (uS S 0 0 3 110) I e := by
      have := h.flt 110 (chK_nI (q := 110) (by decide))
      rwa [uI_self I 30 5 h5] at this
    have s := h1.step (k := i) (by omega)
    rw [flC_u] at s
    rw [rmC, rnL]
    by_cases z : flC n S i = 110
    · obtain ⟨s1, s2, s5⟩ := s.1 z
      rw [if_pos z, if_pos s1, s1, uI_self _ 30 5 (s5.trans h5), z]
      exact rm_rel m (i + 1) _ _ _ _ (by omega) s2 (s5.trans h5)
    · obtain ⟨s1, j, s2, s3⟩ := s.2 z
      rw [if_neg z, if_neg (show ¬ (doM g (n 0) (n 1) (n 2) I e i).1 = 110 by rw [s1]; exact z), s1, s2, s3]
      exact ⟨rfl, (h.thr j).flt _ (chK_fl (flC_c _ _ _))⟩
end S6
