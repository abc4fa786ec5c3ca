section MR
variable {l : Launch} {D : va_G} {a : Nat → ClassId} {E0 m : Nat} {am : Nat → Nat} {en : Int64}
set_option maxHeartbeats 4000000 in
theorem cM_does (hl : l.stackTraces = false) {I : Nat → Nat → Int32} {eg : Nat → Nat} {nq ng ne nt : Nat} (hB : BI I eg nq ng ne nt) {k : Nat} (hk : k < nt) (hcl : caB (I 23 k) = true) : Ct (gm D a E0) l yX6_does wsX6_does { frames := 20, cells := 0, slots := 0, locals := 500 } [.ref m, .int (nI k)] (wM m am a I en) (qI fun v w => v = (doM eg nq ng ne I en k).1 ∧ w = wM m am a (doM eg nq ng ne I en k).2.1 (doM eg nq ng ne I en k).2.2) noX := by
  obtain ⟨hM, hHC, hQ⟩ := hB
  obtain ⟨⟨h0, hq⟩, ⟨h2, hg⟩, ⟨h3, he⟩, ⟨h4, hn⟩, hMs, hMt, hMe, hMp⟩ := id hM
  have hk8 : k < 8 := by omega
  have key : ∀ (f : Int32) (I' : Nat → Nat → Int32) (e' : Int64), doM eg nq ng ne I en k = (f, I', e') → Ct (gm D a E0) l yX6_does wsX6_does { frames := 20, cells := 0, slots := 0, locals := 500 } [.ref m, .int (nI k)] (wM m am a I en) (qI fun v w => v = f ∧ w = wM m am a I' e') noX → Ct (gm D a E0) l yX6_does wsX6_does { frames := 20, cells := 0, slots := 0, locals := 500 } [.ref m, .int (nI k)] (wM m am a I en) (qI fun v w => v = (doM eg nq ng ne I en k).1 ∧ w = wM m am a (doM eg nq ng ne I en k).2.1 (doM eg nq ng ne I en k).2.2) noX := fun f I' e' e h => by rw [e]; exact h
  by_cases c1 : I 23 k = 103
  · rcases fgL_at (I 0) (I 30 1) (N := nq) nq (-1) (Nat.le_refl _) (Or.inl rfl) with h | ⟨j, hj, h⟩
    · exact key (101) (uI I 30 8 1) (en) (by rw [doM, if_pos c1, if_pos h]) (cM_does_go1 hl hk8 c1 h0 hq h)
    · exact key (110) (plS j (uI I 30 8 0)) (en) (by rw [doM, if_pos c1, if_neg (by rw [h]; exact nI_nm1 (by omega)), h, gtK_nI (by omega)]) (cM_does_go0 hl hk8 c1 h0 hq hj (hQ j hj).2 (hHC j (by omega)).1 hMt h)
  by_cases c2 : I 23 k = 98
  · rcases fbL_at (I 0) (I 30 1) (N := nq) nq 0 (-1) (Nat.zero_add _) (Or.inl rfl) with h | ⟨j, hj, h⟩
    · exact key (101) (uI I 30 8 1) (en) (by rw [doM, if_neg c1, if_pos c2, if_pos h]) (cM_does_back1 hl hk8 c2 h0 hq h)
    · exact key (110) (plS j (uI I 30 8 0)) (en) (by rw [doM, if_neg c1, if_pos c2, if_neg (by rw [h]; exact nI_nm1 (by omega)), h, gtK_nI (by omega)]) (cM_does_back0 hl hk8 c2 h0 hq hj (hQ j hj).2 (hHC j (by omega)).1 hMt h)
  by_cases c3 : I 23 k = 116
  · by_cases h : fnd (I 0) (I 24 k) nq 0 < nq
    · exact key (110) (plS (fnd (I 0) (I 24 k) nq 0) (uI I 30 8 0)) (en) (by rw [doM, if_neg c1, if_neg c2, if_pos c3, if_pos h]) (cM_does_goTo0 hl hk8 c3 h0 hq h (hQ _ h).2 (hHC _ (by omega)).1 hMt rfl rfl (hQ _ h).1)
    · exact key (101) (uI I 30 8 1) (en) (by rw [doM, if_neg c1, if_neg c2, if_pos c3, if_neg h]) (cM_does_goTo1 hl hk8 c3 h0 hq rfl h)
  by_cases c4 : I 23 k = 102
  · by_cases h : upB ng (I 24 k) = true
    · obtain ⟨g, hg1, hg2⟩ := (upB_iff (by omega)).mp h
      by_cases hv : lvB (I 25 k) = true
      · obtain ⟨lv, hv1, hv2⟩ := lvB_iff.mp hv
        exact key (110) (sfM (uI I 30 8 0) g lv) (en) (by rw [doM, if_neg c1, if_neg c2, if_neg c3, if_pos c4, if_pos h, if_pos hv, hg2, hv2, gtK_nI (by omega), gtK_nI (by omega)]) (cM_does_setFader0 hl hk8 c4 h2 hg hg2 hv2 hg1 hv1)
      · exact key (97) (uI I 30 8 2) (en) (by rw [doM, if_neg c1, if_neg c2, if_neg c3, if_pos c4, if_pos h, if_neg hv]) (cM_does_setFader2 hl hk8 c4 h2 hg hg2 rfl hg1 (by simpa using hv))
    · exact key (105) (uI I 30 8 1) (en) (by rw [doM, if_neg c1, if_neg c2, if_neg c3, if_pos c4, if_neg h]) (cM_does_setFader1 hl hk8 c4 h2 hg rfl rfl (by simpa using h))
  by_cases c5 : I 23 k = 109
  · by_cases hv : lvB (I 24 k) = true
    · obtain ⟨lv, hv1, hv2⟩ := lvB_iff.mp hv
      exact key (110) (uI (uI I 30 8 0) 30 7 (nI lv)) (en) (by rw [doM, if_neg c1, if_neg c2, if_neg c3, if_neg c4, if_pos c5, if_pos hv, hv2]) (cM_does_setMaster0 hl hk8 c5 hv2 hv1)
    · exact key (97) (uI I 30 8 1) (en) (by rw [doM, if_neg c1, if_neg c2, if_neg c3, if_neg c4, if_pos c5, if_neg hv]) (cM_does_setMaster1 hl hk8 c5 rfl (by simpa using hv))
  by_cases c6 : I 23 k = 112
  · by_cases h : chB (I 24 k) = true
    · obtain ⟨g, hg1, hg2⟩ := chB_iff.mp h
      by_cases hv : lvB (I 25 k) = true
      · obtain ⟨lv, hv1, hv2⟩ := lvB_iff.mp hv
        exact key (110) (uI (uI I 30 8 0) 13 g (nI lv)) (en) (by rw [doM, if_neg c1, if_neg c2, if_neg c3, if_neg c4, if_neg c5, if_pos c6, if_pos h, if_pos hv, hg2, hv2, gtK_nI (by omega)]) (cM_does_park0 hl hk8 c6 hg2 hv2 hg1 hv1)
      · exact key (97) (uI I 30 8 2) (en) (by rw [doM, if_neg c1, if_neg c2, if_neg c3, if_neg c4, if_neg c5, if_pos c6, if_pos h, if_neg hv]) (cM_does_park2 hl hk8 c6 hg2 rfl hg1 (by simpa using hv))
    · exact key (105) (uI I 30 8 1) (en) (by rw [doM, if_neg c1, if_neg c2, if_neg c3, if_neg c4, if_neg c5, if_pos c6, if_neg h]) (cM_does_park1 hl hk8 c6 rfl rfl (by simpa using h))
  · have c7 : I 23 k = 119 := by
      simp only [caB, Bool.or_eq_true, decide_eq_true_eq] at hcl
      rcases hcl with (((((q | q) | q) | q) | q) | q) | q
      · exact absurd q c1
      · exact absurd q c2
      · exact absurd q c3
      · exact absurd q c4
      · exact absurd q c5
      · exact absurd q c6
      · exact q
    by_cases h : inB (I 24 k).toInt64 1 100 = true
    · obtain ⟨t, ht1, ht2, ht3⟩ := inB_pass.mp h
      exact key (110) (tkL eg ng ne t (uI I 30 8 0) en).1 (tkL eg ng ne t (uI I 30 8 0) en).2 (by rw [doM, if_neg c1, if_neg c2, if_neg c3, if_neg c4, if_neg c5, if_neg c6, if_pos h, ht3, gtK_nI (by omega)]) (cM_does_pass0 hl hk8 c7 hM ht3 (by rw [← ht3]; exact h) ht2)
    · exact key (97) (uI I 30 8 1) (en) (by rw [doM, if_neg c1, if_neg c2, if_neg c3, if_neg c4, if_neg c5, if_neg c6, if_neg h]) (cM_does_pass1 hl hk8 c7 rfl (by simpa using h))
theorem nI_char {f : Nat} (h : f < 256) : narrow .char (.int (nI f)) = .int (nI f) ∧ fits .char (.int (nI f)) = true := pk_charN (by omega)
end MR
