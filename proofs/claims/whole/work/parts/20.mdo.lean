/-! the reference's macro, as functions -/
def gtK (x : Int32) : Nat := x.toNatClampNeg
def doM (eg : Nat → Nat) (nq ng ne : Nat) (I : Nat → Nat → Int32) (en : Int64) (k : Nat) : Int32 × (Nat → Nat → Int32) × Int64 :=
  if I 23 k = 103 then (if fgL (I 0) (I 30 1) nq (-1) = -1 then (101, uI I 30 8 1, en) else (110, plS (gtK (fgL (I 0) (I 30 1) nq (-1))) (uI I 30 8 0), en))
  else if I 23 k = 98 then (if fbL (I 0) (I 30 1) nq 0 (-1) = -1 then (101, uI I 30 8 1, en) else (110, plS (gtK (fbL (I 0) (I 30 1) nq 0 (-1))) (uI I 30 8 0), en))
  else if I 23 k = 116 then (if fnd (I 0) (I 24 k) nq 0 < nq then (110, plS (fnd (I 0) (I 24 k) nq 0) (uI I 30 8 0), en) else (101, uI I 30 8 1, en))
  else if I 23 k = 102 then (if upB ng (I 24 k) = true then (if lvB (I 25 k) = true then (110, sfM (uI I 30 8 0) (gtK (I 24 k)) (gtK (I 25 k)), en) else (97, uI I 30 8 2, en)) else (105, uI I 30 8 1, en))
  else if I 23 k = 109 then (if lvB (I 24 k) = true then (110, uI (uI I 30 8 0) 30 7 (I 24 k), en) else (97, uI I 30 8 1, en))
  else if I 23 k = 112 then (if chB (I 24 k) = true then (if lvB (I 25 k) = true then (110, uI (uI I 30 8 0) 13 (gtK (I 24 k)) (I 25 k), en) else (97, uI I 30 8 2, en)) else (105, uI I 30 8 1, en))
  else (if inB (I 24 k).toInt64 1 100 = true then (110, tkL eg ng ne (gtK (I 24 k)) (uI I 30 8 0) en) else (97, uI I 30 8 1, en))
/-- n steps from i on, while the fault is 'n' -/
def rnL (eg : Nat → Nat) (nq ng ne : Nat) : Nat → Nat → (Nat → Nat → Int32) → Int64 → Nat × (Nat → Nat → Int32) × Int64
  | 0, i, I, en => (i, I, en)
  | n + 1, i, I, en => if (doM eg nq ng ne I en i).1 = 110 then rnL eg nq ng ne n (i + 1) (uI (doM eg nq ng ne I en i).2.1 30 5 (doM eg nq ng ne I en i).1) (doM eg nq ng ne I en i).2.2 else (i, uI (doM eg nq ng ne I en i).2.1 30 5 (doM eg nq ng ne I en i).1, (doM eg nq ng ne I en i).2.2)
theorem plS_thr (k : Nat) (I : Nat → Nat → Int32) : plS k I 30 8 = I 30 8 := by
  rw [plS, plL_row k (by decide) (by decide) (by decide) (by decide) (by decide) (by decide) (by decide), uI_s]
  rfl
theorem sfL_row (g : Nat) {r : Nat} (h : r ≠ 12) : ∀ (n c : Nat) (I : Nat → Nat → Int32), sfL g n c I r = I r
  | 0, _, _ => rfl
  | n + 1, c, I => by rw [sfL, sfL_row g h n, uI_n _ _ _ h]
theorem sfM_thr (I : Nat → Nat → Int32) (g lv : Nat) : sfM I g lv 30 8 = I 30 8 := by rw [sfM, sfL_row g (by decide)]; rfl
theorem tkI_30 (I : Nat → Nat → Int32) : tkI I 30 = upd (I 30) 6 (I 30 6 + 1) := by rw [tkI, ptL_row (by decide) (by decide)]; rfl
theorem tkL_thr (eg : Nat → Nat) (ng ne : Nat) : ∀ (n : Nat) (I : Nat → Nat → Int32) (en : Int64), (tkL eg ng ne n I en).1 30 8 = I 30 8
  | 0, _, _ => rfl
  | n + 1, I, en => by rw [tkL, tkL_thr eg ng ne n, tkI_30]; rfl
/-- what every state of a run holds, for the walks -/
def BI (I : Nat → Nat → Int32) (eg : Nat → Nat) (nq ng ne nt : Nat) : Prop := MI I eg nq ng ne nt ∧ HC I ∧ (∀ k, k < nq → ¬ I 0 k = -1 ∧ ∃ t, t ≤ 40 ∧ I 1 k = nI t)
theorem doM_f (eg : Nat → Nat) (nq ng ne : Nat) (I : Nat → Nat → Int32) (en : Int64) (k : Nat) : ∃ f : Nat, f < 256 ∧ (doM eg nq ng ne I en k).1 = nI f := by
  unfold doM
  repeat' split
  all_goals first | exact ⟨101, by decide, rfl⟩ | exact ⟨110, by decide, rfl⟩ | exact ⟨97, by decide, rfl⟩ | exact ⟨105, by decide, rfl⟩
theorem fgL_at (num : Nat → Int32) (cur : Int32) {N : Nat} : ∀ (n : Nat) (v : Int32), n ≤ N → (v = -1 ∨ ∃ k, k < N ∧ v = nI k) → (fgL num cur n v = -1 ∨ ∃ k, k < N ∧ fgL num cur n v = nI k)
  | 0, v, _, h => h
  | n + 1, v, hn, h => by
    rw [fgL]
    refine fgL_at num cur n _ (by omega) ?_
    split
    · exact h
    · exact Or.inr ⟨n, by omega, rfl⟩
theorem fbL_at (num : Nat → Int32) (cur : Int32) {N : Nat} : ∀ (n i : Nat) (v : Int32), i + n = N → (v = -1 ∨ ∃ k, k < N ∧ v = nI k) → (fbL num cur n i v = -1 ∨ ∃ k, k < N ∧ fbL num cur n i v = nI k)
  | 0, _, v, _, h => h
  | n + 1, i, v, hn, h => by
    rw [fbL]
    refine fbL_at num cur n (i + 1) _ (by omega) ?_
    split
    · exact h
    · exact Or.inr ⟨i, by omega, rfl⟩
theorem gtK_nI {k : Nat} (h : k < 2 ^ 31) : gtK (nI k) = k := nI_clamp h
theorem inB_pass {x : Int32} : inB x.toInt64 1 100 = true ↔ ∃ t, 1 ≤ t ∧ t ≤ 100 ∧ x = nI t := by
  have h : inB x.toInt64 1 100 = inB x.toInt64 (1 : Int32).toInt64 (100 : Int32).toInt64 := rfl
  rw [h, inB_int, show (100 : Int32).toInt = 100 by decide, show (1 : Int32).toInt = 1 by decide]
  constructor
  · intro ⟨h1, h2⟩
    have h3 : vp_in x 101 := vp_in_iff.mpr ⟨by omega, by omega⟩
    obtain ⟨t, h4, h5⟩ := vp_in_of h3 (by decide)
    subst h5
    rw [nI_toInt (by omega)] at h1
    exact ⟨t, by omega, by omega, rfl⟩
  · rintro ⟨c, hc, h2, rfl⟩
    rw [nI_toInt (by omega)]
    omega
