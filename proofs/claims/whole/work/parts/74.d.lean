/-! calls that throw nothing; the mean -/
def SimD (D : va_G) (a : Nat → ClassId) (E0 : Nat) (l : Launch) (x m : Nat) (am : Nat → Nat) (yC : MethodName) (wC' : List Cond) (yM : MethodName) (wM' : List Cond) (w : va_W) (I : Nat → Nat → Int32) (e : Int64) : Prop :=
  ∃ (b : Int32) (J : Nat → Nat → Int32) (e2 : Int64) (rmC rmM : Room), rmOk rmC ∧ rmOk rmM ∧ Ct (gm D a E0) l yC wC' rmC [.ref x] w (qI fun v w2 => v = b ∧ RW a E0 x J e2 w2) noX ∧ Ct (gm D a E0) l yM wM' rmM [.ref m] (wM m am a I e) (qI fun v w2 => v = b ∧ w2 = wM m am a J e2) noX
section SD
variable {l : Launch} {D : va_G} {a : Nat → ClassId} {E0 x o od m : Nat} {am : Nat → Nat} {w : va_W} {f : Nat → Int64} {fd : Nat → UInt64} {I : Nat → Nat → Int32} {e : Int64}
theorem sd_i {y : MethodName} {wy : List Cond} {rm : Room} {av : List Value} {P : Int32 → va_W → Prop} {b : Int32} {J : Nat → Nat → Int32} {e2 : Int64} (h : Ct (gm D a E0) l y wy rm av w (qI P) noX) (hP : ∀ v w1, P v w1 → v = b ∧ RW a E0 x J e2 w1) : Ct (gm D a E0) l y wy rm av w (qI fun v w2 => v = b ∧ RW a E0 x J e2 w2) noX := by
  refine h.weaken (fun r w2 hr => ?_) (fun _ _ h => h)
  obtain ⟨v, rfl, hr⟩ := hr
  exact ⟨v, rfl, hP v w2 hr⟩
theorem sd_cues (hl : l.stackTraces = false) (h : RW a E0 x I e w) : SimD D a E0 l x m am yX5_cues wsX5_cues yX6_cues wsX6_cues w I e := by
  obtain ⟨n, cap, A, g, en, S, rfl, rfl, hR⟩ := h
  exact ⟨I 30 0, uI I 30 8 0, e, _, _, ⟨by decide, by decide, by decide, by decide⟩, ⟨by decide, by decide, by decide, by decide⟩, sd_i (cC_cues hl) (fun v w1 hh => ⟨hh.1.trans hR.2.1.1.symm, n, cap, A, g, en, S, hh.2, rfl, hR.thr 0⟩), cM_cues hl⟩
theorem sd_currentCue (hl : l.stackTraces = false) (h : RW a E0 x I e w) : SimD D a E0 l x m am yX5_currentCue wsX5_currentCue yX6_currentCue wsX6_currentCue w I e := by
  obtain ⟨n, cap, A, g, en, S, rfl, rfl, hR⟩ := h
  exact ⟨I 30 1, uI I 30 8 0, e, _, _, ⟨by decide, by decide, by decide, by decide⟩, ⟨by decide, by decide, by decide, by decide⟩, sd_i (cC_currentCue hl) (fun v w1 hh => ⟨hh.1.trans hR.2.2.1.1, n, cap, A, g, en, S, hh.2, rfl, hR.thr 0⟩), cM_currentCue hl⟩
theorem sd_ticksLeft (hl : l.stackTraces = false) (h : RW a E0 x I e w) : SimD D a E0 l x m am yX5_ticksLeft wsX5_ticksLeft yX6_ticksLeft wsX6_ticksLeft w I e := by
  obtain ⟨n, cap, A, g, en, S, rfl, rfl, hR⟩ := h
  exact ⟨tlL I 12 0 0, uI I 30 8 0, e, _, _, ⟨by decide, by decide, by decide, by decide⟩, ⟨by decide, by decide, by decide, by decide⟩, sd_i (cC_ticksLeft hl) (fun v w1 hh => ⟨hh.1.trans (ld_eq hR.2.2.2.2.1 12 0 0 rfl), n, cap, A, g, en, S, hh.2, rfl, hR.thr 0⟩), cM_ticksLeft hl⟩
theorem sd_clearMacro (hl : l.stackTraces = false) (h : RW a E0 x I e w) : SimD D a E0 l x m am yX5_clearMacro wsX5_clearMacro yX6_clearMacro wsX6_clearMacro w I e := by
  obtain ⟨n, cap, A, g, en, S, rfl, rfl, hR⟩ := h
  exact ⟨I 30 4, uI (uI I 30 8 0) 30 4 0, e, _, _, ⟨by decide, by decide, by decide, by decide⟩, ⟨by decide, by decide, by decide, by decide⟩, sd_i (cC_clearMacro hl hR.cn) (fun v w1 hh => ⟨hh.1.trans hR.2.1.2.2.2.symm, updN n 3 0, cap, A, g, en, _, hh.2, rfl, (hR.thr 0).clr _⟩), cM_clearMacro hl⟩
theorem RR.ca {n cap g : Nat → Nat} {en : Int64} {S : Nat → Nat → Nat → Int32} (h : RR n cap g en S I e) {k : Nat} (hk : k < n 3) : S 10 k 0 = I 23 k ∧ caB (I 23 k) = true := by
  have := h.2.2.2.2.2.2.2.2.1 k hk
  exact ⟨this.1, this.2.2.2⟩
theorem sd_runMacro (hl : l.stackTraces = false) (h : RW a E0 x I e w) : SimD D a E0 l x m am yX5_runMacro wsX5_runMacro yX6_runMacro wsX6_runMacro w I e := by
  obtain ⟨n, cap, A, g, en, S, rfl, rfl, hR⟩ := h
  have k110 : chK 110 := chK_nI (q := 110) (by decide)
  have h1 := rm_rel (n 3) 0 _ _ en e (Nat.zero_add _) (hR.flt 110 k110) (by rw [uI_s]; rfl)
  have hC : Ct (gm D a E0) l yX5_runMacro wsX5_runMacro { frames := 36, cells := 0, slots := 0, locals := 900 } [.ref (A 0 0)] (wC a E0 n cap A g en S) (qI fun v w => v = nI (rmC n g (n 3) 0 (uS S 0 0 3 110) en).1 ∧ w = wC a E0 n cap A g (rmC n g (n 3) 0 (uS S 0 0 3 110) en).2.2 (rmC n g (n 3) 0 (uS S 0 0 3 110) en).2.1) noX := by
    refine cC_runMacro hl hR.cn (P := fun T => ∃ J, RR n cap g 0 T J 0) (fun T hT => ?_) (fun T f hf hT => ?_) (fun T e9 k hT hk hf => ?_) ⟨I, hR.ee 0⟩
    · obtain ⟨J, hJ⟩ := hT
      exact ⟨hJ.ce, hJ.cf, fun p hp => hJ.ck hp, fun k hk => by rw [(hJ.ca hk).1]; exact (hJ.ca hk).2⟩
    · obtain ⟨J, hJ⟩ := hT
      exact ⟨_, hJ.flt f hf⟩
    · obtain ⟨J, hJ⟩ := hT
      exact ⟨_, (((hJ.ee e9).step hk).1 hf).2.1.ee 0⟩
  have hM : Ct (gm D a E0) l yX6_runMacro wsX6_runMacro { frames := 24, cells := 0, slots := 0, locals := 600 } [.ref m] (wM m am a I e) (qI fun v w => v = nI (rnL g (n 0) (n 1) (n 2) (n 3) 0 (uI I 30 5 110) e).1 ∧ w = wM m am a (uI (rnL g (n 0) (n 1) (n 2) (n 3) 0 (uI I 30 5 110) e).2.1 30 8 0) (rnL g (n 0) (n 1) (n 2) (n 3) 0 (uI I 30 5 110) e).2.2) noX := by
    refine cM_runMacro hl (P := fun J => ∃ T, RR n cap g 0 T J 0) (fun J hJ => ?_) (fun J e9 i hJ h5 hi => ?_) ⟨_, (hR.ee 0).flt 110 k110⟩ hR.1.1.2.2.2.2
    · obtain ⟨T, hT⟩ := hJ
      exact ⟨hT.bi, fun k hk => (hT.ca hk).2⟩
    · obtain ⟨T, hT⟩ := hJ
      have s := (hT.ee e9).step hi
      by_cases z : flC n T i = 110
      · obtain ⟨s1, s2, -⟩ := s.1 z
        rw [s1]
        exact ⟨_, (s2.flt 110 k110).ee 0⟩
      · obtain ⟨s1, j, s2, s3⟩ := s.2 z
        rw [s1, s2]
        exact ⟨_, (hT.thr j).flt _ (chK_fl (flC_c _ _ _))⟩
  exact ⟨_, _, _, _, _, ⟨by decide, by decide, by decide, by decide⟩, ⟨by decide, by decide, by decide, by decide⟩, sd_i hC (fun v w1 hh => ⟨hh.1.trans (congrArg nI h1.1), n, cap, A, g, _, _, hh.2, rfl, h1.2.thr 0⟩), hM⟩
theorem sd_energy (hl : l.stackTraces = false) (h : RW a E0 x I e w) : ∃ (b : Int64) (J : Nat → Nat → Int32) (e2 : Int64) (rmC rmM : Room), rmOk rmC ∧ rmOk rmM ∧ Ct (gm D a E0) l yX5_energy wsX5_energy rmC [.ref x] w (qJ fun v w2 => v = b ∧ RW a E0 x J e2 w2) noX ∧ Ct (gm D a E0) l yX6_energy wsX6_energy rmM [.ref m] (wM m am a I e) (qJ fun v w2 => v = b ∧ w2 = wM m am a J e2) noX := by
  obtain ⟨n, cap, A, g, en, S, rfl, rfl, hR⟩ := h
  refine ⟨e, uI I 30 8 0, e, _, _, ⟨by decide, by decide, by decide, by decide⟩, ⟨by decide, by decide, by decide, by decide⟩, (cC_energy hl).weaken (fun r w2 hr => ?_) (fun _ _ h => h), cM_energy hl⟩
  obtain ⟨v, rfl, hr⟩ := hr
  exact ⟨v, rfl, hr.1.trans hR.2.2.2.2.2.2.2.2.2, n, cap, A, g, en, S, hr.2, rfl, hR.thr 0⟩
theorem litND : ∀ k, k < 13 → vf_n64 (FP.f2d (FP.fdiv (FP.i2f (nI k)) 1094713344)) := by unfold vf_n64; decide +kernel
theorem sd_litShare (hl : l.stackTraces = false) (h : RW a E0 x I e w) : ∃ (b : UInt32) (J : Nat → Nat → Int32) (e2 : Int64) (rmC rmM : Room), rmOk rmC ∧ rmOk rmM ∧ Ct (gm D a E0) l yX5_litShare wsX5_litShare rmC [.ref x] w (qF fun v w2 => v = b ∧ RW a E0 x J e2 w2) noX ∧ Ct (gm D a E0) l yX6_litShare wsX6_litShare rmM [.ref m] (wM m am a I e) (qF fun v w2 => v = b ∧ w2 = wM m am a J e2) noX ∧ vf_n64 (FP.f2d b) := by
  obtain ⟨n, cap, A, g, en, S, rfl, rfl, hR⟩ := h
  have hk := ltL_le (lvF (uI I 30 8 0) g (n 1) (n 2)) 12 0 0
  have he := lt_eq (f := flv g (n 1) (n 2) S 2 0) (h := lvF (uI I 30 8 0) g (n 1) (n 2)) 12 0 0 (fun j _ hj => (hR.thr 0).lev (by omega))
  refine ⟨FP.fdiv (FP.i2f (nI (ltL (lvF (uI I 30 8 0) g (n 1) (n 2)) 12 0 0))) 1094713344, uI I 30 8 0, e, _, _, ⟨by decide, by decide, by decide, by decide⟩, ⟨by decide, by decide, by decide, by decide⟩, (cC_litShare hl hR.cn hR.ce).weaken (fun r w2 hr => ?_) (fun _ _ h => h), cM_litShare hl hR.mi, litND _ (by omega)⟩
  obtain ⟨v, rfl, hr⟩ := hr
  exact ⟨v, rfl, hr.1.trans (by rw [he]), n, cap, A, g, en, _, hr.2, rfl, (hR.thr 0).row⟩
theorem sm_meanLevel (hl : l.stackTraces = false) (h : RW a E0 x I e w) : ∃ (k : Int32) (b : UInt64) (J : Nat → Nat → Int32) (e2 : Int64) (rmM : Room), rmOk rmM ∧ Ct (gm D a E0) l yL_meanLevel wsL_meanLevel rmH [.ref x, .ref od] (w ++ outD a od fd) (qI fun v w2 => v = k ∧ ∃ w1 fd1, w2 = w1 ++ outD a od fd1 ∧ RW a E0 x J e2 w1 ∧ (k = 0 → fd1 0 = b)) noX ∧ Ct (gm D a E0) l yX6_meanLevel wsX6_meanLevel rmM [.ref m] (wM m am a I e) (qD fun v w2 => v = b ∧ w2 = wM m am a J e2) noX ∧ J 30 8 = k ∧ (k = 0 → vf_n64 b) := by
  obtain ⟨n, cap, A, g, en, S, rfl, rfl, hR⟩ := h
  have hx := wC_x (a := a) (E0 := E0) (n := n) (cap := cap) (A := A) (g := g) (en := en) (S := S)
  have h8 : ∀ j, j < 12 → flv g (n 1) (n 2) S 4 j 8 = I 13 j := fun j hj => by
    rw [flv_n _ _ _ _ (by decide)]
    exact (hR.2.2.2.2.2.1 j hj).2.2.2.2
  have hn := np_eq (f := fun i => flv g (n 1) (n 2) S 4 i 8) (h := I 13) 12 0 0 (fun j _ hj => h8 j (by omega))
  have hs := sp_eq (f := fun i => flv g (n 1) (n 2) S 4 i 8) (h := I 13) (a := flv g (n 1) (n 2) S 2 0) (b := lvF I g (n 1) (n 2)) 12 0 0 (fun j _ hj => ⟨h8 j (by omega), hR.lev (by omega)⟩)
  have hle := npL_le (I 13) 12 0 0
  by_cases hz : npL (I 13) 12 0 0 = 0
  · refine ⟨1, FP.dconst0, uI I 30 8 1, e, _, ⟨by decide, by decide, by decide, by decide⟩, (tL_meanLevel hl ⟨by decide, by decide⟩ ⟨by decide, by decide⟩ (cC_meanLevel_1 hl hR.cn hR.ce (hn.trans hz)) hx (fun E w1 h => h.1)).weaken (fun r w2 hr => ?_) (fun _ _ h => h), cM_meanLevel_1 hl hR.mi hz, rfl, fun q => absurd q (by decide)⟩
    obtain ⟨v, rfl, hr⟩ := hr
    rcases hr with ⟨h1, r, w1, h2, h3⟩ | ⟨w1, ⟨⟨h1, h2⟩, h3⟩, h4⟩
    · exact h2.elim
    · exact ⟨v, rfl, h3, w1, fd, h4, ⟨n, cap, A, g, en, _, h2, rfl, (hR.thr 1).row⟩, fun q => absurd q (by decide)⟩
  · have hN := mean_n (spL (I 13) (lvF I g (n 1) (n 2)) 12 0 0) hz (by omega)
    have hN2 := hN
    rw [← hs, ← hn] at hN2
    refine ⟨0, _, uI I 30 8 0, e, _, ⟨by decide, by decide, by decide, by decide⟩, (tL_meanLevel hl ⟨by decide, by decide⟩ ⟨by decide, by decide⟩ (cC_meanLevel_0 hl hR.cn hR.ce (fun q => hz (hn.symm.trans q)) hN2) hx (fun E w1 h => h.elim)).weaken (fun r w2 hr => ?_) (fun _ _ h => h), cM_meanLevel_0 hl hR.mi hz hN, rfl, fun _ => hN⟩
    obtain ⟨v, rfl, hr⟩ := hr
    rcases hr with ⟨rfl, r, w1, h2, h3⟩ | ⟨w1, ⟨h1, h2⟩, h3⟩
    · refine ⟨_, rfl, rfl, w1, _, h3, ⟨n, cap, A, g, en, _, h2.2, rfl, (hR.thr 0).row⟩, fun _ => ?_⟩
      unfold vf_upd
      rw [if_pos rfl, h2.1, hs, hn]
    · exact h1.elim
theorem cmp_self (z : Int) : compare z z = .eq := by
  show compareOfLessAndEq z z = .eq
  unfold compareOfLessAndEq
  rw [if_neg (Int.lt_irrefl z), if_pos rfl]
theorem dc_refl {x : UInt64} (h : vf_n64 x) {op : CmpOp} : Op.cmpValue (FP.dcmp x x) op = 0 := by
  have h1 := dec_no h
  have h2 : FP.dcmp x x = some .eq := by
    show FP.Core.order (FP.Core.decode FP.Core.b64 x.toNat) (FP.Core.decode FP.Core.b64 x.toNat) = some .eq
    generalize FP.Core.decode FP.Core.b64 x.toNat = d at h1
    cases d with
    | nan => exact absurd rfl h1
    | inf s => exact congrArg some (cmp_self _)
    | fin s c q => exact congrArg some (cmp_self _)
  rw [h2]
  rfl
end SD
