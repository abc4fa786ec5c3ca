/-! each call: the helper over the class, the reference; by wip/whole/genS.py -/
def RW (a : Nat → ClassId) (E0 x : Nat) (I : Nat → Nat → Int32) (e : Int64) (w : va_W) : Prop := ∃ (n cap : Nat → Nat) (A : Nat → Nat → Nat) (g : Nat → Nat) (en : Int64) (S : Nat → Nat → Nat → Int32), w = wC a E0 n cap A g en S ∧ A 0 0 = x ∧ RR n cap g en S I e
abbrev rmH : Room := { frames := 60, cells := 4, slots := 48, locals := 1500 }
def rmOk (r : Room) : Prop := r.frames ≤ 58 ∧ r.cells = 0 ∧ r.slots = 0 ∧ r.locals ≤ 1400
def zB (r : Int32) : Int64 := if r = 0 then 0 else 1
def SimI (D : va_G) (a : Nat → ClassId) (E0 : Nat) (l : Launch) (x o m : Nat) (am : Nat → Nat) (f : Nat → Int64) (yH : MethodName) (wH : List Cond) (yM : MethodName) (wM' : List Cond) (av : List Value) (cv : Int32 → Int64) (w : va_W) (I : Nat → Nat → Int32) (e : Int64) : Prop :=
  ∃ (k b : Int32) (J : Nat → Nat → Int32) (e2 : Int64) (rmM : Room), rmOk rmM ∧ Ct (gm D a E0) l yH wH rmH (.ref x :: (av ++ [.ref o])) (w ++ outL a o f) (qI fun v w2 => v = k ∧ ∃ w1 f1, w2 = w1 ++ outL a o f1 ∧ RW a E0 x J e2 w1 ∧ (k = 0 → f1 0 = cv b)) noX ∧ Ct (gm D a E0) l yM wM' rmM (.ref m :: av) (wM m am a I e) (qI fun v w2 => v = b ∧ w2 = wM m am a J e2) noX ∧ J 30 8 = k
section SM
variable {l : Launch} {D : va_G} {a : Nat → ClassId} {E0 x o m : Nat} {am : Nat → Nat} {w : va_W} {f : Nat → Int64} {fd : Nat → UInt64} {I : Nat → Nat → Int32} {e : Int64}
theorem sh_ok {yH : MethodName} {wH : List Cond} {rm : Room} {avH : List Value} {P : Int32 → va_W → Prop} {XX : va_W → Int32 → Prop} {cv : Int32 → Int64} {b : Int32} {J : Nat → Nat → Int32} {e2 : Int64} (h : Ct (gm D a E0) l yH wH rm avH (w ++ outL a o f) (qI fun v w2 => (v = 0 ∧ ∃ r w1, P r w1 ∧ w2 = w1 ++ outL a o (vp_updL f 0 (cv r))) ∨ ∃ w1, XX w1 v ∧ w2 = w1 ++ outL a o f) noX) (hP : ∀ r w1, P r w1 → r = b ∧ RW a E0 x J e2 w1) (hX : ∀ w1 v, XX w1 v → False) : Ct (gm D a E0) l yH wH rm avH (w ++ outL a o f) (qI fun v w2 => v = 0 ∧ ∃ w1 f1, w2 = w1 ++ outL a o f1 ∧ RW a E0 x J e2 w1 ∧ ((0 : Int32) = 0 → f1 0 = cv b)) noX := by
  refine h.weaken (fun r w2 hr => ?_) (fun _ _ h => h)
  obtain ⟨v, rfl, hr⟩ := hr
  rcases hr with ⟨rfl, r, w1, h2, rfl⟩ | ⟨w1, h2, h3⟩
  · obtain ⟨rfl, h4⟩ := hP r w1 h2
    exact ⟨_, rfl, rfl, w1, _, rfl, h4, fun _ => by unfold vp_updL; rw [if_pos rfl]⟩
  · exact (hX _ _ h2).elim
theorem sh_ex {yH : MethodName} {wH : List Cond} {rm : Room} {avH : List Value} {P : Int32 → va_W → Prop} {XX : va_W → Int32 → Prop} {cv : Int32 → Int64} {k b : Int32} {J : Nat → Nat → Int32} {e2 : Int64} (h : Ct (gm D a E0) l yH wH rm avH (w ++ outL a o f) (qI fun v w2 => (v = 0 ∧ ∃ r w1, P r w1 ∧ w2 = w1 ++ outL a o (vp_updL f 0 (cv r))) ∨ ∃ w1, XX w1 v ∧ w2 = w1 ++ outL a o f) noX) (hP : ∀ r w1, P r w1 → False) (hX : ∀ w1 v, XX w1 v → v = k ∧ RW a E0 x J e2 w1) (hk : ¬ k = 0) : Ct (gm D a E0) l yH wH rm avH (w ++ outL a o f) (qI fun v w2 => v = k ∧ ∃ w1 f1, w2 = w1 ++ outL a o f1 ∧ RW a E0 x J e2 w1 ∧ (k = 0 → f1 0 = cv b)) noX := by
  refine h.weaken (fun r w2 hr => ?_) (fun _ _ h => h)
  obtain ⟨v, rfl, hr⟩ := hr
  rcases hr with ⟨rfl, r, w1, h2, rfl⟩ | ⟨w1, h2, h3⟩
  · exact (hP _ _ h2).elim
  · obtain ⟨rfl, h4⟩ := hX _ _ h2
    exact ⟨_, rfl, rfl, w1, f, h3, h4, fun q => absurd q hk⟩
theorem wC_x {n cap : Nat → Nat} {A : Nat → Nat → Nat} {g : Nat → Nat} {en : Int64} {S : Nat → Nat → Nat → Int32} : ∃ (q0 : Nat) (fs : List Value), (wC a E0 n cap A g en S)[q0]? = some (A 0 0, .inr (9, fs)) := by
  obtain ⟨p, h1, -⟩ := wC_at (a := a) (E0 := E0) (n := n) (cap := cap) (A := A) (g := g) (en := en) (S := S) (k := 0) (i := 0) (e := .inr (9, [.ref (A 3 0), .int (S 0 0 0), .int (S 0 0 1), .ref (A 1 0), .ref (A 3 1), .ref (A 3 2), .int (S 0 0 2), .ref (A 2 0), .long en, .ref (A 3 3), .int (S 0 0 3)])) (by decide) (show 0 < 1 by decide) rfl
  exact ⟨p, _, h1⟩
theorem bok {v : Int32} (h : v = 0 ∨ v = 1) : boK v := by
  rcases h with h | h <;> subst h
  · exact boK_bI false
  · exact boK_bI true
theorem bv {v : Int32} (h : v = 0 ∨ v = 1) : v = if v = 0 then 0 else 1 := by
  rcases h with h | h <;> subst h <;> rfl
theorem nb {b : Bool} (h : ¬ b = true) : b = false := by simpa using h
theorem ac_thr (I : Nat → Nat → Int32) (q : Nat) (x t cv : Int32) : acM I q x t cv 30 8 = 0 := by
  have h1 := (ac_spec x q (uI I 30 8 0)).2.2.2.2.2.2 30 (by decide) (by decide) (by decide) (by decide) (by decide)
  unfold acM
  rw [uI_s, if_neg (show ¬ (8 = 0) by decide), acN_row _ _ _ _ _ (by decide) (by decide) (by decide) (by decide) (by decide), h1, uI_s, if_pos rfl]
theorem rm_thr (I : Nat → Nat → Int32) (m p : Nat) (v : Int32) : rmL m p (uI (uI I 30 8 0) 30 0 v) 30 8 = 0 := by
  rw [(rm_spec m p (uI (uI I 30 8 0) 30 0 v)).2.2 30 (by decide) (by decide) (by decide) (by decide) (by decide)]
  rfl
set_option maxRecDepth 100000 in
set_option maxHeartbeats 4000000 in
theorem sm_addCue (hl : l.stackTraces = false) (h : RW a E0 x I e w) (p0 p1 p2 : Int32) (hv : chK p2) (hv2 : vp_nar .char p2 = p2) : SimI D a E0 l x o m am f yL_addCue wsL_addCue yX6_addCue wsX6_addCue [.int p0, .int p1, .int p2] Int32.toInt64 w I e := by
  obtain ⟨n, cap, A, g, en, S, rfl, rfl, hR⟩ := h
  obtain ⟨hR0, hRI, hRN, hC, hF, hL, hG, hE, hS, hen⟩ := id hR
  have hN := hR.cn
  have hx := wC_x (a := a) (E0 := E0) (n := n) (cap := cap) (A := A) (g := g) (en := en) (S := S)
  by_cases hb : cueB p0 p1 p2 = true
  · by_cases hf : fnd (I 0) p0 (n 0) 0 < n 0
    · refine ⟨2, (-1), uI I 30 8 2, e, _, ⟨by decide, by decide, by decide, by decide⟩, sh_ex (tL_addCue hl ⟨by decide, by decide⟩ ⟨by decide, by decide⟩ (cC_addCue_2 hl hN hb (hq_t hC hf)) hx (fun E w1 h => Or.inr (Or.inl h.1))) (fun _ _ h => h) (fun w1 v h => ?_) (by decide), cM_addCue_2 hl hRI.1 hR0.1.2.1 hb rfl hf, rfl⟩
      rcases h with ⟨⟨h1, h2⟩, h3⟩ | ⟨⟨h1, h2⟩, h3⟩ | ⟨⟨h1, h2⟩, h3⟩
      · exact absurd h1 (by decide)
      · exact ⟨h3, _, _, _, _, _, _, h2, rfl, hR.thr 2⟩
      · exact absurd h1 (by decide)
    · by_cases h16 : n 0 < 16
      · have hcap : n 0 < cap 0 ∨ cap 0 = 0 ∨ (2 ≤ cap 0 ∧ cap 0 + cap 0 / 2 ≤ 22) := by
          have h1 := hR0.2.1
          have h2 := hR0.1.1 0 (by decide)
          omega
        exact ⟨0, (nI (n 0 + 1)), (acM I (n 0) p0 p1 p2), e, _, ⟨by decide, by decide, by decide, by decide⟩, sh_ok (tL_addCue hl ⟨by decide, by decide⟩ ⟨by decide, by decide⟩ (cC_addCue_0 hl hN hb hv (hq_f hC hf) h16 hcap) hx (fun _ _ h => h.elim)) (fun r w1 hh => by
            obtain ⟨h1, q, r2, ff, e9, c2, hff, hcN, rfl⟩ := hh
            exact ⟨h1, _, _, _, _, _, _, rfl, by simp [upC, ins1], (hR.thr 0).add hb hf h16 hff hv2 hcN _⟩) (fun _ _ h => h.elim (fun h => h.1.elim) (fun h => h.elim (fun h => h.1.elim) (fun h => h.1.elim))), cM_addCue_0 hl hRI.1 hR0.1.2.1 hb hf h16 hR.hc hv2, ac_thr _ _ _ _ _⟩
      · refine ⟨3, (-1), uI I 30 8 3, e, _, ⟨by decide, by decide, by decide, by decide⟩, sh_ex (tL_addCue hl ⟨by decide, by decide⟩ ⟨by decide, by decide⟩ (cC_addCue_3 hl hN hb (hq_f hC hf) h16) hx (fun E w1 h => Or.inr (Or.inr (h.1)))) (fun _ _ h => h) (fun w1 v h => ?_) (by decide), cM_addCue_3 hl hRI.1 hR0.1.2.1 hb hf (by have := hR0.1.2.1; omega), rfl⟩
        rcases h with ⟨⟨h1, h2⟩, h3⟩ | ⟨⟨h1, h2⟩, h3⟩ | ⟨⟨h1, h2⟩, h3⟩
        · exact absurd h1 (by decide)
        · exact absurd h1 (by decide)
        · exact ⟨h3, _, _, _, _, _, _, h2, rfl, hR.thr 3⟩
  · refine ⟨1, (-1), uI I 30 8 1, e, _, ⟨by decide, by decide, by decide, by decide⟩, sh_ex (tL_addCue hl ⟨by decide, by decide⟩ ⟨by decide, by decide⟩ (cC_addCue_1 hl hN (nb hb)) hx (fun E w1 h => Or.inl h.1)) (fun _ _ h => h) (fun w1 v h => ?_) (by decide), cM_addCue_1 hl (nb hb), rfl⟩
    rcases h with ⟨⟨h1, h2⟩, h3⟩ | ⟨⟨h1, h2⟩, h3⟩ | ⟨⟨h1, h2⟩, h3⟩
    · exact ⟨h3, _, _, _, _, _, _, h2, rfl, hR.thr 1⟩
    · exact absurd h1 (by decide)
    · exact absurd h1 (by decide)
set_option maxRecDepth 100000 in
set_option maxHeartbeats 4000000 in
theorem sm_removeCue (hl : l.stackTraces = false) (h : RW a E0 x I e w) (p0 : Int32) : SimI D a E0 l x o m am f yL_removeCue wsL_removeCue yX6_removeCue wsX6_removeCue [.int p0] Int32.toInt64 w I e := by
  obtain ⟨n, cap, A, g, en, S, rfl, rfl, hR⟩ := h
  obtain ⟨hR0, hRI, hRN, hC, hF, hL, hG, hE, hS, hen⟩ := id hR
  have hN := hR.cn
  have hx := wC_x (a := a) (E0 := E0) (n := n) (cap := cap) (A := A) (g := g) (en := en) (S := S)
  by_cases hf : fnd (I 0) p0 (n 0) 0 < n 0
  · exact ⟨0, (nI (n 0 - 1)), (rmL (n 0 - 1 - (fnd (I 0) p0 (n 0) 0)) (fnd (I 0) p0 (n 0) 0) (uI (uI I 30 8 0) 30 0 (nI (n 0 - 1)))), e, _, ⟨by decide, by decide, by decide, by decide⟩, sh_ok (tL_removeCue hl ⟨by decide, by decide⟩ ⟨by decide, by decide⟩ (cC_removeCue_0 hl hN (hq_t hC hf)) hx (fun _ _ h => h.elim)) (fun r w1 hh => ⟨hh.1.trans (rfl), _, _, _, _, _, _, hh.2, by simp [skp], by rw [po_eq hC hf]; exact (hR.thr 0).rem hf _⟩) (fun _ _ h => h.1.elim), cM_removeCue_0 hl hRI.1 hR0.1.2.1 rfl hf hR.hc, rm_thr _ _ _ _⟩
  · refine ⟨1, (-1), uI I 30 8 1, e, _, ⟨by decide, by decide, by decide, by decide⟩, sh_ex (tL_removeCue hl ⟨by decide, by decide⟩ ⟨by decide, by decide⟩ (cC_removeCue_1 hl hN (hq_f hC hf)) hx (fun E w1 h => h.1)) (fun _ _ h => h) (fun w1 v h => ?_) (by decide), cM_removeCue_1 hl hRI.1 hR0.1.2.1 hf, rfl⟩
    rcases h with ⟨⟨h1, h2⟩, h3⟩
    · exact ⟨h3, _, _, _, _, _, _, h2, rfl, hR.thr 1⟩
set_option maxRecDepth 100000 in
set_option maxHeartbeats 4000000 in
theorem sm_setChange (hl : l.stackTraces = false) (h : RW a E0 x I e w) (p0 p1 p2 : Int32) : SimI D a E0 l x o m am f yL_setChange wsL_setChange yX6_setChange wsX6_setChange [.int p0, .int p1, .int p2] Int32.toInt64 w I e := by
  obtain ⟨n, cap, A, g, en, S, rfl, rfl, hR⟩ := h
  obtain ⟨hR0, hRI, hRN, hC, hF, hL, hG, hE, hS, hen⟩ := id hR
  have hN := hR.cn
  have hx := wC_x (a := a) (E0 := E0) (n := n) (cap := cap) (A := A) (g := g) (en := en) (S := S)
  by_cases hf : fnd (I 0) p0 (n 0) 0 < n 0
  · by_cases hc : chB p1 = true
    · obtain ⟨c, hc2, rfl⟩ := chB_iff.mp hc
      by_cases hv : lvB p2 = true
      · obtain ⟨lv, hlv, rfl⟩ := lvB_iff.mp hv
        exact ⟨0, (I 4 (12 * (fnd (I 0) p0 (n 0) 0) + c)), (uI (uI I 30 8 0) 4 (12 * (fnd (I 0) p0 (n 0) 0) + c) (nI lv)), e, _, ⟨by decide, by decide, by decide, by decide⟩, sh_ok (tL_setChange hl ⟨by decide, by decide⟩ ⟨by decide, by decide⟩ (cC_setChange_0 hl hN (hq_t hC hf) hc2 hv) hx (fun _ _ h => h.elim)) (fun r w1 hh => ⟨hh.1.trans (by rw [po_eq hC hf]; exact (hC.1 _ hf).1.2.2.2.2 c hc2), _, _, _, _, _, _, hh.2, rfl, by rw [po_eq hC hf]; exact (hR.thr 0).chg hc2 _ (Or.inr ⟨lv, hlv, rfl⟩)⟩) (fun _ _ h => h.elim (fun h => h.1.elim) (fun h => h.elim (fun h => h.1.elim) (fun h => h.1.elim))), cM_setChange_0 hl hRI.1 hR0.1.2.1 rfl hf hc2 hlv, rfl⟩
      · refine ⟨3, (-1), uI I 30 8 3, e, _, ⟨by decide, by decide, by decide, by decide⟩, sh_ex (tL_setChange hl ⟨by decide, by decide⟩ ⟨by decide, by decide⟩ (cC_setChange_3 hl hN (hq_t hC hf) hc2 (nb hv)) hx (fun E w1 h => Or.inr (Or.inr (h.1)))) (fun _ _ h => h) (fun w1 v h => ?_) (by decide), cM_setChange_3 hl hRI.1 hR0.1.2.1 rfl hf hc2 (nb hv), rfl⟩
        rcases h with ⟨⟨h1, h2⟩, h3⟩ | ⟨⟨h1, h2⟩, h3⟩ | ⟨⟨h1, h2⟩, h3⟩
        · exact absurd h1 (by decide)
        · exact absurd h1 (by decide)
        · exact ⟨h3, _, _, _, _, _, _, h2, rfl, hR.thr 3⟩
    · refine ⟨2, (-1), uI I 30 8 2, e, _, ⟨by decide, by decide, by decide, by decide⟩, sh_ex (tL_setChange hl ⟨by decide, by decide⟩ ⟨by decide, by decide⟩ (cC_setChange_2 hl hN (hq_t hC hf) (nb hc)) hx (fun E w1 h => Or.inr (Or.inl h.1))) (fun _ _ h => h) (fun w1 v h => ?_) (by decide), cM_setChange_2 hl hRI.1 hR0.1.2.1 rfl hf (nb hc), rfl⟩
      rcases h with ⟨⟨h1, h2⟩, h3⟩ | ⟨⟨h1, h2⟩, h3⟩ | ⟨⟨h1, h2⟩, h3⟩
      · exact absurd h1 (by decide)
      · exact ⟨h3, _, _, _, _, _, _, h2, rfl, hR.thr 2⟩
      · exact absurd h1 (by decide)
  · refine ⟨1, (-1), uI I 30 8 1, e, _, ⟨by decide, by decide, by decide, by decide⟩, sh_ex (tL_setChange hl ⟨by decide, by decide⟩ ⟨by decide, by decide⟩ (cC_setChange_1 hl hN (hq_f hC hf)) hx (fun E w1 h => Or.inl h.1)) (fun _ _ h => h) (fun w1 v h => ?_) (by decide), cM_setChange_1 hl hRI.1 hR0.1.2.1 hf, rfl⟩
    rcases h with ⟨⟨h1, h2⟩, h3⟩ | ⟨⟨h1, h2⟩, h3⟩ | ⟨⟨h1, h2⟩, h3⟩
    · exact ⟨h3, _, _, _, _, _, _, h2, rfl, hR.thr 1⟩
    · exact absurd h1 (by decide)
    · exact absurd h1 (by decide)
set_option maxRecDepth 100000 in
set_option maxHeartbeats 4000000 in
theorem sm_removeChange (hl : l.stackTraces = false) (h : RW a E0 x I e w) (p0 p1 : Int32) : SimI D a E0 l x o m am f yL_removeChange wsL_removeChange yX6_removeChange wsX6_removeChange [.int p0, .int p1] Int32.toInt64 w I e := by
  obtain ⟨n, cap, A, g, en, S, rfl, rfl, hR⟩ := h
  obtain ⟨hR0, hRI, hRN, hC, hF, hL, hG, hE, hS, hen⟩ := id hR
  have hN := hR.cn
  have hx := wC_x (a := a) (E0 := E0) (n := n) (cap := cap) (A := A) (g := g) (en := en) (S := S)
  by_cases hf : fnd (I 0) p0 (n 0) 0 < n 0
  · by_cases hc : chB p1 = true
    · obtain ⟨c, hc2, rfl⟩ := chB_iff.mp hc
      have e6 : S 6 (poC S (n 0) p0) c = I 4 (12 * (fnd (I 0) p0 (n 0) 0) + c) := by rw [po_eq hC hf]; exact (hC.1 _ hf).1.2.2.2.2 c hc2
      by_cases hv : I 4 (12 * (fnd (I 0) p0 (n 0) 0) + c) = -1
      · refine ⟨1, (-1), uI I 30 8 1, e, _, ⟨by decide, by decide, by decide, by decide⟩, sh_ex (tL_removeChange hl ⟨by decide, by decide⟩ ⟨by decide, by decide⟩ (cC_removeChange_3 hl hN (hq_t hC hf) hc2 (e6.trans hv)) hx (fun E w1 h => Or.inl h.1)) (fun _ _ h => h) (fun w1 v h => ?_) (by decide), cM_removeChange_1b hl hRI.1 hR0.1.2.1 rfl hf hc2 hv, rfl⟩
        rcases h with ⟨⟨h1, h2⟩, h3⟩ | ⟨⟨h1, h2⟩, h3⟩
        · exact ⟨h3, _, _, _, _, _, _, h2, rfl, hR.thr 1⟩
        · exact absurd h1 (by decide)
      · exact ⟨0, (I 4 (12 * (fnd (I 0) p0 (n 0) 0) + c)), (uI (uI I 30 8 0) 4 (12 * (fnd (I 0) p0 (n 0) 0) + c) (-1)), e, _, ⟨by decide, by decide, by decide, by decide⟩, sh_ok (tL_removeChange hl ⟨by decide, by decide⟩ ⟨by decide, by decide⟩ (cC_removeChange_0 hl hN (hq_t hC hf) hc2 (fun q => hv (e6.symm.trans q))) hx (fun _ _ h => h.elim)) (fun r w1 hh => ⟨hh.1.trans (e6), _, _, _, _, _, _, hh.2, rfl, by rw [po_eq hC hf]; exact (hR.thr 0).chg hc2 _ (Or.inl rfl)⟩) (fun _ _ h => h.elim (fun h => h.1.elim) (fun h => h.1.elim)), cM_removeChange_0 hl hRI.1 hR0.1.2.1 rfl hf hc2 hv, rfl⟩
    · refine ⟨2, (-1), uI I 30 8 2, e, _, ⟨by decide, by decide, by decide, by decide⟩, sh_ex (tL_removeChange hl ⟨by decide, by decide⟩ ⟨by decide, by decide⟩ (cC_removeChange_2 hl hN (hq_t hC hf) (nb hc)) hx (fun E w1 h => Or.inr (h.1))) (fun _ _ h => h) (fun w1 v h => ?_) (by decide), cM_removeChange_2 hl hRI.1 hR0.1.2.1 rfl hf (nb hc), rfl⟩
      rcases h with ⟨⟨h1, h2⟩, h3⟩ | ⟨⟨h1, h2⟩, h3⟩
      · exact absurd h1 (by decide)
      · exact ⟨h3, _, _, _, _, _, _, h2, rfl, hR.thr 2⟩
  · refine ⟨1, (-1), uI I 30 8 1, e, _, ⟨by decide, by decide, by decide, by decide⟩, sh_ex (tL_removeChange hl ⟨by decide, by decide⟩ ⟨by decide, by decide⟩ (cC_removeChange_1 hl hN (hq_f hC hf)) hx (fun E w1 h => Or.inl h.1)) (fun _ _ h => h) (fun w1 v h => ?_) (by decide), cM_removeChange_1 hl hRI.1 hR0.1.2.1 hf, rfl⟩
    rcases h with ⟨⟨h1, h2⟩, h3⟩ | ⟨⟨h1, h2⟩, h3⟩
    · exact ⟨h3, _, _, _, _, _, _, h2, rfl, hR.thr 1⟩
    · exact absurd h1 (by decide)
set_option maxRecDepth 100000 in
set_option maxHeartbeats 4000000 in
theorem sm_setBlock (hl : l.stackTraces = false) (h : RW a E0 x I e w) (p0 : Int32) (b : Bool) : SimI D a E0 l x o m am f yL_setBlock wsL_setBlock yX6_setBlock wsX6_setBlock [.int p0, .int (bI b)] zB w I e := by
  obtain ⟨n, cap, A, g, en, S, rfl, rfl, hR⟩ := h
  obtain ⟨hR0, hRI, hRN, hC, hF, hL, hG, hE, hS, hen⟩ := id hR
  have hN := hR.cn
  have hx := wC_x (a := a) (E0 := E0) (n := n) (cap := cap) (A := A) (g := g) (en := en) (S := S)
  by_cases hf : fnd (I 0) p0 (n 0) 0 < n 0
  · have e3 : S 5 (poC S (n 0) p0) 3 = I 3 (fnd (I 0) p0 (n 0) 0) := by rw [po_eq hC hf]; exact (hC.1 _ hf).1.2.2.2.1
    have h01 := (hC.1 _ hf).2.2.2.2.1
    exact ⟨0, (if I 3 (fnd (I 0) p0 (n 0) 0) = 0 then 0 else 1), (uI (uI I 30 8 0) 3 (fnd (I 0) p0 (n 0) 0) (bI b)), e, _, ⟨by decide, by decide, by decide, by decide⟩, sh_ok (tL_setBlock hl ⟨by decide, by decide⟩ ⟨by decide, by decide⟩ (cC_setBlock_0 hl hN (hq_t hC hf) (by rw [e3]; exact bok h01)) hx (fun _ _ h => h.elim)) (fun r w1 hh => ⟨hh.1.trans (by rw [e3]; exact bv h01), _, _, _, _, _, _, hh.2, rfl, by rw [po_eq hC hf]; exact (hR.thr 0).blk b⟩) (fun _ _ h => h.1.elim), cM_setBlock_0 hl hRI.1 hR0.1.2.1 rfl hf, rfl⟩
  · refine ⟨1, 0, uI I 30 8 1, e, _, ⟨by decide, by decide, by decide, by decide⟩, sh_ex (tL_setBlock hl ⟨by decide, by decide⟩ ⟨by decide, by decide⟩ (cC_setBlock_1 hl hN (hq_f hC hf)) hx (fun E w1 h => h.1)) (fun _ _ h => h) (fun w1 v h => ?_) (by decide), cM_setBlock_1 hl hRI.1 hR0.1.2.1 hf, rfl⟩
    rcases h with ⟨⟨h1, h2⟩, h3⟩
    · exact ⟨h3, _, _, _, _, _, _, h2, rfl, hR.thr 1⟩
set_option maxRecDepth 100000 in
set_option maxHeartbeats 4000000 in
theorem sm_trackedLevel (hl : l.stackTraces = false) (h : RW a E0 x I e w) (p0 p1 : Int32) : SimI D a E0 l x o m am f yL_trackedLevel wsL_trackedLevel yX6_trackedLevel wsX6_trackedLevel [.int p0, .int p1] Int32.toInt64 w I e := by
  obtain ⟨n, cap, A, g, en, S, rfl, rfl, hR⟩ := h
  obtain ⟨hR0, hRI, hRN, hC, hF, hL, hG, hE, hS, hen⟩ := id hR
  have hN := hR.cn
  have hx := wC_x (a := a) (E0 := E0) (n := n) (cap := cap) (A := A) (g := g) (en := en) (S := S)
  by_cases hf : fnd (I 0) p0 (n 0) 0 < n 0
  · by_cases hc : chB p1 = true
    · obtain ⟨c, hc2, rfl⟩ := chB_iff.mp hc
      exact ⟨0, (trk (I 4) (I 3) c ((fnd (I 0) p0 (n 0) 0) + 1)), (uI I 30 8 0), e, _, ⟨by decide, by decide, by decide, by decide⟩, sh_ok (tL_trackedLevel hl ⟨by decide, by decide⟩ ⟨by decide, by decide⟩ (cC_trackedLevel_0 hl hN (hq_t hC hf) hc2) hx (fun _ _ h => h.elim)) (fun r w1 hh => ⟨hh.1.trans (by rw [po_eq hC hf]; exact tr_eq hC hc2 _ hf), _, _, _, _, _, _, hh.2, rfl, hR.thr 0⟩) (fun _ _ h => h.elim (fun h => h.1.elim) (fun h => h.1.elim)), cM_trackedLevel_0 hl hRI.1 hR0.1.2.1 rfl hf hc2, rfl⟩
    · refine ⟨2, (-1), uI I 30 8 2, e, _, ⟨by decide, by decide, by decide, by decide⟩, sh_ex (tL_trackedLevel hl ⟨by decide, by decide⟩ ⟨by decide, by decide⟩ (cC_trackedLevel_2 hl hN (hq_t hC hf) (nb hc)) hx (fun E w1 h => Or.inr (h.1))) (fun _ _ h => h) (fun w1 v h => ?_) (by decide), cM_trackedLevel_2 hl hRI.1 hR0.1.2.1 rfl hf (nb hc), rfl⟩
      rcases h with ⟨⟨h1, h2⟩, h3⟩ | ⟨⟨h1, h2⟩, h3⟩
      · exact absurd h1 (by decide)
      · exact ⟨h3, _, _, _, _, _, _, h2, rfl, hR.thr 2⟩
  · refine ⟨1, (-1), uI I 30 8 1, e, _, ⟨by decide, by decide, by decide, by decide⟩, sh_ex (tL_trackedLevel hl ⟨by decide, by decide⟩ ⟨by decide, by decide⟩ (cC_trackedLevel_1 hl hN (hq_f hC hf)) hx (fun E w1 h => Or.inl h.1)) (fun _ _ h => h) (fun w1 v h => ?_) (by decide), cM_trackedLevel_1 hl hRI.1 hR0.1.2.1 hf, rfl⟩
    rcases h with ⟨⟨h1, h2⟩, h3⟩ | ⟨⟨h1, h2⟩, h3⟩
    · exact ⟨h3, _, _, _, _, _, _, h2, rfl, hR.thr 1⟩
    · exact absurd h1 (by decide)
set_option maxRecDepth 100000 in
set_option maxHeartbeats 4000000 in
theorem sm_go (hl : l.stackTraces = false) (h : RW a E0 x I e w)  : SimI D a E0 l x o m am f yL_go wsL_go yX6_go wsX6_go [] Int32.toInt64 w I e := by
  obtain ⟨n, cap, A, g, en, S, rfl, rfl, hR⟩ := h
  obtain ⟨hR0, hRI, hRN, hC, hF, hL, hG, hE, hS, hen⟩ := id hR
  have hN := hR.cn
  have hx := wC_x (a := a) (E0 := E0) (n := n) (cap := cap) (A := A) (g := g) (en := en) (S := S)
  have h16 := hR0.1.2.1
  obtain ⟨v, hv, hve⟩ := hRN.2.2.2.2.1
  have hgo := go_po hC hv hve
  rw [← hRN.1] at hgo
  by_cases hp : (poC S (n 0) (S 0 0 0 + 1)) < n 0
  · rw [if_pos hp, hRN.1] at hgo
    have hp3 := hp
    rw [hRN.1] at hp3
    exact ⟨0, (I 0 (poC S (n 0) (I 30 1 + 1))), (plS (poC S (n 0) (I 30 1 + 1)) (uI I 30 8 0)), e, _, ⟨by decide, by decide, by decide, by decide⟩, sh_ok (tL_go hl ⟨by decide, by decide⟩ ⟨by decide, by decide⟩ (cC_go_0 hl hN hp (hR.ck hp)) hx (fun _ _ h => h.elim)) (fun r w1 hh => ⟨hh.1.trans (by rw [hRN.1]; exact ((hR.thr 0).play hp3).2.2.1.1.trans (plS_cur _ _)), _, _, _, _, _, _, hh.2, rfl, by rw [hRN.1]; exact (hR.thr 0).play hp3⟩) (fun _ _ h => h.1.elim), cM_go_0 hl hRI.1 hR0.1.2.1 hgo hp3 (hR.tim hp3) (hR.hc _ (by omega)).1 hR.ht, plS_thr _ _⟩
  · rw [if_neg hp, hRN.1] at hgo
    refine ⟨1, (-1), uI I 30 8 1, e, _, ⟨by decide, by decide, by decide, by decide⟩, sh_ex (tL_go hl ⟨by decide, by decide⟩ ⟨by decide, by decide⟩ (cC_go_1 hl hN hp) hx (fun E w1 h => h.1)) (fun _ _ h => h) (fun w1 v h => ?_) (by decide), cM_go_1 hl hRI.1 hR0.1.2.1 hgo, rfl⟩
    rcases h with ⟨⟨h1, h2⟩, h3⟩
    · exact ⟨h3, _, _, _, _, _, _, h2, rfl, hR.thr 1⟩
set_option maxRecDepth 100000 in
set_option maxHeartbeats 4000000 in
theorem sm_back (hl : l.stackTraces = false) (h : RW a E0 x I e w)  : SimI D a E0 l x o m am f yL_back wsL_back yX6_back wsX6_back [] Int32.toInt64 w I e := by
  obtain ⟨n, cap, A, g, en, S, rfl, rfl, hR⟩ := h
  obtain ⟨hR0, hRI, hRN, hC, hF, hL, hG, hE, hS, hen⟩ := id hR
  have hN := hR.cn
  have hx := wC_x (a := a) (E0 := E0) (n := n) (cap := cap) (A := A) (g := g) (en := en) (S := S)
  have hba := back_po hC (I 30 1)
  have hle := poC_le S (n 0) (I 30 1)
  have h16 := hR0.1.2.1
  by_cases hp : 0 < (poC S (n 0) (S 0 0 0))
  · have hp3 := hp
    rw [hRN.1] at hp3
    rw [if_pos hp3] at hba
    have hp4 : poC S (n 0) (I 30 1) - 1 < n 0 := by omega
    exact ⟨0, (I 0 (poC S (n 0) (I 30 1) - 1)), (plS (poC S (n 0) (I 30 1) - 1) (uI I 30 8 0)), e, _, ⟨by decide, by decide, by decide, by decide⟩, sh_ok (tL_back hl ⟨by decide, by decide⟩ ⟨by decide, by decide⟩ (cC_back_0 hl hN hp (hR.ck (by rw [hRN.1]; exact hp4))) hx (fun _ _ h => h.elim)) (fun r w1 hh => ⟨hh.1.trans (by rw [hRN.1]; exact ((hR.thr 0).play hp4).2.2.1.1.trans (plS_cur _ _)), _, _, _, _, _, _, hh.2, rfl, by rw [hRN.1]; exact (hR.thr 0).play hp4⟩) (fun _ _ h => h.1.elim), cM_back_0 hl hRI.1 hR0.1.2.1 hba hp4 (hR.tim hp4) (hR.hc _ (by omega)).1 hR.ht, plS_thr _ _⟩
  · have hp3 := hp
    rw [hRN.1] at hp3
    rw [if_neg hp3] at hba
    refine ⟨1, (-1), uI I 30 8 1, e, _, ⟨by decide, by decide, by decide, by decide⟩, sh_ex (tL_back hl ⟨by decide, by decide⟩ ⟨by decide, by decide⟩ (cC_back_1 hl hN hp) hx (fun E w1 h => h.1)) (fun _ _ h => h) (fun w1 v h => ?_) (by decide), cM_back_1 hl hRI.1 hR0.1.2.1 hba, rfl⟩
    rcases h with ⟨⟨h1, h2⟩, h3⟩
    · exact ⟨h3, _, _, _, _, _, _, h2, rfl, hR.thr 1⟩
set_option maxRecDepth 100000 in
set_option maxHeartbeats 4000000 in
theorem sm_goTo (hl : l.stackTraces = false) (h : RW a E0 x I e w) (p0 : Int32) : SimI D a E0 l x o m am f yL_goTo wsL_goTo yX6_goTo wsX6_goTo [.int p0] Int32.toInt64 w I e := by
  obtain ⟨n, cap, A, g, en, S, rfl, rfl, hR⟩ := h
  obtain ⟨hR0, hRI, hRN, hC, hF, hL, hG, hE, hS, hen⟩ := id hR
  have hN := hR.cn
  have hx := wC_x (a := a) (E0 := E0) (n := n) (cap := cap) (A := A) (g := g) (en := en) (S := S)
  by_cases hf : fnd (I 0) p0 (n 0) 0 < n 0
  · have h16 := hR0.1.2.1
    exact ⟨0, (nI (ctL (plS (fnd (I 0) p0 (n 0) 0) (uI I 30 8 0) 10) 12 0 0)), (plS (fnd (I 0) p0 (n 0) 0) (uI I 30 8 0)), e, _, ⟨by decide, by decide, by decide, by decide⟩, sh_ok (tL_goTo hl ⟨by decide, by decide⟩ ⟨by decide, by decide⟩ (cC_goTo_0 hl hN (hq_t hC hf) (by rw [po_eq hC hf]; exact hR.ck hf)) hx (fun _ _ h => h.elim)) (fun r w1 hh => ⟨hh.1.trans (by rw [po_eq hC hf, fc_eq ((hR.thr 0).play hf).2.2.2.2.1 12 0 0 rfl]), _, _, _, _, _, _, hh.2, rfl, by rw [po_eq hC hf]; exact (hR.thr 0).play hf⟩) (fun _ _ h => h.1.elim), cM_goTo_0 hl hRI.1 hR0.1.2.1 rfl hf (hR.tim hf) (hR.hc _ (by omega)).1 hR.ht (hR.num hf), plS_thr _ _⟩
  · refine ⟨1, (-1), uI I 30 8 1, e, _, ⟨by decide, by decide, by decide, by decide⟩, sh_ex (tL_goTo hl ⟨by decide, by decide⟩ ⟨by decide, by decide⟩ (cC_goTo_1 hl hN (hq_f hC hf)) hx (fun E w1 h => h.1)) (fun _ _ h => h) (fun w1 v h => ?_) (by decide), cM_goTo_1 hl hRI.1 hR0.1.2.1 hf, rfl⟩
    rcases h with ⟨⟨h1, h2⟩, h3⟩
    · exact ⟨h3, _, _, _, _, _, _, h2, rfl, hR.thr 1⟩
set_option maxRecDepth 100000 in
set_option maxHeartbeats 4000000 in
theorem sm_pass (hl : l.stackTraces = false) (h : RW a E0 x I e w) (p0 : Int32) : SimI D a E0 l x o m am f yL_pass wsL_pass yX6_pass wsX6_pass [.int p0] Int32.toInt64 w I e := by
  obtain ⟨n, cap, A, g, en, S, rfl, rfl, hR⟩ := h
  obtain ⟨hR0, hRI, hRN, hC, hF, hL, hG, hE, hS, hen⟩ := id hR
  have hN := hR.cn
  have hx := wC_x (a := a) (E0 := E0) (n := n) (cap := cap) (A := A) (g := g) (en := en) (S := S)
  by_cases ht : inB p0.toInt64 1 100 = true
  · obtain ⟨t, ht1, ht2, rfl⟩ := inB_pass.mp ht
    have hp := RR.pass t (hR.thr 0)
    exact ⟨0, ((tkL g (n 1) (n 2) t (uI I 30 8 0) e).1 30 6), (tkL g (n 1) (n 2) t (uI I 30 8 0) e).1, (tkL g (n 1) (n 2) t (uI I 30 8 0) e).2, _, ⟨by decide, by decide, by decide, by decide⟩, sh_ok (tL_pass hl ⟨by decide, by decide⟩ ⟨by decide, by decide⟩ (cC_pass_0 hl ht2 ht hN hR.ce hR.cf) hx (fun _ _ h => h.elim)) (fun r w1 hh => ⟨hh.1.trans (hp.2.2.1.2.1), _, _, _, _, _, _, hh.2, rfl, hp⟩) (fun _ _ h => h.1.elim), cM_pass_0 hl hR.mi ht ht2, tkL_thr _ _ _ _ _ _⟩
  · refine ⟨1, (-1), uI I 30 8 1, e, _, ⟨by decide, by decide, by decide, by decide⟩, sh_ex (tL_pass hl ⟨by decide, by decide⟩ ⟨by decide, by decide⟩ (cC_pass_1 hl (nb ht)) hx (fun E w1 h => h.1)) (fun _ _ h => h) (fun w1 v h => ?_) (by decide), cM_pass_1 hl (nb ht), rfl⟩
    rcases h with ⟨⟨h1, h2⟩, h3⟩
    · exact ⟨h3, _, _, _, _, _, _, h2, rfl, hR.thr 1⟩
end SM
