section SM
variable {l : Launch} {D : va_G} {a : Nat → ClassId} {E0 x o m : Nat} {am : Nat → Nat} {w : va_W} {f : Nat → Int64} {fd : Nat → UInt64} {I : Nat → Nat → Int32} {e : Int64}
set_option maxRecDepth 100000 in
set_option maxHeartbeats 4000000 in
theorem sm_effectOn (hl : l.stackTraces = false) (h : RW a E0 x I e w) (p0 p1 : Int32) : SimI D a E0 l x o m am f yL_effectOn wsL_effectOn yX6_effectOn wsX6_effectOn [.int p0, .int p1] Int32.toInt64 w I e := by
  obtain ⟨n, cap, A, g, en, S, rfl, rfl, hR⟩ := h
  obtain ⟨hR0, hRI, hRN, hC, hF, hL, hG, hE, hS, hen⟩ := id hR
  have hN := hR.cn
  have hx := wC_x (a := a) (E0 := E0) (n := n) (cap := cap) (A := A) (g := g) (en := en) (S := S)
  by_cases hu : upB (n 2) p0 = true
  · obtain ⟨e1, hG1, rfl⟩ := (upB_iff (by have := hR0.1.2.2; omega)).mp hu
    by_cases hc : chB p1 = true
    · obtain ⟨c, hc2, rfl⟩ := chB_iff.mp hc
      exact ⟨0, (gvF (uI I 30 8 0) g e1 c), (uI I 30 8 0), e, _, ⟨by decide, by decide, by decide, by decide⟩, sh_ok (tL_effectOn hl ⟨by decide, by decide⟩ ⟨by decide, by decide⟩ (cC_effectOn_0 hl hN hG1 hR.ce hc2) hx (fun _ _ h => h.elim)) (fun r w1 hh => ⟨hh.1.trans (gv_eq (hR.thr 0).2.2.1.2.1 (hR.thr 0).2.2.2.2.2.2.1 (hR.thr 0).2.2.2.2.2.2.2.1 hc2 hG1), _, _, _, _, _, _, hh.2, rfl, hR.thr 0⟩) (fun _ _ h => h.1.elim), cM_effectOn_0 hl hR.mi hG1 hc2, rfl⟩
    · refine ⟨1, (-1), uI I 30 8 1, e, _, ⟨by decide, by decide, by decide, by decide⟩, sh_ex (tL_effectOn hl ⟨by decide, by decide⟩ ⟨by decide, by decide⟩ (cC_effectOn_2 hl hN hG1 (nb hc)) hx (fun E w1 h => h.1)) (fun _ _ h => h) (fun w1 v h => ?_) (by decide), cM_effectOn_1b hl hRI.2.2.1 hR0.1.2.2.2.1 hG1 (nb hc), rfl⟩
      rcases h with ⟨⟨h1, h2⟩, h3⟩
      · exact ⟨h3, _, _, _, _, _, _, h2, rfl, hR.thr 1⟩
  · refine ⟨1, (-1), uI I 30 8 1, e, _, ⟨by decide, by decide, by decide, by decide⟩, sh_ex (tL_effectOn hl ⟨by decide, by decide⟩ ⟨by decide, by decide⟩ (cC_effectOn_1 hl (nb hu)) hx (fun E w1 h => h.1)) (fun _ _ h => h) (fun w1 v h => ?_) (by decide), cM_effectOn_1 hl hRI.2.2.1 hR0.1.2.2.2.1 (nb hu), rfl⟩
    rcases h with ⟨⟨h1, h2⟩, h3⟩
    · exact ⟨h3, _, _, _, _, _, _, h2, rfl, hR.thr 1⟩
set_option maxRecDepth 100000 in
set_option maxHeartbeats 4000000 in
theorem sm_park (hl : l.stackTraces = false) (h : RW a E0 x I e w) (p0 p1 : Int32) : SimI D a E0 l x o m am f yL_park wsL_park yX6_park wsX6_park [.int p0, .int p1] Int32.toInt64 w I e := by
  obtain ⟨n, cap, A, g, en, S, rfl, rfl, hR⟩ := h
  obtain ⟨hR0, hRI, hRN, hC, hF, hL, hG, hE, hS, hen⟩ := id hR
  have hN := hR.cn
  have hx := wC_x (a := a) (E0 := E0) (n := n) (cap := cap) (A := A) (g := g) (en := en) (S := S)
  by_cases hc : chB p0 = true
  · obtain ⟨c, hc2, rfl⟩ := chB_iff.mp hc
    by_cases hv : lvB p1 = true
    · obtain ⟨lv, hlv, rfl⟩ := lvB_iff.mp hv
      exact ⟨0, (I 13 c), (uI (uI I 30 8 0) 13 c (nI lv)), e, _, ⟨by decide, by decide, by decide, by decide⟩, sh_ok (tL_park hl ⟨by decide, by decide⟩ ⟨by decide, by decide⟩ (cC_park_0 hl hc2 hv) hx (fun _ _ h => h.elim)) (fun r w1 hh => ⟨hh.1.trans ((hL c hc2).2.2.2.2), _, _, _, _, _, _, hh.2, rfl, (hR.thr 0).prk _ c⟩) (fun _ _ h => h.elim (fun h => h.1.elim) (fun h => h.1.elim)), cM_park_0 hl hc2 hlv, rfl⟩
    · refine ⟨2, (-1), uI I 30 8 2, e, _, ⟨by decide, by decide, by decide, by decide⟩, sh_ex (tL_park hl ⟨by decide, by decide⟩ ⟨by decide, by decide⟩ (cC_park_2 hl hc2 (nb hv)) hx (fun E w1 h => Or.inr (h.1))) (fun _ _ h => h) (fun w1 v h => ?_) (by decide), cM_park_2 hl hc2 (nb hv), rfl⟩
      rcases h with ⟨⟨h1, h2⟩, h3⟩ | ⟨⟨h1, h2⟩, h3⟩
      · exact absurd h1 (by decide)
      · exact ⟨h3, _, _, _, _, _, _, h2, rfl, hR.thr 2⟩
  · refine ⟨1, (-1), uI I 30 8 1, e, _, ⟨by decide, by decide, by decide, by decide⟩, sh_ex (tL_park hl ⟨by decide, by decide⟩ ⟨by decide, by decide⟩ (cC_park_1 hl (nb hc)) hx (fun E w1 h => Or.inl h.1)) (fun _ _ h => h) (fun w1 v h => ?_) (by decide), cM_park_1 hl (nb hc), rfl⟩
    rcases h with ⟨⟨h1, h2⟩, h3⟩ | ⟨⟨h1, h2⟩, h3⟩
    · exact ⟨h3, _, _, _, _, _, _, h2, rfl, hR.thr 1⟩
    · exact absurd h1 (by decide)
set_option maxRecDepth 100000 in
set_option maxHeartbeats 4000000 in
theorem sm_unpark (hl : l.stackTraces = false) (h : RW a E0 x I e w) (p0 : Int32) : SimI D a E0 l x o m am f yL_unpark wsL_unpark yX6_unpark wsX6_unpark [.int p0] Int32.toInt64 w I e := by
  obtain ⟨n, cap, A, g, en, S, rfl, rfl, hR⟩ := h
  obtain ⟨hR0, hRI, hRN, hC, hF, hL, hG, hE, hS, hen⟩ := id hR
  have hN := hR.cn
  have hx := wC_x (a := a) (E0 := E0) (n := n) (cap := cap) (A := A) (g := g) (en := en) (S := S)
  by_cases hc : chB p0 = true
  · obtain ⟨c, hc2, rfl⟩ := chB_iff.mp hc
    have o := (hL c hc2).2.2.2.2
    by_cases hs : I 13 c = -1
    · refine ⟨2, (-1), uI I 30 8 2, e, _, ⟨by decide, by decide, by decide, by decide⟩, sh_ex (tL_unpark hl ⟨by decide, by decide⟩ ⟨by decide, by decide⟩ (cC_unpark_2 hl hc2 (o.trans hs)) hx (fun E w1 h => Or.inr (h.1))) (fun _ _ h => h) (fun w1 v h => ?_) (by decide), cM_unpark_2 hl hc2 hs, rfl⟩
      rcases h with ⟨⟨h1, h2⟩, h3⟩ | ⟨⟨h1, h2⟩, h3⟩
      · exact absurd h1 (by decide)
      · exact ⟨h3, _, _, _, _, _, _, h2, rfl, hR.thr 2⟩
    · exact ⟨0, (I 13 c), (uI (uI I 30 8 0) 13 c (-1)), e, _, ⟨by decide, by decide, by decide, by decide⟩, sh_ok (tL_unpark hl ⟨by decide, by decide⟩ ⟨by decide, by decide⟩ (cC_unpark_0 hl hc2 (fun q => hs (o.symm.trans q))) hx (fun _ _ h => h.elim)) (fun r w1 hh => ⟨hh.1.trans (o), _, _, _, _, _, _, hh.2, rfl, (hR.thr 0).prk _ c⟩) (fun _ _ h => h.elim (fun h => h.1.elim) (fun h => h.1.elim)), cM_unpark_0 hl hc2 hs, rfl⟩
  · refine ⟨1, (-1), uI I 30 8 1, e, _, ⟨by decide, by decide, by decide, by decide⟩, sh_ex (tL_unpark hl ⟨by decide, by decide⟩ ⟨by decide, by decide⟩ (cC_unpark_1 hl (nb hc)) hx (fun E w1 h => Or.inl h.1)) (fun _ _ h => h) (fun w1 v h => ?_) (by decide), cM_unpark_1 hl (nb hc), rfl⟩
    rcases h with ⟨⟨h1, h2⟩, h3⟩ | ⟨⟨h1, h2⟩, h3⟩
    · exact ⟨h3, _, _, _, _, _, _, h2, rfl, hR.thr 1⟩
    · exact absurd h1 (by decide)
set_option maxRecDepth 100000 in
set_option maxHeartbeats 4000000 in
theorem sm_setMaster (hl : l.stackTraces = false) (h : RW a E0 x I e w) (p0 : Int32) : SimI D a E0 l x o m am f yL_setMaster wsL_setMaster yX6_setMaster wsX6_setMaster [.int p0] Int32.toInt64 w I e := by
  obtain ⟨n, cap, A, g, en, S, rfl, rfl, hR⟩ := h
  obtain ⟨hR0, hRI, hRN, hC, hF, hL, hG, hE, hS, hen⟩ := id hR
  have hN := hR.cn
  have hx := wC_x (a := a) (E0 := E0) (n := n) (cap := cap) (A := A) (g := g) (en := en) (S := S)
  by_cases hv : lvB p0 = true
  · obtain ⟨lv, hlv, rfl⟩ := lvB_iff.mp hv
    exact ⟨0, (I 30 7), (uI (uI I 30 8 0) 30 7 (nI lv)), e, _, ⟨by decide, by decide, by decide, by decide⟩, sh_ok (tL_setMaster hl ⟨by decide, by decide⟩ ⟨by decide, by decide⟩ (cC_setMaster_0 hl hv) hx (fun _ _ h => h.elim)) (fun r w1 hh => ⟨hh.1.trans (hRN.2.2.1), _, _, _, _, _, _, hh.2, rfl, (hR.thr 0).mas _⟩) (fun _ _ h => h.1.elim), cM_setMaster_0 hl hlv, rfl⟩
  · refine ⟨1, (-1), uI I 30 8 1, e, _, ⟨by decide, by decide, by decide, by decide⟩, sh_ex (tL_setMaster hl ⟨by decide, by decide⟩ ⟨by decide, by decide⟩ (cC_setMaster_1 hl (nb hv)) hx (fun E w1 h => h.1)) (fun _ _ h => h) (fun w1 v h => ?_) (by decide), cM_setMaster_1 hl (nb hv), rfl⟩
    rcases h with ⟨⟨h1, h2⟩, h3⟩
    · exact ⟨h3, _, _, _, _, _, _, h2, rfl, hR.thr 1⟩
set_option maxRecDepth 100000 in
set_option maxHeartbeats 4000000 in
theorem sm_level (hl : l.stackTraces = false) (h : RW a E0 x I e w) (p0 : Int32) : SimI D a E0 l x o m am f yL_level wsL_level yX6_level wsX6_level [.int p0] Int32.toInt64 w I e := by
  obtain ⟨n, cap, A, g, en, S, rfl, rfl, hR⟩ := h
  obtain ⟨hR0, hRI, hRN, hC, hF, hL, hG, hE, hS, hen⟩ := id hR
  have hN := hR.cn
  have hx := wC_x (a := a) (E0 := E0) (n := n) (cap := cap) (A := A) (g := g) (en := en) (S := S)
  by_cases hc : chB p0 = true
  · obtain ⟨c, hc2, rfl⟩ := chB_iff.mp hc
    exact ⟨0, (lvF (uI I 30 8 0) g (n 1) (n 2) c), (uI I 30 8 0), e, _, ⟨by decide, by decide, by decide, by decide⟩, sh_ok (tL_level hl ⟨by decide, by decide⟩ ⟨by decide, by decide⟩ (cC_level_0 hl hN hR.ce hc2) hx (fun _ _ h => h.elim)) (fun r w1 hh => ⟨hh.1.trans ((hR.thr 0).lev hc2), _, _, _, _, _, _, hh.2, rfl, (hR.thr 0).row⟩) (fun _ _ h => h.1.elim), cM_level_0 hl hR.mi hc2, rfl⟩
  · refine ⟨1, (-1), uI I 30 8 1, e, _, ⟨by decide, by decide, by decide, by decide⟩, sh_ex (tL_level hl ⟨by decide, by decide⟩ ⟨by decide, by decide⟩ (cC_level_1 hl (nb hc)) hx (fun E w1 h => h.1)) (fun _ _ h => h) (fun w1 v h => ?_) (by decide), cM_level_1 hl (nb hc), rfl⟩
    rcases h with ⟨⟨h1, h2⟩, h3⟩
    · exact ⟨h3, _, _, _, _, _, _, h2, rfl, hR.thr 1⟩
set_option maxRecDepth 100000 in
set_option maxHeartbeats 4000000 in
theorem sm_levelAlone (hl : l.stackTraces = false) (h : RW a E0 x I e w) (p0 : Int32) : SimI D a E0 l x o m am f yL_levelAlone wsL_levelAlone yX6_levelAlone wsX6_levelAlone [.int p0] Int32.toInt64 w I e := by
  obtain ⟨n, cap, A, g, en, S, rfl, rfl, hR⟩ := h
  obtain ⟨hR0, hRI, hRN, hC, hF, hL, hG, hE, hS, hen⟩ := id hR
  have hN := hR.cn
  have hx := wC_x (a := a) (E0 := E0) (n := n) (cap := cap) (A := A) (g := g) (en := en) (S := S)
  by_cases hc : chB p0 = true
  · obtain ⟨c, hc2, rfl⟩ := chB_iff.mp hc
    exact ⟨0, (lvF (uI I 30 8 0) g (n 1) (n 2) c), (uI I 30 8 0), e, _, ⟨by decide, by decide, by decide, by decide⟩, sh_ok (tL_levelAlone hl ⟨by decide, by decide⟩ ⟨by decide, by decide⟩ (cC_levelAlone_0 hl hN hR.ce hc2) hx (fun _ _ h => h.elim)) (fun r w1 hh => ⟨hh.1.trans (al_eq (hR.thr 0) hc2), _, _, _, _, _, _, hh.2, rfl, hR.thr 0⟩) (fun _ _ h => h.1.elim), cM_levelAlone_0 hl hR.mi hc2, rfl⟩
  · refine ⟨1, (-1), uI I 30 8 1, e, _, ⟨by decide, by decide, by decide, by decide⟩, sh_ex (tL_levelAlone hl ⟨by decide, by decide⟩ ⟨by decide, by decide⟩ (cC_levelAlone_1 hl (nb hc)) hx (fun E w1 h => h.1)) (fun _ _ h => h) (fun w1 v h => ?_) (by decide), cM_levelAlone_1 hl (nb hc), rfl⟩
    rcases h with ⟨⟨h1, h2⟩, h3⟩
    · exact ⟨h3, _, _, _, _, _, _, h2, rfl, hR.thr 1⟩
set_option maxRecDepth 100000 in
set_option maxHeartbeats 4000000 in
theorem sm_channelByLevel (hl : l.stackTraces = false) (h : RW a E0 x I e w) (p0 : Int32) : SimI D a E0 l x o m am f yL_channelByLevel wsL_channelByLevel yX6_channelByLevel wsX6_channelByLevel [.int p0] Int32.toInt64 w I e := by
  obtain ⟨n, cap, A, g, en, S, rfl, rfl, hR⟩ := h
  obtain ⟨hR0, hRI, hRN, hC, hF, hL, hG, hE, hS, hen⟩ := id hR
  have hN := hR.cn
  have hx := wC_x (a := a) (E0 := E0) (n := n) (cap := cap) (A := A) (g := g) (en := en) (S := S)
  by_cases hc : chB p0 = true
  · obtain ⟨c, hc2, rfl⟩ := chB_iff.mp hc
    exact ⟨0, (cbL (lvF (uI I 30 8 0) g (n 1) (n 2)) c 12 0 (-1)), (uI I 30 8 0), e, _, ⟨by decide, by decide, by decide, by decide⟩, sh_ok (tL_channelByLevel hl ⟨by decide, by decide⟩ ⟨by decide, by decide⟩ (cC_channelByLevel_0 hl hN hR.ce hc2) hx (fun _ _ h => h.elim)) (fun r w1 hh => ⟨hh.1.trans (cb_all hc2 (fun j hj => (hR.thr 0).lev hj) _ _), _, _, _, _, _, _, hh.2, rfl, (hR.thr 0).row⟩) (fun _ _ h => h.1.elim), cM_channelByLevel_0 hl hR.mi hc2, rfl⟩
  · refine ⟨1, (-1), uI I 30 8 1, e, _, ⟨by decide, by decide, by decide, by decide⟩, sh_ex (tL_channelByLevel hl ⟨by decide, by decide⟩ ⟨by decide, by decide⟩ (cC_channelByLevel_1 hl (nb hc)) hx (fun E w1 h => h.1)) (fun _ _ h => h) (fun w1 v h => ?_) (by decide), cM_channelByLevel_1 hl (nb hc), rfl⟩
    rcases h with ⟨⟨h1, h2⟩, h3⟩
    · exact ⟨h3, _, _, _, _, _, _, h2, rfl, hR.thr 1⟩
set_option maxRecDepth 100000 in
set_option maxHeartbeats 4000000 in
theorem sm_addStep (hl : l.stackTraces = false) (h : RW a E0 x I e w) (p0 p1 p2 : Int32) (hv : chK p0) (hv2 : vp_nar .char p0 = p0) : SimI D a E0 l x o m am f yL_addStep wsL_addStep yX6_addStep wsX6_addStep [.int p0, .int p1, .int p2] Int32.toInt64 w I e := by
  obtain ⟨n, cap, A, g, en, S, rfl, rfl, hR⟩ := h
  obtain ⟨hR0, hRI, hRN, hC, hF, hL, hG, hE, hS, hen⟩ := id hR
  have hN := hR.cn
  have hx := wC_x (a := a) (E0 := E0) (n := n) (cap := cap) (A := A) (g := g) (en := en) (S := S)
  by_cases hb : caB p0 = true
  · by_cases hn : n 3 < 8
    · have hcap : n 3 < cap 3 ∨ cap 3 = 0 := by
        have h1 := hR0.2.2.2.2
        have h2 := hR0.1.1 3 (by decide)
        omega
      exact ⟨0, (nI (n 3 + 1)), (uI (uI (uI (uI (uI I 30 8 0) 23 (n 3) p0) 24 (n 3) p1) 25 (n 3) p2) 30 4 (nI (n 3 + 1))), e, _, ⟨by decide, by decide, by decide, by decide⟩, sh_ok (tL_addStep hl ⟨by decide, by decide⟩ ⟨by decide, by decide⟩ (cC_addStep_0 hl hN hb hv hn hcap) hx (fun _ _ h => h.elim)) (fun r w1 hh => by
          obtain ⟨h1, q, e9, c2, hcN, rfl⟩ := hh
          exact ⟨h1, _, _, _, _, _, _, rfl, by simp [upC, ins1], (hR.thr 0).stp hn hcN _ hb⟩) (fun _ _ h => h.elim (fun h => h.1.elim) (fun h => h.1.elim)), cM_addStep_0 hl hRI.2.2.2 hR0.1.2.2.2.2 hb hn hv2, rfl⟩
    · refine ⟨2, (-1), uI I 30 8 2, e, _, ⟨by decide, by decide, by decide, by decide⟩, sh_ex (tL_addStep hl ⟨by decide, by decide⟩ ⟨by decide, by decide⟩ (cC_addStep_2 hl hN hb hn) hx (fun E w1 h => Or.inr (h.1))) (fun _ _ h => h) (fun w1 v h => ?_) (by decide), cM_addStep_2 hl hRI.2.2.2 hR0.1.2.2.2.2 hb (by have := hR0.1.2.2.2.2; omega), rfl⟩
      rcases h with ⟨⟨h1, h2⟩, h3⟩ | ⟨⟨h1, h2⟩, h3⟩
      · exact absurd h1 (by decide)
      · exact ⟨h3, _, _, _, _, _, _, h2, rfl, hR.thr 2⟩
  · refine ⟨1, (-1), uI I 30 8 1, e, _, ⟨by decide, by decide, by decide, by decide⟩, sh_ex (tL_addStep hl ⟨by decide, by decide⟩ ⟨by decide, by decide⟩ (cC_addStep_1 hl hN (nb hb)) hx (fun E w1 h => Or.inl h.1)) (fun _ _ h => h) (fun w1 v h => ?_) (by decide), cM_addStep_1 hl hRI.2.2.2 hR0.1.2.2.2.2 (nb hb), rfl⟩
    rcases h with ⟨⟨h1, h2⟩, h3⟩ | ⟨⟨h1, h2⟩, h3⟩
    · exact ⟨h3, _, _, _, _, _, _, h2, rfl, hR.thr 1⟩
    · exact absurd h1 (by decide)
set_option maxRecDepth 100000 in
set_option maxHeartbeats 4000000 in
theorem sm_macroFault (hl : l.stackTraces = false) (h : RW a E0 x I e w)  : SimI D a E0 l x o m am f yL_macroFault wsL_macroFault yX6_macroFault wsX6_macroFault [] Int32.toInt64 w I e := by
  obtain ⟨n, cap, A, g, en, S, rfl, rfl, hR⟩ := h
  obtain ⟨hR0, hRI, hRN, hC, hF, hL, hG, hE, hS, hen⟩ := id hR
  have hN := hR.cn
  have hx := wC_x (a := a) (E0 := E0) (n := n) (cap := cap) (A := A) (g := g) (en := en) (S := S)
  by_cases hs : I 30 5 = 32
  · refine ⟨1, (I 30 5), uI I 30 8 1, e, _, ⟨by decide, by decide, by decide, by decide⟩, sh_ex (tL_macroFault hl ⟨by decide, by decide⟩ ⟨by decide, by decide⟩ (cC_macroFault_1 hl (hRN.2.2.2.1.trans hs)) hx (fun E w1 h => h.1)) (fun _ _ h => h) (fun w1 v h => ?_) (by decide), cM_macroFault_1 hl hs, rfl⟩
    rcases h with ⟨⟨h1, h2⟩, h3⟩
    · exact ⟨h3, _, _, _, _, _, _, h2, rfl, hR.thr 1⟩
  · exact ⟨0, (I 30 5), (uI I 30 8 0), e, _, ⟨by decide, by decide, by decide, by decide⟩, sh_ok (tL_macroFault hl ⟨by decide, by decide⟩ ⟨by decide, by decide⟩ (cC_macroFault_0 hl (fun q => hs (hRN.2.2.2.1.symm.trans q)) (by rw [hRN.2.2.2.1]; exact hRN.2.2.2.2.2)) hx (fun _ _ h => h.elim)) (fun r w1 hh => ⟨hh.1.trans (hRN.2.2.2.1), _, _, _, _, _, _, hh.2, rfl, hR.thr 0⟩) (fun _ _ h => h.1.elim), cM_macroFault_0 hl hs hRN.2.2.2.2.2.1, rfl⟩
end SM
