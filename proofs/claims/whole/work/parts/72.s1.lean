section SM
variable {l : Launch} {D : va_G} {a : Nat → ClassId} {E0 x o m : Nat} {am : Nat → Nat} {w : va_W} {f : Nat → Int64} {fd : Nat → UInt64} {I : Nat → Nat → Int32} {e : Int64}
set_option maxRecDepth 100000 in
set_option maxHeartbeats 4000000 in
theorem sm_cueLevel (hl : l.stackTraces = false) (h : RW a E0 x I e w) (p0 : Int32) : SimI D a E0 l x o m am f yL_cueLevel wsL_cueLevel yX6_cueLevel wsX6_cueLevel [.int p0] Int32.toInt64 w I e := by
  obtain ⟨n, cap, A, g, en, S, rfl, rfl, hR⟩ := h
  obtain ⟨hR0, hRI, hRN, hC, hF, hL, hG, hE, hS, hen⟩ := id hR
  have hN := hR.cn
  have hx := wC_x (a := a) (E0 := E0) (n := n) (cap := cap) (A := A) (g := g) (en := en) (S := S)
  by_cases hc : chB p0 = true
  · obtain ⟨c, hc2, rfl⟩ := chB_iff.mp hc
    exact ⟨0, (fadF (uI I 30 8 0) c), (uI I 30 8 0), e, _, ⟨by decide, by decide, by decide, by decide⟩, sh_ok (tL_cueLevel hl ⟨by decide, by decide⟩ ⟨by decide, by decide⟩ (cC_cueLevel_0 hl hc2) hx (fun _ _ h => h.elim)) (fun r w1 hh => ⟨hh.1.trans (((hR.thr 0).2.2.2.2.1 c hc2).lvl), _, _, _, _, _, _, hh.2, rfl, hR.thr 0⟩) (fun _ _ h => h.1.elim), cM_cueLevel_0 hl hc2 (fun q => hR.ht c hc2 q), rfl⟩
  · refine ⟨1, (-1), uI I 30 8 1, e, _, ⟨by decide, by decide, by decide, by decide⟩, sh_ex (tL_cueLevel hl ⟨by decide, by decide⟩ ⟨by decide, by decide⟩ (cC_cueLevel_1 hl (nb hc)) hx (fun E w1 h => h.1)) (fun _ _ h => h) (fun w1 v h => ?_) (by decide), cM_cueLevel_1 hl (nb hc), rfl⟩
    rcases h with ⟨⟨h1, h2⟩, h3⟩
    · exact ⟨h3, _, _, _, _, _, _, h2, rfl, hR.thr 1⟩
set_option maxRecDepth 100000 in
set_option maxHeartbeats 4000000 in
theorem sm_addGroup (hl : l.stackTraces = false) (h : RW a E0 x I e w)  : SimI D a E0 l x o m am f yL_addGroup wsL_addGroup yX6_addGroup wsX6_addGroup [] Int32.toInt64 w I e := by
  obtain ⟨n, cap, A, g, en, S, rfl, rfl, hR⟩ := h
  obtain ⟨hR0, hRI, hRN, hC, hF, hL, hG, hE, hS, hen⟩ := id hR
  have hN := hR.cn
  have hx := wC_x (a := a) (E0 := E0) (n := n) (cap := cap) (A := A) (g := g) (en := en) (S := S)
  by_cases hn : n 1 < 5
  · have hcap : n 1 < cap 1 ∨ cap 1 = 0 := by
      have h1 := hR0.2.2.1
      have h2 := hR0.1.1 1 (by decide)
      omega
    exact ⟨0, (nI (n 1)), (uI (uI I 30 8 0) 30 2 (nI (n 1 + 1))), e, _, ⟨by decide, by decide, by decide, by decide⟩, sh_ok (tL_addGroup hl ⟨by decide, by decide⟩ ⟨by decide, by decide⟩ (cC_addGroup_0 hl hN hn hcap (fun i hi => (hE i hi).2.1)) hx (fun _ _ h => h.elim)) (fun r w1 hh => by
        obtain ⟨h1, q, r2, e9, c2, hcN, rfl⟩ := hh
        exact ⟨h1, _, _, _, _, _, _, rfl, by simp [upC, ins1], (hR.thr 0).grp hn hcN _⟩) (fun _ _ h => h.1.elim), cM_addGroup_0 hl hRI.2.1 hR0.1.2.2.1 hn, rfl⟩
  · refine ⟨1, (-1), uI I 30 8 1, e, _, ⟨by decide, by decide, by decide, by decide⟩, sh_ex (tL_addGroup hl ⟨by decide, by decide⟩ ⟨by decide, by decide⟩ (cC_addGroup_1 hl hN hn) hx (fun E w1 h => h.1)) (fun _ _ h => h) (fun w1 v h => ?_) (by decide), cM_addGroup_1 hl hRI.2.1 hR0.1.2.2.1 (by have := hR0.1.2.2.1; omega), rfl⟩
    rcases h with ⟨⟨h1, h2⟩, h3⟩
    · exact ⟨h3, _, _, _, _, _, _, h2, rfl, hR.thr 1⟩
set_option maxRecDepth 100000 in
set_option maxHeartbeats 4000000 in
theorem sm_setMember (hl : l.stackTraces = false) (h : RW a E0 x I e w) (p0 p1 : Int32) (b : Bool) : SimI D a E0 l x o m am f yL_setMember wsL_setMember yX6_setMember wsX6_setMember [.int p0, .int p1, .int (bI b)] zB w I e := by
  obtain ⟨n, cap, A, g, en, S, rfl, rfl, hR⟩ := h
  obtain ⟨hR0, hRI, hRN, hC, hF, hL, hG, hE, hS, hen⟩ := id hR
  have hN := hR.cn
  have hx := wC_x (a := a) (E0 := E0) (n := n) (cap := cap) (A := A) (g := g) (en := en) (S := S)
  by_cases hu : upB (n 1) p0 = true
  · obtain ⟨G, hG1, rfl⟩ := (upB_iff (by have := hR0.1.2.2; omega)).mp hu
    by_cases hc : chB p1 = true
    · obtain ⟨c, hc2, rfl⟩ := chB_iff.mp hc
      exact ⟨0, (bI (mbB (I 14 G) c)), (if mbB (I 14 G) c = b then (uI I 30 8 0) else uI (uI I 30 8 0) 14 G (I 14 G ^^^ (1 <<< (nI c &&& 31)))), e, _, ⟨by decide, by decide, by decide, by decide⟩, sh_ok (tL_setMember hl ⟨by decide, by decide⟩ ⟨by decide, by decide⟩ (cC_setMember_0 hl hN hG1 hc2 (by rw [(hG.1 G hG1).2 c hc2]; exact boK_bI _)) hx (fun _ _ h => h.elim)) (fun r w1 hh => ⟨hh.1.trans ((hG.1 G hG1).2 c hc2), _, _, _, _, _, _, hh.2, rfl, (hR.thr 0).mem hG1 hc2 b⟩) (fun _ _ h => h.1.elim), cM_setMember_0 hl hRI.2.1 hR0.1.2.2.1 hG1 hc2, by split <;> rfl⟩
    · refine ⟨1, (bI false), uI I 30 8 1, e, _, ⟨by decide, by decide, by decide, by decide⟩, sh_ex (tL_setMember hl ⟨by decide, by decide⟩ ⟨by decide, by decide⟩ (cC_setMember_2 hl hN hG1 (nb hc)) hx (fun E w1 h => h.1)) (fun _ _ h => h) (fun w1 v h => ?_) (by decide), cM_setMember_1b hl hRI.2.1 hR0.1.2.2.1 hG1 (nb hc), rfl⟩
      rcases h with ⟨⟨h1, h2⟩, h3⟩
      · exact ⟨h3, _, _, _, _, _, _, h2, rfl, hR.thr 1⟩
  · refine ⟨1, (bI false), uI I 30 8 1, e, _, ⟨by decide, by decide, by decide, by decide⟩, sh_ex (tL_setMember hl ⟨by decide, by decide⟩ ⟨by decide, by decide⟩ (cC_setMember_1 hl (nb hu)) hx (fun E w1 h => h.1)) (fun _ _ h => h) (fun w1 v h => ?_) (by decide), cM_setMember_1 hl hRI.2.1 hR0.1.2.2.1 (nb hu), rfl⟩
    rcases h with ⟨⟨h1, h2⟩, h3⟩
    · exact ⟨h3, _, _, _, _, _, _, h2, rfl, hR.thr 1⟩
set_option maxRecDepth 100000 in
set_option maxHeartbeats 4000000 in
theorem sm_setFader (hl : l.stackTraces = false) (h : RW a E0 x I e w) (p0 p1 : Int32) : SimI D a E0 l x o m am f yL_setFader wsL_setFader yX6_setFader wsX6_setFader [.int p0, .int p1] Int32.toInt64 w I e := by
  obtain ⟨n, cap, A, g, en, S, rfl, rfl, hR⟩ := h
  obtain ⟨hR0, hRI, hRN, hC, hF, hL, hG, hE, hS, hen⟩ := id hR
  have hN := hR.cn
  have hx := wC_x (a := a) (E0 := E0) (n := n) (cap := cap) (A := A) (g := g) (en := en) (S := S)
  by_cases hu : upB (n 1) p0 = true
  · obtain ⟨G, hG1, rfl⟩ := (upB_iff (by have := hR0.1.2.2; omega)).mp hu
    by_cases hv : lvB p1 = true
    · obtain ⟨lv, hlv, rfl⟩ := lvB_iff.mp hv
      exact ⟨0, (I 15 G), (sfM (uI I 30 8 0) G lv), e, _, ⟨by decide, by decide, by decide, by decide⟩, sh_ok (tL_setFader hl ⟨by decide, by decide⟩ ⟨by decide, by decide⟩ (cC_setFader_0 hl hN hG1 hv) hx (fun _ _ h => h.elim)) (fun r w1 hh => ⟨hh.1.trans ((hG.1 G hG1).1), _, _, _, _, _, _, hh.2, rfl, (hR.thr 0).fad hG1⟩) (fun _ _ h => h.elim (fun h => h.1.elim) (fun h => h.1.elim)), cM_setFader_0 hl hRI.2.1 hR0.1.2.2.1 hG1 hlv, sfM_thr _ _ _⟩
    · refine ⟨2, (-1), uI I 30 8 2, e, _, ⟨by decide, by decide, by decide, by decide⟩, sh_ex (tL_setFader hl ⟨by decide, by decide⟩ ⟨by decide, by decide⟩ (cC_setFader_2 hl hN hG1 (nb hv)) hx (fun E w1 h => Or.inr (h.1))) (fun _ _ h => h) (fun w1 v h => ?_) (by decide), cM_setFader_2 hl hRI.2.1 hR0.1.2.2.1 hG1 (nb hv), rfl⟩
      rcases h with ⟨⟨h1, h2⟩, h3⟩ | ⟨⟨h1, h2⟩, h3⟩
      · exact absurd h1 (by decide)
      · exact ⟨h3, _, _, _, _, _, _, h2, rfl, hR.thr 2⟩
  · refine ⟨1, (-1), uI I 30 8 1, e, _, ⟨by decide, by decide, by decide, by decide⟩, sh_ex (tL_setFader hl ⟨by decide, by decide⟩ ⟨by decide, by decide⟩ (cC_setFader_1 hl (nb hu)) hx (fun E w1 h => Or.inl h.1)) (fun _ _ h => h) (fun w1 v h => ?_) (by decide), cM_setFader_1 hl hRI.2.1 hR0.1.2.2.1 (nb hu), rfl⟩
    rcases h with ⟨⟨h1, h2⟩, h3⟩ | ⟨⟨h1, h2⟩, h3⟩
    · exact ⟨h3, _, _, _, _, _, _, h2, rfl, hR.thr 1⟩
    · exact absurd h1 (by decide)
set_option maxRecDepth 100000 in
set_option maxHeartbeats 4000000 in
theorem sm_setLatest (hl : l.stackTraces = false) (h : RW a E0 x I e w) (p0 : Int32) (b : Bool) : SimI D a E0 l x o m am f yL_setLatest wsL_setLatest yX6_setLatest wsX6_setLatest [.int p0, .int (bI b)] zB w I e := by
  obtain ⟨n, cap, A, g, en, S, rfl, rfl, hR⟩ := h
  obtain ⟨hR0, hRI, hRN, hC, hF, hL, hG, hE, hS, hen⟩ := id hR
  have hN := hR.cn
  have hx := wC_x (a := a) (E0 := E0) (n := n) (cap := cap) (A := A) (g := g) (en := en) (S := S)
  by_cases hc : chB p0 = true
  · obtain ⟨c, hc2, rfl⟩ := chB_iff.mp hc
    have o := hL c hc2
    exact ⟨0, (if I 11 c = 0 then 0 else 1), (uI (uI I 30 8 0) 11 c (bI b)), e, _, ⟨by decide, by decide, by decide, by decide⟩, sh_ok (tL_setLatest hl ⟨by decide, by decide⟩ ⟨by decide, by decide⟩ (cC_setLatest_0 hl hc2 (by rw [o.1]; exact bok o.2.1)) hx (fun _ _ h => h.elim)) (fun r w1 hh => ⟨hh.1.trans (by rw [o.1]; exact bv o.2.1), _, _, _, _, _, _, hh.2, rfl, (hR.thr 0).lat b c⟩) (fun _ _ h => h.1.elim), cM_setLatest_0 hl hc2, rfl⟩
  · refine ⟨1, 0, uI I 30 8 1, e, _, ⟨by decide, by decide, by decide, by decide⟩, sh_ex (tL_setLatest hl ⟨by decide, by decide⟩ ⟨by decide, by decide⟩ (cC_setLatest_1 hl (nb hc)) hx (fun E w1 h => h.1)) (fun _ _ h => h) (fun w1 v h => ?_) (by decide), cM_setLatest_1 hl (nb hc), rfl⟩
    rcases h with ⟨⟨h1, h2⟩, h3⟩
    · exact ⟨h3, _, _, _, _, _, _, h2, rfl, hR.thr 1⟩
set_option maxRecDepth 100000 in
set_option maxHeartbeats 4000000 in
theorem sm_latestSource (hl : l.stackTraces = false) (h : RW a E0 x I e w) (p0 : Int32) : SimI D a E0 l x o m am f yL_latestSource wsL_latestSource yX6_latestSource wsX6_latestSource [.int p0] Int32.toInt64 w I e := by
  obtain ⟨n, cap, A, g, en, S, rfl, rfl, hR⟩ := h
  obtain ⟨hR0, hRI, hRN, hC, hF, hL, hG, hE, hS, hen⟩ := id hR
  have hN := hR.cn
  have hx := wC_x (a := a) (E0 := E0) (n := n) (cap := cap) (A := A) (g := g) (en := en) (S := S)
  by_cases hc : chB p0 = true
  · obtain ⟨c, hc2, rfl⟩ := chB_iff.mp hc
    have o := hL c hc2
    by_cases hs : I 12 c = -2
    · refine ⟨2, (-1), uI I 30 8 2, e, _, ⟨by decide, by decide, by decide, by decide⟩, sh_ex (tL_latestSource hl ⟨by decide, by decide⟩ ⟨by decide, by decide⟩ (cC_latestSource_2 hl hc2 (o.2.2.1.trans hs)) hx (fun E w1 h => Or.inr (h.1))) (fun _ _ h => h) (fun w1 v h => ?_) (by decide), cM_latestSource_2 hl hc2 hs, rfl⟩
      rcases h with ⟨⟨h1, h2⟩, h3⟩ | ⟨⟨h1, h2⟩, h3⟩
      · exact absurd h1 (by decide)
      · exact ⟨h3, _, _, _, _, _, _, h2, rfl, hR.thr 2⟩
    · exact ⟨0, (I 12 c), (uI I 30 8 0), e, _, ⟨by decide, by decide, by decide, by decide⟩, sh_ok (tL_latestSource hl ⟨by decide, by decide⟩ ⟨by decide, by decide⟩ (cC_latestSource_0 hl hc2 (fun q => hs (o.2.2.1.symm.trans q))) hx (fun _ _ h => h.elim)) (fun r w1 hh => ⟨hh.1.trans (o.2.2.1), _, _, _, _, _, _, hh.2, rfl, hR.thr 0⟩) (fun _ _ h => h.elim (fun h => h.1.elim) (fun h => h.1.elim)), cM_latestSource_0 hl hc2 hs, rfl⟩
  · refine ⟨1, (-1), uI I 30 8 1, e, _, ⟨by decide, by decide, by decide, by decide⟩, sh_ex (tL_latestSource hl ⟨by decide, by decide⟩ ⟨by decide, by decide⟩ (cC_latestSource_1 hl (nb hc)) hx (fun E w1 h => Or.inl h.1)) (fun _ _ h => h) (fun w1 v h => ?_) (by decide), cM_latestSource_1 hl (nb hc), rfl⟩
    rcases h with ⟨⟨h1, h2⟩, h3⟩ | ⟨⟨h1, h2⟩, h3⟩
    · exact ⟨h3, _, _, _, _, _, _, h2, rfl, hR.thr 1⟩
    · exact absurd h1 (by decide)
set_option maxRecDepth 100000 in
set_option maxHeartbeats 4000000 in
theorem sm_baseLevel (hl : l.stackTraces = false) (h : RW a E0 x I e w) (p0 : Int32) : SimI D a E0 l x o m am f yL_baseLevel wsL_baseLevel yX6_baseLevel wsX6_baseLevel [.int p0] Int32.toInt64 w I e := by
  obtain ⟨n, cap, A, g, en, S, rfl, rfl, hR⟩ := h
  obtain ⟨hR0, hRI, hRN, hC, hF, hL, hG, hE, hS, hen⟩ := id hR
  have hN := hR.cn
  have hx := wC_x (a := a) (E0 := E0) (n := n) (cap := cap) (A := A) (g := g) (en := en) (S := S)
  by_cases hc : chB p0 = true
  · obtain ⟨c, hc2, rfl⟩ := chB_iff.mp hc
    exact ⟨0, (bsF (uI I 30 8 0) (n 1) c), (uI I 30 8 0), e, _, ⟨by decide, by decide, by decide, by decide⟩, sh_ok (tL_baseLevel hl ⟨by decide, by decide⟩ ⟨by decide, by decide⟩ (cC_baseLevel_0 hl hN hc2) hx (fun _ _ h => h.elim)) (fun r w1 hh => ⟨hh.1.trans (bs_eq (hR.thr 0).2.2.2.2.1 (hR.thr 0).2.2.2.2.2.1 (hR.thr 0).2.2.2.2.2.2.1 hR0.1.2.2.1 hc2), _, _, _, _, _, _, hh.2, rfl, hR.thr 0⟩) (fun _ _ h => h.1.elim), cM_baseLevel_0 hl hR.mi hc2, rfl⟩
  · refine ⟨1, (-1), uI I 30 8 1, e, _, ⟨by decide, by decide, by decide, by decide⟩, sh_ex (tL_baseLevel hl ⟨by decide, by decide⟩ ⟨by decide, by decide⟩ (cC_baseLevel_1 hl (nb hc)) hx (fun E w1 h => h.1)) (fun _ _ h => h) (fun w1 v h => ?_) (by decide), cM_baseLevel_1 hl (nb hc), rfl⟩
    rcases h with ⟨⟨h1, h2⟩, h3⟩
    · exact ⟨h3, _, _, _, _, _, _, h2, rfl, hR.thr 1⟩
set_option maxRecDepth 100000 in
set_option maxHeartbeats 4000000 in
theorem sm_addEffect (hl : l.stackTraces = false) (h : RW a E0 x I e w) (p0 p1 p2 p3 p4 : Int32) (hv : chK p1) (hv2 : vp_nar .char p1 = p1) : SimI D a E0 l x o m am f yL_addEffect wsL_addEffect yX6_addEffect wsX6_addEffect [.int p0, .int p1, .int p2, .int p3, .int p4] Int32.toInt64 w I e := by
  obtain ⟨n, cap, A, g, en, S, rfl, rfl, hR⟩ := h
  obtain ⟨hR0, hRI, hRN, hC, hF, hL, hG, hE, hS, hen⟩ := id hR
  have hN := hR.cn
  have hx := wC_x (a := a) (E0 := E0) (n := n) (cap := cap) (A := A) (g := g) (en := en) (S := S)
  by_cases hu : upB (n 1) p0 = true
  · obtain ⟨G, hG1, rfl⟩ := (upB_iff (by have := hR0.1.2.2; omega)).mp hu
    by_cases hb : effB p1 p2 p3 p4 = true
    · by_cases hn : n 2 < 4
      · have hcap : n 2 < cap 2 ∨ cap 2 = 0 := by
          have h1 := hR0.2.2.2.1
          have h2 := hR0.1.1 2 (by decide)
          omega
        exact ⟨0, (nI (n 2)), (uI (uI (uI (uI (uI (uI (uI (uI I 30 8 0) 16 (n 2) (nI G)) 17 (n 2) p1) 18 (n 2) p2) 19 (n 2) p3) 20 (n 2) p4) 22 (n 2) 0) 30 3 (nI (n 2 + 1))), e, _, ⟨by decide, by decide, by decide, by decide⟩, sh_ok (tL_addEffect hl ⟨by decide, by decide⟩ ⟨by decide, by decide⟩ (cC_addEffect_0 hl hN hG1 hb hv hn hcap) hx (fun _ _ h => h.elim)) (fun r w1 hh => by
            obtain ⟨h1, q, e9, c2, hcN, rfl⟩ := hh
            exact ⟨h1, _, _, _, _, _, _, rfl, by simp [upC, ins1], (hR.thr 0).eff hn hcN _ hG1 hb⟩) (fun _ _ h => h.elim (fun h => h.1.elim) (fun h => h.elim (fun h => h.1.elim) (fun h => h.1.elim))), cM_addEffect_0 hl hRI.2.1 hR0.1.2.2.1 hRI.2.2.1 hG1 hb hn hv2, rfl⟩
      · refine ⟨3, (-1), uI I 30 8 3, e, _, ⟨by decide, by decide, by decide, by decide⟩, sh_ex (tL_addEffect hl ⟨by decide, by decide⟩ ⟨by decide, by decide⟩ (cC_addEffect_3 hl hN hG1 hb hn) hx (fun E w1 h => Or.inr (Or.inr (h.1)))) (fun _ _ h => h) (fun w1 v h => ?_) (by decide), cM_addEffect_3 hl hRI.2.1 hR0.1.2.2.1 hRI.2.2.1 hG1 hb (by have := hR0.1.2.2.2.1; omega), rfl⟩
        rcases h with ⟨⟨h1, h2⟩, h3⟩ | ⟨⟨h1, h2⟩, h3⟩ | ⟨⟨h1, h2⟩, h3⟩
        · exact absurd h1 (by decide)
        · exact absurd h1 (by decide)
        · exact ⟨h3, _, _, _, _, _, _, h2, rfl, hR.thr 3⟩
    · refine ⟨2, (-1), uI I 30 8 2, e, _, ⟨by decide, by decide, by decide, by decide⟩, sh_ex (tL_addEffect hl ⟨by decide, by decide⟩ ⟨by decide, by decide⟩ (cC_addEffect_2 hl hN hG1 (nb hb)) hx (fun E w1 h => Or.inr (Or.inl h.1))) (fun _ _ h => h) (fun w1 v h => ?_) (by decide), cM_addEffect_2 hl hRI.2.1 hR0.1.2.2.1 hG1 (nb hb), rfl⟩
      rcases h with ⟨⟨h1, h2⟩, h3⟩ | ⟨⟨h1, h2⟩, h3⟩ | ⟨⟨h1, h2⟩, h3⟩
      · exact absurd h1 (by decide)
      · exact ⟨h3, _, _, _, _, _, _, h2, rfl, hR.thr 2⟩
      · exact absurd h1 (by decide)
  · refine ⟨1, (-1), uI I 30 8 1, e, _, ⟨by decide, by decide, by decide, by decide⟩, sh_ex (tL_addEffect hl ⟨by decide, by decide⟩ ⟨by decide, by decide⟩ (cC_addEffect_1 hl hN (nb hu)) hx (fun E w1 h => Or.inl h.1)) (fun _ _ h => h) (fun w1 v h => ?_) (by decide), cM_addEffect_1 hl hRI.2.1 hR0.1.2.2.1 (nb hu), rfl⟩
    rcases h with ⟨⟨h1, h2⟩, h3⟩ | ⟨⟨h1, h2⟩, h3⟩ | ⟨⟨h1, h2⟩, h3⟩
    · exact ⟨h3, _, _, _, _, _, _, h2, rfl, hR.thr 1⟩
    · exact absurd h1 (by decide)
    · exact absurd h1 (by decide)
set_option maxRecDepth 100000 in
set_option maxHeartbeats 4000000 in
theorem sm_startEffect (hl : l.stackTraces = false) (h : RW a E0 x I e w) (p0 : Int32) : SimI D a E0 l x o m am f yL_startEffect wsL_startEffect yX6_startEffect wsX6_startEffect [.int p0] Int32.toInt64 w I e := by
  obtain ⟨n, cap, A, g, en, S, rfl, rfl, hR⟩ := h
  obtain ⟨hR0, hRI, hRN, hC, hF, hL, hG, hE, hS, hen⟩ := id hR
  have hN := hR.cn
  have hx := wC_x (a := a) (E0 := E0) (n := n) (cap := cap) (A := A) (g := g) (en := en) (S := S)
  by_cases hu : upB (n 2) p0 = true
  · obtain ⟨e1, hG1, rfl⟩ := (upB_iff (by have := hR0.1.2.2; omega)).mp hu
    have o := hE e1 hG1
    by_cases hr : I 22 e1 = 0
    · exact ⟨0, (nI (ctL (upd (I 22) e1 1) (n 2) 0 0)), (uI (uI (uI I 30 8 0) 22 e1 1) 21 e1 (I 30 6)), e, _, ⟨by decide, by decide, by decide, by decide⟩, sh_ok (tL_startEffect hl ⟨by decide, by decide⟩ ⟨by decide, by decide⟩ (cC_startEffect_0 hl hN hG1 (o.2.2.2.2.2.2.2.2.1.trans hr)) hx (fun _ _ h => h.elim)) (fun r w1 hh => ⟨hh.1.trans (by rw [rn_eq ((hR.thr 0).sta e1).2.2.2.2.2.2.2.1 (n 2) 0 0 (by omega)]; rfl), _, _, _, _, _, _, hh.2, rfl, (hR.thr 0).sta e1⟩) (fun _ _ h => h.elim (fun h => h.1.elim) (fun h => h.1.elim)), cM_startEffect_0 hl hRI.2.2.1 hR0.1.2.2.2.1 hG1 hr, rfl⟩
    · refine ⟨2, (-1), uI I 30 8 2, e, _, ⟨by decide, by decide, by decide, by decide⟩, sh_ex (tL_startEffect hl ⟨by decide, by decide⟩ ⟨by decide, by decide⟩ (cC_startEffect_2 hl hN hG1 (fun q => hr (o.2.2.2.2.2.2.2.2.1.symm.trans q))) hx (fun E w1 h => Or.inr (h.1))) (fun _ _ h => h) (fun w1 v h => ?_) (by decide), cM_startEffect_2 hl hRI.2.2.1 hR0.1.2.2.2.1 hG1 hr, rfl⟩
      rcases h with ⟨⟨h1, h2⟩, h3⟩ | ⟨⟨h1, h2⟩, h3⟩
      · exact absurd h1 (by decide)
      · exact ⟨h3, _, _, _, _, _, _, h2, rfl, hR.thr 2⟩
  · refine ⟨1, (-1), uI I 30 8 1, e, _, ⟨by decide, by decide, by decide, by decide⟩, sh_ex (tL_startEffect hl ⟨by decide, by decide⟩ ⟨by decide, by decide⟩ (cC_startEffect_1 hl (nb hu)) hx (fun E w1 h => Or.inl h.1)) (fun _ _ h => h) (fun w1 v h => ?_) (by decide), cM_startEffect_1 hl hRI.2.2.1 hR0.1.2.2.2.1 (nb hu), rfl⟩
    rcases h with ⟨⟨h1, h2⟩, h3⟩ | ⟨⟨h1, h2⟩, h3⟩
    · exact ⟨h3, _, _, _, _, _, _, h2, rfl, hR.thr 1⟩
    · exact absurd h1 (by decide)
set_option maxRecDepth 100000 in
set_option maxHeartbeats 4000000 in
theorem sm_stopEffect (hl : l.stackTraces = false) (h : RW a E0 x I e w) (p0 : Int32) : SimI D a E0 l x o m am f yL_stopEffect wsL_stopEffect yX6_stopEffect wsX6_stopEffect [.int p0] Int32.toInt64 w I e := by
  obtain ⟨n, cap, A, g, en, S, rfl, rfl, hR⟩ := h
  obtain ⟨hR0, hRI, hRN, hC, hF, hL, hG, hE, hS, hen⟩ := id hR
  have hN := hR.cn
  have hx := wC_x (a := a) (E0 := E0) (n := n) (cap := cap) (A := A) (g := g) (en := en) (S := S)
  by_cases hu : upB (n 2) p0 = true
  · obtain ⟨e1, hG1, rfl⟩ := (upB_iff (by have := hR0.1.2.2; omega)).mp hu
    have o := hE e1 hG1
    by_cases hr : I 22 e1 = 0
    · refine ⟨2, (-1), uI I 30 8 2, e, _, ⟨by decide, by decide, by decide, by decide⟩, sh_ex (tL_stopEffect hl ⟨by decide, by decide⟩ ⟨by decide, by decide⟩ (cC_stopEffect_2 hl hN hG1 (o.2.2.2.2.2.2.2.2.1.trans hr)) hx (fun E w1 h => Or.inr (h.1))) (fun _ _ h => h) (fun w1 v h => ?_) (by decide), cM_stopEffect_2 hl hRI.2.2.1 hR0.1.2.2.2.1 hG1 hr, rfl⟩
      rcases h with ⟨⟨h1, h2⟩, h3⟩ | ⟨⟨h1, h2⟩, h3⟩
      · exact absurd h1 (by decide)
      · exact ⟨h3, _, _, _, _, _, _, h2, rfl, hR.thr 2⟩
    · exact ⟨0, (I 30 6 - I 21 e1), (uI (uI I 30 8 0) 22 e1 0), e, _, ⟨by decide, by decide, by decide, by decide⟩, sh_ok (tL_stopEffect hl ⟨by decide, by decide⟩ ⟨by decide, by decide⟩ (cC_stopEffect_0 hl hN hG1 (fun q => hr (o.2.2.2.2.2.2.2.2.1.symm.trans q))) hx (fun _ _ h => h.elim)) (fun r w1 hh => ⟨hh.1.trans (by rw [hRN.2.1, o.2.2.2.2.2.2.2.2.2.2 hr]), _, _, _, _, _, _, hh.2, rfl, (hR.thr 0).sto e1⟩) (fun _ _ h => h.elim (fun h => h.1.elim) (fun h => h.1.elim)), cM_stopEffect_0 hl hRI.2.2.1 hR0.1.2.2.2.1 hG1 hr, rfl⟩
  · refine ⟨1, (-1), uI I 30 8 1, e, _, ⟨by decide, by decide, by decide, by decide⟩, sh_ex (tL_stopEffect hl ⟨by decide, by decide⟩ ⟨by decide, by decide⟩ (cC_stopEffect_1 hl (nb hu)) hx (fun E w1 h => Or.inl h.1)) (fun _ _ h => h) (fun w1 v h => ?_) (by decide), cM_stopEffect_1 hl hRI.2.2.1 hR0.1.2.2.2.1 (nb hu), rfl⟩
    rcases h with ⟨⟨h1, h2⟩, h3⟩ | ⟨⟨h1, h2⟩, h3⟩
    · exact ⟨h3, _, _, _, _, _, _, h2, rfl, hR.thr 1⟩
    · exact absurd h1 (by decide)
end SM
