section CC
variable {l : Launch} {Γ : Gm} {D : va_G} {a : Nat → ClassId} {E0 : Nat} {n cap : Nat → Nat} {A : Nat → Nat → Nat} {g : Nat → Nat} {en : Int64} {S : Nat → Nat → Nat → Int32}
set_option maxRecDepth 100000 in
set_option maxHeartbeats 4000000 in
theorem cC_trackedLevel_1 (hl : l.stackTraces = false) {x z : Int32} (hN : CN n cap) (hq : hqC S (n 0) x = false)  : Ct (gm D a E0) l yX5_trackedLevel wsX5_trackedLevel { frames := 28, cells := 1, slots := 6, locals := 700 } [.ref (A 0 0), .int x, .int z] (wC a E0 n cap A g en S) (qI fun _ _ => False) (fun E w => E = "java/util/NoSuchElementException" ∧ w = wC a E0 n cap A g en S) := by
  refine Ct.of [some (.ref (A 0 0)), some (.int x), some (.int z), none] rfl hl (by decide) (Nat.le_of_ble_eq_true rfl) rfl (fun φ C0 => ?_)
  have C := C0.1
  refine x_aload_n C 1 dX5_trackedLevel_0 rfl rfl ?_
  refine x_iload_n C 2 dX5_trackedLevel_1 rfl rfl ?_
  exact xc_callVx_i C0 5 1 6 0 0 9 1 (cC_requireCue_1 hl hN hq) rfl gX5_trackedLevel_X5_requireCue ⟨rfl, by decide, by decide, rfl⟩ ⟨Nat.le_of_ble_eq_true rfl, Nat.le_of_ble_eq_true rfl⟩ rfl (by decide) (show 0 < 1 by decide) rfl rfl rfl (Nat.le_of_ble_eq_true rfl) ⟨Nat.le_of_ble_eq_true rfl, Nat.le_of_ble_eq_true rfl⟩ dX5_trackedLevel_2 rfl rfl rfl (fun _ _ h => h.elim) (fun E w h => h)
set_option maxRecDepth 100000 in
set_option maxHeartbeats 4000000 in
theorem cC_trackedLevel_2 (hl : l.stackTraces = false) {x z : Int32} (hN : CN n cap) (hq : hqC S (n 0) x = true) (hc : chB z = false)  : Ct (gm D a E0) l yX5_trackedLevel wsX5_trackedLevel { frames := 28, cells := 1, slots := 6, locals := 700 } [.ref (A 0 0), .int x, .int z] (wC a E0 n cap A g en S) (qI fun _ _ => False) (fun E w => E = "java/lang/IndexOutOfBoundsException" ∧ w = wC a E0 n cap A g en S) := by
  refine Ct.of [some (.ref (A 0 0)), some (.int x), some (.int z), none] rfl hl (by decide) (Nat.le_of_ble_eq_true rfl) rfl (fun φ C0 => ?_)
  have C := C0.1
  refine x_aload_n C 1 dX5_trackedLevel_0 rfl rfl ?_
  refine x_iload_n C 2 dX5_trackedLevel_1 rfl rfl ?_
  refine xc_callV_i C 5 0 0 0 0 9 1 (cC_requireCue_0 hl hN hq) rfl gX5_trackedLevel_X5_requireCue ⟨rfl, by decide, by decide, rfl⟩ ⟨Nat.le_of_ble_eq_true rfl, Nat.le_of_ble_eq_true rfl⟩ rfl (by decide) (show 0 < 1 by decide) rfl rfl rfl (Nat.le_of_ble_eq_true rfl) ⟨Nat.le_of_ble_eq_true rfl, Nat.le_of_ble_eq_true rfl⟩ dX5_trackedLevel_2 rfl rfl rfl (fun r1 w1 h1 => ?_)
  obtain ⟨rfl, rfl⟩ := h1
  refine x_istore_n C 6 dX5_trackedLevel_5 (by decide) rfl rfl ?_
  refine x_iload_n C 7 dX5_trackedLevel_6 rfl rfl ?_
  exact x_callSx0_v C0 10 1 6 1 (cC_requireChannel_1 hl hc) rfl gX5_trackedLevel_X5_requireChannel ⟨by decide, by decide, rfl⟩ ⟨Nat.le_of_ble_eq_true rfl, Nat.le_of_ble_eq_true rfl⟩ rfl rfl (Nat.le_of_ble_eq_true rfl) ⟨Nat.le_of_ble_eq_true rfl, Nat.le_of_ble_eq_true rfl⟩ dX5_trackedLevel_7 rfl rfl rfl (fun _ h => h.elim) (fun E w h => h)
theorem fg_X5_cues_10 : gF RX5 wsX5_cues 10 9 0 := ⟨RX5, TX5, 11, "StageConsole", rfl, fun w h => (List.mem_cons_of_mem _ (List.mem_append_left _ (List.mem_append_right _ h))), by decide, (List.mem_cons_of_mem _ (List.mem_append_left _ (List.mem_append_left _ (List.mem_of_getElem? (i := 0) rfl)))), Or.inl rfl⟩
set_option maxRecDepth 100000 in
set_option maxHeartbeats 4000000 in
theorem cC_cues (hl : l.stackTraces = false)  : Ct (gm D a E0) l yX5_cues wsX5_cues { frames := 8, cells := 0, slots := 0, locals := 200 } [.ref (A 0 0)] (wC a E0 n cap A g en S) (qI fun v w => v = nI (n 0) ∧ w = wC a E0 n cap A g en S) noX := by
  refine Ct.of [some (.ref (A 0 0))] rfl hl (by decide) (Nat.le_of_ble_eq_true rfl) rfl (fun φ C0 => ?_)
  have C := C0.1
  refine x_aload_n C 1 dX5_cues_0 rfl rfl ?_
  refine xc_get C 4 0 0 (by decide) (show 0 < 1 by decide) rfl fg_X5_cues_10 rfl dX5_cues_1 rfl ?_
  refine xc_callV_i C 7 0 0 3 0 3 0 (cC_size hl (j := 0) (by decide)) rfl gX5_cues_Jx4a65c_size_8abf5 ⟨rfl, by decide, by decide, rfl⟩ ⟨Nat.le_of_ble_eq_true rfl, Nat.le_of_ble_eq_true rfl⟩ rfl (by decide) (show 0 < 4 by decide) rfl rfl rfl (Nat.le_of_ble_eq_true rfl) ⟨Nat.le_of_ble_eq_true rfl, Nat.le_of_ble_eq_true rfl⟩ dX5_cues_4 rfl rfl rfl (fun r1 w1 h1 => ?_)
  obtain ⟨rfl, rfl⟩ := h1
  exact x_zret C0 dX5_cues_7 (Nat.le_of_ble_eq_true rfl) (Nat.le_of_ble_eq_true rfl) ⟨_, rfl, ⟨rfl, rfl⟩⟩
theorem fg_X5_go_16 : gF RX5 wsX5_go 16 9 1 := ⟨RX5, TX5, 11, "StageConsole", rfl, fun w h => (List.mem_cons_of_mem _ (List.mem_append_left _ (List.mem_append_left _ (List.mem_append_left _ (List.mem_append_left _ (List.mem_append_left _ (List.mem_append_right _ h))))))), by decide, (List.mem_cons_of_mem _ (List.mem_append_left _ (List.mem_append_left _ (List.mem_append_left _ (List.mem_append_left _ (List.mem_append_left _ (List.mem_append_left _ (List.mem_append_left _ (List.mem_of_getElem? (i := 2) rfl))))))))), Or.inl rfl⟩
set_option maxRecDepth 100000 in
set_option maxHeartbeats 4000000 in
theorem cC_go_0 (hl : l.stackTraces = false) (hN : CN n cap) (hp : (poC S (n 0) (S 0 0 0 + 1)) < n 0) (hK : chK (S 5 (poC S (n 0) (S 0 0 0 + 1)) 2))  : Ct (gm D a E0) l yX5_go wsX5_go { frames := 28, cells := 0, slots := 0, locals := 700 } [.ref (A 0 0)] (wC a E0 n cap A g en S) (qI fun v w => v = ppS (poC S (n 0) (S 0 0 0 + 1)) S 0 0 0 ∧ w = wC a E0 n cap A g en (ppS (poC S (n 0) (S 0 0 0 + 1)) S)) noX := by
  refine Ct.of [some (.ref (A 0 0))] rfl hl (by decide) (Nat.le_of_ble_eq_true rfl) rfl (fun φ C0 => ?_)
  have C := C0.1
  refine x_aload_n C 1 dX5_go_0 rfl rfl ?_
  refine xc_callV_i C 4 0 0 0 0 9 0 (cC_hasCueAbove hl hN) rfl gX5_go_X5_hasCueAbove ⟨rfl, by decide, by decide, rfl⟩ ⟨Nat.le_of_ble_eq_true rfl, Nat.le_of_ble_eq_true rfl⟩ rfl (by decide) (show 0 < 1 by decide) rfl rfl rfl (Nat.le_of_ble_eq_true rfl) ⟨Nat.le_of_ble_eq_true rfl, Nat.le_of_ble_eq_true rfl⟩ dX5_go_1 rfl rfl rfl (fun r1 w1 h1 => ?_)
  obtain ⟨rfl, rfl⟩ := h1
  refine x_top (show _ = (1 : Int32) from (congrArg bI (show decide ((poC S (n 0) (S 0 0 0 + 1)) < n 0) = true from decide_eq_true hp)).trans rfl) ?_
  refine x_if_ne C 17 7 dX5_go_4 (by decide) rfl (fun zk4 => ?_) (fun zk4 => ?_)
  · refine x_aload_n C 18 dX5_go_17 rfl rfl ?_
    refine x_aload_n C 19 dX5_go_18 rfl rfl ?_
    refine xc_callV_i C 22 0 0 0 0 9 0 (cC_placeAbove hl hN) rfl gX5_go_X5_placeAbove ⟨rfl, by decide, by decide, rfl⟩ ⟨Nat.le_of_ble_eq_true rfl, Nat.le_of_ble_eq_true rfl⟩ rfl (by decide) (show 0 < 1 by decide) rfl rfl rfl (Nat.le_of_ble_eq_true rfl) ⟨Nat.le_of_ble_eq_true rfl, Nat.le_of_ble_eq_true rfl⟩ dX5_go_19 rfl rfl rfl (fun r2 w2 h2 => ?_)
    obtain ⟨rfl, rfl⟩ := h2
    refine xc_callV_v C 25 0 0 0 0 9 1 (cC_playPlace hl hN hp hK) rfl gX5_go_X5_playPlace ⟨rfl, by decide, by decide, rfl⟩ ⟨Nat.le_of_ble_eq_true rfl, Nat.le_of_ble_eq_true rfl⟩ rfl (by decide) (show 0 < 1 by decide) rfl rfl rfl (Nat.le_of_ble_eq_true rfl) ⟨Nat.le_of_ble_eq_true rfl, Nat.le_of_ble_eq_true rfl⟩ dX5_go_22 rfl rfl rfl (fun w3 h3 => ?_)
    subst h3
    refine x_aload_n C 26 dX5_go_25 rfl rfl ?_
    refine xc_get C 29 0 0 (by decide) (show 0 < 1 by decide) rfl fg_X5_go_16 rfl dX5_go_26 rfl ?_
    exact x_zret C0 dX5_go_29 (Nat.le_of_ble_eq_true rfl) (Nat.le_of_ble_eq_true rfl) ⟨_, rfl, ⟨rfl, rfl⟩⟩
  · exact absurd zk4 (by decide)
set_option maxRecDepth 100000 in
set_option maxHeartbeats 4000000 in
theorem cC_go_1 (hl : l.stackTraces = false) (hN : CN n cap) (hp : ¬ (poC S (n 0) (S 0 0 0 + 1)) < n 0)  : Ct (gm D a E0) l yX5_go wsX5_go { frames := 28, cells := 1, slots := 6, locals := 700 } [.ref (A 0 0)] (wC a E0 n cap A g en S) (qI fun _ _ => False) (fun E w => E = "java/util/NoSuchElementException" ∧ w = wC a E0 n cap A g en S) := by
  refine Ct.of [some (.ref (A 0 0))] rfl hl (by decide) (Nat.le_of_ble_eq_true rfl) rfl (fun φ C0 => ?_)
  have C := C0.1
  refine x_aload_n C 1 dX5_go_0 rfl rfl ?_
  refine xc_callV_i C 4 0 0 0 0 9 0 (cC_hasCueAbove hl hN) rfl gX5_go_X5_hasCueAbove ⟨rfl, by decide, by decide, rfl⟩ ⟨Nat.le_of_ble_eq_true rfl, Nat.le_of_ble_eq_true rfl⟩ rfl (by decide) (show 0 < 1 by decide) rfl rfl rfl (Nat.le_of_ble_eq_true rfl) ⟨Nat.le_of_ble_eq_true rfl, Nat.le_of_ble_eq_true rfl⟩ dX5_go_1 rfl rfl rfl (fun r1 w1 h1 => ?_)
  obtain ⟨rfl, rfl⟩ := h1
  refine x_top (show _ = (0 : Int32) from (congrArg bI (show decide ((poC S (n 0) (S 0 0 0 + 1)) < n 0) = false from decide_eq_false hp)).trans rfl) ?_
  refine x_if_ne C 17 7 dX5_go_4 (by decide) rfl (fun zk4 => ?_) (fun zk4 => ?_)
  · exact absurd zk4 (by decide)
  · exact x_throwS C0 (cls := "java/util/NoSuchElementException") (text := "no cue above the current one") (names := ["java/lang/RuntimeException", "java/lang/Exception"]) (List.mem_of_getElem? (i := 0) rfl) (by decide) (by decide) (List.mem_cons_of_mem _ (List.mem_append_left _ (List.mem_append_left _ (List.mem_append_left _ (List.mem_append_left _ (List.mem_append_left _ (List.mem_append_left _ (List.mem_append_left _ (List.mem_of_getElem? (i := 0) rfl))))))))) (List.mem_cons_of_mem _ (List.mem_append_left _ (List.mem_append_left _ (List.mem_append_left _ (List.mem_append_left _ (List.mem_append_left _ (List.mem_append_left _ (List.mem_append_left _ (List.mem_of_getElem? (i := 1) rfl))))))))) (fun w h => (List.mem_cons_of_mem _ (List.mem_append_left _ (List.mem_append_right _ h)))) (by decide) (by decide +kernel) (by decide +kernel) dX5_go_7 dX5_go_10 dX5_go_11 dX5_go_13 dX5_go_16 (Nat.le_of_ble_eq_true rfl) (Nat.le_of_ble_eq_true rfl) (Nat.le_of_ble_eq_true rfl) (Nat.le_of_ble_eq_true rfl) ⟨rfl, rfl⟩   
theorem fg_X5_back_16 : gF RX5 wsX5_back 16 9 1 := ⟨RX5, TX5, 11, "StageConsole", rfl, fun w h => (List.mem_cons_of_mem _ (List.mem_append_left _ (List.mem_append_left _ (List.mem_append_left _ (List.mem_append_left _ (List.mem_append_left _ (List.mem_append_right _ h))))))), by decide, (List.mem_cons_of_mem _ (List.mem_append_left _ (List.mem_append_left _ (List.mem_append_left _ (List.mem_append_left _ (List.mem_append_left _ (List.mem_append_left _ (List.mem_append_left _ (List.mem_of_getElem? (i := 2) rfl))))))))), Or.inl rfl⟩
set_option maxRecDepth 100000 in
set_option maxHeartbeats 4000000 in
theorem cC_back_0 (hl : l.stackTraces = false) (hN : CN n cap) (hp : 0 < (poC S (n 0) (S 0 0 0))) (hK : chK (S 5 ((poC S (n 0) (S 0 0 0)) - 1) 2))  : Ct (gm D a E0) l yX5_back wsX5_back { frames := 28, cells := 0, slots := 0, locals := 700 } [.ref (A 0 0)] (wC a E0 n cap A g en S) (qI fun v w => v = ppS ((poC S (n 0) (S 0 0 0)) - 1) S 0 0 0 ∧ w = wC a E0 n cap A g en (ppS ((poC S (n 0) (S 0 0 0)) - 1) S)) noX := by
  refine Ct.of [some (.ref (A 0 0))] rfl hl (by decide) (Nat.le_of_ble_eq_true rfl) rfl (fun φ C0 => ?_)
  have C := C0.1
  refine x_aload_n C 1 dX5_back_0 rfl rfl ?_
  refine xc_callV_i C 4 0 0 0 0 9 0 (cC_hasCueBelow hl hN) rfl gX5_back_X5_hasCueBelow ⟨rfl, by decide, by decide, rfl⟩ ⟨Nat.le_of_ble_eq_true rfl, Nat.le_of_ble_eq_true rfl⟩ rfl (by decide) (show 0 < 1 by decide) rfl rfl rfl (Nat.le_of_ble_eq_true rfl) ⟨Nat.le_of_ble_eq_true rfl, Nat.le_of_ble_eq_true rfl⟩ dX5_back_1 rfl rfl rfl (fun r1 w1 h1 => ?_)
  obtain ⟨rfl, rfl⟩ := h1
  refine x_top (show _ = (1 : Int32) from (congrArg bI (show decide (0 < (poC S (n 0) (S 0 0 0))) = true from decide_eq_true hp)).trans rfl) ?_
  refine x_if_ne C 17 7 dX5_back_4 (by decide) rfl (fun zk4 => ?_) (fun zk4 => ?_)
  · refine x_aload_n C 18 dX5_back_17 rfl rfl ?_
    refine x_aload_n C 19 dX5_back_18 rfl rfl ?_
    refine xc_callV_i C 22 0 0 0 0 9 0 (cC_placeBelow hl hN) rfl gX5_back_X5_placeBelow ⟨rfl, by decide, by decide, rfl⟩ ⟨Nat.le_of_ble_eq_true rfl, Nat.le_of_ble_eq_true rfl⟩ rfl (by decide) (show 0 < 1 by decide) rfl rfl rfl (Nat.le_of_ble_eq_true rfl) ⟨Nat.le_of_ble_eq_true rfl, Nat.le_of_ble_eq_true rfl⟩ dX5_back_19 rfl rfl rfl (fun r2 w2 h2 => ?_)
    obtain ⟨rfl, rfl⟩ := h2
    refine x_top (show _ = nI ((poC S (n 0) (S 0 0 0)) - 1) from kd_pos hp) ?_
    refine xc_callV_v C 25 0 0 0 0 9 1 (cC_playPlace hl hN (by have := poC_le S (n 0) (S 0 0 0); omega) hK) rfl gX5_back_X5_playPlace ⟨rfl, by decide, by decide, rfl⟩ ⟨Nat.le_of_ble_eq_true rfl, Nat.le_of_ble_eq_true rfl⟩ rfl (by decide) (show 0 < 1 by decide) rfl rfl rfl (Nat.le_of_ble_eq_true rfl) ⟨Nat.le_of_ble_eq_true rfl, Nat.le_of_ble_eq_true rfl⟩ dX5_back_22 rfl rfl rfl (fun w3 h3 => ?_)
    subst h3
    refine x_aload_n C 26 dX5_back_25 rfl rfl ?_
    refine xc_get C 29 0 0 (by decide) (show 0 < 1 by decide) rfl fg_X5_back_16 rfl dX5_back_26 rfl ?_
    exact x_zret C0 dX5_back_29 (Nat.le_of_ble_eq_true rfl) (Nat.le_of_ble_eq_true rfl) ⟨_, rfl, ⟨rfl, rfl⟩⟩
  · exact absurd zk4 (by decide)
set_option maxRecDepth 100000 in
set_option maxHeartbeats 4000000 in
theorem cC_back_1 (hl : l.stackTraces = false) (hN : CN n cap) (hp : ¬ 0 < (poC S (n 0) (S 0 0 0)))  : Ct (gm D a E0) l yX5_back wsX5_back { frames := 28, cells := 1, slots := 6, locals := 700 } [.ref (A 0 0)] (wC a E0 n cap A g en S) (qI fun _ _ => False) (fun E w => E = "java/util/NoSuchElementException" ∧ w = wC a E0 n cap A g en S) := by
  refine Ct.of [some (.ref (A 0 0))] rfl hl (by decide) (Nat.le_of_ble_eq_true rfl) rfl (fun φ C0 => ?_)
  have C := C0.1
  refine x_aload_n C 1 dX5_back_0 rfl rfl ?_
  refine xc_callV_i C 4 0 0 0 0 9 0 (cC_hasCueBelow hl hN) rfl gX5_back_X5_hasCueBelow ⟨rfl, by decide, by decide, rfl⟩ ⟨Nat.le_of_ble_eq_true rfl, Nat.le_of_ble_eq_true rfl⟩ rfl (by decide) (show 0 < 1 by decide) rfl rfl rfl (Nat.le_of_ble_eq_true rfl) ⟨Nat.le_of_ble_eq_true rfl, Nat.le_of_ble_eq_true rfl⟩ dX5_back_1 rfl rfl rfl (fun r1 w1 h1 => ?_)
  obtain ⟨rfl, rfl⟩ := h1
  refine x_top (show _ = (0 : Int32) from (congrArg bI (show decide (0 < (poC S (n 0) (S 0 0 0))) = false from decide_eq_false hp)).trans rfl) ?_
  refine x_if_ne C 17 7 dX5_back_4 (by decide) rfl (fun zk4 => ?_) (fun zk4 => ?_)
  · exact absurd zk4 (by decide)
  · exact x_throwS C0 (cls := "java/util/NoSuchElementException") (text := "no cue below the current one") (names := ["java/lang/RuntimeException", "java/lang/Exception"]) (List.mem_of_getElem? (i := 1) rfl) (by decide) (by decide) (List.mem_cons_of_mem _ (List.mem_append_left _ (List.mem_append_left _ (List.mem_append_left _ (List.mem_append_left _ (List.mem_append_left _ (List.mem_append_left _ (List.mem_append_left _ (List.mem_of_getElem? (i := 0) rfl))))))))) (List.mem_cons_of_mem _ (List.mem_append_left _ (List.mem_append_left _ (List.mem_append_left _ (List.mem_append_left _ (List.mem_append_left _ (List.mem_append_left _ (List.mem_append_left _ (List.mem_of_getElem? (i := 1) rfl))))))))) (fun w h => (List.mem_cons_of_mem _ (List.mem_append_left _ (List.mem_append_right _ h)))) (by decide) (by decide +kernel) (by decide +kernel) dX5_back_7 dX5_back_10 dX5_back_11 dX5_back_13 dX5_back_16 (Nat.le_of_ble_eq_true rfl) (Nat.le_of_ble_eq_true rfl) (Nat.le_of_ble_eq_true rfl) (Nat.le_of_ble_eq_true rfl) ⟨rfl, rfl⟩   
set_option maxRecDepth 100000 in
set_option maxHeartbeats 4000000 in
theorem cC_goTo_0 (hl : l.stackTraces = false) {x : Int32} (hN : CN n cap) (hq : hqC S (n 0) x = true) (hK : chK (S 5 (poC S (n 0) x) 2))  : Ct (gm D a E0) l yX5_goTo wsX5_goTo { frames := 28, cells := 0, slots := 0, locals := 700 } [.ref (A 0 0), .int x] (wC a E0 n cap A g en S) (qI fun v w => v = nI (fcL (ppS (poC S (n 0) x) S) 12 0 0) ∧ w = wC a E0 n cap A g en (ppS (poC S (n 0) x) S)) noX := by
  refine Ct.of [some (.ref (A 0 0)), some (.int x)] rfl hl (by decide) (Nat.le_of_ble_eq_true rfl) rfl (fun φ C0 => ?_)
  have C := C0.1
  refine x_aload_n C 1 dX5_goTo_0 rfl rfl ?_
  refine x_aload_n C 2 dX5_goTo_1 rfl rfl ?_
  refine x_iload_n C 3 dX5_goTo_2 rfl rfl ?_
  refine xc_callV_i C 6 0 0 0 0 9 1 (cC_requireCue_0 hl hN hq) rfl gX5_goTo_X5_requireCue ⟨rfl, by decide, by decide, rfl⟩ ⟨Nat.le_of_ble_eq_true rfl, Nat.le_of_ble_eq_true rfl⟩ rfl (by decide) (show 0 < 1 by decide) rfl rfl rfl (Nat.le_of_ble_eq_true rfl) ⟨Nat.le_of_ble_eq_true rfl, Nat.le_of_ble_eq_true rfl⟩ dX5_goTo_3 rfl rfl rfl (fun r1 w1 h1 => ?_)
  obtain ⟨rfl, rfl⟩ := h1
  refine xc_callV_v C 9 0 0 0 0 9 1 (cC_playPlace hl hN (hqC_lt hq).1 hK) rfl gX5_goTo_X5_playPlace ⟨rfl, by decide, by decide, rfl⟩ ⟨Nat.le_of_ble_eq_true rfl, Nat.le_of_ble_eq_true rfl⟩ rfl (by decide) (show 0 < 1 by decide) rfl rfl rfl (Nat.le_of_ble_eq_true rfl) ⟨Nat.le_of_ble_eq_true rfl, Nat.le_of_ble_eq_true rfl⟩ dX5_goTo_6 rfl rfl rfl (fun w2 h2 => ?_)
  subst h2
  refine x_aload_n C 10 dX5_goTo_9 rfl rfl ?_
  refine xc_callV_i C 13 0 0 0 0 9 0 (cC_fadingChannels hl) rfl gX5_goTo_X5_fadingChannels ⟨rfl, by decide, by decide, rfl⟩ ⟨Nat.le_of_ble_eq_true rfl, Nat.le_of_ble_eq_true rfl⟩ rfl (by decide) (show 0 < 1 by decide) rfl rfl rfl (Nat.le_of_ble_eq_true rfl) ⟨Nat.le_of_ble_eq_true rfl, Nat.le_of_ble_eq_true rfl⟩ dX5_goTo_10 rfl rfl rfl (fun r3 w3 h3 => ?_)
  obtain ⟨rfl, rfl⟩ := h3
  exact x_zret C0 dX5_goTo_13 (Nat.le_of_ble_eq_true rfl) (Nat.le_of_ble_eq_true rfl) ⟨_, rfl, ⟨rfl, rfl⟩⟩
end CC
