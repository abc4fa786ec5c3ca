section CC
variable {l : Launch} {Γ : Gm} {D : va_G} {a : Nat → ClassId} {E0 : Nat} {n cap : Nat → Nat} {A : Nat → Nat → Nat} {g : Nat → Nat} {en : Int64} {S : Nat → Nat → Nat → Int32}
set_option maxRecDepth 100000 in
set_option maxHeartbeats 4000000 in
theorem cC_goTo_1 (hl : l.stackTraces = false) {x : Int32} (hN : CN n cap) (hq : hqC S (n 0) x = false)  : Ct (gm D a E0) l yX5_goTo wsX5_goTo { frames := 28, cells := 1, slots := 6, locals := 700 } [.ref (A 0 0), .int x] (wC a E0 n cap A g en S) (qI fun _ _ => False) (fun E w => E = "java/util/NoSuchElementException" ∧ w = wC a E0 n cap A g en S) := by
  refine Ct.of [some (.ref (A 0 0)), some (.int x)] rfl hl (by decide) (Nat.le_of_ble_eq_true rfl) rfl (fun φ C0 => ?_)
  have C := C0.1
  refine x_aload_n C 1 dX5_goTo_0 rfl rfl ?_
  refine x_aload_n C 2 dX5_goTo_1 rfl rfl ?_
  refine x_iload_n C 3 dX5_goTo_2 rfl rfl ?_
  exact xc_callVx_i C0 6 1 6 0 0 9 1 (cC_requireCue_1 hl hN hq) rfl gX5_goTo_X5_requireCue ⟨rfl, by decide, by decide, rfl⟩ ⟨Nat.le_of_ble_eq_true rfl, Nat.le_of_ble_eq_true rfl⟩ rfl (by decide) (show 0 < 1 by decide) rfl rfl rfl (Nat.le_of_ble_eq_true rfl) ⟨Nat.le_of_ble_eq_true rfl, Nat.le_of_ble_eq_true rfl⟩ dX5_goTo_3 rfl rfl rfl (fun _ _ h => h.elim) (fun E w h => h)
theorem fg_X5_pass_20 : gF RX5 wsX5_pass 20 9 2 := ⟨RX5, TX5, 11, "StageConsole", rfl, fun w h => (List.mem_cons_of_mem _ (List.mem_append_left _ (List.mem_append_left _ (List.mem_append_left _ (List.mem_append_left _ (List.mem_append_left _ (List.mem_append_left _ (List.mem_append_left _ (List.mem_append_right _ h))))))))), by decide, (List.mem_cons_of_mem _ (List.mem_append_left _ (List.mem_append_left _ (List.mem_append_left _ (List.mem_append_left _ (List.mem_append_left _ (List.mem_append_left _ (List.mem_append_left _ (List.mem_append_left _ (List.mem_append_left _ (List.mem_of_getElem? (i := 2) rfl))))))))))), Or.inl rfl⟩
set_option maxRecDepth 100000 in
set_option maxHeartbeats 4000000 in
theorem cC_pass_0 (hl : l.stackTraces = false) {t : Nat} (ht : t ≤ 100) (hb : tkB (nI t) = true) (hN : CN n cap) (hE : CE n g S) (hF : CF S)  : Ct (gm D a E0) l yX5_pass wsX5_pass { frames := 32, cells := 0, slots := 0, locals := 800 } [.ref (A 0 0), .int (nI t)] (wC a E0 n cap A g en S) (qI fun v w => v = (tcL g (n 1) (n 2) t S en).1 0 0 1 ∧ w = wC a E0 n cap A g (tcL g (n 1) (n 2) t S en).2 (tcL g (n 1) (n 2) t S en).1) noX := by
  refine Ct.of [some (.ref (A 0 0)), some (.int (nI t))] rfl hl (by decide) (Nat.le_of_ble_eq_true rfl) rfl (fun φ C0 => ?_)
  have C := C0.1
  refine x_iload_n C 1 dX5_pass_0 rfl rfl ?_
  refine x_callS0_i C 4 0 0 1 (cC_isPassing hl) rfl gX5_pass_X5_isPassing ⟨by decide, by decide, rfl⟩ ⟨Nat.le_of_ble_eq_true rfl, Nat.le_of_ble_eq_true rfl⟩ rfl rfl (Nat.le_of_ble_eq_true rfl) ⟨Nat.le_of_ble_eq_true rfl, Nat.le_of_ble_eq_true rfl⟩ dX5_pass_1 rfl rfl rfl (fun r1 w1 h1 => ?_)
  obtain ⟨rfl, rfl⟩ := h1
  refine x_top (show _ = (1 : Int32) from (congrArg bI (show tkB (nI t) = true from hb)).trans rfl) ?_
  refine x_if_ne C 17 7 dX5_pass_4 (by decide) rfl (fun zk4 => ?_) (fun zk4 => ?_)
  · refine x_aload_n C 18 dX5_pass_17 rfl rfl ?_
    refine x_iload_n C 19 dX5_pass_18 rfl rfl ?_
    refine xc_callV_v C 22 0 0 0 0 9 1 (cC_passTicks hl ht hN hE hF) rfl gX5_pass_X5_passTicks ⟨rfl, by decide, by decide, rfl⟩ ⟨Nat.le_of_ble_eq_true rfl, Nat.le_of_ble_eq_true rfl⟩ rfl (by decide) (show 0 < 1 by decide) rfl rfl rfl (Nat.le_of_ble_eq_true rfl) ⟨Nat.le_of_ble_eq_true rfl, Nat.le_of_ble_eq_true rfl⟩ dX5_pass_19 rfl rfl rfl (fun w2 h2 => ?_)
    subst h2
    refine x_aload_n C 23 dX5_pass_22 rfl rfl ?_
    refine xc_get C 26 0 0 (by decide) (show 0 < 1 by decide) rfl fg_X5_pass_20 rfl dX5_pass_23 rfl ?_
    exact x_zret C0 dX5_pass_26 (Nat.le_of_ble_eq_true rfl) (Nat.le_of_ble_eq_true rfl) ⟨_, rfl, ⟨rfl, rfl⟩⟩
  · exact absurd zk4 (by decide)
set_option maxRecDepth 100000 in
set_option maxHeartbeats 4000000 in
theorem cC_pass_1 (hl : l.stackTraces = false) {x : Int32} (hb : tkB x = false)  : Ct (gm D a E0) l yX5_pass wsX5_pass { frames := 32, cells := 1, slots := 6, locals := 800 } [.ref (A 0 0), .int x] (wC a E0 n cap A g en S) (qI fun _ _ => False) (fun E w => E = "java/lang/IllegalArgumentException" ∧ w = wC a E0 n cap A g en S) := by
  refine Ct.of [some (.ref (A 0 0)), some (.int x)] rfl hl (by decide) (Nat.le_of_ble_eq_true rfl) rfl (fun φ C0 => ?_)
  have C := C0.1
  refine x_iload_n C 1 dX5_pass_0 rfl rfl ?_
  refine x_callS0_i C 4 0 0 1 (cC_isPassing hl) rfl gX5_pass_X5_isPassing ⟨by decide, by decide, rfl⟩ ⟨Nat.le_of_ble_eq_true rfl, Nat.le_of_ble_eq_true rfl⟩ rfl rfl (Nat.le_of_ble_eq_true rfl) ⟨Nat.le_of_ble_eq_true rfl, Nat.le_of_ble_eq_true rfl⟩ dX5_pass_1 rfl rfl rfl (fun r1 w1 h1 => ?_)
  obtain ⟨rfl, rfl⟩ := h1
  refine x_top (show _ = (0 : Int32) from (congrArg bI (show tkB x = false from hb)).trans rfl) ?_
  refine x_if_ne C 17 7 dX5_pass_4 (by decide) rfl (fun zk4 => ?_) (fun zk4 => ?_)
  · exact absurd zk4 (by decide)
  · exact x_throwS C0 (cls := "java/lang/IllegalArgumentException") (text := "number of ticks") (names := ["java/lang/RuntimeException", "java/lang/Exception"]) (List.mem_of_getElem? (i := 2) rfl) (by decide) (by decide) (List.mem_cons_of_mem _ (List.mem_append_left _ (List.mem_append_left _ (List.mem_append_left _ (List.mem_append_left _ (List.mem_append_left _ (List.mem_append_left _ (List.mem_append_left _ (List.mem_append_left _ (List.mem_append_left _ (List.mem_of_getElem? (i := 0) rfl))))))))))) (List.mem_cons_of_mem _ (List.mem_append_left _ (List.mem_append_left _ (List.mem_append_left _ (List.mem_append_left _ (List.mem_append_left _ (List.mem_append_left _ (List.mem_append_left _ (List.mem_append_left _ (List.mem_append_left _ (List.mem_of_getElem? (i := 1) rfl))))))))))) (fun w h => (List.mem_cons_of_mem _ (List.mem_append_left _ (List.mem_append_left _ (List.mem_append_right _ h))))) (by decide) (by decide +kernel) (by decide +kernel) dX5_pass_7 dX5_pass_10 dX5_pass_11 dX5_pass_13 dX5_pass_16 (Nat.le_of_ble_eq_true rfl) (Nat.le_of_ble_eq_true rfl) (Nat.le_of_ble_eq_true rfl) (Nat.le_of_ble_eq_true rfl) ⟨rfl, rfl⟩   
theorem fg_X5_currentCue_16 : gF RX5 wsX5_currentCue 16 9 1 := ⟨RX5, TX5, 11, "StageConsole", rfl, fun w h => (List.mem_cons_of_mem _ (List.mem_append_right _ h)), by decide, (List.mem_cons_of_mem _ (List.mem_append_left _ (List.mem_of_getElem? (i := 0) rfl))), Or.inl rfl⟩
set_option maxRecDepth 100000 in
set_option maxHeartbeats 4000000 in
theorem cC_currentCue (hl : l.stackTraces = false)  : Ct (gm D a E0) l yX5_currentCue wsX5_currentCue { frames := 4, cells := 0, slots := 0, locals := 100 } [.ref (A 0 0)] (wC a E0 n cap A g en S) (qI fun v w => v = S 0 0 0 ∧ w = wC a E0 n cap A g en S) noX := by
  refine Ct.of [some (.ref (A 0 0))] rfl hl (by decide) (Nat.le_of_ble_eq_true rfl) rfl (fun φ C0 => ?_)
  have C := C0.1
  refine x_aload_n C 1 dX5_currentCue_0 rfl rfl ?_
  refine xc_get C 4 0 0 (by decide) (show 0 < 1 by decide) rfl fg_X5_currentCue_16 rfl dX5_currentCue_1 rfl ?_
  exact x_zret C0 dX5_currentCue_4 (Nat.le_of_ble_eq_true rfl) (Nat.le_of_ble_eq_true rfl) ⟨_, rfl, ⟨rfl, rfl⟩⟩
theorem fg_X5_cueLevel_25 : gF RX5 wsX5_cueLevel 25 9 3 := ⟨RX5, TX5, 11, "StageConsole", rfl, fun w h => (List.mem_cons_of_mem _ (List.mem_append_left _ (List.mem_append_left _ (List.mem_append_right _ h)))), by decide, (List.mem_cons_of_mem _ (List.mem_append_left _ (List.mem_append_left _ (List.mem_append_left _ (List.mem_of_getElem? (i := 0) rfl))))), Or.inl rfl⟩
theorem fg_X5_cueLevel_164 : gF RX5 wsX5_cueLevel 164 4 0 := ⟨RX0, TX0, 9, "StageConsole$Channel", rfl, fun w h => (List.mem_cons_of_mem _ (List.mem_append_left _ (List.mem_append_right _ h))), by decide, (List.mem_cons_of_mem _ (List.mem_append_left _ (List.mem_append_left _ (List.mem_append_left _ (List.mem_of_getElem? (i := 1) rfl))))), Or.inl rfl⟩
set_option maxRecDepth 100000 in
set_option maxHeartbeats 4000000 in
theorem cC_cueLevel_0 (hl : l.stackTraces = false) {c : Nat} (hc : c < 12)  : Ct (gm D a E0) l yX5_cueLevel wsX5_cueLevel { frames := 16, cells := 0, slots := 0, locals := 400 } [.ref (A 0 0), .int (nI c)] (wC a E0 n cap A g en S) (qI fun v w => v = S 4 c 0 ∧ w = wC a E0 n cap A g en S) noX := by
  refine Ct.of [some (.ref (A 0 0)), some (.int (nI c))] rfl hl (by decide) (Nat.le_of_ble_eq_true rfl) rfl (fun φ C0 => ?_)
  have C := C0.1
  refine x_iload_n C 1 dX5_cueLevel_0 rfl rfl ?_
  refine x_callS0_v C 4 0 0 1 (cC_requireChannel_0 hl (chB_nI hc)) rfl gX5_cueLevel_X5_requireChannel ⟨by decide, by decide, rfl⟩ ⟨Nat.le_of_ble_eq_true rfl, Nat.le_of_ble_eq_true rfl⟩ rfl rfl (Nat.le_of_ble_eq_true rfl) ⟨Nat.le_of_ble_eq_true rfl, Nat.le_of_ble_eq_true rfl⟩ dX5_cueLevel_1 rfl rfl rfl (fun w1 h1 => ?_)
  subst h1
  refine x_aload_n C 5 dX5_cueLevel_4 rfl rfl ?_
  refine xc_get C 8 0 0 (by decide) (show 0 < 1 by decide) rfl fg_X5_cueLevel_25 rfl dX5_cueLevel_5 rfl ?_
  refine x_iload_n C 9 dX5_cueLevel_8 rfl rfl ?_
  refine xc_chan C 10 c rfl (by omega) dX5_cueLevel_9 rfl ?_
  refine xc_get C 13 4 c (by decide) (show c < 12 from by omega) rfl fg_X5_cueLevel_164 rfl dX5_cueLevel_10 rfl ?_
  exact x_zret C0 dX5_cueLevel_13 (Nat.le_of_ble_eq_true rfl) (Nat.le_of_ble_eq_true rfl) ⟨_, rfl, ⟨rfl, rfl⟩⟩
set_option maxRecDepth 100000 in
set_option maxHeartbeats 4000000 in
theorem cC_cueLevel_1 (hl : l.stackTraces = false) {z : Int32} (hc : chB z = false)  : Ct (gm D a E0) l yX5_cueLevel wsX5_cueLevel { frames := 16, cells := 1, slots := 6, locals := 400 } [.ref (A 0 0), .int z] (wC a E0 n cap A g en S) (qI fun _ _ => False) (fun E w => E = "java/lang/IndexOutOfBoundsException" ∧ w = wC a E0 n cap A g en S) := by
  refine Ct.of [some (.ref (A 0 0)), some (.int z)] rfl hl (by decide) (Nat.le_of_ble_eq_true rfl) rfl (fun φ C0 => ?_)
  have C := C0.1
  refine x_iload_n C 1 dX5_cueLevel_0 rfl rfl ?_
  exact x_callSx0_v C0 4 1 6 1 (cC_requireChannel_1 hl hc) rfl gX5_cueLevel_X5_requireChannel ⟨by decide, by decide, rfl⟩ ⟨Nat.le_of_ble_eq_true rfl, Nat.le_of_ble_eq_true rfl⟩ rfl rfl (Nat.le_of_ble_eq_true rfl) ⟨Nat.le_of_ble_eq_true rfl, Nat.le_of_ble_eq_true rfl⟩ dX5_cueLevel_1 rfl rfl rfl (fun _ h => h.elim) (fun E w h => h)
set_option maxRecDepth 100000 in
set_option maxHeartbeats 4000000 in
theorem cC_addGroup_1 (hl : l.stackTraces = false) (hN : CN n cap) (hn : ¬ n 1 < 5)  : Ct (gm D a E0) l yX5_addGroup wsX5_addGroup { frames := 28, cells := 1, slots := 6, locals := 700 } [.ref (A 0 0)] (wC a E0 n cap A g en S) (qI fun _ _ => False) (fun E w => E = "java/lang/IllegalStateException" ∧ w = wC a E0 n cap A g en S) := by
  refine Ct.of [some (.ref (A 0 0))] rfl hl (by decide) (Nat.le_of_ble_eq_true rfl) rfl (fun φ C0 => ?_)
  have C := C0.1
  refine x_aload_n C 1 dX5_addGroup_0 rfl rfl ?_
  refine xc_get C 4 0 0 (by decide) (show 0 < 1 by decide) rfl fg_X5_addGroup_29 rfl dX5_addGroup_1 rfl ?_
  refine xc_callV_i C 7 0 0 3 1 3 0 (cC_size hl (j := 1) (by decide)) rfl gX5_addGroup_Jx4a65c_size_8abf5 ⟨rfl, by decide, by decide, rfl⟩ ⟨Nat.le_of_ble_eq_true rfl, Nat.le_of_ble_eq_true rfl⟩ rfl (by decide) (show 1 < 4 by decide) rfl rfl rfl (Nat.le_of_ble_eq_true rfl) ⟨Nat.le_of_ble_eq_true rfl, Nat.le_of_ble_eq_true rfl⟩ dX5_addGroup_4 rfl rfl rfl (fun r1 w1 h1 => ?_)
  obtain ⟨rfl, rfl⟩ := h1
  refine x_iconst (v := (5)) C 8 dX5_addGroup_7 (by decide) rfl ?_
  have h5 := hN.2.2.1
  refine x_icmp_lt C 21 11 dX5_addGroup_8 (by decide) rfl (fun zk8 => ?_) (fun zk8 => ?_)
  · have zk8 := (nI_ltI (a := (n 1)) (b := 5) (by omega) (by omega)).mp zk8
    exfalso; omega
  · have zk8 := mt (nI_ltI (a := (n 1)) (b := 5) (by omega) (by omega)).mpr zk8
    exact x_throwS C0 (cls := "java/lang/IllegalStateException") (text := "no room for another group") (names := ["java/lang/RuntimeException", "java/lang/Exception"]) (List.mem_of_getElem? (i := 10) rfl) (by decide) (by decide) (List.mem_cons_of_mem _ (List.mem_append_left _ (List.mem_append_left _ (List.mem_append_left _ (List.mem_append_left _ (List.mem_append_left _ (List.mem_of_getElem? (i := 0) rfl))))))) (List.mem_cons_of_mem _ (List.mem_append_left _ (List.mem_append_left _ (List.mem_append_left _ (List.mem_append_left _ (List.mem_append_left _ (List.mem_of_getElem? (i := 1) rfl))))))) (fun w h => (List.mem_cons_of_mem _ (List.mem_append_right _ h))) (by decide) (by decide +kernel) (by decide +kernel) dX5_addGroup_11 dX5_addGroup_14 dX5_addGroup_15 dX5_addGroup_17 dX5_addGroup_20 (Nat.le_of_ble_eq_true rfl) (Nat.le_of_ble_eq_true rfl) (Nat.le_of_ble_eq_true rfl) (Nat.le_of_ble_eq_true rfl) ⟨rfl, rfl⟩   
theorem fg_X5_setMember_29 : gF RX5 wsX5_setMember 29 9 4 := ⟨RX5, TX5, 11, "StageConsole", rfl, fun w h => (List.mem_cons_of_mem _ (List.mem_append_left _ (List.mem_append_left _ (List.mem_append_left _ (List.mem_append_left _ (List.mem_append_right _ h)))))), by decide, (List.mem_cons_of_mem _ (List.mem_append_left _ (List.mem_append_left _ (List.mem_append_left _ (List.mem_append_left _ (List.mem_append_left _ (List.mem_append_left _ (List.mem_of_getElem? (i := 0) rfl)))))))), Or.inl rfl⟩
theorem fg_X5_setMember_186 : gF RX5 wsX5_setMember 186 7 0 := ⟨RX3, TX3, 2, "StageConsole$Group", rfl, fun w h => (List.mem_cons_of_mem _ (List.mem_append_left _ (List.mem_append_left _ (List.mem_append_left _ (List.mem_append_right _ h))))), by decide, (List.mem_cons_of_mem _ (List.mem_append_left _ (List.mem_append_left _ (List.mem_append_left _ (List.mem_append_left _ (List.mem_append_left _ (List.mem_append_left _ (List.mem_of_getElem? (i := 2) rfl)))))))), Or.inl rfl⟩
set_option maxRecDepth 100000 in
set_option maxHeartbeats 4000000 in
theorem cC_setMember_0 (hl : l.stackTraces = false) {b : Bool} (hN : CN n cap) {G : Nat} (hG : G < n 1) {c : Nat} (hc : c < 12) (hbo : boK (S 8 G c))  : Ct (gm D a E0) l yX5_setMember wsX5_setMember { frames := 28, cells := 0, slots := 0, locals := 700 } [.ref (A 0 0), .int (nI G), .int (nI c), .int (bI b)] (wC a E0 n cap A g en S) (qI fun v w => v = S 8 G c ∧ w = wC a E0 n cap A g en (uS S 8 G c (bI b))) noX := by
  refine Ct.of [some (.ref (A 0 0)), some (.int (nI G)), some (.int (nI c)), some (.int (bI b)), none, none] rfl hl (by decide) (Nat.le_of_ble_eq_true rfl) rfl (fun φ C0 => ?_)
  have C := C0.1
  refine x_aload_n C 1 dX5_setMember_0 rfl rfl ?_
  refine x_iload_n C 2 dX5_setMember_1 rfl rfl ?_
  refine xc_callV_v C 5 0 0 0 0 9 1 (cC_requireGroup_0 hl (upB_nI (by have := hN.2.2.1; omega) hG)) rfl gX5_setMember_X5_requireGroup ⟨rfl, by decide, by decide, rfl⟩ ⟨Nat.le_of_ble_eq_true rfl, Nat.le_of_ble_eq_true rfl⟩ rfl (by decide) (show 0 < 1 by decide) rfl rfl rfl (Nat.le_of_ble_eq_true rfl) ⟨Nat.le_of_ble_eq_true rfl, Nat.le_of_ble_eq_true rfl⟩ dX5_setMember_2 rfl rfl rfl (fun w1 h1 => ?_)
  subst h1
  refine x_iload_n C 6 dX5_setMember_5 rfl rfl ?_
  refine x_callS0_v C 9 0 0 1 (cC_requireChannel_0 hl (chB_nI hc)) rfl gX5_setMember_X5_requireChannel ⟨by decide, by decide, rfl⟩ ⟨Nat.le_of_ble_eq_true rfl, Nat.le_of_ble_eq_true rfl⟩ rfl rfl (Nat.le_of_ble_eq_true rfl) ⟨Nat.le_of_ble_eq_true rfl, Nat.le_of_ble_eq_true rfl⟩ dX5_setMember_6 rfl rfl rfl (fun w2 h2 => ?_)
  subst h2
  have h5 := hN.2.2.1
  refine x_aload_n C 10 dX5_setMember_9 rfl rfl ?_
  refine xc_get C 13 0 0 (by decide) (show 0 < 1 by decide) rfl fg_X5_setMember_29 rfl dX5_setMember_10 rfl ?_
  refine x_iload_n C 14 dX5_setMember_13 rfl rfl ?_
  refine xc_callV_q C 17 0 0 3 1 3 1 (cC_get hl (j := 1) (by decide) (i := G) (by omega) (hN.1 1 (by decide)).1 (hN.1 1 (by decide)).2) rfl gX5_setMember_Jx4a65c_get_915e3 ⟨rfl, by decide, by decide, rfl⟩ ⟨Nat.le_of_ble_eq_true rfl, Nat.le_of_ble_eq_true rfl⟩ rfl (by decide) (show 1 < 4 by decide) rfl rfl rfl (Nat.le_of_ble_eq_true rfl) ⟨Nat.le_of_ble_eq_true rfl, Nat.le_of_ble_eq_true rfl⟩ dX5_setMember_14 rfl rfl rfl (fun r3 w3 h3 => ?_)
  obtain ⟨rfl, rfl⟩ := h3
  refine x_topq (show _ = Value.ref (A 7 G) from rfl) ?_
  refine xc_castS C 20 7 G (by decide) (show G < n 1 from by omega) rfl rfl (List.mem_cons_of_mem _ (List.mem_append_left _ (List.mem_append_left _ (List.mem_append_left _ (List.mem_append_left _ (List.mem_append_left _ (List.mem_append_left _ (List.mem_of_getElem? (i := 1) rfl)))))))) dX5_setMember_17 rfl ?_
  refine xc_get C 23 7 G (by decide) (show G < n 1 from by omega) rfl fg_X5_setMember_186 rfl dX5_setMember_20 rfl ?_
  refine x_astore C 25 dX5_setMember_23 (by decide) rfl rfl ?_
  refine x_aload C 27 dX5_setMember_25 rfl rfl ?_
  refine x_iload_n C 28 dX5_setMember_27 rfl rfl ?_
  refine xc_zald C 29 8 G c (by decide) (show G < n 1 from by omega) rfl rfl (by omega) dX5_setMember_28 rfl ?_
  refine x_nm (fun bf ebf => ?_)
  refine x_istore C 31 dX5_setMember_29 (by decide) rfl rfl ?_
  refine x_aload C 33 dX5_setMember_31 rfl rfl ?_
  refine x_iload_n C 34 dX5_setMember_33 rfl rfl ?_
  refine x_iload_n C 35 dX5_setMember_34 rfl rfl ?_
  refine xc_zast C 36 8 G c (by decide) (show G < n 1 from by omega) (fun _ => rfl) rfl (by omega) (bI_arr _) dX5_setMember_35 rfl ?_
  refine x_iload C 38 dX5_setMember_36 rfl rfl ?_
  exact x_nret C0 rfl (by rw [ebf]; exact hbo.1) dX5_setMember_38 (Nat.le_of_ble_eq_true rfl) (Nat.le_of_ble_eq_true rfl) ⟨_, rfl, ⟨ebf, rfl⟩⟩
end CC
