section CC
variable {l : Launch} {Γ : Gm} {D : va_G} {a : Nat → ClassId} {E0 : Nat} {n cap : Nat → Nat} {A : Nat → Nat → Nat} {g : Nat → Nat} {en : Int64} {S : Nat → Nat → Nat → Int32}
set_option maxRecDepth 100000 in
set_option maxHeartbeats 4000000 in
theorem cC_setMember_1 (hl : l.stackTraces = false) {x z : Int32} {b : Bool} (hx : upB (n 1) x = false)  : Ct (gm D a E0) l yX5_setMember wsX5_setMember { frames := 28, cells := 1, slots := 6, locals := 700 } [.ref (A 0 0), .int x, .int z, .int (bI b)] (wC a E0 n cap A g en S) (qI fun _ _ => False) (fun E w => E = "java/lang/IndexOutOfBoundsException" ∧ w = wC a E0 n cap A g en S) := by
  refine Ct.of [some (.ref (A 0 0)), some (.int x), some (.int z), some (.int (bI b)), none, none] rfl hl (by decide) (Nat.le_of_ble_eq_true rfl) rfl (fun φ C0 => ?_)
  have C := C0.1
  refine x_aload_n C 1 dX5_setMember_0 rfl rfl ?_
  refine x_iload_n C 2 dX5_setMember_1 rfl rfl ?_
  exact xc_callVx_v C0 5 1 6 0 0 9 1 (cC_requireGroup_1 hl hx) rfl gX5_setMember_X5_requireGroup ⟨rfl, by decide, by decide, rfl⟩ ⟨Nat.le_of_ble_eq_true rfl, Nat.le_of_ble_eq_true rfl⟩ rfl (by decide) (show 0 < 1 by decide) rfl rfl rfl (Nat.le_of_ble_eq_true rfl) ⟨Nat.le_of_ble_eq_true rfl, Nat.le_of_ble_eq_true rfl⟩ dX5_setMember_2 rfl rfl rfl (fun _ h => h.elim) (fun E w h => h)
set_option maxRecDepth 100000 in
set_option maxHeartbeats 4000000 in
theorem cC_setMember_2 (hl : l.stackTraces = false) {z : Int32} {b : Bool} (hN : CN n cap) {G : Nat} (hG : G < n 1) (hc : chB z = false)  : Ct (gm D a E0) l yX5_setMember wsX5_setMember { frames := 28, cells := 1, slots := 6, locals := 700 } [.ref (A 0 0), .int (nI G), .int z, .int (bI b)] (wC a E0 n cap A g en S) (qI fun _ _ => False) (fun E w => E = "java/lang/IndexOutOfBoundsException" ∧ w = wC a E0 n cap A g en S) := by
  refine Ct.of [some (.ref (A 0 0)), some (.int (nI G)), some (.int z), some (.int (bI b)), none, none] rfl hl (by decide) (Nat.le_of_ble_eq_true rfl) rfl (fun φ C0 => ?_)
  have C := C0.1
  refine x_aload_n C 1 dX5_setMember_0 rfl rfl ?_
  refine x_iload_n C 2 dX5_setMember_1 rfl rfl ?_
  refine xc_callV_v C 5 0 0 0 0 9 1 (cC_requireGroup_0 hl (upB_nI (by have := hN.2.2.1; omega) hG)) rfl gX5_setMember_X5_requireGroup ⟨rfl, by decide, by decide, rfl⟩ ⟨Nat.le_of_ble_eq_true rfl, Nat.le_of_ble_eq_true rfl⟩ rfl (by decide) (show 0 < 1 by decide) rfl rfl rfl (Nat.le_of_ble_eq_true rfl) ⟨Nat.le_of_ble_eq_true rfl, Nat.le_of_ble_eq_true rfl⟩ dX5_setMember_2 rfl rfl rfl (fun w1 h1 => ?_)
  subst h1
  refine x_iload_n C 6 dX5_setMember_5 rfl rfl ?_
  exact x_callSx0_v C0 9 1 6 1 (cC_requireChannel_1 hl hc) rfl gX5_setMember_X5_requireChannel ⟨by decide, by decide, rfl⟩ ⟨Nat.le_of_ble_eq_true rfl, Nat.le_of_ble_eq_true rfl⟩ rfl rfl (Nat.le_of_ble_eq_true rfl) ⟨Nat.le_of_ble_eq_true rfl, Nat.le_of_ble_eq_true rfl⟩ dX5_setMember_6 rfl rfl rfl (fun _ h => h.elim) (fun E w h => h)
set_option maxRecDepth 100000 in
set_option maxHeartbeats 4000000 in
theorem cC_setFader_0 (hl : l.stackTraces = false) {x : Int32} (hN : CN n cap) {G : Nat} (hG : G < n 1) (hv : lvB x = true)  : Ct (gm D a E0) l yX5_setFader wsX5_setFader { frames := 28, cells := 0, slots := 0, locals := 700 } [.ref (A 0 0), .int (nI G), .int x] (wC a E0 n cap A g en S) (qI fun v w => v = S 7 G 0 ∧ w = wC a E0 n cap A g en (mfS G x S)) noX := by
  refine Ct.of [some (.ref (A 0 0)), some (.int (nI G)), some (.int x)] rfl hl (by decide) (Nat.le_of_ble_eq_true rfl) rfl (fun φ C0 => ?_)
  have C := C0.1
  refine x_aload_n C 1 dX5_setFader_0 rfl rfl ?_
  refine x_iload_n C 2 dX5_setFader_1 rfl rfl ?_
  refine xc_callV_v C 5 0 0 0 0 9 1 (cC_requireGroup_0 hl (upB_nI (by have := hN.2.2.1; omega) hG)) rfl gX5_setFader_X5_requireGroup ⟨rfl, by decide, by decide, rfl⟩ ⟨Nat.le_of_ble_eq_true rfl, Nat.le_of_ble_eq_true rfl⟩ rfl (by decide) (show 0 < 1 by decide) rfl rfl rfl (Nat.le_of_ble_eq_true rfl) ⟨Nat.le_of_ble_eq_true rfl, Nat.le_of_ble_eq_true rfl⟩ dX5_setFader_2 rfl rfl rfl (fun w1 h1 => ?_)
  subst h1
  refine x_iload_n C 6 dX5_setFader_5 rfl rfl ?_
  refine x_callS0_v C 9 0 0 1 (cC_requireLevel_0 hl hv) rfl gX5_setFader_X5_requireLevel ⟨by decide, by decide, rfl⟩ ⟨Nat.le_of_ble_eq_true rfl, Nat.le_of_ble_eq_true rfl⟩ rfl rfl (Nat.le_of_ble_eq_true rfl) ⟨Nat.le_of_ble_eq_true rfl, Nat.le_of_ble_eq_true rfl⟩ dX5_setFader_6 rfl rfl rfl (fun w2 h2 => ?_)
  subst h2
  refine x_aload_n C 10 dX5_setFader_9 rfl rfl ?_
  refine x_iload_n C 11 dX5_setFader_10 rfl rfl ?_
  refine x_iload_n C 12 dX5_setFader_11 rfl rfl ?_
  refine xc_callV_i C 15 0 0 0 0 9 2 (cC_moveFader hl hN hG) rfl gX5_setFader_X5_moveFader ⟨rfl, by decide, by decide, rfl⟩ ⟨Nat.le_of_ble_eq_true rfl, Nat.le_of_ble_eq_true rfl⟩ rfl (by decide) (show 0 < 1 by decide) rfl rfl rfl (Nat.le_of_ble_eq_true rfl) ⟨Nat.le_of_ble_eq_true rfl, Nat.le_of_ble_eq_true rfl⟩ dX5_setFader_12 rfl rfl rfl (fun r3 w3 h3 => ?_)
  obtain ⟨rfl, rfl⟩ := h3
  exact x_zret C0 dX5_setFader_15 (Nat.le_of_ble_eq_true rfl) (Nat.le_of_ble_eq_true rfl) ⟨_, rfl, ⟨rfl, rfl⟩⟩
set_option maxRecDepth 100000 in
set_option maxHeartbeats 4000000 in
theorem cC_setFader_1 (hl : l.stackTraces = false) {x z : Int32} (hx : upB (n 1) z = false)  : Ct (gm D a E0) l yX5_setFader wsX5_setFader { frames := 28, cells := 1, slots := 6, locals := 700 } [.ref (A 0 0), .int z, .int x] (wC a E0 n cap A g en S) (qI fun _ _ => False) (fun E w => E = "java/lang/IndexOutOfBoundsException" ∧ w = wC a E0 n cap A g en S) := by
  refine Ct.of [some (.ref (A 0 0)), some (.int z), some (.int x)] rfl hl (by decide) (Nat.le_of_ble_eq_true rfl) rfl (fun φ C0 => ?_)
  have C := C0.1
  refine x_aload_n C 1 dX5_setFader_0 rfl rfl ?_
  refine x_iload_n C 2 dX5_setFader_1 rfl rfl ?_
  exact xc_callVx_v C0 5 1 6 0 0 9 1 (cC_requireGroup_1 hl hx) rfl gX5_setFader_X5_requireGroup ⟨rfl, by decide, by decide, rfl⟩ ⟨Nat.le_of_ble_eq_true rfl, Nat.le_of_ble_eq_true rfl⟩ rfl (by decide) (show 0 < 1 by decide) rfl rfl rfl (Nat.le_of_ble_eq_true rfl) ⟨Nat.le_of_ble_eq_true rfl, Nat.le_of_ble_eq_true rfl⟩ dX5_setFader_2 rfl rfl rfl (fun _ h => h.elim) (fun E w h => h)
set_option maxRecDepth 100000 in
set_option maxHeartbeats 4000000 in
theorem cC_setFader_2 (hl : l.stackTraces = false) {x : Int32} (hN : CN n cap) {G : Nat} (hG : G < n 1) (hv : lvB x = false)  : Ct (gm D a E0) l yX5_setFader wsX5_setFader { frames := 28, cells := 1, slots := 6, locals := 700 } [.ref (A 0 0), .int (nI G), .int x] (wC a E0 n cap A g en S) (qI fun _ _ => False) (fun E w => E = "java/lang/IllegalArgumentException" ∧ w = wC a E0 n cap A g en S) := by
  refine Ct.of [some (.ref (A 0 0)), some (.int (nI G)), some (.int x)] rfl hl (by decide) (Nat.le_of_ble_eq_true rfl) rfl (fun φ C0 => ?_)
  have C := C0.1
  refine x_aload_n C 1 dX5_setFader_0 rfl rfl ?_
  refine x_iload_n C 2 dX5_setFader_1 rfl rfl ?_
  refine xc_callV_v C 5 0 0 0 0 9 1 (cC_requireGroup_0 hl (upB_nI (by have := hN.2.2.1; omega) hG)) rfl gX5_setFader_X5_requireGroup ⟨rfl, by decide, by decide, rfl⟩ ⟨Nat.le_of_ble_eq_true rfl, Nat.le_of_ble_eq_true rfl⟩ rfl (by decide) (show 0 < 1 by decide) rfl rfl rfl (Nat.le_of_ble_eq_true rfl) ⟨Nat.le_of_ble_eq_true rfl, Nat.le_of_ble_eq_true rfl⟩ dX5_setFader_2 rfl rfl rfl (fun w1 h1 => ?_)
  subst h1
  refine x_iload_n C 6 dX5_setFader_5 rfl rfl ?_
  exact x_callSx0_v C0 9 1 6 1 (cC_requireLevel_1 hl hv) rfl gX5_setFader_X5_requireLevel ⟨by decide, by decide, rfl⟩ ⟨Nat.le_of_ble_eq_true rfl, Nat.le_of_ble_eq_true rfl⟩ rfl rfl (Nat.le_of_ble_eq_true rfl) ⟨Nat.le_of_ble_eq_true rfl, Nat.le_of_ble_eq_true rfl⟩ dX5_setFader_6 rfl rfl rfl (fun _ h => h.elim) (fun E w h => h)
theorem fg_X5_setLatest_25 : gF RX5 wsX5_setLatest 25 9 3 := ⟨RX5, TX5, 11, "StageConsole", rfl, fun w h => (List.mem_cons_of_mem _ (List.mem_append_left _ (List.mem_append_left _ (List.mem_append_right _ h)))), by decide, (List.mem_cons_of_mem _ (List.mem_append_left _ (List.mem_append_left _ (List.mem_append_left _ (List.mem_of_getElem? (i := 0) rfl))))), Or.inl rfl⟩
theorem fg_X5_setLatest_193 : gF RX5 wsX5_setLatest 193 4 6 := ⟨RX0, TX0, 9, "StageConsole$Channel", rfl, fun w h => (List.mem_cons_of_mem _ (List.mem_append_left _ (List.mem_append_right _ h))), by decide, (List.mem_cons_of_mem _ (List.mem_append_left _ (List.mem_append_left _ (List.mem_append_left _ (List.mem_of_getElem? (i := 1) rfl))))), Or.inl rfl⟩
theorem fp_X5_setLatest_193 : pF RX5 wsX5_setLatest 193 4 6 false (.boolean) := ⟨RX0, TX0, 9, "StageConsole$Channel", tyX0, rfl, fun w h => (List.mem_cons_of_mem _ (List.mem_append_left _ (List.mem_append_right _ h))), by decide, (List.mem_cons_of_mem _ (List.mem_append_left _ (List.mem_append_left _ (List.mem_append_left _ (List.mem_of_getElem? (i := 1) rfl))))), Or.inl rfl, tyX0_ok, nmX0, rfl, rfl, fun h => absurd h (by decide)⟩
set_option maxRecDepth 100000 in
set_option maxHeartbeats 4000000 in
theorem cC_setLatest_0 (hl : l.stackTraces = false) {b : Bool} {c : Nat} (hc : c < 12) (hbo : boK (S 4 c 6))  : Ct (gm D a E0) l yX5_setLatest wsX5_setLatest { frames := 16, cells := 0, slots := 0, locals := 400 } [.ref (A 0 0), .int (nI c), .int (bI b)] (wC a E0 n cap A g en S) (qI fun v w => v = S 4 c 6 ∧ w = wC a E0 n cap A g en (uS S 4 c 6 (bI b))) noX := by
  refine Ct.of [some (.ref (A 0 0)), some (.int (nI c)), some (.int (bI b)), none] rfl hl (by decide) (Nat.le_of_ble_eq_true rfl) rfl (fun φ C0 => ?_)
  have C := C0.1
  refine x_iload_n C 1 dX5_setLatest_0 rfl rfl ?_
  refine x_callS0_v C 4 0 0 1 (cC_requireChannel_0 hl (chB_nI hc)) rfl gX5_setLatest_X5_requireChannel ⟨by decide, by decide, rfl⟩ ⟨Nat.le_of_ble_eq_true rfl, Nat.le_of_ble_eq_true rfl⟩ rfl rfl (Nat.le_of_ble_eq_true rfl) ⟨Nat.le_of_ble_eq_true rfl, Nat.le_of_ble_eq_true rfl⟩ dX5_setLatest_1 rfl rfl rfl (fun w1 h1 => ?_)
  subst h1
  refine x_aload_n C 5 dX5_setLatest_4 rfl rfl ?_
  refine xc_get C 8 0 0 (by decide) (show 0 < 1 by decide) rfl fg_X5_setLatest_25 rfl dX5_setLatest_5 rfl ?_
  refine x_iload_n C 9 dX5_setLatest_8 rfl rfl ?_
  refine xc_chan C 10 c rfl (by omega) dX5_setLatest_9 rfl ?_
  refine xc_get C 13 4 c (by decide) (show c < 12 from by omega) rfl fg_X5_setLatest_193 rfl dX5_setLatest_10 rfl ?_
  refine x_nm (fun bf ebf => ?_)
  refine x_istore_n C 14 dX5_setLatest_13 (by decide) rfl rfl ?_
  refine x_aload_n C 15 dX5_setLatest_14 rfl rfl ?_
  refine xc_get C 18 0 0 (by decide) (show 0 < 1 by decide) rfl fg_X5_setLatest_25 rfl dX5_setLatest_15 rfl ?_
  refine x_iload_n C 19 dX5_setLatest_18 rfl rfl ?_
  refine xc_chan C 20 c rfl (by omega) dX5_setLatest_19 rfl ?_
  refine x_iload_n C 21 dX5_setLatest_20 rfl rfl ?_
  refine xc_put C 24 4 c 6 (by decide) (show c < 12 from by omega) rfl fp_X5_setLatest_193 (bI_nar _) (bI_fit _) (Nat.le_of_ble_eq_true rfl) rfl dX5_setLatest_21 rfl ?_
  refine x_iload_n C 25 dX5_setLatest_24 rfl rfl ?_
  exact x_nret C0 rfl (by rw [ebf]; exact hbo.1) dX5_setLatest_25 (Nat.le_of_ble_eq_true rfl) (Nat.le_of_ble_eq_true rfl) ⟨_, rfl, ⟨ebf, rfl⟩⟩
set_option maxRecDepth 100000 in
set_option maxHeartbeats 4000000 in
theorem cC_setLatest_1 (hl : l.stackTraces = false) {z : Int32} {b : Bool} (hc : chB z = false)  : Ct (gm D a E0) l yX5_setLatest wsX5_setLatest { frames := 16, cells := 1, slots := 6, locals := 400 } [.ref (A 0 0), .int z, .int (bI b)] (wC a E0 n cap A g en S) (qI fun _ _ => False) (fun E w => E = "java/lang/IndexOutOfBoundsException" ∧ w = wC a E0 n cap A g en S) := by
  refine Ct.of [some (.ref (A 0 0)), some (.int z), some (.int (bI b)), none] rfl hl (by decide) (Nat.le_of_ble_eq_true rfl) rfl (fun φ C0 => ?_)
  have C := C0.1
  refine x_iload_n C 1 dX5_setLatest_0 rfl rfl ?_
  exact x_callSx0_v C0 4 1 6 1 (cC_requireChannel_1 hl hc) rfl gX5_setLatest_X5_requireChannel ⟨by decide, by decide, rfl⟩ ⟨Nat.le_of_ble_eq_true rfl, Nat.le_of_ble_eq_true rfl⟩ rfl rfl (Nat.le_of_ble_eq_true rfl) ⟨Nat.le_of_ble_eq_true rfl, Nat.le_of_ble_eq_true rfl⟩ dX5_setLatest_1 rfl rfl rfl (fun _ h => h.elim) (fun E w h => h)
theorem fg_X5_latestSource_25 : gF RX5 wsX5_latestSource 25 9 3 := ⟨RX5, TX5, 11, "StageConsole", rfl, fun w h => (List.mem_cons_of_mem _ (List.mem_append_left _ (List.mem_append_left _ (List.mem_append_left _ (List.mem_append_right _ h))))), by decide, (List.mem_cons_of_mem _ (List.mem_append_left _ (List.mem_append_left _ (List.mem_append_left _ (List.mem_append_left _ (List.mem_of_getElem? (i := 2) rfl)))))), Or.inl rfl⟩
theorem fg_X5_latestSource_196 : gF RX5 wsX5_latestSource 196 4 7 := ⟨RX0, TX0, 9, "StageConsole$Channel", rfl, fun w h => (List.mem_cons_of_mem _ (List.mem_append_left _ (List.mem_append_left _ (List.mem_append_right _ h)))), by decide, (List.mem_cons_of_mem _ (List.mem_append_left _ (List.mem_append_left _ (List.mem_append_left _ (List.mem_append_left _ (List.mem_of_getElem? (i := 3) rfl)))))), Or.inl rfl⟩
set_option maxRecDepth 100000 in
set_option maxHeartbeats 4000000 in
theorem cC_latestSource_0 (hl : l.stackTraces = false) {c : Nat} (hc : c < 12) (hv : ¬ S 4 c 7 = -2)  : Ct (gm D a E0) l yX5_latestSource wsX5_latestSource { frames := 16, cells := 0, slots := 0, locals := 400 } [.ref (A 0 0), .int (nI c)] (wC a E0 n cap A g en S) (qI fun v w => v = S 4 c 7 ∧ w = wC a E0 n cap A g en S) noX := by
  refine Ct.of [some (.ref (A 0 0)), some (.int (nI c)), none] rfl hl (by decide) (Nat.le_of_ble_eq_true rfl) rfl (fun φ C0 => ?_)
  have C := C0.1
  refine x_iload_n C 1 dX5_latestSource_0 rfl rfl ?_
  refine x_callS0_v C 4 0 0 1 (cC_requireChannel_0 hl (chB_nI hc)) rfl gX5_latestSource_X5_requireChannel ⟨by decide, by decide, rfl⟩ ⟨Nat.le_of_ble_eq_true rfl, Nat.le_of_ble_eq_true rfl⟩ rfl rfl (Nat.le_of_ble_eq_true rfl) ⟨Nat.le_of_ble_eq_true rfl, Nat.le_of_ble_eq_true rfl⟩ dX5_latestSource_1 rfl rfl rfl (fun w1 h1 => ?_)
  subst h1
  refine x_aload_n C 5 dX5_latestSource_4 rfl rfl ?_
  refine xc_get C 8 0 0 (by decide) (show 0 < 1 by decide) rfl fg_X5_latestSource_25 rfl dX5_latestSource_5 rfl ?_
  refine x_iload_n C 9 dX5_latestSource_8 rfl rfl ?_
  refine xc_chan C 10 c rfl (by omega) dX5_latestSource_9 rfl ?_
  refine xc_get C 13 4 c (by decide) (show c < 12 from by omega) rfl fg_X5_latestSource_196 rfl dX5_latestSource_10 rfl ?_
  refine x_nm (fun sv esv => ?_)
  refine x_istore_n C 14 dX5_latestSource_13 (by decide) rfl rfl ?_
  refine x_iload_n C 15 dX5_latestSource_14 rfl rfl ?_
  refine x_bipush (v := (-2)) C 17 dX5_latestSource_15 (by decide) rfl ?_
  refine x_icmp_ne C 30 20 dX5_latestSource_17 (by decide) rfl (fun zk17 => ?_) (fun zk17 => ?_)
  · refine x_iload_n C 31 dX5_latestSource_30 rfl rfl ?_
    exact x_zret C0 dX5_latestSource_31 (Nat.le_of_ble_eq_true rfl) (Nat.le_of_ble_eq_true rfl) ⟨_, rfl, ⟨esv, rfl⟩⟩
  · exact absurd (esv.symm.trans zk17) hv
end CC
