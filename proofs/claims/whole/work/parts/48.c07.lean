section CC
variable {l : Launch} {Γ : Gm} {D : va_G} {a : Nat → ClassId} {E0 : Nat} {n cap : Nat → Nat} {A : Nat → Nat → Nat} {g : Nat → Nat} {en : Int64} {S : Nat → Nat → Nat → Int32}
set_option maxRecDepth 100000 in
set_option maxHeartbeats 4000000 in
theorem cC_park_0 (hl : l.stackTraces = false) {x : Int32} {c : Nat} (hc : c < 12) (hv : lvB x = true)  : Ct (gm D a E0) l yX5_park wsX5_park { frames := 16, cells := 0, slots := 0, locals := 400 } [.ref (A 0 0), .int (nI c), .int x] (wC a E0 n cap A g en S) (qI fun v w => v = S 4 c 8 ∧ w = wC a E0 n cap A g en (uS S 4 c 8 x)) noX := by
  refine Ct.of [some (.ref (A 0 0)), some (.int (nI c)), some (.int x)] rfl hl (by decide) (Nat.le_of_ble_eq_true rfl) rfl (fun φ C0 => ?_)
  have C := C0.1
  refine x_iload_n C 1 dX5_park_0 rfl rfl ?_
  refine x_callS0_v C 4 0 0 1 (cC_requireChannel_0 hl (chB_nI hc)) rfl gX5_park_X5_requireChannel ⟨by decide, by decide, rfl⟩ ⟨Nat.le_of_ble_eq_true rfl, Nat.le_of_ble_eq_true rfl⟩ rfl rfl (Nat.le_of_ble_eq_true rfl) ⟨Nat.le_of_ble_eq_true rfl, Nat.le_of_ble_eq_true rfl⟩ dX5_park_1 rfl rfl rfl (fun w1 h1 => ?_)
  subst h1
  refine x_iload_n C 5 dX5_park_4 rfl rfl ?_
  refine x_callS0_v C 8 0 0 1 (cC_requireLevel_0 hl hv) rfl gX5_park_X5_requireLevel ⟨by decide, by decide, rfl⟩ ⟨Nat.le_of_ble_eq_true rfl, Nat.le_of_ble_eq_true rfl⟩ rfl rfl (Nat.le_of_ble_eq_true rfl) ⟨Nat.le_of_ble_eq_true rfl, Nat.le_of_ble_eq_true rfl⟩ dX5_park_5 rfl rfl rfl (fun w2 h2 => ?_)
  subst h2
  refine x_aload_n C 9 dX5_park_8 rfl rfl ?_
  refine x_iload_n C 10 dX5_park_9 rfl rfl ?_
  refine x_iload_n C 11 dX5_park_10 rfl rfl ?_
  refine xc_callV_i C 14 0 0 0 0 9 2 (cC_parkAt hl hc) rfl gX5_park_X5_parkAt ⟨rfl, by decide, by decide, rfl⟩ ⟨Nat.le_of_ble_eq_true rfl, Nat.le_of_ble_eq_true rfl⟩ rfl (by decide) (show 0 < 1 by decide) rfl rfl rfl (Nat.le_of_ble_eq_true rfl) ⟨Nat.le_of_ble_eq_true rfl, Nat.le_of_ble_eq_true rfl⟩ dX5_park_11 rfl rfl rfl (fun r3 w3 h3 => ?_)
  obtain ⟨rfl, rfl⟩ := h3
  exact x_zret C0 dX5_park_14 (Nat.le_of_ble_eq_true rfl) (Nat.le_of_ble_eq_true rfl) ⟨_, rfl, ⟨rfl, rfl⟩⟩
set_option maxRecDepth 100000 in
set_option maxHeartbeats 4000000 in
theorem cC_park_1 (hl : l.stackTraces = false) {z : Int32} {y : Int32} (hc : chB z = false)  : Ct (gm D a E0) l yX5_park wsX5_park { frames := 16, cells := 1, slots := 6, locals := 400 } [.ref (A 0 0), .int z, .int y] (wC a E0 n cap A g en S) (qI fun _ _ => False) (fun E w => E = "java/lang/IndexOutOfBoundsException" ∧ w = wC a E0 n cap A g en S) := by
  refine Ct.of [some (.ref (A 0 0)), some (.int z), some (.int y)] rfl hl (by decide) (Nat.le_of_ble_eq_true rfl) rfl (fun φ C0 => ?_)
  have C := C0.1
  refine x_iload_n C 1 dX5_park_0 rfl rfl ?_
  exact x_callSx0_v C0 4 1 6 1 (cC_requireChannel_1 hl hc) rfl gX5_park_X5_requireChannel ⟨by decide, by decide, rfl⟩ ⟨Nat.le_of_ble_eq_true rfl, Nat.le_of_ble_eq_true rfl⟩ rfl rfl (Nat.le_of_ble_eq_true rfl) ⟨Nat.le_of_ble_eq_true rfl, Nat.le_of_ble_eq_true rfl⟩ dX5_park_1 rfl rfl rfl (fun _ h => h.elim) (fun E w h => h)
set_option maxRecDepth 100000 in
set_option maxHeartbeats 4000000 in
theorem cC_park_2 (hl : l.stackTraces = false) {x : Int32} {c : Nat} (hc : c < 12) (hv : lvB x = false)  : Ct (gm D a E0) l yX5_park wsX5_park { frames := 16, cells := 1, slots := 6, locals := 400 } [.ref (A 0 0), .int (nI c), .int x] (wC a E0 n cap A g en S) (qI fun _ _ => False) (fun E w => E = "java/lang/IllegalArgumentException" ∧ w = wC a E0 n cap A g en S) := by
  refine Ct.of [some (.ref (A 0 0)), some (.int (nI c)), some (.int x)] rfl hl (by decide) (Nat.le_of_ble_eq_true rfl) rfl (fun φ C0 => ?_)
  have C := C0.1
  refine x_iload_n C 1 dX5_park_0 rfl rfl ?_
  refine x_callS0_v C 4 0 0 1 (cC_requireChannel_0 hl (chB_nI hc)) rfl gX5_park_X5_requireChannel ⟨by decide, by decide, rfl⟩ ⟨Nat.le_of_ble_eq_true rfl, Nat.le_of_ble_eq_true rfl⟩ rfl rfl (Nat.le_of_ble_eq_true rfl) ⟨Nat.le_of_ble_eq_true rfl, Nat.le_of_ble_eq_true rfl⟩ dX5_park_1 rfl rfl rfl (fun w1 h1 => ?_)
  subst h1
  refine x_iload_n C 5 dX5_park_4 rfl rfl ?_
  exact x_callSx0_v C0 8 1 6 1 (cC_requireLevel_1 hl hv) rfl gX5_park_X5_requireLevel ⟨by decide, by decide, rfl⟩ ⟨Nat.le_of_ble_eq_true rfl, Nat.le_of_ble_eq_true rfl⟩ rfl rfl (Nat.le_of_ble_eq_true rfl) ⟨Nat.le_of_ble_eq_true rfl, Nat.le_of_ble_eq_true rfl⟩ dX5_park_5 rfl rfl rfl (fun _ h => h.elim) (fun E w h => h)
theorem fg_X5_unpark_25 : gF RX5 wsX5_unpark 25 9 3 := ⟨RX5, TX5, 11, "StageConsole", rfl, fun w h => (List.mem_cons_of_mem _ (List.mem_append_left _ (List.mem_append_left _ (List.mem_append_left _ (List.mem_append_right _ h))))), by decide, (List.mem_cons_of_mem _ (List.mem_append_left _ (List.mem_append_left _ (List.mem_append_left _ (List.mem_append_left _ (List.mem_of_getElem? (i := 2) rfl)))))), Or.inl rfl⟩
theorem fg_X5_unpark_239 : gF RX5 wsX5_unpark 239 4 8 := ⟨RX0, TX0, 9, "StageConsole$Channel", rfl, fun w h => (List.mem_cons_of_mem _ (List.mem_append_left _ (List.mem_append_left _ (List.mem_append_right _ h)))), by decide, (List.mem_cons_of_mem _ (List.mem_append_left _ (List.mem_append_left _ (List.mem_append_left _ (List.mem_append_left _ (List.mem_of_getElem? (i := 3) rfl)))))), Or.inl rfl⟩
theorem fp_X5_unpark_239 : pF RX5 wsX5_unpark 239 4 8 false (.int) := ⟨RX0, TX0, 9, "StageConsole$Channel", tyX0, rfl, fun w h => (List.mem_cons_of_mem _ (List.mem_append_left _ (List.mem_append_left _ (List.mem_append_right _ h)))), by decide, (List.mem_cons_of_mem _ (List.mem_append_left _ (List.mem_append_left _ (List.mem_append_left _ (List.mem_append_left _ (List.mem_of_getElem? (i := 3) rfl)))))), Or.inl rfl, tyX0_ok, nmX0, rfl, rfl, fun h => absurd h (by decide)⟩
set_option maxRecDepth 100000 in
set_option maxHeartbeats 4000000 in
theorem cC_unpark_0 (hl : l.stackTraces = false) {c : Nat} (hc : c < 12) (hv : ¬ S 4 c 8 = -1)  : Ct (gm D a E0) l yX5_unpark wsX5_unpark { frames := 16, cells := 0, slots := 0, locals := 400 } [.ref (A 0 0), .int (nI c)] (wC a E0 n cap A g en S) (qI fun v w => v = S 4 c 8 ∧ w = wC a E0 n cap A g en (uS S 4 c 8 (-1))) noX := by
  refine Ct.of [some (.ref (A 0 0)), some (.int (nI c)), none] rfl hl (by decide) (Nat.le_of_ble_eq_true rfl) rfl (fun φ C0 => ?_)
  have C := C0.1
  refine x_iload_n C 1 dX5_unpark_0 rfl rfl ?_
  refine x_callS0_v C 4 0 0 1 (cC_requireChannel_0 hl (chB_nI hc)) rfl gX5_unpark_X5_requireChannel ⟨by decide, by decide, rfl⟩ ⟨Nat.le_of_ble_eq_true rfl, Nat.le_of_ble_eq_true rfl⟩ rfl rfl (Nat.le_of_ble_eq_true rfl) ⟨Nat.le_of_ble_eq_true rfl, Nat.le_of_ble_eq_true rfl⟩ dX5_unpark_1 rfl rfl rfl (fun w1 h1 => ?_)
  subst h1
  refine x_aload_n C 5 dX5_unpark_4 rfl rfl ?_
  refine xc_get C 8 0 0 (by decide) (show 0 < 1 by decide) rfl fg_X5_unpark_25 rfl dX5_unpark_5 rfl ?_
  refine x_iload_n C 9 dX5_unpark_8 rfl rfl ?_
  refine xc_chan C 10 c rfl (by omega) dX5_unpark_9 rfl ?_
  refine xc_get C 13 4 c (by decide) (show c < 12 from by omega) rfl fg_X5_unpark_239 rfl dX5_unpark_10 rfl ?_
  refine x_nm (fun sv esv => ?_)
  refine x_istore_n C 14 dX5_unpark_13 (by decide) rfl rfl ?_
  refine x_iload_n C 15 dX5_unpark_14 rfl rfl ?_
  refine x_iconst (v := (-1)) C 16 dX5_unpark_15 (by decide) rfl ?_
  refine x_icmp_ne C 29 19 dX5_unpark_16 (by decide) rfl (fun zk16 => ?_) (fun zk16 => ?_)
  · refine x_aload_n C 30 dX5_unpark_29 rfl rfl ?_
    refine xc_get C 33 0 0 (by decide) (show 0 < 1 by decide) rfl fg_X5_unpark_25 rfl dX5_unpark_30 rfl ?_
    refine x_iload_n C 34 dX5_unpark_33 rfl rfl ?_
    refine xc_chan C 35 c rfl (by omega) dX5_unpark_34 rfl ?_
    refine x_iconst (v := (-1)) C 36 dX5_unpark_35 (by decide) rfl ?_
    refine xc_put C 39 4 c 8 (by decide) (show c < 12 from by omega) rfl fp_X5_unpark_239 rfl rfl (Nat.le_of_ble_eq_true rfl) rfl dX5_unpark_36 rfl ?_
    refine x_iload_n C 40 dX5_unpark_39 rfl rfl ?_
    exact x_zret C0 dX5_unpark_40 (Nat.le_of_ble_eq_true rfl) (Nat.le_of_ble_eq_true rfl) ⟨_, rfl, ⟨esv, rfl⟩⟩
  · exact absurd (esv.symm.trans zk16) hv
set_option maxRecDepth 100000 in
set_option maxHeartbeats 4000000 in
theorem cC_unpark_1 (hl : l.stackTraces = false) {z : Int32} (hc : chB z = false)  : Ct (gm D a E0) l yX5_unpark wsX5_unpark { frames := 16, cells := 1, slots := 6, locals := 400 } [.ref (A 0 0), .int z] (wC a E0 n cap A g en S) (qI fun _ _ => False) (fun E w => E = "java/lang/IndexOutOfBoundsException" ∧ w = wC a E0 n cap A g en S) := by
  refine Ct.of [some (.ref (A 0 0)), some (.int z), none] rfl hl (by decide) (Nat.le_of_ble_eq_true rfl) rfl (fun φ C0 => ?_)
  have C := C0.1
  refine x_iload_n C 1 dX5_unpark_0 rfl rfl ?_
  exact x_callSx0_v C0 4 1 6 1 (cC_requireChannel_1 hl hc) rfl gX5_unpark_X5_requireChannel ⟨by decide, by decide, rfl⟩ ⟨Nat.le_of_ble_eq_true rfl, Nat.le_of_ble_eq_true rfl⟩ rfl rfl (Nat.le_of_ble_eq_true rfl) ⟨Nat.le_of_ble_eq_true rfl, Nat.le_of_ble_eq_true rfl⟩ dX5_unpark_1 rfl rfl rfl (fun _ h => h.elim) (fun E w h => h)
set_option maxRecDepth 100000 in
set_option maxHeartbeats 4000000 in
theorem cC_unpark_2 (hl : l.stackTraces = false) {c : Nat} (hc : c < 12) (hv : S 4 c 8 = -1)  : Ct (gm D a E0) l yX5_unpark wsX5_unpark { frames := 16, cells := 1, slots := 6, locals := 400 } [.ref (A 0 0), .int (nI c)] (wC a E0 n cap A g en S) (qI fun _ _ => False) (fun E w => E = "java/util/NoSuchElementException" ∧ w = wC a E0 n cap A g en S) := by
  refine Ct.of [some (.ref (A 0 0)), some (.int (nI c)), none] rfl hl (by decide) (Nat.le_of_ble_eq_true rfl) rfl (fun φ C0 => ?_)
  have C := C0.1
  refine x_iload_n C 1 dX5_unpark_0 rfl rfl ?_
  refine x_callS0_v C 4 0 0 1 (cC_requireChannel_0 hl (chB_nI hc)) rfl gX5_unpark_X5_requireChannel ⟨by decide, by decide, rfl⟩ ⟨Nat.le_of_ble_eq_true rfl, Nat.le_of_ble_eq_true rfl⟩ rfl rfl (Nat.le_of_ble_eq_true rfl) ⟨Nat.le_of_ble_eq_true rfl, Nat.le_of_ble_eq_true rfl⟩ dX5_unpark_1 rfl rfl rfl (fun w1 h1 => ?_)
  subst h1
  refine x_aload_n C 5 dX5_unpark_4 rfl rfl ?_
  refine xc_get C 8 0 0 (by decide) (show 0 < 1 by decide) rfl fg_X5_unpark_25 rfl dX5_unpark_5 rfl ?_
  refine x_iload_n C 9 dX5_unpark_8 rfl rfl ?_
  refine xc_chan C 10 c rfl (by omega) dX5_unpark_9 rfl ?_
  refine xc_get C 13 4 c (by decide) (show c < 12 from by omega) rfl fg_X5_unpark_239 rfl dX5_unpark_10 rfl ?_
  refine x_nm (fun sv esv => ?_)
  refine x_istore_n C 14 dX5_unpark_13 (by decide) rfl rfl ?_
  refine x_iload_n C 15 dX5_unpark_14 rfl rfl ?_
  refine x_iconst (v := (-1)) C 16 dX5_unpark_15 (by decide) rfl ?_
  refine x_icmp_ne C 29 19 dX5_unpark_16 (by decide) rfl (fun zk16 => ?_) (fun zk16 => ?_)
  · exact absurd (esv.trans hv) zk16
  · exact x_throwS C0 (cls := "java/util/NoSuchElementException") (text := "the channel is not parked") (names := ["java/lang/RuntimeException", "java/lang/Exception"]) (List.mem_of_getElem? (i := 12) rfl) (by decide) (by decide) (List.mem_cons_of_mem _ (List.mem_append_left _ (List.mem_append_left _ (List.mem_append_left _ (List.mem_append_left _ (List.mem_of_getElem? (i := 0) rfl)))))) (List.mem_cons_of_mem _ (List.mem_append_left _ (List.mem_append_left _ (List.mem_append_left _ (List.mem_append_left _ (List.mem_of_getElem? (i := 1) rfl)))))) (fun w h => (List.mem_cons_of_mem _ (List.mem_append_left _ (List.mem_append_right _ h)))) (by decide) (by decide +kernel) (by decide +kernel) dX5_unpark_19 dX5_unpark_22 dX5_unpark_23 dX5_unpark_25 dX5_unpark_28 (Nat.le_of_ble_eq_true rfl) (Nat.le_of_ble_eq_true rfl) (Nat.le_of_ble_eq_true rfl) (Nat.le_of_ble_eq_true rfl) ⟨rfl, rfl⟩   
set_option maxRecDepth 100000 in
set_option maxHeartbeats 4000000 in
theorem cC_setMaster_0 (hl : l.stackTraces = false) {x : Int32} (hv : lvB x = true)  : Ct (gm D a E0) l yX5_setMaster wsX5_setMaster { frames := 16, cells := 0, slots := 0, locals := 400 } [.ref (A 0 0), .int x] (wC a E0 n cap A g en S) (qI fun v w => v = S 0 0 2 ∧ w = wC a E0 n cap A g en (uS S 0 0 2 x)) noX := by
  refine Ct.of [some (.ref (A 0 0)), some (.int x)] rfl hl (by decide) (Nat.le_of_ble_eq_true rfl) rfl (fun φ C0 => ?_)
  have C := C0.1
  refine x_iload_n C 1 dX5_setMaster_0 rfl rfl ?_
  refine x_callS0_v C 4 0 0 1 (cC_requireLevel_0 hl hv) rfl gX5_setMaster_X5_requireLevel ⟨by decide, by decide, rfl⟩ ⟨Nat.le_of_ble_eq_true rfl, Nat.le_of_ble_eq_true rfl⟩ rfl rfl (Nat.le_of_ble_eq_true rfl) ⟨Nat.le_of_ble_eq_true rfl, Nat.le_of_ble_eq_true rfl⟩ dX5_setMaster_1 rfl rfl rfl (fun w1 h1 => ?_)
  subst h1
  refine x_aload_n C 5 dX5_setMaster_4 rfl rfl ?_
  refine x_iload_n C 6 dX5_setMaster_5 rfl rfl ?_
  refine xc_callV_i C 9 0 0 0 0 9 1 (cC_moveMaster hl) rfl gX5_setMaster_X5_moveMaster ⟨rfl, by decide, by decide, rfl⟩ ⟨Nat.le_of_ble_eq_true rfl, Nat.le_of_ble_eq_true rfl⟩ rfl (by decide) (show 0 < 1 by decide) rfl rfl rfl (Nat.le_of_ble_eq_true rfl) ⟨Nat.le_of_ble_eq_true rfl, Nat.le_of_ble_eq_true rfl⟩ dX5_setMaster_6 rfl rfl rfl (fun r2 w2 h2 => ?_)
  obtain ⟨rfl, rfl⟩ := h2
  exact x_zret C0 dX5_setMaster_9 (Nat.le_of_ble_eq_true rfl) (Nat.le_of_ble_eq_true rfl) ⟨_, rfl, ⟨rfl, rfl⟩⟩
set_option maxRecDepth 100000 in
set_option maxHeartbeats 4000000 in
theorem cC_setMaster_1 (hl : l.stackTraces = false) {x : Int32} (hv : lvB x = false)  : Ct (gm D a E0) l yX5_setMaster wsX5_setMaster { frames := 16, cells := 1, slots := 6, locals := 400 } [.ref (A 0 0), .int x] (wC a E0 n cap A g en S) (qI fun _ _ => False) (fun E w => E = "java/lang/IllegalArgumentException" ∧ w = wC a E0 n cap A g en S) := by
  refine Ct.of [some (.ref (A 0 0)), some (.int x)] rfl hl (by decide) (Nat.le_of_ble_eq_true rfl) rfl (fun φ C0 => ?_)
  have C := C0.1
  refine x_iload_n C 1 dX5_setMaster_0 rfl rfl ?_
  exact x_callSx0_v C0 4 1 6 1 (cC_requireLevel_1 hl hv) rfl gX5_setMaster_X5_requireLevel ⟨by decide, by decide, rfl⟩ ⟨Nat.le_of_ble_eq_true rfl, Nat.le_of_ble_eq_true rfl⟩ rfl rfl (Nat.le_of_ble_eq_true rfl) ⟨Nat.le_of_ble_eq_true rfl, Nat.le_of_ble_eq_true rfl⟩ dX5_setMaster_1 rfl rfl rfl (fun _ h => h.elim) (fun E w h => h)
end CC
