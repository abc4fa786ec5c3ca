section CC
variable {l : Launch} {Γ : Gm} {D : va_G} {a : Nat → ClassId} {E0 : Nat} {n cap : Nat → Nat} {A : Nat → Nat → Nat} {g : Nat → Nat} {en : Int64} {S : Nat → Nat → Nat → Int32}
theorem fg_X5_moveMaster_35 : gF RX5 wsX5_moveMaster 35 9 6 := ⟨RX5, TX5, 11, "StageConsole", rfl, fun w h => (List.mem_cons_of_mem _ (List.mem_append_right _ h)), by decide, (List.mem_cons_of_mem _ (List.mem_append_left _ (List.mem_of_getElem? (i := 0) rfl))), Or.inl rfl⟩
theorem fp_X5_moveMaster_35 : pF RX5 wsX5_moveMaster 35 9 6 false (.int) := ⟨RX5, TX5, 11, "StageConsole", tyX5, rfl, fun w h => (List.mem_cons_of_mem _ (List.mem_append_right _ h)), by decide, (List.mem_cons_of_mem _ (List.mem_append_left _ (List.mem_of_getElem? (i := 0) rfl))), Or.inl rfl, tyX5_ok, nmX5, rfl, rfl, fun h => absurd h (by decide)⟩
set_option maxRecDepth 100000 in
set_option maxHeartbeats 4000000 in
theorem cC_moveMaster (hl : l.stackTraces = false) {x : Int32}  : Ct (gm D a E0) l yX5_moveMaster wsX5_moveMaster { frames := 4, cells := 0, slots := 0, locals := 100 } [.ref (A 0 0), .int x] (wC a E0 n cap A g en S) (qI fun v w => v = S 0 0 2 ∧ w = wC a E0 n cap A g en (uS S 0 0 2 x)) noX := by
  refine Ct.of [some (.ref (A 0 0)), some (.int x), none] rfl hl (by decide) (Nat.le_of_ble_eq_true rfl) rfl (fun φ C0 => ?_)
  have C := C0.1
  refine x_aload_n C 1 dX5_moveMaster_0 rfl rfl ?_
  refine xc_get C 4 0 0 (by decide) (show 0 < 1 by decide) rfl fg_X5_moveMaster_35 rfl dX5_moveMaster_1 rfl ?_
  refine x_nm (fun bf ebf => ?_)
  refine x_istore_n C 5 dX5_moveMaster_4 (by decide) rfl rfl ?_
  refine x_aload_n C 6 dX5_moveMaster_5 rfl rfl ?_
  refine x_iload_n C 7 dX5_moveMaster_6 rfl rfl ?_
  refine xc_put C 10 0 0 2 (by decide) (show 0 < 1 by decide) rfl fp_X5_moveMaster_35 rfl rfl (Nat.le_of_ble_eq_true rfl) rfl dX5_moveMaster_7 rfl ?_
  refine x_iload_n C 11 dX5_moveMaster_10 rfl rfl ?_
  exact x_zret C0 dX5_moveMaster_11 (Nat.le_of_ble_eq_true rfl) (Nat.le_of_ble_eq_true rfl) ⟨_, rfl, ⟨ebf, rfl⟩⟩
theorem fg_X5_parkAt_25 : gF RX5 wsX5_parkAt 25 9 3 := ⟨RX5, TX5, 11, "StageConsole", rfl, fun w h => (List.mem_cons_of_mem _ (List.mem_append_left _ (List.mem_append_right _ h))), by decide, (List.mem_cons_of_mem _ (List.mem_append_left _ (List.mem_append_left _ (List.mem_of_getElem? (i := 0) rfl)))), Or.inl rfl⟩
theorem fg_X5_parkAt_239 : gF RX5 wsX5_parkAt 239 4 8 := ⟨RX0, TX0, 9, "StageConsole$Channel", rfl, fun w h => (List.mem_cons_of_mem _ (List.mem_append_right _ h)), by decide, (List.mem_cons_of_mem _ (List.mem_append_left _ (List.mem_append_left _ (List.mem_of_getElem? (i := 1) rfl)))), Or.inl rfl⟩
theorem fp_X5_parkAt_239 : pF RX5 wsX5_parkAt 239 4 8 false (.int) := ⟨RX0, TX0, 9, "StageConsole$Channel", tyX0, rfl, fun w h => (List.mem_cons_of_mem _ (List.mem_append_right _ h)), by decide, (List.mem_cons_of_mem _ (List.mem_append_left _ (List.mem_append_left _ (List.mem_of_getElem? (i := 1) rfl)))), Or.inl rfl, tyX0_ok, nmX0, rfl, rfl, fun h => absurd h (by decide)⟩
set_option maxRecDepth 100000 in
set_option maxHeartbeats 4000000 in
theorem cC_parkAt (hl : l.stackTraces = false) {c : Nat} (hc : c < 12) {x : Int32}  : Ct (gm D a E0) l yX5_parkAt wsX5_parkAt { frames := 4, cells := 0, slots := 0, locals := 100 } [.ref (A 0 0), .int (nI c), .int x] (wC a E0 n cap A g en S) (qI fun v w => v = S 4 c 8 ∧ w = wC a E0 n cap A g en (uS S 4 c 8 x)) noX := by
  refine Ct.of [some (.ref (A 0 0)), some (.int (nI c)), some (.int x), none] rfl hl (by decide) (Nat.le_of_ble_eq_true rfl) rfl (fun φ C0 => ?_)
  have C := C0.1
  refine x_aload_n C 1 dX5_parkAt_0 rfl rfl ?_
  refine xc_get C 4 0 0 (by decide) (show 0 < 1 by decide) rfl fg_X5_parkAt_25 rfl dX5_parkAt_1 rfl ?_
  refine x_iload_n C 5 dX5_parkAt_4 rfl rfl ?_
  refine xc_chan C 6 c rfl (by omega) dX5_parkAt_5 rfl ?_
  refine xc_get C 9 4 c (by decide) (show c < 12 from by omega) rfl fg_X5_parkAt_239 rfl dX5_parkAt_6 rfl ?_
  refine x_nm (fun bf ebf => ?_)
  refine x_istore_n C 10 dX5_parkAt_9 (by decide) rfl rfl ?_
  refine x_aload_n C 11 dX5_parkAt_10 rfl rfl ?_
  refine xc_get C 14 0 0 (by decide) (show 0 < 1 by decide) rfl fg_X5_parkAt_25 rfl dX5_parkAt_11 rfl ?_
  refine x_iload_n C 15 dX5_parkAt_14 rfl rfl ?_
  refine xc_chan C 16 c rfl (by omega) dX5_parkAt_15 rfl ?_
  refine x_iload_n C 17 dX5_parkAt_16 rfl rfl ?_
  refine xc_put C 20 4 c 8 (by decide) (show c < 12 from by omega) rfl fp_X5_parkAt_239 rfl rfl (Nat.le_of_ble_eq_true rfl) rfl dX5_parkAt_17 rfl ?_
  refine x_iload_n C 21 dX5_parkAt_20 rfl rfl ?_
  exact x_zret C0 dX5_parkAt_21 (Nat.le_of_ble_eq_true rfl) (Nat.le_of_ble_eq_true rfl) ⟨_, rfl, ⟨ebf, rfl⟩⟩
theorem fg_X5_outputOf_25 : gF RX5 wsX5_outputOf 25 9 3 := ⟨RX5, TX5, 11, "StageConsole", rfl, fun w h => (List.mem_cons_of_mem _ (List.mem_append_left _ (List.mem_append_right _ h))), by decide, (List.mem_cons_of_mem _ (List.mem_append_left _ (List.mem_append_left _ (List.mem_of_getElem? (i := 0) rfl)))), Or.inl rfl⟩
theorem fg_X5_outputOf_239 : gF RX5 wsX5_outputOf 239 4 8 := ⟨RX0, TX0, 9, "StageConsole$Channel", rfl, fun w h => (List.mem_cons_of_mem _ (List.mem_append_right _ h)), by decide, (List.mem_cons_of_mem _ (List.mem_append_left _ (List.mem_append_left _ (List.mem_of_getElem? (i := 1) rfl)))), Or.inl rfl⟩
theorem fg_X5_outputOf_35 : gF RX5 wsX5_outputOf 35 9 6 := ⟨RX5, TX5, 11, "StageConsole", rfl, fun w h => (List.mem_cons_of_mem _ (List.mem_append_left _ (List.mem_append_right _ h))), by decide, (List.mem_cons_of_mem _ (List.mem_append_left _ (List.mem_append_left _ (List.mem_of_getElem? (i := 6) rfl)))), Or.inl rfl⟩
set_option maxRecDepth 100000 in
set_option maxHeartbeats 4000000 in
theorem cC_outputOf (hl : l.stackTraces = false) {c : Nat} (hc : c < 12) {x : Int32}  : Ct (gm D a E0) l yX5_outputOf wsX5_outputOf { frames := 8, cells := 0, slots := 0, locals := 200 } [.ref (A 0 0), .int (nI c), .int x] (wC a E0 n cap A g en S) (qI fun v w => v = ouC S c x ∧ w = wC a E0 n cap A g en S) noX := by
  refine Ct.of [some (.ref (A 0 0)), some (.int (nI c)), some (.int x)] rfl hl (by decide) (Nat.le_of_ble_eq_true rfl) rfl (fun φ C0 => ?_)
  have C := C0.1
  refine x_aload_n C 1 dX5_outputOf_0 rfl rfl ?_
  refine xc_get C 4 0 0 (by decide) (show 0 < 1 by decide) rfl fg_X5_outputOf_25 rfl dX5_outputOf_1 rfl ?_
  refine x_iload_n C 5 dX5_outputOf_4 rfl rfl ?_
  refine xc_chan C 6 c rfl (by omega) dX5_outputOf_5 rfl ?_
  refine xc_get C 9 4 c (by decide) (show c < 12 from by omega) rfl fg_X5_outputOf_239 rfl dX5_outputOf_6 rfl ?_
  refine x_iconst (v := (-1)) C 10 dX5_outputOf_9 (by decide) rfl ?_
  refine x_icmp_eq C 23 13 dX5_outputOf_10 (by decide) rfl (fun zk10 => ?_) (fun zk10 => ?_)
  · refine x_iload_n C 24 dX5_outputOf_23 rfl rfl ?_
    refine x_sipush (v := (255)) C 27 dX5_outputOf_24 (by decide) rfl ?_
    refine x_mmin C 30 (List.mem_cons_of_mem _ (List.mem_append_left _ (List.mem_append_left _ (List.mem_of_getElem? (i := 2) rfl)))) (List.mem_cons_of_mem _ (List.mem_append_left _ (List.mem_append_left _ (List.mem_of_getElem? (i := 3) rfl)))) (List.mem_cons_of_mem _ (List.mem_append_left _ (List.mem_append_left _ (List.mem_of_getElem? (i := 4) rfl)))) (List.mem_cons_of_mem _ (List.mem_append_left _ (List.mem_append_left _ (List.mem_of_getElem? (i := 5) rfl)))) (Nat.le_of_ble_eq_true rfl) (Nat.le_of_ble_eq_true rfl) (Nat.le_of_ble_eq_true rfl) (Nat.le_of_ble_eq_true rfl) dX5_outputOf_27 rfl ?_
    refine x_aload_n C 31 dX5_outputOf_30 rfl rfl ?_
    refine xc_get C 34 0 0 (by decide) (show 0 < 1 by decide) rfl fg_X5_outputOf_35 rfl dX5_outputOf_31 rfl ?_
    refine x_imul C 35 dX5_outputOf_34 rfl ?_
    refine x_sipush (v := (255)) C 38 dX5_outputOf_35 (by decide) rfl ?_
    refine x_idiv C 39 dX5_outputOf_38 (by decide) rfl ?_
    exact x_zret C0 dX5_outputOf_39 (Nat.le_of_ble_eq_true rfl) (Nat.le_of_ble_eq_true rfl) ⟨_, rfl, ⟨by rw [ouC, if_pos zk10]; rfl, rfl⟩⟩
  · refine x_aload_n C 14 dX5_outputOf_13 rfl rfl ?_
    refine xc_get C 17 0 0 (by decide) (show 0 < 1 by decide) rfl fg_X5_outputOf_25 rfl dX5_outputOf_14 rfl ?_
    refine x_iload_n C 18 dX5_outputOf_17 rfl rfl ?_
    refine xc_chan C 19 c rfl (by omega) dX5_outputOf_18 rfl ?_
    refine xc_get C 22 4 c (by decide) (show c < 12 from by omega) rfl fg_X5_outputOf_239 rfl dX5_outputOf_19 rfl ?_
    exact x_zret C0 dX5_outputOf_22 (Nat.le_of_ble_eq_true rfl) (Nat.le_of_ble_eq_true rfl) ⟨_, rfl, ⟨by rw [ouC, if_neg zk10], rfl⟩⟩
theorem fg_X5_latestLevel_25 : gF RX5 wsX5_latestLevel 25 9 3 := ⟨RX5, TX5, 11, "StageConsole", rfl, fun w h => (List.mem_cons_of_mem _ (List.mem_append_left _ (List.mem_append_left _ (List.mem_append_left _ (List.mem_append_left _ (List.mem_append_right _ h)))))), by decide, (List.mem_cons_of_mem _ (List.mem_append_left _ (List.mem_append_left _ (List.mem_append_left _ (List.mem_append_left _ (List.mem_append_left _ (List.mem_append_left _ (List.mem_of_getElem? (i := 0) rfl)))))))), Or.inl rfl⟩
theorem fg_X5_latestLevel_196 : gF RX5 wsX5_latestLevel 196 4 7 := ⟨RX0, TX0, 9, "StageConsole$Channel", rfl, fun w h => (List.mem_cons_of_mem _ (List.mem_append_left _ (List.mem_append_left _ (List.mem_append_left _ (List.mem_append_right _ h))))), by decide, (List.mem_cons_of_mem _ (List.mem_append_left _ (List.mem_append_left _ (List.mem_append_left _ (List.mem_append_left _ (List.mem_append_left _ (List.mem_append_left _ (List.mem_of_getElem? (i := 1) rfl)))))))), Or.inl rfl⟩
theorem fg_X5_latestLevel_164 : gF RX5 wsX5_latestLevel 164 4 0 := ⟨RX0, TX0, 9, "StageConsole$Channel", rfl, fun w h => (List.mem_cons_of_mem _ (List.mem_append_left _ (List.mem_append_left _ (List.mem_append_left _ (List.mem_append_right _ h))))), by decide, (List.mem_cons_of_mem _ (List.mem_append_left _ (List.mem_append_left _ (List.mem_append_left _ (List.mem_append_left _ (List.mem_append_left _ (List.mem_append_left _ (List.mem_of_getElem? (i := 6) rfl)))))))), Or.inl rfl⟩
theorem fg_X5_latestLevel_29 : gF RX5 wsX5_latestLevel 29 9 4 := ⟨RX5, TX5, 11, "StageConsole", rfl, fun w h => (List.mem_cons_of_mem _ (List.mem_append_left _ (List.mem_append_left _ (List.mem_append_left _ (List.mem_append_left _ (List.mem_append_right _ h)))))), by decide, (List.mem_cons_of_mem _ (List.mem_append_left _ (List.mem_append_left _ (List.mem_append_left _ (List.mem_append_left _ (List.mem_append_left _ (List.mem_append_left _ (List.mem_of_getElem? (i := 2) rfl)))))))), Or.inl rfl⟩
theorem fg_X5_latestLevel_186 : gF RX5 wsX5_latestLevel 186 7 0 := ⟨RX3, TX3, 2, "StageConsole$Group", rfl, fun w h => (List.mem_cons_of_mem _ (List.mem_append_left _ (List.mem_append_left _ (List.mem_append_right _ h)))), by decide, (List.mem_cons_of_mem _ (List.mem_append_left _ (List.mem_append_left _ (List.mem_append_left _ (List.mem_append_left _ (List.mem_append_left _ (List.mem_append_left _ (List.mem_of_getElem? (i := 4) rfl)))))))), Or.inl rfl⟩
theorem fg_X5_latestLevel_326 : gF RX5 wsX5_latestLevel 326 7 1 := ⟨RX3, TX3, 2, "StageConsole$Group", rfl, fun w h => (List.mem_cons_of_mem _ (List.mem_append_left _ (List.mem_append_left _ (List.mem_append_right _ h)))), by decide, (List.mem_cons_of_mem _ (List.mem_append_left _ (List.mem_append_left _ (List.mem_append_left _ (List.mem_append_left _ (List.mem_append_left _ (List.mem_append_left _ (List.mem_of_getElem? (i := 5) rfl)))))))), Or.inl rfl⟩
set_option maxRecDepth 100000 in
set_option maxHeartbeats 4000000 in
theorem cC_latestLevel (hl : l.stackTraces = false) {c : Nat} (hc : c < 12) (hN : CN n cap)  : Ct (gm D a E0) l yX5_latestLevel wsX5_latestLevel { frames := 16, cells := 0, slots := 0, locals := 400 } [.ref (A 0 0), .int (nI c)] (wC a E0 n cap A g en S) (qI fun v w => v = laC S (n 1) c ∧ w = wC a E0 n cap A g en S) noX := by
  refine Ct.of [some (.ref (A 0 0)), some (.int (nI c)), none] rfl hl (by decide) (Nat.le_of_ble_eq_true rfl) rfl (fun φ C0 => ?_)
  have C := C0.1
  refine x_aload_n C 1 dX5_latestLevel_0 rfl rfl ?_
  refine xc_get C 4 0 0 (by decide) (show 0 < 1 by decide) rfl fg_X5_latestLevel_25 rfl dX5_latestLevel_1 rfl ?_
  refine x_iload_n C 5 dX5_latestLevel_4 rfl rfl ?_
  refine xc_chan C 6 c rfl (by omega) dX5_latestLevel_5 rfl ?_
  refine xc_get C 9 4 c (by decide) (show c < 12 from by omega) rfl fg_X5_latestLevel_196 rfl dX5_latestLevel_6 rfl ?_
  refine x_nm (fun sv esv => ?_)
  refine x_istore_n C 10 dX5_latestLevel_9 (by decide) rfl rfl ?_
  refine x_iload_n C 11 dX5_latestLevel_10 rfl rfl ?_
  refine x_if_lt C 59 14 dX5_latestLevel_11 (by decide) rfl (fun zk11 => ?_) (fun zk11 => ?_)
  · refine x_aload_n C 60 dX5_latestLevel_59 rfl rfl ?_
    refine xc_get C 63 0 0 (by decide) (show 0 < 1 by decide) rfl fg_X5_latestLevel_25 rfl dX5_latestLevel_60 rfl ?_
    refine x_iload_n C 64 dX5_latestLevel_63 rfl rfl ?_
    refine xc_chan C 65 c rfl (by omega) dX5_latestLevel_64 rfl ?_
    refine xc_get C 68 4 c (by decide) (show c < 12 from by omega) rfl fg_X5_latestLevel_164 rfl dX5_latestLevel_65 rfl ?_
    exact x_zret C0 dX5_latestLevel_68 (Nat.le_of_ble_eq_true rfl) (Nat.le_of_ble_eq_true rfl) ⟨_, rfl, ⟨by first | rw [laC_neg (lt_e esv zk11)] | rw [laC_ge (ge_e esv zk22)] | rw [laC_in esv.symm hk (by have := hN.2.2.1; omega), if_pos zk41] | rw [laC_in esv.symm hk (by have := hN.2.2.1; omega), if_neg zk41], rfl⟩⟩
  · refine x_iload_n C 15 dX5_latestLevel_14 rfl rfl ?_
    refine x_aload_n C 16 dX5_latestLevel_15 rfl rfl ?_
    refine xc_get C 19 0 0 (by decide) (show 0 < 1 by decide) rfl fg_X5_latestLevel_29 rfl dX5_latestLevel_16 rfl ?_
    refine xc_callV_i C 22 0 0 3 1 3 0 (cC_size hl (j := 1) (by decide)) rfl gX5_latestLevel_Jx4a65c_size_8abf5 ⟨rfl, by decide, by decide, rfl⟩ ⟨Nat.le_of_ble_eq_true rfl, Nat.le_of_ble_eq_true rfl⟩ rfl (by decide) (show 1 < 4 by decide) rfl rfl rfl (Nat.le_of_ble_eq_true rfl) ⟨Nat.le_of_ble_eq_true rfl, Nat.le_of_ble_eq_true rfl⟩ dX5_latestLevel_19 rfl rfl rfl (fun r2 w2 h2 => ?_)
    obtain ⟨rfl, rfl⟩ := h2
    refine x_icmp_ge C 59 25 dX5_latestLevel_22 (by decide) rfl (fun zk22 => ?_) (fun zk22 => ?_)
    · refine x_aload_n C 60 dX5_latestLevel_59 rfl rfl ?_
      refine xc_get C 63 0 0 (by decide) (show 0 < 1 by decide) rfl fg_X5_latestLevel_25 rfl dX5_latestLevel_60 rfl ?_
      refine x_iload_n C 64 dX5_latestLevel_63 rfl rfl ?_
      refine xc_chan C 65 c rfl (by omega) dX5_latestLevel_64 rfl ?_
      refine xc_get C 68 4 c (by decide) (show c < 12 from by omega) rfl fg_X5_latestLevel_164 rfl dX5_latestLevel_65 rfl ?_
      exact x_zret C0 dX5_latestLevel_68 (Nat.le_of_ble_eq_true rfl) (Nat.le_of_ble_eq_true rfl) ⟨_, rfl, ⟨by first | rw [laC_neg (lt_e esv zk11)] | rw [laC_ge (ge_e esv zk22)] | rw [laC_in esv.symm hk (by have := hN.2.2.1; omega), if_pos zk41] | rw [laC_in esv.symm hk (by have := hN.2.2.1; omega), if_neg zk41], rfl⟩⟩
    · obtain ⟨k, hk, hsk⟩ := in_of zk11 zk22 (show n 1 < 1000 by have := hN.2.2.1; omega)
      subst hsk
      refine x_aload_n C 26 dX5_latestLevel_25 rfl rfl ?_
      refine xc_get C 29 0 0 (by decide) (show 0 < 1 by decide) rfl fg_X5_latestLevel_29 rfl dX5_latestLevel_26 rfl ?_
      refine x_iload_n C 30 dX5_latestLevel_29 rfl rfl ?_
      refine xc_callV_q C 33 0 0 3 1 3 1 (cC_get hl (j := 1) (by decide) (i := k) (by omega) (hN.1 1 (by decide)).1 (hN.1 1 (by decide)).2) rfl gX5_latestLevel_Jx4a65c_get_915e3 ⟨rfl, by decide, by decide, rfl⟩ ⟨Nat.le_of_ble_eq_true rfl, Nat.le_of_ble_eq_true rfl⟩ rfl (by decide) (show 1 < 4 by decide) rfl rfl rfl (Nat.le_of_ble_eq_true rfl) ⟨Nat.le_of_ble_eq_true rfl, Nat.le_of_ble_eq_true rfl⟩ dX5_latestLevel_30 rfl rfl rfl (fun r3 w3 h3 => ?_)
      obtain ⟨rfl, rfl⟩ := h3
      refine x_topq (show _ = Value.ref (A 7 k) from rfl) ?_
      refine xc_castS C 36 7 k (by decide) (show k < n 1 from by omega) rfl rfl (List.mem_cons_of_mem _ (List.mem_append_left _ (List.mem_append_left _ (List.mem_append_left _ (List.mem_append_left _ (List.mem_append_left _ (List.mem_append_left _ (List.mem_of_getElem? (i := 3) rfl)))))))) dX5_latestLevel_33 rfl ?_
      refine xc_get C 39 7 k (by decide) (show k < n 1 from by omega) rfl fg_X5_latestLevel_186 rfl dX5_latestLevel_36 rfl ?_
      refine x_iload_n C 40 dX5_latestLevel_39 rfl rfl ?_
      refine xc_zald C 41 8 k c (by decide) (show k < n 1 from by omega) rfl rfl (by omega) dX5_latestLevel_40 rfl ?_
      refine x_if_eq C 59 44 dX5_latestLevel_41 (by decide) rfl (fun zk41 => ?_) (fun zk41 => ?_)
      · refine x_aload_n C 60 dX5_latestLevel_59 rfl rfl ?_
        refine xc_get C 63 0 0 (by decide) (show 0 < 1 by decide) rfl fg_X5_latestLevel_25 rfl dX5_latestLevel_60 rfl ?_
        refine x_iload_n C 64 dX5_latestLevel_63 rfl rfl ?_
        refine xc_chan C 65 c rfl (by omega) dX5_latestLevel_64 rfl ?_
        refine xc_get C 68 4 c (by decide) (show c < 12 from by omega) rfl fg_X5_latestLevel_164 rfl dX5_latestLevel_65 rfl ?_
        exact x_zret C0 dX5_latestLevel_68 (Nat.le_of_ble_eq_true rfl) (Nat.le_of_ble_eq_true rfl) ⟨_, rfl, ⟨by first | rw [laC_neg (lt_e esv zk11)] | rw [laC_ge (ge_e esv zk22)] | rw [laC_in esv.symm hk (by have := hN.2.2.1; omega), if_pos zk41] | rw [laC_in esv.symm hk (by have := hN.2.2.1; omega), if_neg zk41], rfl⟩⟩
      · refine x_aload_n C 45 dX5_latestLevel_44 rfl rfl ?_
        refine xc_get C 48 0 0 (by decide) (show 0 < 1 by decide) rfl fg_X5_latestLevel_29 rfl dX5_latestLevel_45 rfl ?_
        refine x_iload_n C 49 dX5_latestLevel_48 rfl rfl ?_
        refine xc_callV_q C 52 0 0 3 1 3 1 (cC_get hl (j := 1) (by decide) (i := k) (by omega) (hN.1 1 (by decide)).1 (hN.1 1 (by decide)).2) rfl gX5_latestLevel_Jx4a65c_get_915e3 ⟨rfl, by decide, by decide, rfl⟩ ⟨Nat.le_of_ble_eq_true rfl, Nat.le_of_ble_eq_true rfl⟩ rfl (by decide) (show 1 < 4 by decide) rfl rfl rfl (Nat.le_of_ble_eq_true rfl) ⟨Nat.le_of_ble_eq_true rfl, Nat.le_of_ble_eq_true rfl⟩ dX5_latestLevel_49 rfl rfl rfl (fun r4 w4 h4 => ?_)
        obtain ⟨rfl, rfl⟩ := h4
        refine x_topq (show _ = Value.ref (A 7 k) from rfl) ?_
        refine xc_castS C 55 7 k (by decide) (show k < n 1 from by omega) rfl rfl (List.mem_cons_of_mem _ (List.mem_append_left _ (List.mem_append_left _ (List.mem_append_left _ (List.mem_append_left _ (List.mem_append_left _ (List.mem_append_left _ (List.mem_of_getElem? (i := 3) rfl)))))))) dX5_latestLevel_52 rfl ?_
        refine xc_get C 58 7 k (by decide) (show k < n 1 from by omega) rfl fg_X5_latestLevel_326 rfl dX5_latestLevel_55 rfl ?_
        exact x_zret C0 dX5_latestLevel_58 (Nat.le_of_ble_eq_true rfl) (Nat.le_of_ble_eq_true rfl) ⟨_, rfl, ⟨by first | rw [laC_neg (lt_e esv zk11)] | rw [laC_ge (ge_e esv zk22)] | rw [laC_in esv.symm hk (by have := hN.2.2.1; omega), if_pos zk41] | rw [laC_in esv.symm hk (by have := hN.2.2.1; omega), if_neg zk41], rfl⟩⟩
theorem fg_X5_highestLevel_25 : gF RX5 wsX5_highestLevel 25 9 3 := ⟨RX5, TX5, 11, "StageConsole", rfl, fun w h => (List.mem_cons_of_mem _ (List.mem_append_left _ (List.mem_append_left _ (List.mem_append_left _ (List.mem_append_left _ (List.mem_append_right _ h)))))), by decide, (List.mem_cons_of_mem _ (List.mem_append_left _ (List.mem_append_left _ (List.mem_append_left _ (List.mem_append_left _ (List.mem_append_left _ (List.mem_append_left _ (List.mem_of_getElem? (i := 0) rfl)))))))), Or.inl rfl⟩
theorem fg_X5_highestLevel_164 : gF RX5 wsX5_highestLevel 164 4 0 := ⟨RX0, TX0, 9, "StageConsole$Channel", rfl, fun w h => (List.mem_cons_of_mem _ (List.mem_append_left _ (List.mem_append_left _ (List.mem_append_left _ (List.mem_append_right _ h))))), by decide, (List.mem_cons_of_mem _ (List.mem_append_left _ (List.mem_append_left _ (List.mem_append_left _ (List.mem_append_left _ (List.mem_append_left _ (List.mem_append_left _ (List.mem_of_getElem? (i := 1) rfl)))))))), Or.inl rfl⟩
theorem fg_X5_highestLevel_29 : gF RX5 wsX5_highestLevel 29 9 4 := ⟨RX5, TX5, 11, "StageConsole", rfl, fun w h => (List.mem_cons_of_mem _ (List.mem_append_left _ (List.mem_append_left _ (List.mem_append_left _ (List.mem_append_left _ (List.mem_append_right _ h)))))), by decide, (List.mem_cons_of_mem _ (List.mem_append_left _ (List.mem_append_left _ (List.mem_append_left _ (List.mem_append_left _ (List.mem_append_left _ (List.mem_append_left _ (List.mem_of_getElem? (i := 2) rfl)))))))), Or.inl rfl⟩
theorem fg_X5_highestLevel_186 : gF RX5 wsX5_highestLevel 186 7 0 := ⟨RX3, TX3, 2, "StageConsole$Group", rfl, fun w h => (List.mem_cons_of_mem _ (List.mem_append_left _ (List.mem_append_left _ (List.mem_append_right _ h)))), by decide, (List.mem_cons_of_mem _ (List.mem_append_left _ (List.mem_append_left _ (List.mem_append_left _ (List.mem_append_left _ (List.mem_append_left _ (List.mem_append_left _ (List.mem_of_getElem? (i := 4) rfl)))))))), Or.inl rfl⟩
theorem fg_X5_highestLevel_326 : gF RX5 wsX5_highestLevel 326 7 1 := ⟨RX3, TX3, 2, "StageConsole$Group", rfl, fun w h => (List.mem_cons_of_mem _ (List.mem_append_left _ (List.mem_append_left _ (List.mem_append_right _ h)))), by decide, (List.mem_cons_of_mem _ (List.mem_append_left _ (List.mem_append_left _ (List.mem_append_left _ (List.mem_append_left _ (List.mem_append_left _ (List.mem_append_left _ (List.mem_of_getElem? (i := 5) rfl)))))))), Or.inl rfl⟩
set_option maxRecDepth 100000 in
set_option maxHeartbeats 4000000 in
theorem cC_highestLevel (hl : l.stackTraces = false) {c : Nat} (hc : c < 12) (hN : CN n cap)  : Ct (gm D a E0) l yX5_highestLevel wsX5_highestLevel { frames := 16, cells := 0, slots := 0, locals := 400 } [.ref (A 0 0), .int (nI c)] (wC a E0 n cap A g en S) (qI fun v w => v = hiL S c (n 1) 0 (S 4 c 0) ∧ w = wC a E0 n cap A g en S) noX := by
  refine Ct.of [some (.ref (A 0 0)), some (.int (nI c)), none, none] rfl hl (by decide) (Nat.le_of_ble_eq_true rfl) rfl (fun φ C0 => ?_)
  have C := C0.1
  refine x_aload_n C 1 dX5_highestLevel_0 rfl rfl ?_
  refine xc_get C 4 0 0 (by decide) (show 0 < 1 by decide) rfl fg_X5_highestLevel_25 rfl dX5_highestLevel_1 rfl ?_
  refine x_iload_n C 5 dX5_highestLevel_4 rfl rfl ?_
  refine xc_chan C 6 c rfl (by omega) dX5_highestLevel_5 rfl ?_
  refine xc_get C 9 4 c (by decide) (show c < 12 from by omega) rfl fg_X5_highestLevel_164 rfl dX5_highestLevel_6 rfl ?_
  refine x_nm (fun v0 ev0 => ?_)
  refine x_istore_n C 10 dX5_highestLevel_9 (by decide) rfl rfl ?_
  refine x_iconst (v := (0)) C 11 dX5_highestLevel_10 (by decide) rfl ?_
  refine x_istore_n C 12 dX5_highestLevel_11 (by decide) rfl rfl ?_
  have lp12 : ∀ (m i : Nat) (v : Int32), i + m = n 1 → hiL S c (n 1) 0 (S 4 c 0) = hiL S c m i v → X φ 12 [some (.ref (A 0 0)), some (.int (nI c)), some (.int v), some (.int (nI i))] [] (wC a E0 n cap A g en S) 0 0 := by
    intro m
    induction m with
    | zero =>
      intro i v hi hr
      refine x_iload_n C 13 dX5_highestLevel_12 rfl rfl ?_
      refine x_aload_n C 14 dX5_highestLevel_13 rfl rfl ?_
      refine xc_get C 17 0 0 (by decide) (show 0 < 1 by decide) rfl fg_X5_highestLevel_29 rfl dX5_highestLevel_14 rfl ?_
      refine xc_callV_i C 20 0 0 3 1 3 0 (cC_size hl (j := 1) (by decide)) rfl gX5_highestLevel_Jx4a65c_size_8abf5 ⟨rfl, by decide, by decide, rfl⟩ ⟨Nat.le_of_ble_eq_true rfl, Nat.le_of_ble_eq_true rfl⟩ rfl (by decide) (show 1 < 4 by decide) rfl rfl rfl (Nat.le_of_ble_eq_true rfl) ⟨Nat.le_of_ble_eq_true rfl, Nat.le_of_ble_eq_true rfl⟩ dX5_highestLevel_17 rfl rfl rfl (fun r2 w2 h2 => ?_)
      obtain ⟨rfl, rfl⟩ := h2
      have h5 := hN.2.2.1
      refine x_icmp_ge C 67 23 dX5_highestLevel_20 (by decide) rfl (fun zk20 => ?_) (fun zk20 => ?_)
      · have zk20 := (nI_leI (a := (n 1)) (b := i) (by omega) (by omega)).mp zk20
        refine x_iload_n C 68 dX5_highestLevel_67 rfl rfl ?_
        exact x_zret C0 dX5_highestLevel_68 (Nat.le_of_ble_eq_true rfl) (Nat.le_of_ble_eq_true rfl) ⟨_, rfl, ⟨by rw [hr]; rfl, rfl⟩⟩
      · have zk20 := mt (nI_leI (a := (n 1)) (b := i) (by omega) (by omega)).mpr zk20
        exfalso; omega
    | succ m ih =>
      intro i v hi hr
      refine x_iload_n C 13 dX5_highestLevel_12 rfl rfl ?_
      refine x_aload_n C 14 dX5_highestLevel_13 rfl rfl ?_
      refine xc_get C 17 0 0 (by decide) (show 0 < 1 by decide) rfl fg_X5_highestLevel_29 rfl dX5_highestLevel_14 rfl ?_
      refine xc_callV_i C 20 0 0 3 1 3 0 (cC_size hl (j := 1) (by decide)) rfl gX5_highestLevel_Jx4a65c_size_8abf5 ⟨rfl, by decide, by decide, rfl⟩ ⟨Nat.le_of_ble_eq_true rfl, Nat.le_of_ble_eq_true rfl⟩ rfl (by decide) (show 1 < 4 by decide) rfl rfl rfl (Nat.le_of_ble_eq_true rfl) ⟨Nat.le_of_ble_eq_true rfl, Nat.le_of_ble_eq_true rfl⟩ dX5_highestLevel_17 rfl rfl rfl (fun r3 w3 h3 => ?_)
      obtain ⟨rfl, rfl⟩ := h3
      have h5 := hN.2.2.1
      refine x_icmp_ge C 67 23 dX5_highestLevel_20 (by decide) rfl (fun zk20 => ?_) (fun zk20 => ?_)
      · have zk20 := (nI_leI (a := (n 1)) (b := i) (by omega) (by omega)).mp zk20
        exfalso; omega
      · have zk20 := mt (nI_leI (a := (n 1)) (b := i) (by omega) (by omega)).mpr zk20
        refine x_aload_n C 24 dX5_highestLevel_23 rfl rfl ?_
        refine xc_get C 27 0 0 (by decide) (show 0 < 1 by decide) rfl fg_X5_highestLevel_29 rfl dX5_highestLevel_24 rfl ?_
        refine x_iload_n C 28 dX5_highestLevel_27 rfl rfl ?_
        refine xc_callV_q C 31 0 0 3 1 3 1 (cC_get hl (j := 1) (by decide) (i := i) (by omega) (hN.1 1 (by decide)).1 (hN.1 1 (by decide)).2) rfl gX5_highestLevel_Jx4a65c_get_915e3 ⟨rfl, by decide, by decide, rfl⟩ ⟨Nat.le_of_ble_eq_true rfl, Nat.le_of_ble_eq_true rfl⟩ rfl (by decide) (show 1 < 4 by decide) rfl rfl rfl (Nat.le_of_ble_eq_true rfl) ⟨Nat.le_of_ble_eq_true rfl, Nat.le_of_ble_eq_true rfl⟩ dX5_highestLevel_28 rfl rfl rfl (fun r4 w4 h4 => ?_)
        obtain ⟨rfl, rfl⟩ := h4
        refine x_topq (show _ = Value.ref (A 7 i) from rfl) ?_
        refine xc_castS C 34 7 i (by decide) (show i < n 1 from by omega) rfl rfl (List.mem_cons_of_mem _ (List.mem_append_left _ (List.mem_append_left _ (List.mem_append_left _ (List.mem_append_left _ (List.mem_append_left _ (List.mem_append_left _ (List.mem_of_getElem? (i := 3) rfl)))))))) dX5_highestLevel_31 rfl ?_
        refine xc_get C 37 7 i (by decide) (show i < n 1 from by omega) rfl fg_X5_highestLevel_186 rfl dX5_highestLevel_34 rfl ?_
        refine x_iload_n C 38 dX5_highestLevel_37 rfl rfl ?_
        refine xc_zald C 39 8 i c (by decide) (show i < n 1 from by omega) rfl rfl (by omega) dX5_highestLevel_38 rfl ?_
        refine x_if_eq C 61 42 dX5_highestLevel_39 (by decide) rfl (fun zk39 => ?_) (fun zk39 => ?_)
        · refine x_iinc (v := nI (i + 1)) C 64 rfl dX5_highestLevel_61 (iinc1 _) (by decide) rfl rfl ?_
          refine x_goto C 12 dX5_highestLevel_64 (by decide) ?_
          exact ih (i + 1) _ (by omega) (by rw [hr, hiL]; first | rw [if_pos zk39] | (rw [if_neg zk39]; subst ev2; rfl))
        · refine x_iload_n C 43 dX5_highestLevel_42 rfl rfl ?_
          refine x_aload_n C 44 dX5_highestLevel_43 rfl rfl ?_
          refine xc_get C 47 0 0 (by decide) (show 0 < 1 by decide) rfl fg_X5_highestLevel_29 rfl dX5_highestLevel_44 rfl ?_
          refine x_iload_n C 48 dX5_highestLevel_47 rfl rfl ?_
          refine xc_callV_q C 51 0 0 3 1 3 1 (cC_get hl (j := 1) (by decide) (i := i) (by omega) (hN.1 1 (by decide)).1 (hN.1 1 (by decide)).2) rfl gX5_highestLevel_Jx4a65c_get_915e3 ⟨rfl, by decide, by decide, rfl⟩ ⟨Nat.le_of_ble_eq_true rfl, Nat.le_of_ble_eq_true rfl⟩ rfl (by decide) (show 1 < 4 by decide) rfl rfl rfl (Nat.le_of_ble_eq_true rfl) ⟨Nat.le_of_ble_eq_true rfl, Nat.le_of_ble_eq_true rfl⟩ dX5_highestLevel_48 rfl rfl rfl (fun r5 w5 h5 => ?_)
          obtain ⟨rfl, rfl⟩ := h5
          refine x_topq (show _ = Value.ref (A 7 i) from rfl) ?_
          refine xc_castS C 54 7 i (by decide) (show i < n 1 from by omega) rfl rfl (List.mem_cons_of_mem _ (List.mem_append_left _ (List.mem_append_left _ (List.mem_append_left _ (List.mem_append_left _ (List.mem_append_left _ (List.mem_append_left _ (List.mem_of_getElem? (i := 3) rfl)))))))) dX5_highestLevel_51 rfl ?_
          refine xc_get C 57 7 i (by decide) (show i < n 1 from by omega) rfl fg_X5_highestLevel_326 rfl dX5_highestLevel_54 rfl ?_
          refine x_mmax C 60 (List.mem_cons_of_mem _ (List.mem_append_left _ (List.mem_append_left _ (List.mem_append_left _ (List.mem_append_left _ (List.mem_append_left _ (List.mem_append_left _ (List.mem_of_getElem? (i := 6) rfl)))))))) (List.mem_cons_of_mem _ (List.mem_append_left _ (List.mem_append_left _ (List.mem_append_left _ (List.mem_append_left _ (List.mem_append_left _ (List.mem_append_left _ (List.mem_of_getElem? (i := 7) rfl)))))))) (List.mem_cons_of_mem _ (List.mem_append_left _ (List.mem_append_left _ (List.mem_append_left _ (List.mem_append_left _ (List.mem_append_left _ (List.mem_append_left _ (List.mem_of_getElem? (i := 8) rfl)))))))) (List.mem_cons_of_mem _ (List.mem_append_left _ (List.mem_append_left _ (List.mem_append_left _ (List.mem_append_left _ (List.mem_append_left _ (List.mem_append_left _ (List.mem_of_getElem? (i := 9) rfl)))))))) (Nat.le_of_ble_eq_true rfl) (Nat.le_of_ble_eq_true rfl) (Nat.le_of_ble_eq_true rfl) (Nat.le_of_ble_eq_true rfl) dX5_highestLevel_57 rfl ?_
          refine x_nm (fun v2 ev2 => ?_)
          refine x_istore_n C 61 dX5_highestLevel_60 (by decide) rfl rfl ?_
          refine x_iinc (v := nI (i + 1)) C 64 rfl dX5_highestLevel_61 (iinc1 _) (by decide) rfl rfl ?_
          refine x_goto C 12 dX5_highestLevel_64 (by decide) ?_
          exact ih (i + 1) _ (by omega) (by rw [hr, hiL]; first | rw [if_pos zk39] | (rw [if_neg zk39]; subst ev2; rfl))
  exact lp12 (n 1) 0 _ (by omega) (by rw [ev0])
theorem fg_X5_baseOf_25 : gF RX5 wsX5_baseOf 25 9 3 := ⟨RX5, TX5, 11, "StageConsole", rfl, fun w h => (List.mem_cons_of_mem _ (List.mem_append_left _ (List.mem_append_left _ (List.mem_append_left _ (List.mem_append_left _ (List.mem_append_right _ h)))))), by decide, (List.mem_cons_of_mem _ (List.mem_append_left _ (List.mem_append_left _ (List.mem_append_left _ (List.mem_append_left _ (List.mem_append_left _ (List.mem_append_left _ (List.mem_of_getElem? (i := 0) rfl)))))))), Or.inl rfl⟩
theorem fg_X5_baseOf_193 : gF RX5 wsX5_baseOf 193 4 6 := ⟨RX0, TX0, 9, "StageConsole$Channel", rfl, fun w h => (List.mem_cons_of_mem _ (List.mem_append_left _ (List.mem_append_left _ (List.mem_append_left _ (List.mem_append_right _ h))))), by decide, (List.mem_cons_of_mem _ (List.mem_append_left _ (List.mem_append_left _ (List.mem_append_left _ (List.mem_append_left _ (List.mem_append_left _ (List.mem_append_left _ (List.mem_of_getElem? (i := 1) rfl)))))))), Or.inl rfl⟩
set_option maxRecDepth 100000 in
set_option maxHeartbeats 4000000 in
theorem cC_baseOf (hl : l.stackTraces = false) {c : Nat} (hc : c < 12) (hN : CN n cap)  : Ct (gm D a E0) l yX5_baseOf wsX5_baseOf { frames := 20, cells := 0, slots := 0, locals := 500 } [.ref (A 0 0), .int (nI c)] (wC a E0 n cap A g en S) (qI fun v w => v = bsC S (n 1) c ∧ w = wC a E0 n cap A g en S) noX := by
  refine Ct.of [some (.ref (A 0 0)), some (.int (nI c))] rfl hl (by decide) (Nat.le_of_ble_eq_true rfl) rfl (fun φ C0 => ?_)
  have C := C0.1
  refine x_aload_n C 1 dX5_baseOf_0 rfl rfl ?_
  refine xc_get C 4 0 0 (by decide) (show 0 < 1 by decide) rfl fg_X5_baseOf_25 rfl dX5_baseOf_1 rfl ?_
  refine x_iload_n C 5 dX5_baseOf_4 rfl rfl ?_
  refine xc_chan C 6 c rfl (by omega) dX5_baseOf_5 rfl ?_
  refine xc_get C 9 4 c (by decide) (show c < 12 from by omega) rfl fg_X5_baseOf_193 rfl dX5_baseOf_6 rfl ?_
  refine x_if_eq C 20 12 dX5_baseOf_9 (by decide) rfl (fun zk9 => ?_) (fun zk9 => ?_)
  · refine x_aload_n C 21 dX5_baseOf_20 rfl rfl ?_
    refine x_iload_n C 22 dX5_baseOf_21 rfl rfl ?_
    refine xc_callV_i C 25 0 0 0 0 9 1 (cC_highestLevel hl hc hN) rfl gX5_baseOf_X5_highestLevel ⟨rfl, by decide, by decide, rfl⟩ ⟨Nat.le_of_ble_eq_true rfl, Nat.le_of_ble_eq_true rfl⟩ rfl (by decide) (show 0 < 1 by decide) rfl rfl rfl (Nat.le_of_ble_eq_true rfl) ⟨Nat.le_of_ble_eq_true rfl, Nat.le_of_ble_eq_true rfl⟩ dX5_baseOf_22 rfl rfl rfl (fun r1 w1 h1 => ?_)
    obtain ⟨rfl, rfl⟩ := h1
    exact x_zret C0 dX5_baseOf_25 (Nat.le_of_ble_eq_true rfl) (Nat.le_of_ble_eq_true rfl) ⟨_, rfl, ⟨by first | rw [bsC, if_pos zk9] | rw [bsC, if_neg zk9], rfl⟩⟩
  · refine x_aload_n C 13 dX5_baseOf_12 rfl rfl ?_
    refine x_iload_n C 14 dX5_baseOf_13 rfl rfl ?_
    refine xc_callV_i C 17 0 0 0 0 9 1 (cC_latestLevel hl hc hN) rfl gX5_baseOf_X5_latestLevel ⟨rfl, by decide, by decide, rfl⟩ ⟨Nat.le_of_ble_eq_true rfl, Nat.le_of_ble_eq_true rfl⟩ rfl (by decide) (show 0 < 1 by decide) rfl rfl rfl (Nat.le_of_ble_eq_true rfl) ⟨Nat.le_of_ble_eq_true rfl, Nat.le_of_ble_eq_true rfl⟩ dX5_baseOf_14 rfl rfl rfl (fun r2 w2 h2 => ?_)
    obtain ⟨rfl, rfl⟩ := h2
    refine x_goto C 25 dX5_baseOf_17 (by decide) ?_
    exact x_zret C0 dX5_baseOf_25 (Nat.le_of_ble_eq_true rfl) (Nat.le_of_ble_eq_true rfl) ⟨_, rfl, ⟨by first | rw [bsC, if_pos zk9] | rw [bsC, if_neg zk9], rfl⟩⟩
theorem fg_X5_givenBy_219 : gF RX5 wsX5_givenBy 219 6 5 := ⟨RX2, TX2, 7, "StageConsole$Effect", rfl, fun w h => (List.mem_cons_of_mem _ (List.mem_append_left _ (List.mem_append_left _ (List.mem_append_left _ (List.mem_append_left _ (List.mem_append_right _ h)))))), by decide, (List.mem_cons_of_mem _ (List.mem_append_left _ (List.mem_append_left _ (List.mem_append_left _ (List.mem_append_left _ (List.mem_append_left _ (List.mem_of_getElem? (i := 0) rfl))))))), Or.inl rfl⟩
theorem fg_X5_givenBy_335 : gF RX5 wsX5_givenBy 335 6 0 := ⟨RX2, TX2, 7, "StageConsole$Effect", rfl, fun w h => (List.mem_cons_of_mem _ (List.mem_append_left _ (List.mem_append_left _ (List.mem_append_left _ (List.mem_append_left _ (List.mem_append_right _ h)))))), by decide, (List.mem_cons_of_mem _ (List.mem_append_left _ (List.mem_append_left _ (List.mem_append_left _ (List.mem_append_left _ (List.mem_append_left _ (List.mem_of_getElem? (i := 1) rfl))))))), Or.inl rfl⟩
theorem fg_X5_givenBy_186 : gF RX5 wsX5_givenBy 186 7 0 := ⟨RX3, TX3, 2, "StageConsole$Group", rfl, fun w h => (List.mem_cons_of_mem _ (List.mem_append_left _ (List.mem_append_left _ (List.mem_append_left _ (List.mem_append_right _ h))))), by decide, (List.mem_cons_of_mem _ (List.mem_append_left _ (List.mem_append_left _ (List.mem_append_left _ (List.mem_append_left _ (List.mem_append_left _ (List.mem_of_getElem? (i := 2) rfl))))))), Or.inl rfl⟩
theorem fg_X5_givenBy_20 : gF RX5 wsX5_givenBy 20 9 2 := ⟨RX5, TX5, 11, "StageConsole", rfl, fun w h => (List.mem_cons_of_mem _ (List.mem_append_left _ (List.mem_append_left _ (List.mem_append_right _ h)))), by decide, (List.mem_cons_of_mem _ (List.mem_append_left _ (List.mem_append_left _ (List.mem_append_left _ (List.mem_append_left _ (List.mem_append_left _ (List.mem_of_getElem? (i := 3) rfl))))))), Or.inl rfl⟩
theorem fg_X5_givenBy_224 : gF RX5 wsX5_givenBy 224 6 6 := ⟨RX2, TX2, 7, "StageConsole$Effect", rfl, fun w h => (List.mem_cons_of_mem _ (List.mem_append_left _ (List.mem_append_left _ (List.mem_append_left _ (List.mem_append_left _ (List.mem_append_right _ h)))))), by decide, (List.mem_cons_of_mem _ (List.mem_append_left _ (List.mem_append_left _ (List.mem_append_left _ (List.mem_append_left _ (List.mem_append_left _ (List.mem_of_getElem? (i := 4) rfl))))))), Or.inl rfl⟩
set_option maxRecDepth 100000 in
set_option maxHeartbeats 4000000 in
theorem cC_givenBy (hl : l.stackTraces = false) {e : Nat} (he : e < n 2) (hE : CE n g S) {c : Nat} (hc : c < 12)  : Ct (gm D a E0) l yX5_givenBy wsX5_givenBy { frames := 8, cells := 0, slots := 0, locals := 200 } [.ref (A 0 0), .ref (A 9 e), .int (nI c)] (wC a E0 n cap A g en S) (qI fun v w => v = gvC S g e c ∧ w = wC a E0 n cap A g en S) noX := by
  refine Ct.of [some (.ref (A 0 0)), some (.ref (A 9 e)), some (.int (nI c))] rfl hl (by decide) (Nat.le_of_ble_eq_true rfl) rfl (fun φ C0 => ?_)
  have C := C0.1
  obtain ⟨hge, p, hp2, hp40, hp⟩ := hE e he
  refine x_aload_n C 1 dX5_givenBy_0 rfl rfl ?_
  refine xc_get C 4 9 e (by decide) (show e < n 2 from by omega) rfl fg_X5_givenBy_219 rfl dX5_givenBy_1 rfl ?_
  refine x_if_eq C 19 7 dX5_givenBy_4 (by decide) rfl (fun zk4 => ?_) (fun zk4 => ?_)
  · refine x_iconst (v := (0)) C 20 dX5_givenBy_19 (by decide) rfl ?_
    exact x_zret C0 dX5_givenBy_20 (Nat.le_of_ble_eq_true rfl) (Nat.le_of_ble_eq_true rfl) ⟨_, rfl, ⟨by first | rw [gvC, if_pos zk4] | rw [gvC, if_neg zk4, if_pos (Decidable.not_not.mp zk16)] | rw [gvC, if_neg zk4, if_pos zk16] | rw [gvC, if_neg zk4, if_neg zk16], rfl⟩⟩
  · refine x_aload_n C 8 dX5_givenBy_7 rfl rfl ?_
    refine xc_get C 11 9 e (by decide) (show e < n 2 from by omega) rfl fg_X5_givenBy_335 rfl dX5_givenBy_8 rfl ?_
    refine xc_get C 14 7 (g e) (by decide) (show (g e) < n 1 from by omega) rfl fg_X5_givenBy_186 rfl dX5_givenBy_11 rfl ?_
    refine x_iload_n C 15 dX5_givenBy_14 rfl rfl ?_
    refine xc_zald C 16 8 (g e) c (by decide) (show (g e) < n 1 from by omega) rfl rfl (by omega) dX5_givenBy_15 rfl ?_
    refine x_if_ne C 21 19 dX5_givenBy_16 (by decide) rfl (fun zk16 => ?_) (fun zk16 => ?_)
    · refine x_aload_n C 22 dX5_givenBy_21 rfl rfl ?_
      refine x_aload_n C 23 dX5_givenBy_22 rfl rfl ?_
      refine xc_get C 26 0 0 (by decide) (show 0 < 1 by decide) rfl fg_X5_givenBy_20 rfl dX5_givenBy_23 rfl ?_
      refine x_aload_n C 27 dX5_givenBy_26 rfl rfl ?_
      refine xc_get C 30 9 e (by decide) (show e < n 2 from by omega) rfl fg_X5_givenBy_224 rfl dX5_givenBy_27 rfl ?_
      refine x_isub C 31 dX5_givenBy_30 rfl ?_
      refine x_aload_n C 32 dX5_givenBy_31 rfl rfl ?_
      refine xc_get C 35 9 e (by decide) (show e < n 2 from by omega) rfl fg_X5_givenBy_335 rfl dX5_givenBy_32 rfl ?_
      refine x_iload_n C 36 dX5_givenBy_35 rfl rfl ?_
      refine xc_callV_i C 39 0 0 7 (g e) 7 1 (cC_membersBelow hl (G := g e) hge (by omega)) rfl gX5_givenBy_X3_membersBelow ⟨rfl, by decide, by decide, rfl⟩ ⟨Nat.le_of_ble_eq_true rfl, Nat.le_of_ble_eq_true rfl⟩ rfl (by decide) (show (g e) < n 1 from by omega) rfl rfl rfl (Nat.le_of_ble_eq_true rfl) ⟨Nat.le_of_ble_eq_true rfl, Nat.le_of_ble_eq_true rfl⟩ dX5_givenBy_36 rfl rfl rfl (fun r1 w1 h1 => ?_)
      obtain ⟨rfl, rfl⟩ := h1
      refine xc_callV_i C 42 0 0 9 e 6 2 (cC_valueAt hl he hp hp2 hp40) rfl gX5_givenBy_X2_valueAt ⟨rfl, by decide, by decide, rfl⟩ ⟨Nat.le_of_ble_eq_true rfl, Nat.le_of_ble_eq_true rfl⟩ rfl (by decide) (show e < n 2 from by omega) rfl rfl rfl (Nat.le_of_ble_eq_true rfl) ⟨Nat.le_of_ble_eq_true rfl, Nat.le_of_ble_eq_true rfl⟩ dX5_givenBy_39 rfl rfl rfl (fun r2 w2 h2 => ?_)
      obtain ⟨rfl, rfl⟩ := h2
      exact x_zret C0 dX5_givenBy_42 (Nat.le_of_ble_eq_true rfl) (Nat.le_of_ble_eq_true rfl) ⟨_, rfl, ⟨by first | rw [gvC, if_pos zk4] | rw [gvC, if_neg zk4, if_pos (Decidable.not_not.mp zk16)] | rw [gvC, if_neg zk4, if_pos zk16] | rw [gvC, if_neg zk4, if_neg zk16], rfl⟩⟩
    · refine x_iconst (v := (0)) C 20 dX5_givenBy_19 (by decide) rfl ?_
      exact x_zret C0 dX5_givenBy_20 (Nat.le_of_ble_eq_true rfl) (Nat.le_of_ble_eq_true rfl) ⟨_, rfl, ⟨by first | rw [gvC, if_pos zk4] | rw [gvC, if_neg zk4, if_pos (Decidable.not_not.mp zk16)] | rw [gvC, if_neg zk4, if_pos zk16] | rw [gvC, if_neg zk4, if_neg zk16], rfl⟩⟩
theorem fg_X5_addToLevelRow_335 : gF RX5 wsX5_addToLevelRow 335 6 0 := ⟨RX2, TX2, 7, "StageConsole$Effect", rfl, fun w h => (List.mem_cons_of_mem _ (List.mem_append_left _ (List.mem_append_left _ (List.mem_append_left _ (List.mem_append_left _ (List.mem_append_right _ h)))))), by decide, (List.mem_cons_of_mem _ (List.mem_append_left _ (List.mem_append_left _ (List.mem_append_left _ (List.mem_append_left _ (List.mem_append_left _ (List.mem_of_getElem? (i := 0) rfl))))))), Or.inl rfl⟩
theorem fg_X5_addToLevelRow_186 : gF RX5 wsX5_addToLevelRow 186 7 0 := ⟨RX3, TX3, 2, "StageConsole$Group", rfl, fun w h => (List.mem_cons_of_mem _ (List.mem_append_left _ (List.mem_append_left _ (List.mem_append_left _ (List.mem_append_right _ h))))), by decide, (List.mem_cons_of_mem _ (List.mem_append_left _ (List.mem_append_left _ (List.mem_append_left _ (List.mem_append_left _ (List.mem_append_left _ (List.mem_of_getElem? (i := 1) rfl))))))), Or.inl rfl⟩
theorem fg_X5_addToLevelRow_38 : gF RX5 wsX5_addToLevelRow 38 9 7 := ⟨RX5, TX5, 11, "StageConsole", rfl, fun w h => (List.mem_cons_of_mem _ (List.mem_append_left _ (List.mem_append_left _ (List.mem_append_right _ h)))), by decide, (List.mem_cons_of_mem _ (List.mem_append_left _ (List.mem_append_left _ (List.mem_append_left _ (List.mem_append_left _ (List.mem_append_left _ (List.mem_of_getElem? (i := 2) rfl))))))), Or.inl rfl⟩
theorem fg_X5_addToLevelRow_20 : gF RX5 wsX5_addToLevelRow 20 9 2 := ⟨RX5, TX5, 11, "StageConsole", rfl, fun w h => (List.mem_cons_of_mem _ (List.mem_append_left _ (List.mem_append_left _ (List.mem_append_right _ h)))), by decide, (List.mem_cons_of_mem _ (List.mem_append_left _ (List.mem_append_left _ (List.mem_append_left _ (List.mem_append_left _ (List.mem_append_left _ (List.mem_of_getElem? (i := 3) rfl))))))), Or.inl rfl⟩
theorem fg_X5_addToLevelRow_224 : gF RX5 wsX5_addToLevelRow 224 6 6 := ⟨RX2, TX2, 7, "StageConsole$Effect", rfl, fun w h => (List.mem_cons_of_mem _ (List.mem_append_left _ (List.mem_append_left _ (List.mem_append_left _ (List.mem_append_left _ (List.mem_append_right _ h)))))), by decide, (List.mem_cons_of_mem _ (List.mem_append_left _ (List.mem_append_left _ (List.mem_append_left _ (List.mem_append_left _ (List.mem_append_left _ (List.mem_of_getElem? (i := 4) rfl))))))), Or.inl rfl⟩
set_option maxRecDepth 100000 in
set_option maxHeartbeats 4000000 in
theorem cC_addToLevelRow (hl : l.stackTraces = false) {e : Nat} (he : e < n 2) (hE : CE n g S)  : Ct (gm D a E0) l yX5_addToLevelRow wsX5_addToLevelRow { frames := 8, cells := 0, slots := 0, locals := 200 } [.ref (A 0 0), .ref (A 9 e)] (wC a E0 n cap A g en S) (qV fun w => w = wC a E0 n cap A g en (adL g e 12 0 0 S)) noX := by
  refine Ct.of [some (.ref (A 0 0)), some (.ref (A 9 e)), none, none] rfl hl (by decide) (Nat.le_of_ble_eq_true rfl) rfl (fun φ C0 => ?_)
  have C := C0.1
  obtain ⟨hge, p, hp2, hp40, hp⟩ := hE e he
  refine x_iconst (v := (0)) C 1 dX5_addToLevelRow_0 (by decide) rfl ?_
  refine x_istore_n C 2 dX5_addToLevelRow_1 (by decide) rfl rfl ?_
  refine x_iconst (v := (0)) C 3 dX5_addToLevelRow_2 (by decide) rfl ?_
  refine x_istore_n C 4 dX5_addToLevelRow_3 (by decide) rfl rfl ?_
  have lp4 : ∀ (m i k : Nat) (T : Nat → Nat → Nat → Int32), i + m = 12 → T 9 e 1 = nI p → adL g e 12 0 0 S = adL g e m i k T → X φ 4 [some (.ref (A 0 0)), some (.ref (A 9 e)), some (.int (nI k)), some (.int (nI i))] [] (wC a E0 n cap A g en T) 0 0 := by
    intro m
    induction m with
    | zero =>
      intro i k T hi hT hr
      refine x_iload_n C 5 dX5_addToLevelRow_4 rfl rfl ?_
      refine x_bipush (v := (12)) C 7 dX5_addToLevelRow_5 (by decide) rfl ?_
      refine x_icmp_ge C 54 10 dX5_addToLevelRow_7 (by decide) rfl (fun zk7 => ?_) (fun zk7 => ?_)
      · have zk7 := (nI_leI (a := 12) (b := i) (by omega) (by omega)).mp zk7
        exact x_vret C0 dX5_addToLevelRow_54 (Nat.le_of_ble_eq_true rfl) (Nat.le_of_ble_eq_true rfl) ⟨rfl, by rw [hr]; rfl⟩
      · have zk7 := mt (nI_leI (a := 12) (b := i) (by omega) (by omega)).mpr zk7
        exfalso; omega
    | succ m ih =>
      intro i k T hi hT hr
      refine x_iload_n C 5 dX5_addToLevelRow_4 rfl rfl ?_
      refine x_bipush (v := (12)) C 7 dX5_addToLevelRow_5 (by decide) rfl ?_
      refine x_icmp_ge C 54 10 dX5_addToLevelRow_7 (by decide) rfl (fun zk7 => ?_) (fun zk7 => ?_)
      · have zk7 := (nI_leI (a := 12) (b := i) (by omega) (by omega)).mp zk7
        exfalso; omega
      · have zk7 := mt (nI_leI (a := 12) (b := i) (by omega) (by omega)).mpr zk7
        refine x_aload_n C 11 dX5_addToLevelRow_10 rfl rfl ?_
        refine xc_get C 14 9 e (by decide) (show e < n 2 from by omega) rfl fg_X5_addToLevelRow_335 rfl dX5_addToLevelRow_11 rfl ?_
        refine xc_get C 17 7 (g e) (by decide) (show (g e) < n 1 from by omega) rfl fg_X5_addToLevelRow_186 rfl dX5_addToLevelRow_14 rfl ?_
        refine x_iload_n C 18 dX5_addToLevelRow_17 rfl rfl ?_
        refine xc_zald C 19 8 (g e) i (by decide) (show (g e) < n 1 from by omega) rfl rfl (by omega) dX5_addToLevelRow_18 rfl ?_
        refine x_if_eq C 48 22 dX5_addToLevelRow_19 (by decide) rfl (fun zk19 => ?_) (fun zk19 => ?_)
        · refine x_iinc (v := nI (i + 1)) C 51 rfl dX5_addToLevelRow_48 (iinc1 _) (by decide) rfl rfl ?_
          refine x_goto C 4 dX5_addToLevelRow_51 (by decide) ?_
          exact ih (i + 1) _ _ (by omega) (by first | exact hT | (rw [uS_row _ _ _ _ (by decide)]; exact hT)) (by rw [hr, adL]; first | rw [if_pos zk19] | rw [if_neg zk19])
        · refine x_aload_n C 23 dX5_addToLevelRow_22 rfl rfl ?_
          refine xc_get C 26 0 0 (by decide) (show 0 < 1 by decide) rfl fg_X5_addToLevelRow_38 rfl dX5_addToLevelRow_23 rfl ?_
          refine x_iload_n C 27 dX5_addToLevelRow_26 rfl rfl ?_
          refine x_dup2_11 C 28 dX5_addToLevelRow_27 rfl rfl rfl ?_
          refine xc_iald C 29 2 0 i (by decide) (show 0 < 1 by decide) rfl rfl (by omega) dX5_addToLevelRow_28 rfl ?_
          refine x_aload_n C 30 dX5_addToLevelRow_29 rfl rfl ?_
          refine x_aload_n C 31 dX5_addToLevelRow_30 rfl rfl ?_
          refine xc_get C 34 0 0 (by decide) (show 0 < 1 by decide) rfl fg_X5_addToLevelRow_20 rfl dX5_addToLevelRow_31 rfl ?_
          refine x_aload_n C 35 dX5_addToLevelRow_34 rfl rfl ?_
          refine xc_get C 38 9 e (by decide) (show e < n 2 from by omega) rfl fg_X5_addToLevelRow_224 rfl dX5_addToLevelRow_35 rfl ?_
          refine x_isub C 39 dX5_addToLevelRow_38 rfl ?_
          refine x_iload_n C 40 dX5_addToLevelRow_39 rfl rfl ?_
          refine xc_callV_i C 43 0 0 9 e 6 2 (cC_valueAt hl (S := T) he hT hp2 hp40) rfl gX5_addToLevelRow_X2_valueAt ⟨rfl, by decide, by decide, rfl⟩ ⟨Nat.le_of_ble_eq_true rfl, Nat.le_of_ble_eq_true rfl⟩ rfl (by decide) (show e < n 2 from by omega) rfl rfl rfl (Nat.le_of_ble_eq_true rfl) ⟨Nat.le_of_ble_eq_true rfl, Nat.le_of_ble_eq_true rfl⟩ dX5_addToLevelRow_40 rfl rfl rfl (fun r1 w1 h1 => ?_)
          obtain ⟨rfl, rfl⟩ := h1
          refine x_iadd C 44 dX5_addToLevelRow_43 rfl ?_
          refine xc_iast C 45 2 0 i (by decide) (show 0 < 1 by decide) (fun _ => rfl) rfl (by omega) dX5_addToLevelRow_44 rfl ?_
          refine x_iinc (v := nI (k + 1)) C 48 rfl dX5_addToLevelRow_45 (iinc1 _) (by decide) rfl rfl ?_
          refine x_iinc (v := nI (i + 1)) C 51 rfl dX5_addToLevelRow_48 (iinc1 _) (by decide) rfl rfl ?_
          refine x_goto C 4 dX5_addToLevelRow_51 (by decide) ?_
          exact ih (i + 1) _ _ (by omega) (by first | exact hT | (rw [uS_row _ _ _ _ (by decide)]; exact hT)) (by rw [hr, adL]; first | rw [if_pos zk19] | rw [if_neg zk19])
  exact lp4 12 0 0 _ rfl hp rfl
theorem fg_X5_fillLevelRow_32 : gF RX5 wsX5_fillLevelRow 32 9 5 := ⟨RX5, TX5, 11, "StageConsole", rfl, fun w h => (List.mem_cons_of_mem _ (List.mem_append_left _ (List.mem_append_left _ (List.mem_append_left _ (List.mem_append_left _ (List.mem_append_left _ (List.mem_append_left _ (List.mem_append_right _ h)))))))), by decide, (List.mem_cons_of_mem _ (List.mem_append_left _ (List.mem_append_left _ (List.mem_append_left _ (List.mem_append_left _ (List.mem_append_left _ (List.mem_append_left _ (List.mem_append_left _ (List.mem_append_left _ (List.mem_of_getElem? (i := 1) rfl)))))))))), Or.inl rfl⟩
theorem fg_X5_fillLevelRow_38 : gF RX5 wsX5_fillLevelRow 38 9 7 := ⟨RX5, TX5, 11, "StageConsole", rfl, fun w h => (List.mem_cons_of_mem _ (List.mem_append_left _ (List.mem_append_left _ (List.mem_append_left _ (List.mem_append_left _ (List.mem_append_left _ (List.mem_append_left _ (List.mem_append_right _ h)))))))), by decide, (List.mem_cons_of_mem _ (List.mem_append_left _ (List.mem_append_left _ (List.mem_append_left _ (List.mem_append_left _ (List.mem_append_left _ (List.mem_append_left _ (List.mem_append_left _ (List.mem_append_left _ (List.mem_of_getElem? (i := 0) rfl)))))))))), Or.inl rfl⟩
theorem fg_X5_fillLevelRow_219 : gF RX5 wsX5_fillLevelRow 219 6 5 := ⟨RX2, TX2, 7, "StageConsole$Effect", rfl, fun w h => (List.mem_cons_of_mem _ (List.mem_append_left _ (List.mem_append_left _ (List.mem_append_left _ (List.mem_append_left _ (List.mem_append_left _ (List.mem_append_right _ h))))))), by decide, (List.mem_cons_of_mem _ (List.mem_append_left _ (List.mem_append_left _ (List.mem_append_left _ (List.mem_append_left _ (List.mem_append_left _ (List.mem_append_left _ (List.mem_append_left _ (List.mem_append_left _ (List.mem_of_getElem? (i := 3) rfl)))))))))), Or.inl rfl⟩
set_option maxRecDepth 100000 in
set_option maxHeartbeats 4000000 in
theorem cC_fillLevelRow (hl : l.stackTraces = false) (hN : CN n cap) (hE : CE n g S)  : Ct (gm D a E0) l yX5_fillLevelRow wsX5_fillLevelRow { frames := 24, cells := 0, slots := 0, locals := 600 } [.ref (A 0 0)] (wC a E0 n cap A g en S) (qV fun w => w = wC a E0 n cap A g en (flv g (n 1) (n 2) S)) noX := by
  refine Ct.of [some (.ref (A 0 0)), none] rfl hl (by decide) (Nat.le_of_ble_eq_true rfl) rfl (fun φ C0 => ?_)
  have C := C0.1
  refine x_iconst (v := (0)) C 1 dX5_fillLevelRow_0 (by decide) rfl ?_
  refine x_istore_n C 2 dX5_fillLevelRow_1 (by decide) rfl rfl ?_
  have lp2 : ∀ (m i : Nat) (T : Nat → Nat → Nat → Int32), i + m = 12 → T 9 = S 9 → f1L (n 1) 12 0 S = f1L (n 1) m i T → X φ 2 [some (.ref (A 0 0)), some (.int (nI i))] [] (wC a E0 n cap A g en T) 0 0 := by
    intro m
    induction m with
    | zero =>
      intro i T hi hT hr
      refine x_iload_n C 3 dX5_fillLevelRow_2 rfl rfl ?_
      refine x_bipush (v := (12)) C 5 dX5_fillLevelRow_3 (by decide) rfl ?_
      refine x_icmp_ge C 25 8 dX5_fillLevelRow_5 (by decide) rfl (fun zk5 => ?_) (fun zk5 => ?_)
      · have zk5 := (nI_leI (a := 12) (b := i) (by omega) (by omega)).mp zk5
        refine x_iconst (v := (0)) C 26 dX5_fillLevelRow_25 (by decide) rfl ?_
        refine x_istore_n C 27 dX5_fillLevelRow_26 (by decide) rfl rfl ?_
        have lp27 : ∀ (m2 j : Nat) (T2 : Nat → Nat → Nat → Int32), j + m2 = n 2 → CE n g T2 → f2L g (n 2) 0 T = f2L g m2 j T2 → X φ 27 [some (.ref (A 0 0)), some (.int (nI j))] [] (wC a E0 n cap A g en T2) 0 0 := by
          intro m2
          induction m2 with
          | zero =>
            intro j T2 hj hE2 hr2
            have h4 := hN.2.2.2.1
            refine x_iload_n C 28 dX5_fillLevelRow_27 rfl rfl ?_
            refine x_aload_n C 29 dX5_fillLevelRow_28 rfl rfl ?_
            refine xc_get C 32 0 0 (by decide) (show 0 < 1 by decide) rfl fg_X5_fillLevelRow_32 rfl dX5_fillLevelRow_29 rfl ?_
            refine xc_callV_i C 35 0 0 3 2 3 0 (cC_size hl (j := 2) (by decide)) rfl gX5_fillLevelRow_Jx4a65c_size_8abf5 ⟨rfl, by decide, by decide, rfl⟩ ⟨Nat.le_of_ble_eq_true rfl, Nat.le_of_ble_eq_true rfl⟩ rfl (by decide) (show 2 < 4 by decide) rfl rfl rfl (Nat.le_of_ble_eq_true rfl) ⟨Nat.le_of_ble_eq_true rfl, Nat.le_of_ble_eq_true rfl⟩ dX5_fillLevelRow_32 rfl rfl rfl (fun r1 w1 h1 => ?_)
            obtain ⟨rfl, rfl⟩ := h1
            refine x_icmp_ge C 76 38 dX5_fillLevelRow_35 (by decide) rfl (fun zk35 => ?_) (fun zk35 => ?_)
            · have zk35 := (nI_leI (a := (n 2)) (b := j) (by omega) (by omega)).mp zk35
              refine x_iconst (v := (0)) C 77 dX5_fillLevelRow_76 (by decide) rfl ?_
              refine x_istore_n C 78 dX5_fillLevelRow_77 (by decide) rfl rfl ?_
              have lp78 : ∀ (m3 d : Nat) (T3 : Nat → Nat → Nat → Int32), d + m3 = 12 → f3L 12 0 T2 = f3L m3 d T3 → X φ 78 [some (.ref (A 0 0)), some (.int (nI d))] [] (wC a E0 n cap A g en T3) 0 0 := by
                intro m3
                induction m3 with
                | zero =>
                  intro d T3 hd hr3
                  refine x_iload_n C 79 dX5_fillLevelRow_78 rfl rfl ?_
                  refine x_bipush (v := (12)) C 81 dX5_fillLevelRow_79 (by decide) rfl ?_
                  refine x_icmp_ge C 107 84 dX5_fillLevelRow_81 (by decide) rfl (fun zk81 => ?_) (fun zk81 => ?_)
                  · have zk81 := (nI_leI (a := 12) (b := d) (by omega) (by omega)).mp zk81
                    exact x_vret C0 dX5_fillLevelRow_107 (Nat.le_of_ble_eq_true rfl) (Nat.le_of_ble_eq_true rfl) ⟨rfl, by rw [flv, show f1L (n 1) 12 0 S = T from hr, show f2L g (n 2) 0 T = T2 from hr2, show f3L 12 0 T2 = T3 from hr3]⟩
                  · have zk81 := mt (nI_leI (a := 12) (b := d) (by omega) (by omega)).mpr zk81
                    exfalso; omega
                | succ m3 ih3 =>
                  intro d T3 hd hr3
                  refine x_iload_n C 79 dX5_fillLevelRow_78 rfl rfl ?_
                  refine x_bipush (v := (12)) C 81 dX5_fillLevelRow_79 (by decide) rfl ?_
                  refine x_icmp_ge C 107 84 dX5_fillLevelRow_81 (by decide) rfl (fun zk81 => ?_) (fun zk81 => ?_)
                  · have zk81 := (nI_leI (a := 12) (b := d) (by omega) (by omega)).mp zk81
                    exfalso; omega
                  · have zk81 := mt (nI_leI (a := 12) (b := d) (by omega) (by omega)).mpr zk81
                    refine x_aload_n C 85 dX5_fillLevelRow_84 rfl rfl ?_
                    refine xc_get C 88 0 0 (by decide) (show 0 < 1 by decide) rfl fg_X5_fillLevelRow_38 rfl dX5_fillLevelRow_85 rfl ?_
                    refine x_iload_n C 89 dX5_fillLevelRow_88 rfl rfl ?_
                    refine x_aload_n C 90 dX5_fillLevelRow_89 rfl rfl ?_
                    refine x_iload_n C 91 dX5_fillLevelRow_90 rfl rfl ?_
                    refine x_aload_n C 92 dX5_fillLevelRow_91 rfl rfl ?_
                    refine xc_get C 95 0 0 (by decide) (show 0 < 1 by decide) rfl fg_X5_fillLevelRow_38 rfl dX5_fillLevelRow_92 rfl ?_
                    refine x_iload_n C 96 dX5_fillLevelRow_95 rfl rfl ?_
                    refine xc_iald C 97 2 0 d (by decide) (show 0 < 1 by decide) rfl rfl (by omega) dX5_fillLevelRow_96 rfl ?_
                    refine xc_callV_i C 100 0 0 0 0 9 2 (cC_outputOf hl (S := T3) (show d < 12 by omega)) rfl gX5_fillLevelRow_X5_outputOf ⟨rfl, by decide, by decide, rfl⟩ ⟨Nat.le_of_ble_eq_true rfl, Nat.le_of_ble_eq_true rfl⟩ rfl (by decide) (show 0 < 1 by decide) rfl rfl rfl (Nat.le_of_ble_eq_true rfl) ⟨Nat.le_of_ble_eq_true rfl, Nat.le_of_ble_eq_true rfl⟩ dX5_fillLevelRow_97 rfl rfl rfl (fun r2 w2 h2 => ?_)
                    obtain ⟨rfl, rfl⟩ := h2
                    refine xc_iast C 101 2 0 d (by decide) (show 0 < 1 by decide) (fun _ => rfl) rfl (by omega) dX5_fillLevelRow_100 rfl ?_
                    refine x_iinc (v := nI (d + 1)) C 104 rfl dX5_fillLevelRow_101 (iinc1 _) (by decide) rfl rfl ?_
                    refine x_goto C 78 dX5_fillLevelRow_104 (by decide) ?_
                    exact ih3 (d + 1) _ (by omega) (by rw [hr3, f3L])
              exact lp78 12 0 _ rfl rfl
            · have zk35 := mt (nI_leI (a := (n 2)) (b := j) (by omega) (by omega)).mpr zk35
              exfalso; omega
          | succ m2 ih2 =>
            intro j T2 hj hE2 hr2
            have h4 := hN.2.2.2.1
            refine x_iload_n C 28 dX5_fillLevelRow_27 rfl rfl ?_
            refine x_aload_n C 29 dX5_fillLevelRow_28 rfl rfl ?_
            refine xc_get C 32 0 0 (by decide) (show 0 < 1 by decide) rfl fg_X5_fillLevelRow_32 rfl dX5_fillLevelRow_29 rfl ?_
            refine xc_callV_i C 35 0 0 3 2 3 0 (cC_size hl (j := 2) (by decide)) rfl gX5_fillLevelRow_Jx4a65c_size_8abf5 ⟨rfl, by decide, by decide, rfl⟩ ⟨Nat.le_of_ble_eq_true rfl, Nat.le_of_ble_eq_true rfl⟩ rfl (by decide) (show 2 < 4 by decide) rfl rfl rfl (Nat.le_of_ble_eq_true rfl) ⟨Nat.le_of_ble_eq_true rfl, Nat.le_of_ble_eq_true rfl⟩ dX5_fillLevelRow_32 rfl rfl rfl (fun r3 w3 h3 => ?_)
            obtain ⟨rfl, rfl⟩ := h3
            refine x_icmp_ge C 76 38 dX5_fillLevelRow_35 (by decide) rfl (fun zk35 => ?_) (fun zk35 => ?_)
            · have zk35 := (nI_leI (a := (n 2)) (b := j) (by omega) (by omega)).mp zk35
              exfalso; omega
            · have zk35 := mt (nI_leI (a := (n 2)) (b := j) (by omega) (by omega)).mpr zk35
              refine x_aload_n C 39 dX5_fillLevelRow_38 rfl rfl ?_
              refine xc_get C 42 0 0 (by decide) (show 0 < 1 by decide) rfl fg_X5_fillLevelRow_32 rfl dX5_fillLevelRow_39 rfl ?_
              refine x_iload_n C 43 dX5_fillLevelRow_42 rfl rfl ?_
              refine xc_callV_q C 46 0 0 3 2 3 1 (cC_get hl (j := 2) (by decide) (i := j) (by omega) (hN.1 2 (by decide)).1 (hN.1 2 (by decide)).2) rfl gX5_fillLevelRow_Jx4a65c_get_915e3 ⟨rfl, by decide, by decide, rfl⟩ ⟨Nat.le_of_ble_eq_true rfl, Nat.le_of_ble_eq_true rfl⟩ rfl (by decide) (show 2 < 4 by decide) rfl rfl rfl (Nat.le_of_ble_eq_true rfl) ⟨Nat.le_of_ble_eq_true rfl, Nat.le_of_ble_eq_true rfl⟩ dX5_fillLevelRow_43 rfl rfl rfl (fun r4 w4 h4 => ?_)
              obtain ⟨rfl, rfl⟩ := h4
              refine x_topq (show _ = Value.ref (A 9 j) from rfl) ?_
              refine xc_castS C 49 9 j (by decide) (show j < n 2 from by omega) rfl rfl (List.mem_cons_of_mem _ (List.mem_append_left _ (List.mem_append_left _ (List.mem_append_left _ (List.mem_append_left _ (List.mem_append_left _ (List.mem_append_left _ (List.mem_append_left _ (List.mem_append_left _ (List.mem_of_getElem? (i := 2) rfl)))))))))) dX5_fillLevelRow_46 rfl ?_
              refine xc_get C 52 9 j (by decide) (show j < n 2 from by omega) rfl fg_X5_fillLevelRow_219 rfl dX5_fillLevelRow_49 rfl ?_
              refine x_if_eq C 70 55 dX5_fillLevelRow_52 (by decide) rfl (fun zk52 => ?_) (fun zk52 => ?_)
              · refine x_iinc (v := nI (j + 1)) C 73 rfl dX5_fillLevelRow_70 (iinc1 _) (by decide) rfl rfl ?_
                refine x_goto C 27 dX5_fillLevelRow_73 (by decide) ?_
                exact ih2 (j + 1) _ (by omega) (by first | exact hE2 | exact hE2.to (adL_n _ _ (by decide) _ _ _ _)) (by rw [hr2, f2L]; first | rw [if_pos zk52] | rw [if_neg zk52])
              · refine x_aload_n C 56 dX5_fillLevelRow_55 rfl rfl ?_
                refine x_aload_n C 57 dX5_fillLevelRow_56 rfl rfl ?_
                refine xc_get C 60 0 0 (by decide) (show 0 < 1 by decide) rfl fg_X5_fillLevelRow_32 rfl dX5_fillLevelRow_57 rfl ?_
                refine x_iload_n C 61 dX5_fillLevelRow_60 rfl rfl ?_
                refine xc_callV_q C 64 0 0 3 2 3 1 (cC_get hl (j := 2) (by decide) (i := j) (by omega) (hN.1 2 (by decide)).1 (hN.1 2 (by decide)).2) rfl gX5_fillLevelRow_Jx4a65c_get_915e3 ⟨rfl, by decide, by decide, rfl⟩ ⟨Nat.le_of_ble_eq_true rfl, Nat.le_of_ble_eq_true rfl⟩ rfl (by decide) (show 2 < 4 by decide) rfl rfl rfl (Nat.le_of_ble_eq_true rfl) ⟨Nat.le_of_ble_eq_true rfl, Nat.le_of_ble_eq_true rfl⟩ dX5_fillLevelRow_61 rfl rfl rfl (fun r5 w5 h5 => ?_)
                obtain ⟨rfl, rfl⟩ := h5
                refine x_topq (show _ = Value.ref (A 9 j) from rfl) ?_
                refine xc_castS C 67 9 j (by decide) (show j < n 2 from by omega) rfl rfl (List.mem_cons_of_mem _ (List.mem_append_left _ (List.mem_append_left _ (List.mem_append_left _ (List.mem_append_left _ (List.mem_append_left _ (List.mem_append_left _ (List.mem_append_left _ (List.mem_append_left _ (List.mem_of_getElem? (i := 2) rfl)))))))))) dX5_fillLevelRow_64 rfl ?_
                refine xc_callV_v C 70 0 0 0 0 9 1 (cC_addToLevelRow hl (S := T2) (show j < n 2 by omega) hE2) rfl gX5_fillLevelRow_X5_addToLevelRow ⟨rfl, by decide, by decide, rfl⟩ ⟨Nat.le_of_ble_eq_true rfl, Nat.le_of_ble_eq_true rfl⟩ rfl (by decide) (show 0 < 1 by decide) rfl rfl rfl (Nat.le_of_ble_eq_true rfl) ⟨Nat.le_of_ble_eq_true rfl, Nat.le_of_ble_eq_true rfl⟩ dX5_fillLevelRow_67 rfl rfl rfl (fun w6 h6 => ?_)
                subst h6
                refine x_iinc (v := nI (j + 1)) C 73 rfl dX5_fillLevelRow_70 (iinc1 _) (by decide) rfl rfl ?_
                refine x_goto C 27 dX5_fillLevelRow_73 (by decide) ?_
                exact ih2 (j + 1) _ (by omega) (by first | exact hE2 | exact hE2.to (adL_n _ _ (by decide) _ _ _ _)) (by rw [hr2, f2L]; first | rw [if_pos zk52] | rw [if_neg zk52])
        have h4 := hN.2.2.2.1
        exact lp27 (n 2) 0 _ (by omega) (hE.to hT) rfl
      · have zk5 := mt (nI_leI (a := 12) (b := i) (by omega) (by omega)).mpr zk5
        exfalso; omega
    | succ m ih =>
      intro i T hi hT hr
      refine x_iload_n C 3 dX5_fillLevelRow_2 rfl rfl ?_
      refine x_bipush (v := (12)) C 5 dX5_fillLevelRow_3 (by decide) rfl ?_
      refine x_icmp_ge C 25 8 dX5_fillLevelRow_5 (by decide) rfl (fun zk5 => ?_) (fun zk5 => ?_)
      · have zk5 := (nI_leI (a := 12) (b := i) (by omega) (by omega)).mp zk5
        exfalso; omega
      · have zk5 := mt (nI_leI (a := 12) (b := i) (by omega) (by omega)).mpr zk5
        refine x_aload_n C 9 dX5_fillLevelRow_8 rfl rfl ?_
        refine xc_get C 12 0 0 (by decide) (show 0 < 1 by decide) rfl fg_X5_fillLevelRow_38 rfl dX5_fillLevelRow_9 rfl ?_
        refine x_iload_n C 13 dX5_fillLevelRow_12 rfl rfl ?_
        refine x_aload_n C 14 dX5_fillLevelRow_13 rfl rfl ?_
        refine x_iload_n C 15 dX5_fillLevelRow_14 rfl rfl ?_
        refine xc_callV_i C 18 0 0 0 0 9 1 (cC_baseOf hl (S := T) (show i < 12 by omega) hN) rfl gX5_fillLevelRow_X5_baseOf ⟨rfl, by decide, by decide, rfl⟩ ⟨Nat.le_of_ble_eq_true rfl, Nat.le_of_ble_eq_true rfl⟩ rfl (by decide) (show 0 < 1 by decide) rfl rfl rfl (Nat.le_of_ble_eq_true rfl) ⟨Nat.le_of_ble_eq_true rfl, Nat.le_of_ble_eq_true rfl⟩ dX5_fillLevelRow_15 rfl rfl rfl (fun r7 w7 h7 => ?_)
        obtain ⟨rfl, rfl⟩ := h7
        refine xc_iast C 19 2 0 i (by decide) (show 0 < 1 by decide) (fun _ => rfl) rfl (by omega) dX5_fillLevelRow_18 rfl ?_
        refine x_iinc (v := nI (i + 1)) C 22 rfl dX5_fillLevelRow_19 (iinc1 _) (by decide) rfl rfl ?_
        refine x_goto C 2 dX5_fillLevelRow_22 (by decide) ?_
        exact ih (i + 1) _ (by omega) (by rw [uS_row _ _ _ _ (by decide)]; exact hT) (by rw [hr, f1L])
  exact lp2 12 0 _ rfl rfl rfl
theorem fg_X5_rankInRow_38 : gF RX5 wsX5_rankInRow 38 9 7 := ⟨RX5, TX5, 11, "StageConsole", rfl, fun w h => (List.mem_cons_of_mem _ (List.mem_append_left _ (List.mem_append_right _ h))), by decide, (List.mem_cons_of_mem _ (List.mem_append_left _ (List.mem_append_left _ (List.mem_of_getElem? (i := 0) rfl)))), Or.inl rfl⟩
set_option maxRecDepth 100000 in
set_option maxHeartbeats 4000000 in
theorem cC_rankInRow (hl : l.stackTraces = false) {c : Nat} (hc : c < 12)  : Ct (gm D a E0) l yX5_rankInRow wsX5_rankInRow { frames := 4, cells := 0, slots := 0, locals := 100 } [.ref (A 0 0), .int (nI c)] (wC a E0 n cap A g en S) (qI fun v w => v = nI (rkL (S 2 0) c 12 0 0) ∧ w = wC a E0 n cap A g en S) noX := by
  refine Ct.of [some (.ref (A 0 0)), some (.int (nI c)), none, none] rfl hl (by decide) (Nat.le_of_ble_eq_true rfl) rfl (fun φ C0 => ?_)
  have C := C0.1
  refine x_iconst (v := (0)) C 1 dX5_rankInRow_0 (by decide) rfl ?_
  refine x_istore_n C 2 dX5_rankInRow_1 (by decide) rfl rfl ?_
  refine x_iconst (v := (0)) C 3 dX5_rankInRow_2 (by decide) rfl ?_
  refine x_istore_n C 4 dX5_rankInRow_3 (by decide) rfl rfl ?_
  have lp4 : ∀ (m i k : Nat), i + m = 12 → k ≤ i → rkL (S 2 0) c 12 0 0 = rkL (S 2 0) c m i k → X φ 4 [some (.ref (A 0 0)), some (.int (nI c)), some (.int (nI k)), some (.int (nI i))] [] (wC a E0 n cap A g en S) 0 0 := by
    intro m
    induction m with
    | zero =>
      intro i k hi hk hr
      refine x_iload_n C 5 dX5_rankInRow_4 rfl rfl ?_
      refine x_bipush (v := (12)) C 7 dX5_rankInRow_5 (by decide) rfl ?_
      refine x_icmp_ge C 54 10 dX5_rankInRow_7 (by decide) rfl (fun zk7 => ?_) (fun zk7 => ?_)
      · have zk7 := (nI_leI (a := 12) (b := i) (by omega) (by omega)).mp zk7
        refine x_iload_n C 55 dX5_rankInRow_54 rfl rfl ?_
        exact x_zret C0 dX5_rankInRow_55 (Nat.le_of_ble_eq_true rfl) (Nat.le_of_ble_eq_true rfl) ⟨_, rfl, ⟨by rw [hr]; rfl, rfl⟩⟩
      · have zk7 := mt (nI_leI (a := 12) (b := i) (by omega) (by omega)).mpr zk7
        exfalso; omega
    | succ m ih =>
      intro i k hi hk hr
      refine x_iload_n C 5 dX5_rankInRow_4 rfl rfl ?_
      refine x_bipush (v := (12)) C 7 dX5_rankInRow_5 (by decide) rfl ?_
      refine x_icmp_ge C 54 10 dX5_rankInRow_7 (by decide) rfl (fun zk7 => ?_) (fun zk7 => ?_)
      · have zk7 := (nI_leI (a := 12) (b := i) (by omega) (by omega)).mp zk7
        exfalso; omega
      · have zk7 := mt (nI_leI (a := 12) (b := i) (by omega) (by omega)).mpr zk7
        refine x_aload_n C 11 dX5_rankInRow_10 rfl rfl ?_
        refine xc_get C 14 0 0 (by decide) (show 0 < 1 by decide) rfl fg_X5_rankInRow_38 rfl dX5_rankInRow_11 rfl ?_
        refine x_iload_n C 15 dX5_rankInRow_14 rfl rfl ?_
        refine xc_iald C 16 2 0 i (by decide) (show 0 < 1 by decide) rfl rfl (by omega) dX5_rankInRow_15 rfl ?_
        refine x_aload_n C 17 dX5_rankInRow_16 rfl rfl ?_
        refine xc_get C 20 0 0 (by decide) (show 0 < 1 by decide) rfl fg_X5_rankInRow_38 rfl dX5_rankInRow_17 rfl ?_
        refine x_iload_n C 21 dX5_rankInRow_20 rfl rfl ?_
        refine xc_iald C 22 2 0 c (by decide) (show 0 < 1 by decide) rfl rfl (by omega) dX5_rankInRow_21 rfl ?_
        refine x_icmp_gt C 45 25 dX5_rankInRow_22 (by decide) rfl (fun zk22 => ?_) (fun zk22 => ?_)
        · refine x_iinc (v := nI (k + 1)) C 48 rfl dX5_rankInRow_45 (iinc1 _) (by decide) rfl rfl ?_
          refine x_iinc (v := nI (i + 1)) C 51 rfl dX5_rankInRow_48 (iinc1 _) (by decide) rfl rfl ?_
          refine x_goto C 4 dX5_rankInRow_51 (by decide) ?_
          exact ih (i + 1) _ (by omega) (by omega) (by rw [hr, rkL, if_pos (Or.inl zk22)])
        · refine x_aload_n C 26 dX5_rankInRow_25 rfl rfl ?_
          refine xc_get C 29 0 0 (by decide) (show 0 < 1 by decide) rfl fg_X5_rankInRow_38 rfl dX5_rankInRow_26 rfl ?_
          refine x_iload_n C 30 dX5_rankInRow_29 rfl rfl ?_
          refine xc_iald C 31 2 0 i (by decide) (show 0 < 1 by decide) rfl rfl (by omega) dX5_rankInRow_30 rfl ?_
          refine x_aload_n C 32 dX5_rankInRow_31 rfl rfl ?_
          refine xc_get C 35 0 0 (by decide) (show 0 < 1 by decide) rfl fg_X5_rankInRow_38 rfl dX5_rankInRow_32 rfl ?_
          refine x_iload_n C 36 dX5_rankInRow_35 rfl rfl ?_
          refine xc_iald C 37 2 0 c (by decide) (show 0 < 1 by decide) rfl rfl (by omega) dX5_rankInRow_36 rfl ?_
          refine x_icmp_ne C 48 40 dX5_rankInRow_37 (by decide) rfl (fun zk37 => ?_) (fun zk37 => ?_)
          · refine x_iinc (v := nI (i + 1)) C 51 rfl dX5_rankInRow_48 (iinc1 _) (by decide) rfl rfl ?_
            refine x_goto C 4 dX5_rankInRow_51 (by decide) ?_
            exact ih (i + 1) _ (by omega) (by omega) (by rw [hr, rkL, if_neg (fun q => q.elim zk22 (fun q => zk37 q.1))])
          · refine x_iload_n C 41 dX5_rankInRow_40 rfl rfl ?_
            refine x_iload_n C 42 dX5_rankInRow_41 rfl rfl ?_
            refine x_icmp_ge C 48 45 dX5_rankInRow_42 (by decide) rfl (fun zk42 => ?_) (fun zk42 => ?_)
            · have zk42 := (nI_leI (a := c) (b := i) (by omega) (by omega)).mp zk42
              refine x_iinc (v := nI (i + 1)) C 51 rfl dX5_rankInRow_48 (iinc1 _) (by decide) rfl rfl ?_
              refine x_goto C 4 dX5_rankInRow_51 (by decide) ?_
              exact ih (i + 1) _ (by omega) (by omega) (by rw [hr, rkL, if_neg (fun q => q.elim zk22 (fun q => absurd q.2 (by omega)))])
            · have zk42 := mt (nI_leI (a := c) (b := i) (by omega) (by omega)).mpr zk42
              refine x_iinc (v := nI (k + 1)) C 48 rfl dX5_rankInRow_45 (iinc1 _) (by decide) rfl rfl ?_
              refine x_iinc (v := nI (i + 1)) C 51 rfl dX5_rankInRow_48 (iinc1 _) (by decide) rfl rfl ?_
              refine x_goto C 4 dX5_rankInRow_51 (by decide) ?_
              exact ih (i + 1) _ (by omega) (by omega) (by rw [hr, rkL, if_pos (Or.inr ⟨zk37, by omega⟩)])
  exact lp4 12 0 0 rfl (by omega) rfl
end CC
