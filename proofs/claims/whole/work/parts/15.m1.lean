section MM
variable {l : Launch} {Γ : Gm} {D : va_G} {a : Nat → ClassId} {E0 m : Nat} {am : Nat → Nat} {I : Nat → Nat → Int32} {en : Int64}
set_option maxRecDepth 100000 in
set_option maxHeartbeats 4000000 in
theorem cM_in (hl : l.stackTraces = false) (x y z : Int64) (ws : va_W) : Ct Γ l yX6_in wsX6_in { frames := 4, cells := 0, slots := 0, locals := 100 } [.long x, .long y, .long z] (ws) (qI fun v w => v = bI (inB x y z) ∧ w = ws) noX := by
  refine Ct.of [some (.long x), none, some (.long y), none, some (.long z), none] rfl hl (by decide) (Nat.le_of_ble_eq_true rfl) rfl (fun φ C0 => ?_)
  have C := C0.1
  refine x_lload_n C 1 dX6_in_0 rfl rfl ?_
  refine x_lload_n C 2 dX6_in_1 rfl rfl ?_
  refine x_lcmp C 3 dX6_in_2 rfl ?_
  refine x_if_lt C 17 6 dX6_in_3 (by decide) rfl (fun zk3 => ?_) (fun zk3 => ?_)
  · have zk3 := (lc_lt _ _).mp zk3
    refine x_iconst (v := (0)) C 18 dX6_in_17 (by decide) rfl ?_
    exact x_nret C0 rfl (rfl) dX6_in_18 (Nat.le_of_ble_eq_true rfl) (Nat.le_of_ble_eq_true rfl) ⟨_, rfl, ⟨by first | (simp [inB, bI]; done) | (simp [inB, bI, *]; done) | (simp [inB, bI, Int64.not_le.mpr zk3]; done) | (simp [inB, bI, Int64.not_le.mpr zk10]; done) | (simp [inB, bI, Int64.not_lt.mp zk3, Int64.not_lt.mp zk10]; done), rfl⟩⟩
  · have zk3 := mt (lc_lt _ _).mpr zk3
    refine x_lload_n C 7 dX6_in_6 rfl rfl ?_
    refine x_lload C 9 dX6_in_7 rfl rfl ?_
    refine x_lcmp C 10 dX6_in_9 rfl ?_
    refine x_if_gt C 17 13 dX6_in_10 (by decide) rfl (fun zk10 => ?_) (fun zk10 => ?_)
    · have zk10 := (lc_gt _ _).mp zk10
      refine x_iconst (v := (0)) C 18 dX6_in_17 (by decide) rfl ?_
      exact x_nret C0 rfl (rfl) dX6_in_18 (Nat.le_of_ble_eq_true rfl) (Nat.le_of_ble_eq_true rfl) ⟨_, rfl, ⟨by first | (simp [inB, bI]; done) | (simp [inB, bI, *]; done) | (simp [inB, bI, Int64.not_le.mpr zk3]; done) | (simp [inB, bI, Int64.not_le.mpr zk10]; done) | (simp [inB, bI, Int64.not_lt.mp zk3, Int64.not_lt.mp zk10]; done), rfl⟩⟩
    · have zk10 := mt (lc_gt _ _).mpr zk10
      refine x_iconst (v := (1)) C 14 dX6_in_13 (by decide) rfl ?_
      refine x_goto C 18 dX6_in_14 (by decide) ?_
      exact x_nret C0 rfl (rfl) dX6_in_18 (Nat.le_of_ble_eq_true rfl) (Nat.le_of_ble_eq_true rfl) ⟨_, rfl, ⟨by first | (simp [inB, bI]; done) | (simp [inB, bI, *]; done) | (simp [inB, bI, Int64.not_le.mpr zk3]; done) | (simp [inB, bI, Int64.not_le.mpr zk10]; done) | (simp [inB, bI, Int64.not_lt.mp zk3, Int64.not_lt.mp zk10]; done), rfl⟩⟩
set_option maxRecDepth 100000 in
set_option maxHeartbeats 4000000 in
theorem cM_isChannel (hl : l.stackTraces = false) (x : Int32) (ws : va_W) : Ct Γ l yX6_isChannel wsX6_isChannel { frames := 8, cells := 0, slots := 0, locals := 200 } [.int x] (ws) (qI fun v w => v = bI (chB x) ∧ w = ws) noX := by
  refine Ct.of [some (.int x)] rfl hl (by decide) (Nat.le_of_ble_eq_true rfl) rfl (fun φ C0 => ?_)
  have C := C0.1
  refine x_iload_n C 1 dX6_isChannel_0 rfl rfl ?_
  refine x_i2l C 2 dX6_isChannel_1 rfl rfl ?_
  refine x_lconst (v := 0) C 3 dX6_isChannel_2 (by decide) rfl ?_
  refine x_ldc2 (v := 11) C 6 (List.mem_cons_of_mem _ (List.mem_of_getElem? (i := 0) rfl)) dX6_isChannel_3 rfl ?_
  refine x_callS0_i C 9 0 0 3 (cM_in hl _ _ _ _) rfl gX6_isChannel_X6_in ⟨by decide, by decide, rfl⟩ ⟨Nat.le_of_ble_eq_true rfl, Nat.le_of_ble_eq_true rfl⟩ rfl rfl (Nat.le_of_ble_eq_true rfl) ⟨Nat.le_of_ble_eq_true rfl, Nat.le_of_ble_eq_true rfl⟩ dX6_isChannel_6 rfl rfl rfl (fun r1 w1 h1 => ?_)
  obtain ⟨rfl, rfl⟩ := h1
  exact x_nret C0 rfl (bI_nar _) dX6_isChannel_9 (Nat.le_of_ble_eq_true rfl) (Nat.le_of_ble_eq_true rfl) ⟨_, rfl, ⟨rfl, rfl⟩⟩
set_option maxRecDepth 100000 in
set_option maxHeartbeats 4000000 in
theorem cM_isLevel (hl : l.stackTraces = false) (x : Int32) (ws : va_W) : Ct Γ l yX6_isLevel wsX6_isLevel { frames := 8, cells := 0, slots := 0, locals := 200 } [.int x] (ws) (qI fun v w => v = bI (lvB x) ∧ w = ws) noX := by
  refine Ct.of [some (.int x)] rfl hl (by decide) (Nat.le_of_ble_eq_true rfl) rfl (fun φ C0 => ?_)
  have C := C0.1
  refine x_iload_n C 1 dX6_isLevel_0 rfl rfl ?_
  refine x_i2l C 2 dX6_isLevel_1 rfl rfl ?_
  refine x_lconst (v := 0) C 3 dX6_isLevel_2 (by decide) rfl ?_
  refine x_ldc2 (v := 255) C 6 (List.mem_cons_of_mem _ (List.mem_of_getElem? (i := 0) rfl)) dX6_isLevel_3 rfl ?_
  refine x_callS0_i C 9 0 0 3 (cM_in hl _ _ _ _) rfl gX6_isLevel_X6_in ⟨by decide, by decide, rfl⟩ ⟨Nat.le_of_ble_eq_true rfl, Nat.le_of_ble_eq_true rfl⟩ rfl rfl (Nat.le_of_ble_eq_true rfl) ⟨Nat.le_of_ble_eq_true rfl, Nat.le_of_ble_eq_true rfl⟩ dX6_isLevel_6 rfl rfl rfl (fun r1 w1 h1 => ?_)
  obtain ⟨rfl, rfl⟩ := h1
  exact x_nret C0 rfl (bI_nar _) dX6_isLevel_9 (Nat.le_of_ble_eq_true rfl) (Nat.le_of_ble_eq_true rfl) ⟨_, rfl, ⟨rfl, rfl⟩⟩
theorem fg_X6_thrown_98 : gF RX6 wsX6_thrown 98 10 35 := ⟨RX6, TX6, 36, "StageConsoleModel", rfl, fun w h => (List.mem_cons_of_mem _ (List.mem_append_right _ h)), by decide, (List.mem_cons_of_mem _ (List.mem_append_left _ (List.mem_of_getElem? (i := 0) rfl))), Or.inl rfl⟩
set_option maxRecDepth 100000 in
set_option maxHeartbeats 4000000 in
theorem cM_thrown (hl : l.stackTraces = false)  : Ct (gm D a E0) l yX6_thrown wsX6_thrown { frames := 4, cells := 0, slots := 0, locals := 100 } [.ref m] (wM m am a I en) (qI fun v w => v = I 30 8 ∧ w = wM m am a I en) noX := by
  refine Ct.of [some (.ref m)] rfl hl (by decide) (Nat.le_of_ble_eq_true rfl) rfl (fun φ C0 => ?_)
  have C := C0.1
  refine x_aload_n C 1 dX6_thrown_0 rfl rfl ?_
  refine xm_get C 4 fg_X6_thrown_98 rfl dX6_thrown_1 rfl ?_
  exact x_zret C0 dX6_thrown_4 (Nat.le_of_ble_eq_true rfl) (Nat.le_of_ble_eq_true rfl) ⟨_, rfl, ⟨rfl, rfl⟩⟩
theorem fg_X6_cueAt_109 : gF RX6 wsX6_cueAt 109 10 5 := ⟨RX6, TX6, 36, "StageConsoleModel", rfl, fun w h => (List.mem_cons_of_mem _ (List.mem_append_left _ (List.mem_append_right _ h))), by decide, (List.mem_cons_of_mem _ (List.mem_append_left _ (List.mem_append_left _ (List.mem_of_getElem? (i := 0) rfl)))), Or.inl rfl⟩
theorem fg_X6_cueAt_9 : gF RX6 wsX6_cueAt 9 10 0 := ⟨RX6, TX6, 36, "StageConsoleModel", rfl, fun w h => (List.mem_cons_of_mem _ (List.mem_append_left _ (List.mem_append_right _ h))), by decide, (List.mem_cons_of_mem _ (List.mem_append_left _ (List.mem_append_left _ (List.mem_of_getElem? (i := 1) rfl)))), Or.inl rfl⟩
set_option maxRecDepth 100000 in
set_option maxHeartbeats 4000000 in
theorem cM_cueAt (hl : l.stackTraces = false) {I : Nat → Nat → Int32} {nq : Nat} (h0 : I 30 0 = nI nq) (hq : nq ≤ 16) (x : Int32) : Ct (gm D a E0) l yX6_cueAt wsX6_cueAt { frames := 4, cells := 0, slots := 0, locals := 100 } [.ref m, .int x] (wM m am a I en) (qI fun v w => v = atI nq (fnd (I 0) x nq 0) ∧ w = wM m am a I en) noX := by
  refine Ct.of [some (.ref m), some (.int x), none] rfl hl (by decide) (Nat.le_of_ble_eq_true rfl) rfl (fun φ C0 => ?_)
  have C := C0.1
  refine x_iconst (v := (0)) C 1 dX6_cueAt_0 (by decide) rfl ?_
  refine x_istore_n C 2 dX6_cueAt_1 (by decide) rfl rfl ?_
  have lp2 : ∀ (n i : Nat), i + n = nq → fnd (I 0) x nq 0 = fnd (I 0) x n i → X φ 2 [some (.ref m), some (.int x), some (.int (nI i))] [] (wM m am a I en) 0 0 := by
    intro n
    induction n with
    | zero =>
      intro i hi hr
      refine x_iload_n C 3 dX6_cueAt_2 rfl rfl ?_
      refine x_aload_n C 4 dX6_cueAt_3 rfl rfl ?_
      refine xm_get C 7 fg_X6_cueAt_109 rfl dX6_cueAt_4 rfl ?_
      refine x_top h0 ?_
      refine x_icmp_ge C 28 10 dX6_cueAt_7 (by decide) rfl (fun zk7 => ?_) (fun zk7 => ?_)
      · have zk7 := (nI_leI (a := nq) (b := i) (by omega) (by omega)).mp zk7
        refine x_iconst (v := (-1)) C 29 dX6_cueAt_28 (by decide) rfl ?_
        exact x_zret C0 dX6_cueAt_29 (Nat.le_of_ble_eq_true rfl) (Nat.le_of_ble_eq_true rfl) ⟨_, rfl, ⟨by rw [hr, fnd, atI, if_neg (by omega)], rfl⟩⟩
      · have zk7 := mt (nI_leI (a := nq) (b := i) (by omega) (by omega)).mpr zk7
        exfalso; omega
    | succ n ih =>
      intro i hi hr
      refine x_iload_n C 3 dX6_cueAt_2 rfl rfl ?_
      refine x_aload_n C 4 dX6_cueAt_3 rfl rfl ?_
      refine xm_get C 7 fg_X6_cueAt_109 rfl dX6_cueAt_4 rfl ?_
      refine x_top h0 ?_
      refine x_icmp_ge C 28 10 dX6_cueAt_7 (by decide) rfl (fun zk7 => ?_) (fun zk7 => ?_)
      · have zk7 := (nI_leI (a := nq) (b := i) (by omega) (by omega)).mp zk7
        exfalso; omega
      · have zk7 := mt (nI_leI (a := nq) (b := i) (by omega) (by omega)).mpr zk7
        refine x_aload_n C 11 dX6_cueAt_10 rfl rfl ?_
        refine xm_get C 14 fg_X6_cueAt_9 rfl dX6_cueAt_11 rfl ?_
        refine x_iload_n C 15 dX6_cueAt_14 rfl rfl ?_
        refine xm_iald C 16 0 16 (i) (by decide) rfl rfl rfl (by omega) dX6_cueAt_15 rfl ?_
        refine x_iload_n C 17 dX6_cueAt_16 rfl rfl ?_
        refine x_icmp_ne C 22 20 dX6_cueAt_17 (by decide) rfl (fun zk17 => ?_) (fun zk17 => ?_)
        · refine x_iinc (v := nI (i + 1)) C 25 rfl dX6_cueAt_22 (iinc1 _) (by decide) rfl rfl ?_
          refine x_goto C 2 dX6_cueAt_25 (by decide) ?_
          exact ih (i + 1) (by omega) (by rw [hr, fnd, if_neg zk17])
        · refine x_iload_n C 21 dX6_cueAt_20 rfl rfl ?_
          exact x_zret C0 dX6_cueAt_21 (Nat.le_of_ble_eq_true rfl) (Nat.le_of_ble_eq_true rfl) ⟨_, rfl, ⟨by rw [hr, fnd, if_pos zk17, atI, if_pos (by omega)], rfl⟩⟩
  exact lp2 nq 0 (by omega) rfl
theorem fg_X6_isGroup_165 : gF RX6 wsX6_isGroup 165 10 18 := ⟨RX6, TX6, 36, "StageConsoleModel", rfl, fun w h => (List.mem_cons_of_mem _ (List.mem_append_right _ h)), by decide, (List.mem_cons_of_mem _ (List.mem_append_left _ (List.mem_of_getElem? (i := 0) rfl))), Or.inl rfl⟩
set_option maxRecDepth 100000 in
set_option maxHeartbeats 4000000 in
theorem cM_isGroup (hl : l.stackTraces = false) {I : Nat → Nat → Int32} {ng : Nat} (h2 : I 30 2 = nI ng) (x : Int32) : Ct (gm D a E0) l yX6_isGroup wsX6_isGroup { frames := 8, cells := 0, slots := 0, locals := 200 } [.ref m, .int x] (wM m am a I en) (qI fun v w => v = bI (upB ng x) ∧ w = wM m am a I en) noX := by
  refine Ct.of [some (.ref m), some (.int x)] rfl hl (by decide) (Nat.le_of_ble_eq_true rfl) rfl (fun φ C0 => ?_)
  have C := C0.1
  refine x_iload_n C 1 dX6_isGroup_0 rfl rfl ?_
  refine x_i2l C 2 dX6_isGroup_1 rfl rfl ?_
  refine x_lconst (v := 0) C 3 dX6_isGroup_2 (by decide) rfl ?_
  refine x_aload_n C 4 dX6_isGroup_3 rfl rfl ?_
  refine xm_get C 7 fg_X6_isGroup_165 rfl dX6_isGroup_4 rfl ?_
  refine x_top h2 ?_
  refine x_iconst (v := (1)) C 8 dX6_isGroup_7 (by decide) rfl ?_
  refine x_isub C 9 dX6_isGroup_8 rfl ?_
  refine x_i2l C 10 dX6_isGroup_9 rfl rfl ?_
  refine x_callS0_i C 13 0 0 3 (cM_in hl _ _ _ _) rfl gX6_isGroup_X6_in ⟨by decide, by decide, rfl⟩ ⟨Nat.le_of_ble_eq_true rfl, Nat.le_of_ble_eq_true rfl⟩ rfl rfl (Nat.le_of_ble_eq_true rfl) ⟨Nat.le_of_ble_eq_true rfl, Nat.le_of_ble_eq_true rfl⟩ dX6_isGroup_10 rfl rfl rfl (fun r1 w1 h1 => ?_)
  obtain ⟨rfl, rfl⟩ := h1
  exact x_nret C0 rfl (bI_nar _) dX6_isGroup_13 (Nat.le_of_ble_eq_true rfl) (Nat.le_of_ble_eq_true rfl) ⟨_, rfl, ⟨rfl, rfl⟩⟩
theorem fg_X6_isEffect_178 : gF RX6 wsX6_isEffect 178 10 26 := ⟨RX6, TX6, 36, "StageConsoleModel", rfl, fun w h => (List.mem_cons_of_mem _ (List.mem_append_right _ h)), by decide, (List.mem_cons_of_mem _ (List.mem_append_left _ (List.mem_of_getElem? (i := 0) rfl))), Or.inl rfl⟩
set_option maxRecDepth 100000 in
set_option maxHeartbeats 4000000 in
theorem cM_isEffect (hl : l.stackTraces = false) {I : Nat → Nat → Int32} {ne : Nat} (h3 : I 30 3 = nI ne) (x : Int32) : Ct (gm D a E0) l yX6_isEffect wsX6_isEffect { frames := 8, cells := 0, slots := 0, locals := 200 } [.ref m, .int x] (wM m am a I en) (qI fun v w => v = bI (upB ne x) ∧ w = wM m am a I en) noX := by
  refine Ct.of [some (.ref m), some (.int x)] rfl hl (by decide) (Nat.le_of_ble_eq_true rfl) rfl (fun φ C0 => ?_)
  have C := C0.1
  refine x_iload_n C 1 dX6_isEffect_0 rfl rfl ?_
  refine x_i2l C 2 dX6_isEffect_1 rfl rfl ?_
  refine x_lconst (v := 0) C 3 dX6_isEffect_2 (by decide) rfl ?_
  refine x_aload_n C 4 dX6_isEffect_3 rfl rfl ?_
  refine xm_get C 7 fg_X6_isEffect_178 rfl dX6_isEffect_4 rfl ?_
  refine x_top h3 ?_
  refine x_iconst (v := (1)) C 8 dX6_isEffect_7 (by decide) rfl ?_
  refine x_isub C 9 dX6_isEffect_8 rfl ?_
  refine x_i2l C 10 dX6_isEffect_9 rfl rfl ?_
  refine x_callS0_i C 13 0 0 3 (cM_in hl _ _ _ _) rfl gX6_isEffect_X6_in ⟨by decide, by decide, rfl⟩ ⟨Nat.le_of_ble_eq_true rfl, Nat.le_of_ble_eq_true rfl⟩ rfl rfl (Nat.le_of_ble_eq_true rfl) ⟨Nat.le_of_ble_eq_true rfl, Nat.le_of_ble_eq_true rfl⟩ dX6_isEffect_10 rfl rfl rfl (fun r1 w1 h1 => ?_)
  obtain ⟨rfl, rfl⟩ := h1
  exact x_nret C0 rfl (bI_nar _) dX6_isEffect_13 (Nat.le_of_ble_eq_true rfl) (Nat.le_of_ble_eq_true rfl) ⟨_, rfl, ⟨rfl, rfl⟩⟩
theorem fg_X6_copies_9 : gF RX6 wsX6_copies 9 10 0 := ⟨RX6, TX6, 36, "StageConsoleModel", rfl, fun w h => (List.mem_cons_of_mem _ (List.mem_append_left _ (List.mem_append_right _ h))), by decide, (List.mem_cons_of_mem _ (List.mem_append_left _ (List.mem_append_left _ (List.mem_of_getElem? (i := 0) rfl)))), Or.inl rfl⟩
theorem fg_X6_copies_13 : gF RX6 wsX6_copies 13 10 1 := ⟨RX6, TX6, 36, "StageConsoleModel", rfl, fun w h => (List.mem_cons_of_mem _ (List.mem_append_left _ (List.mem_append_right _ h))), by decide, (List.mem_cons_of_mem _ (List.mem_append_left _ (List.mem_append_left _ (List.mem_of_getElem? (i := 1) rfl)))), Or.inl rfl⟩
theorem fg_X6_copies_16 : gF RX6 wsX6_copies 16 10 2 := ⟨RX6, TX6, 36, "StageConsoleModel", rfl, fun w h => (List.mem_cons_of_mem _ (List.mem_append_left _ (List.mem_append_right _ h))), by decide, (List.mem_cons_of_mem _ (List.mem_append_left _ (List.mem_append_left _ (List.mem_of_getElem? (i := 2) rfl)))), Or.inl rfl⟩
theorem fg_X6_copies_20 : gF RX6 wsX6_copies 20 10 3 := ⟨RX6, TX6, 36, "StageConsoleModel", rfl, fun w h => (List.mem_cons_of_mem _ (List.mem_append_left _ (List.mem_append_right _ h))), by decide, (List.mem_cons_of_mem _ (List.mem_append_left _ (List.mem_append_left _ (List.mem_of_getElem? (i := 3) rfl)))), Or.inl rfl⟩
theorem fg_X6_copies_24 : gF RX6 wsX6_copies 24 10 4 := ⟨RX6, TX6, 36, "StageConsoleModel", rfl, fun w h => (List.mem_cons_of_mem _ (List.mem_append_left _ (List.mem_append_right _ h))), by decide, (List.mem_cons_of_mem _ (List.mem_append_left _ (List.mem_append_left _ (List.mem_of_getElem? (i := 4) rfl)))), Or.inl rfl⟩
set_option maxRecDepth 100000 in
set_option maxHeartbeats 4000000 in
theorem cM_copies (hl : l.stackTraces = false) {I : Nat → Nat → Int32} (x y : Nat) (hx : x < 16) (hy : y < 16) (hc : vp_nar .char (I 2 x) = I 2 x) (hb : vp_nar .boolean (I 3 x) = I 3 x) : Ct (gm D a E0) l yX6_copies wsX6_copies { frames := 4, cells := 0, slots := 0, locals := 100 } [.ref m, .int (nI x), .int (nI y)] (wM m am a I en) (qV fun w => w = wM m am a (cpM I x y) en) noX := by
  refine Ct.of [some (.ref m), some (.int (nI x)), some (.int (nI y)), none] rfl hl (by decide) (Nat.le_of_ble_eq_true rfl) rfl (fun φ C0 => ?_)
  have C := C0.1
  refine x_aload_n C 1 dX6_copies_0 rfl rfl ?_
  refine xm_get C 4 fg_X6_copies_9 rfl dX6_copies_1 rfl ?_
  refine x_iload_n C 5 dX6_copies_4 rfl rfl ?_
  refine x_aload_n C 6 dX6_copies_5 rfl rfl ?_
  refine xm_get C 9 fg_X6_copies_9 rfl dX6_copies_6 rfl ?_
  refine x_iload_n C 10 dX6_copies_9 rfl rfl ?_
  refine xm_iald C 11 0 16 (x) (by decide) rfl rfl rfl (by omega) dX6_copies_10 rfl ?_
  refine xm_iast C 12 0 16 (y) (by decide) rfl rfl rfl (by omega) dX6_copies_11 rfl ?_
  refine x_aload_n C 13 dX6_copies_12 rfl rfl ?_
  refine xm_get C 16 fg_X6_copies_13 rfl dX6_copies_13 rfl ?_
  refine x_iload_n C 17 dX6_copies_16 rfl rfl ?_
  refine x_aload_n C 18 dX6_copies_17 rfl rfl ?_
  refine xm_get C 21 fg_X6_copies_13 rfl dX6_copies_18 rfl ?_
  refine x_iload_n C 22 dX6_copies_21 rfl rfl ?_
  refine xm_iald C 23 1 16 (x) (by decide) rfl rfl rfl (by omega) dX6_copies_22 rfl ?_
  refine xm_iast C 24 1 16 (y) (by decide) rfl rfl rfl (by omega) dX6_copies_23 rfl ?_
  refine x_aload_n C 25 dX6_copies_24 rfl rfl ?_
  refine xm_get C 28 fg_X6_copies_16 rfl dX6_copies_25 rfl ?_
  refine x_iload_n C 29 dX6_copies_28 rfl rfl ?_
  refine x_aload_n C 30 dX6_copies_29 rfl rfl ?_
  refine xm_get C 33 fg_X6_copies_16 rfl dX6_copies_30 rfl ?_
  refine x_iload_n C 34 dX6_copies_33 rfl rfl ?_
  refine xm_cald C 35 2 16 (x) (by decide) rfl rfl rfl (by omega) dX6_copies_34 rfl ?_
  refine xm_cast C 36 2 16 (y) (by decide) rfl rfl rfl (by omega) (hc) dX6_copies_35 rfl ?_
  refine x_aload_n C 37 dX6_copies_36 rfl rfl ?_
  refine xm_get C 40 fg_X6_copies_20 rfl dX6_copies_37 rfl ?_
  refine x_iload_n C 41 dX6_copies_40 rfl rfl ?_
  refine x_aload_n C 42 dX6_copies_41 rfl rfl ?_
  refine xm_get C 45 fg_X6_copies_20 rfl dX6_copies_42 rfl ?_
  refine x_iload_n C 46 dX6_copies_45 rfl rfl ?_
  refine xm_zald C 47 3 16 (x) (by decide) rfl rfl rfl (by omega) dX6_copies_46 rfl ?_
  refine xm_zast C 48 3 16 (y) (by decide) rfl rfl rfl (by omega) (hb) dX6_copies_47 rfl ?_
  refine x_iconst (v := (0)) C 49 dX6_copies_48 (by decide) rfl ?_
  refine x_istore_n C 50 dX6_copies_49 (by decide) rfl rfl ?_
  have lp50 : ∀ (n i : Nat) (J : Nat → Nat → Int32), i + n = 12 → cpM I x y = cpL x y n i J → X φ 50 [some (.ref m), some (.int (nI x)), some (.int (nI y)), some (.int (nI i))] [] (wM m am a J en) 0 0 := by
    intro n
    induction n with
    | zero =>
      intro i J hi hr
      refine x_iload_n C 51 dX6_copies_50 rfl rfl ?_
      refine x_bipush (v := (12)) C 53 dX6_copies_51 (by decide) rfl ?_
      refine x_icmp_ge C 84 56 dX6_copies_53 (by decide) rfl (fun zk53 => ?_) (fun zk53 => ?_)
      · have zk53 := (nI_leI (a := 12) (b := i) (by omega) (by omega)).mp zk53
        exact x_vret C0 dX6_copies_84 (Nat.le_of_ble_eq_true rfl) (Nat.le_of_ble_eq_true rfl) ⟨rfl, (by rw [hr]; rfl)⟩
      · have zk53 := mt (nI_leI (a := 12) (b := i) (by omega) (by omega)).mpr zk53
        exfalso; omega
    | succ n ih =>
      intro i J hi hr
      refine x_iload_n C 51 dX6_copies_50 rfl rfl ?_
      refine x_bipush (v := (12)) C 53 dX6_copies_51 (by decide) rfl ?_
      refine x_icmp_ge C 84 56 dX6_copies_53 (by decide) rfl (fun zk53 => ?_) (fun zk53 => ?_)
      · have zk53 := (nI_leI (a := 12) (b := i) (by omega) (by omega)).mp zk53
        exfalso; omega
      · have zk53 := mt (nI_leI (a := 12) (b := i) (by omega) (by omega)).mpr zk53
        refine x_aload_n C 57 dX6_copies_56 rfl rfl ?_
        refine xm_get C 60 fg_X6_copies_24 rfl dX6_copies_57 rfl ?_
        refine x_bipush (v := (12)) C 62 dX6_copies_60 (by decide) rfl ?_
        refine x_iload_n C 63 dX6_copies_62 rfl rfl ?_
        refine x_imul C 64 dX6_copies_63 rfl ?_
        refine x_top (show _ = nI (12 * y) from pk_mul _ _) ?_
        refine x_iload_n C 65 dX6_copies_64 rfl rfl ?_
        refine x_iadd C 66 dX6_copies_65 rfl ?_
        refine x_top (show _ = nI ((12 * y) + i) from nI_add _ _) ?_
        refine x_aload_n C 67 dX6_copies_66 rfl rfl ?_
        refine xm_get C 70 fg_X6_copies_24 rfl dX6_copies_67 rfl ?_
        refine x_bipush (v := (12)) C 72 dX6_copies_70 (by decide) rfl ?_
        refine x_iload_n C 73 dX6_copies_72 rfl rfl ?_
        refine x_imul C 74 dX6_copies_73 rfl ?_
        refine x_top (show _ = nI (12 * x) from pk_mul _ _) ?_
        refine x_iload_n C 75 dX6_copies_74 rfl rfl ?_
        refine x_iadd C 76 dX6_copies_75 rfl ?_
        refine x_top (show _ = nI ((12 * x) + i) from nI_add _ _) ?_
        refine xm_iald C 77 4 192 (((12 * x) + i)) (by decide) rfl rfl rfl (by omega) dX6_copies_76 rfl ?_
        refine xm_iast C 78 4 192 (((12 * y) + i)) (by decide) rfl rfl rfl (by omega) dX6_copies_77 rfl ?_
        refine x_iinc (v := nI (i + 1)) C 81 rfl dX6_copies_78 (iinc1 _) (by decide) rfl rfl ?_
        refine x_goto C 50 dX6_copies_81 (by decide) ?_
        exact ih (i + 1) _ (by omega) hr
  exact lp50 12 0 (cp1 I x y) rfl rfl
theorem fg_X6_tracked_24 : gF RX6 wsX6_tracked 24 10 4 := ⟨RX6, TX6, 36, "StageConsoleModel", rfl, fun w h => (List.mem_cons_of_mem _ (List.mem_append_left _ (List.mem_append_right _ h))), by decide, (List.mem_cons_of_mem _ (List.mem_append_left _ (List.mem_append_left _ (List.mem_of_getElem? (i := 0) rfl)))), Or.inl rfl⟩
theorem fg_X6_tracked_20 : gF RX6 wsX6_tracked 20 10 3 := ⟨RX6, TX6, 36, "StageConsoleModel", rfl, fun w h => (List.mem_cons_of_mem _ (List.mem_append_left _ (List.mem_append_right _ h))), by decide, (List.mem_cons_of_mem _ (List.mem_append_left _ (List.mem_append_left _ (List.mem_of_getElem? (i := 1) rfl)))), Or.inl rfl⟩
set_option maxRecDepth 100000 in
set_option maxHeartbeats 4000000 in
theorem cM_tracked (hl : l.stackTraces = false) {I : Nat → Nat → Int32} (x y : Nat) (hx : x < 16) (hy : y < 12) : Ct (gm D a E0) l yX6_tracked wsX6_tracked { frames := 4, cells := 0, slots := 0, locals := 100 } [.ref m, .int (nI x), .int (nI y)] (wM m am a I en) (qI fun v w => v = trk (I 4) (I 3) y (x + 1) ∧ w = wM m am a I en) noX := by
  refine Ct.of [some (.ref m), some (.int (nI x)), some (.int (nI y)), none, none] rfl hl (by decide) (Nat.le_of_ble_eq_true rfl) rfl (fun φ C0 => ?_)
  have C := C0.1
  refine x_iload_n C 1 dX6_tracked_0 rfl rfl ?_
  refine x_istore_n C 2 dX6_tracked_1 (by decide) rfl rfl ?_
  have lp2 : ∀ (n : Nat), n ≤ 16 → trk (I 4) (I 3) y (x + 1) = trk (I 4) (I 3) y n → X φ 2 [some (.ref m), some (.int (nI x)), some (.int (nI y)), some (.int (kd n)), none] [] (wM m am a I en) 0 0 := by
    intro n
    induction n with
    | zero =>
      intro hi hr
      refine x_ls (show _ = [some (.ref m), some (.int (nI x)), some (.int (nI y)), some (.int (-1)), none] from rfl) ?_
      refine x_iload_n C 3 dX6_tracked_2 rfl rfl ?_
      refine x_if_lt C 47 6 dX6_tracked_3 (by decide) rfl (fun zk3 => ?_) (fun zk3 => ?_)
      · refine x_iconst (v := (0)) C 48 dX6_tracked_47 (by decide) rfl ?_
        exact x_zret C0 dX6_tracked_48 (Nat.le_of_ble_eq_true rfl) (Nat.le_of_ble_eq_true rfl) ⟨_, rfl, ⟨by rw [hr]; rfl, rfl⟩⟩
      · exact absurd zk3 (by decide)
    | succ n ih =>
      intro hi hr
      refine x_ls (show _ = [some (.ref m), some (.int (nI x)), some (.int (nI y)), some (.int (nI n)), none] from rfl) ?_
      refine x_iload_n C 3 dX6_tracked_2 rfl rfl ?_
      refine x_if_lt C 47 6 dX6_tracked_3 (by decide) rfl (fun zk3 => ?_) (fun zk3 => ?_)
      · have zk3 := (nI_ltI (a := n) (b := 0) (by omega) (by omega)).mp zk3
        exact absurd zk3 (Nat.not_lt_zero _)
      · have zk3 := mt (nI_ltI (a := n) (b := 0) (by omega) (by omega)).mpr zk3
        refine x_aload_n C 7 dX6_tracked_6 rfl rfl ?_
        refine xm_get C 10 fg_X6_tracked_24 rfl dX6_tracked_7 rfl ?_
        refine x_bipush (v := (12)) C 12 dX6_tracked_10 (by decide) rfl ?_
        refine x_iload_n C 13 dX6_tracked_12 rfl rfl ?_
        refine x_imul C 14 dX6_tracked_13 rfl ?_
        refine x_top (show _ = nI (12 * n) from pk_mul _ _) ?_
        refine x_iload_n C 15 dX6_tracked_14 rfl rfl ?_
        refine x_iadd C 16 dX6_tracked_15 rfl ?_
        refine x_top (show _ = nI ((12 * n) + y) from nI_add _ _) ?_
        refine xm_iald C 17 4 192 (((12 * n) + y)) (by decide) rfl rfl rfl (by omega) dX6_tracked_16 rfl ?_
        refine x_nm (fun v ev => ?_)
        refine x_istore C 19 dX6_tracked_17 (by decide) rfl rfl ?_
        refine x_iload C 21 dX6_tracked_19 rfl rfl ?_
        refine x_iconst (v := (-1)) C 22 dX6_tracked_21 (by decide) rfl ?_
        refine x_icmp_ne C 34 25 dX6_tracked_22 (by decide) rfl (fun zk22 => ?_) (fun zk22 => ?_)
        · refine x_iconst (v := (0)) C 35 dX6_tracked_34 (by decide) rfl ?_
          refine x_iload C 37 dX6_tracked_35 rfl rfl ?_
          refine x_mmax C 40 (List.mem_cons_of_mem _ (List.mem_append_left _ (List.mem_append_left _ (List.mem_of_getElem? (i := 2) rfl)))) (List.mem_cons_of_mem _ (List.mem_append_left _ (List.mem_append_left _ (List.mem_of_getElem? (i := 3) rfl)))) (List.mem_cons_of_mem _ (List.mem_append_left _ (List.mem_append_left _ (List.mem_of_getElem? (i := 4) rfl)))) (List.mem_cons_of_mem _ (List.mem_append_left _ (List.mem_append_left _ (List.mem_of_getElem? (i := 5) rfl)))) (Nat.le_of_ble_eq_true rfl) (Nat.le_of_ble_eq_true rfl) (Nat.le_of_ble_eq_true rfl) (Nat.le_of_ble_eq_true rfl) dX6_tracked_37 rfl ?_
          exact x_zret C0 dX6_tracked_40 (Nat.le_of_ble_eq_true rfl) (Nat.le_of_ble_eq_true rfl) ⟨_, rfl, ⟨by rw [hr, trk, if_neg (fun q : I 4 (12 * n + y) = -1 ∧ I 3 n = 0 => by first | exact zk22 (ev.trans q.1) | exact zk31 q.2)]; subst ev; rfl, rfl⟩⟩
        · refine x_aload_n C 26 dX6_tracked_25 rfl rfl ?_
          refine xm_get C 29 fg_X6_tracked_20 rfl dX6_tracked_26 rfl ?_
          refine x_iload_n C 30 dX6_tracked_29 rfl rfl ?_
          refine xm_zald C 31 3 16 (n) (by decide) rfl rfl rfl (by omega) dX6_tracked_30 rfl ?_
          refine x_if_eq C 41 34 dX6_tracked_31 (by decide) rfl (fun zk31 => ?_) (fun zk31 => ?_)
          · refine x_iinc (v := kd n) C 44 rfl dX6_tracked_41 (kd_dec _) (by decide) rfl rfl ?_
            refine x_goto C 2 dX6_tracked_44 (by decide) ?_
            refine x_dropn 4 ?_
            exact ih (by omega) (by rw [hr, trk, if_pos ⟨ev.symm.trans zk22, zk31⟩])
          · refine x_iconst (v := (0)) C 35 dX6_tracked_34 (by decide) rfl ?_
            refine x_iload C 37 dX6_tracked_35 rfl rfl ?_
            refine x_mmax C 40 (List.mem_cons_of_mem _ (List.mem_append_left _ (List.mem_append_left _ (List.mem_of_getElem? (i := 2) rfl)))) (List.mem_cons_of_mem _ (List.mem_append_left _ (List.mem_append_left _ (List.mem_of_getElem? (i := 3) rfl)))) (List.mem_cons_of_mem _ (List.mem_append_left _ (List.mem_append_left _ (List.mem_of_getElem? (i := 4) rfl)))) (List.mem_cons_of_mem _ (List.mem_append_left _ (List.mem_append_left _ (List.mem_of_getElem? (i := 5) rfl)))) (Nat.le_of_ble_eq_true rfl) (Nat.le_of_ble_eq_true rfl) (Nat.le_of_ble_eq_true rfl) (Nat.le_of_ble_eq_true rfl) dX6_tracked_37 rfl ?_
            exact x_zret C0 dX6_tracked_40 (Nat.le_of_ble_eq_true rfl) (Nat.le_of_ble_eq_true rfl) ⟨_, rfl, ⟨by rw [hr, trk, if_neg (fun q : I 4 (12 * n + y) = -1 ∧ I 3 n = 0 => by first | exact zk22 (ev.trans q.1) | exact zk31 q.2)]; subst ev; rfl, rfl⟩⟩
  exact lp2 (x + 1) (by omega) rfl
theorem fg_X6_faded_42 : gF RX6 wsX6_faded 42 10 12 := ⟨RX6, TX6, 36, "StageConsoleModel", rfl, fun w h => (List.mem_cons_of_mem _ (List.mem_append_left _ (List.mem_append_left _ (List.mem_append_right _ h)))), by decide, (List.mem_cons_of_mem _ (List.mem_append_left _ (List.mem_append_left _ (List.mem_append_left _ (List.mem_of_getElem? (i := 0) rfl))))), Or.inl rfl⟩
theorem fg_X6_faded_140 : gF RX6 wsX6_faded 140 10 32 := ⟨RX6, TX6, 36, "StageConsoleModel", rfl, fun w h => (List.mem_cons_of_mem _ (List.mem_append_left _ (List.mem_append_left _ (List.mem_append_right _ h)))), by decide, (List.mem_cons_of_mem _ (List.mem_append_left _ (List.mem_append_left _ (List.mem_append_left _ (List.mem_of_getElem? (i := 2) rfl))))), Or.inl rfl⟩
theorem fg_X6_faded_33 : gF RX6 wsX6_faded 33 10 9 := ⟨RX6, TX6, 36, "StageConsoleModel", rfl, fun w h => (List.mem_cons_of_mem _ (List.mem_append_left _ (List.mem_append_left _ (List.mem_append_right _ h)))), by decide, (List.mem_cons_of_mem _ (List.mem_append_left _ (List.mem_append_left _ (List.mem_append_left _ (List.mem_of_getElem? (i := 3) rfl))))), Or.inl rfl⟩
theorem fg_X6_faded_36 : gF RX6 wsX6_faded 36 10 10 := ⟨RX6, TX6, 36, "StageConsoleModel", rfl, fun w h => (List.mem_cons_of_mem _ (List.mem_append_left _ (List.mem_append_left _ (List.mem_append_right _ h)))), by decide, (List.mem_cons_of_mem _ (List.mem_append_left _ (List.mem_append_left _ (List.mem_append_left _ (List.mem_of_getElem? (i := 4) rfl))))), Or.inl rfl⟩
theorem fg_X6_faded_30 : gF RX6 wsX6_faded 30 10 8 := ⟨RX6, TX6, 36, "StageConsoleModel", rfl, fun w h => (List.mem_cons_of_mem _ (List.mem_append_left _ (List.mem_append_left _ (List.mem_append_right _ h)))), by decide, (List.mem_cons_of_mem _ (List.mem_append_left _ (List.mem_append_left _ (List.mem_append_left _ (List.mem_of_getElem? (i := 5) rfl))))), Or.inl rfl⟩
theorem fg_X6_faded_27 : gF RX6 wsX6_faded 27 10 7 := ⟨RX6, TX6, 36, "StageConsoleModel", rfl, fun w h => (List.mem_cons_of_mem _ (List.mem_append_left _ (List.mem_append_left _ (List.mem_append_right _ h)))), by decide, (List.mem_cons_of_mem _ (List.mem_append_left _ (List.mem_append_left _ (List.mem_append_left _ (List.mem_of_getElem? (i := 1) rfl))))), Or.inl rfl⟩
theorem fg_X6_faded_39 : gF RX6 wsX6_faded 39 10 11 := ⟨RX6, TX6, 36, "StageConsoleModel", rfl, fun w h => (List.mem_cons_of_mem _ (List.mem_append_left _ (List.mem_append_left _ (List.mem_append_right _ h)))), by decide, (List.mem_cons_of_mem _ (List.mem_append_left _ (List.mem_append_left _ (List.mem_append_left _ (List.mem_of_getElem? (i := 6) rfl))))), Or.inl rfl⟩
set_option maxRecDepth 100000 in
set_option maxHeartbeats 4000000 in
theorem cM_faded (hl : l.stackTraces = false) {I : Nat → Nat → Int32} (x : Nat) (hx : x < 12) (ht : ¬ I 10 x = 0 → ∃ t, 1 ≤ t ∧ t ≤ 40 ∧ I 8 x = nI t) : Ct (gm D a E0) l yX6_faded wsX6_faded { frames := 4, cells := 0, slots := 0, locals := 100 } [.ref m, .int (nI x)] (wM m am a I en) (qI fun v w => v = fadF I x ∧ w = wM m am a I en) noX := by
  refine Ct.of [some (.ref m), some (.int (nI x)), none, none, none] rfl hl (by decide) (Nat.le_of_ble_eq_true rfl) rfl (fun φ C0 => ?_)
  have C := C0.1
  refine x_aload_n C 1 dX6_faded_0 rfl rfl ?_
  refine xm_get C 4 fg_X6_faded_42 rfl dX6_faded_1 rfl ?_
  refine x_iload_n C 5 dX6_faded_4 rfl rfl ?_
  refine xm_zald C 6 10 12 (x) (by decide) rfl rfl rfl (by omega) dX6_faded_5 rfl ?_
  refine x_if_ne C 16 9 dX6_faded_6 (by decide) rfl (fun zk6 => ?_) (fun zk6 => ?_)
  · refine x_aload_n C 17 dX6_faded_16 rfl rfl ?_
    refine xm_get C 20 fg_X6_faded_140 rfl dX6_faded_17 rfl ?_
    refine x_aload_n C 21 dX6_faded_20 rfl rfl ?_
    refine xm_get C 24 fg_X6_faded_33 rfl dX6_faded_21 rfl ?_
    refine x_iload_n C 25 dX6_faded_24 rfl rfl ?_
    refine xm_iald C 26 7 12 (x) (by decide) rfl rfl rfl (by omega) dX6_faded_25 rfl ?_
    refine x_isub C 27 dX6_faded_26 rfl ?_
    refine x_nm (fun n en => ?_)
    refine x_istore_n C 28 dX6_faded_27 (by decide) rfl rfl ?_
    refine x_aload_n C 29 dX6_faded_28 rfl rfl ?_
    refine xm_get C 32 fg_X6_faded_36 rfl dX6_faded_29 rfl ?_
    refine x_iload_n C 33 dX6_faded_32 rfl rfl ?_
    refine xm_iald C 34 8 12 (x) (by decide) rfl rfl rfl (by omega) dX6_faded_33 rfl ?_
    refine x_nm (fun t et => ?_)
    refine x_istore_n C 35 dX6_faded_34 (by decide) rfl rfl ?_
    refine x_aload_n C 36 dX6_faded_35 rfl rfl ?_
    refine xm_get C 39 fg_X6_faded_30 rfl dX6_faded_36 rfl ?_
    refine x_iload_n C 40 dX6_faded_39 rfl rfl ?_
    refine xm_iald C 41 6 12 (x) (by decide) rfl rfl rfl (by omega) dX6_faded_40 rfl ?_
    refine x_aload_n C 42 dX6_faded_41 rfl rfl ?_
    refine xm_get C 45 fg_X6_faded_27 rfl dX6_faded_42 rfl ?_
    refine x_iload_n C 46 dX6_faded_45 rfl rfl ?_
    refine xm_iald C 47 5 12 (x) (by decide) rfl rfl rfl (by omega) dX6_faded_46 rfl ?_
    refine x_isub C 48 dX6_faded_47 rfl ?_
    refine x_nm (fun u eu => ?_)
    refine x_istore C 50 dX6_faded_48 (by decide) rfl rfl ?_
    refine x_aload_n C 51 dX6_faded_50 rfl rfl ?_
    refine xm_get C 54 fg_X6_faded_39 rfl dX6_faded_51 rfl ?_
    refine x_iload_n C 55 dX6_faded_54 rfl rfl ?_
    refine xm_cald C 56 9 12 (x) (by decide) rfl rfl rfl (by omega) dX6_faded_55 rfl ?_
    refine x_bipush (v := (108)) C 58 dX6_faded_56 (by decide) rfl ?_
    refine x_icmp_ne C 75 61 dX6_faded_58 (by decide) rfl (fun zk58 => ?_) (fun zk58 => ?_)
    · refine x_aload_n C 76 dX6_faded_75 rfl rfl ?_
      refine xm_get C 79 fg_X6_faded_39 rfl dX6_faded_76 rfl ?_
      refine x_iload_n C 80 dX6_faded_79 rfl rfl ?_
      refine xm_cald C 81 9 12 (x) (by decide) rfl rfl rfl (by omega) dX6_faded_80 rfl ?_
      refine x_bipush (v := (113)) C 83 dX6_faded_81 (by decide) rfl ?_
      refine x_icmp_ne C 104 86 dX6_faded_83 (by decide) rfl (fun zk83 => ?_) (fun zk83 => ?_)
      · refine x_aload_n C 105 dX6_faded_104 rfl rfl ?_
        refine xm_get C 108 fg_X6_faded_27 rfl dX6_faded_105 rfl ?_
        refine x_iload_n C 109 dX6_faded_108 rfl rfl ?_
        refine xm_iald C 110 5 12 (x) (by decide) rfl rfl rfl (by omega) dX6_faded_109 rfl ?_
        refine x_iload C 112 dX6_faded_110 rfl rfl ?_
        refine x_iconst (v := (3)) C 113 dX6_faded_112 (by decide) rfl ?_
        refine x_iload_n C 114 dX6_faded_113 rfl rfl ?_
        refine x_imul C 115 dX6_faded_114 rfl ?_
        refine x_iload_n C 116 dX6_faded_115 rfl rfl ?_
        refine x_imul C 117 dX6_faded_116 rfl ?_
        refine x_iload_n C 118 dX6_faded_117 rfl rfl ?_
        refine x_imul C 119 dX6_faded_118 rfl ?_
        refine x_iconst (v := (2)) C 120 dX6_faded_119 (by decide) rfl ?_
        refine x_iload_n C 121 dX6_faded_120 rfl rfl ?_
        refine x_imul C 122 dX6_faded_121 rfl ?_
        refine x_iload_n C 123 dX6_faded_122 rfl rfl ?_
        refine x_imul C 124 dX6_faded_123 rfl ?_
        refine x_iload_n C 125 dX6_faded_124 rfl rfl ?_
        refine x_imul C 126 dX6_faded_125 rfl ?_
        refine x_isub C 127 dX6_faded_126 rfl ?_
        refine x_imul C 128 dX6_faded_127 rfl ?_
        refine x_iload_n C 129 dX6_faded_128 rfl rfl ?_
        refine x_iload_n C 130 dX6_faded_129 rfl rfl ?_
        refine x_imul C 131 dX6_faded_130 rfl ?_
        refine x_iload_n C 132 dX6_faded_131 rfl rfl ?_
        refine x_imul C 133 dX6_faded_132 rfl ?_
        refine x_idiv C 134 dX6_faded_133 (by subst et; obtain ⟨t, h1, h2, h3⟩ := ht zk6; rw [h3]; exact nz3 h1 h2) rfl ?_
        refine x_iadd C 135 dX6_faded_134 rfl ?_
        exact x_zret C0 dX6_faded_135 (Nat.le_of_ble_eq_true rfl) (Nat.le_of_ble_eq_true rfl) ⟨_, rfl, ⟨by subst en et eu; rw [fadF, if_neg zk6, fdV, if_neg zk58, if_neg zk83], rfl⟩⟩
      · refine x_aload_n C 87 dX6_faded_86 rfl rfl ?_
        refine xm_get C 90 fg_X6_faded_27 rfl dX6_faded_87 rfl ?_
        refine x_iload_n C 91 dX6_faded_90 rfl rfl ?_
        refine xm_iald C 92 5 12 (x) (by decide) rfl rfl rfl (by omega) dX6_faded_91 rfl ?_
        refine x_iload C 94 dX6_faded_92 rfl rfl ?_
        refine x_iload_n C 95 dX6_faded_94 rfl rfl ?_
        refine x_iload_n C 96 dX6_faded_95 rfl rfl ?_
        refine x_imul C 97 dX6_faded_96 rfl ?_
        refine x_imul C 98 dX6_faded_97 rfl ?_
        refine x_iload_n C 99 dX6_faded_98 rfl rfl ?_
        refine x_iload_n C 100 dX6_faded_99 rfl rfl ?_
        refine x_imul C 101 dX6_faded_100 rfl ?_
        refine x_idiv C 102 dX6_faded_101 (by subst et; obtain ⟨t, h1, h2, h3⟩ := ht zk6; rw [h3]; exact nz2 h1 h2) rfl ?_
        refine x_iadd C 103 dX6_faded_102 rfl ?_
        exact x_zret C0 dX6_faded_103 (Nat.le_of_ble_eq_true rfl) (Nat.le_of_ble_eq_true rfl) ⟨_, rfl, ⟨by subst en et eu; rw [fadF, if_neg zk6, fdV, if_neg zk58, if_pos zk83], rfl⟩⟩
    · refine x_aload_n C 62 dX6_faded_61 rfl rfl ?_
      refine xm_get C 65 fg_X6_faded_27 rfl dX6_faded_62 rfl ?_
      refine x_iload_n C 66 dX6_faded_65 rfl rfl ?_
      refine xm_iald C 67 5 12 (x) (by decide) rfl rfl rfl (by omega) dX6_faded_66 rfl ?_
      refine x_iload C 69 dX6_faded_67 rfl rfl ?_
      refine x_iload_n C 70 dX6_faded_69 rfl rfl ?_
      refine x_imul C 71 dX6_faded_70 rfl ?_
      refine x_iload_n C 72 dX6_faded_71 rfl rfl ?_
      refine x_idiv C 73 dX6_faded_72 (by subst et; obtain ⟨t, h1, h2, h3⟩ := ht zk6; rw [h3]; exact nz1 h1 h2) rfl ?_
      refine x_iadd C 74 dX6_faded_73 rfl ?_
      exact x_zret C0 dX6_faded_74 (Nat.le_of_ble_eq_true rfl) (Nat.le_of_ble_eq_true rfl) ⟨_, rfl, ⟨by subst en et eu; rw [fadF, if_neg zk6, fdV, if_pos zk58], rfl⟩⟩
  · refine x_aload_n C 10 dX6_faded_9 rfl rfl ?_
    refine xm_get C 13 fg_X6_faded_27 rfl dX6_faded_10 rfl ?_
    refine x_iload_n C 14 dX6_faded_13 rfl rfl ?_
    refine xm_iald C 15 5 12 (x) (by decide) rfl rfl rfl (by omega) dX6_faded_14 rfl ?_
    exact x_zret C0 dX6_faded_15 (Nat.le_of_ble_eq_true rfl) (Nat.le_of_ble_eq_true rfl) ⟨_, rfl, ⟨by rw [fadF, if_pos zk6], rfl⟩⟩
theorem fg_X6_isMember_54 : gF RX6 wsX6_isMember 54 10 16 := ⟨RX6, TX6, 36, "StageConsoleModel", rfl, fun w h => (List.mem_cons_of_mem _ (List.mem_append_left _ (List.mem_append_right _ h))), by decide, (List.mem_cons_of_mem _ (List.mem_append_left _ (List.mem_append_left _ (List.mem_of_getElem? (i := 0) rfl)))), Or.inl rfl⟩
set_option maxRecDepth 100000 in
set_option maxHeartbeats 4000000 in
theorem cM_isMember (hl : l.stackTraces = false) {I : Nat → Nat → Int32} (g x : Nat) (hg : g < 5) : Ct (gm D a E0) l yX6_isMember wsX6_isMember { frames := 4, cells := 0, slots := 0, locals := 100 } [.ref m, .int (nI g), .int (nI x)] (wM m am a I en) (qI fun v w => v = bI (mbB (I 14 g) x) ∧ w = wM m am a I en) noX := by
  refine Ct.of [some (.ref m), some (.int (nI g)), some (.int (nI x))] rfl hl (by decide) (Nat.le_of_ble_eq_true rfl) rfl (fun φ C0 => ?_)
  have C := C0.1
  refine x_aload_n C 1 dX6_isMember_0 rfl rfl ?_
  refine xm_get C 4 fg_X6_isMember_54 rfl dX6_isMember_1 rfl ?_
  refine x_iload_n C 5 dX6_isMember_4 rfl rfl ?_
  refine xm_iald C 6 14 5 (g) (by decide) rfl rfl rfl (by omega) dX6_isMember_5 rfl ?_
  refine x_iload_n C 7 dX6_isMember_6 rfl rfl ?_
  refine x_ishr C 8 dX6_isMember_7 rfl ?_
  refine x_iconst (v := (1)) C 9 dX6_isMember_8 (by decide) rfl ?_
  refine x_iand C 10 dX6_isMember_9 rfl ?_
  refine x_iconst (v := (1)) C 11 dX6_isMember_10 (by decide) rfl ?_
  refine x_icmp_ne C 18 14 dX6_isMember_11 (by decide) rfl (fun zk11 => ?_) (fun zk11 => ?_)
  · refine x_iconst (v := (0)) C 19 dX6_isMember_18 (by decide) rfl ?_
    exact x_nret C0 rfl (rfl) dX6_isMember_19 (Nat.le_of_ble_eq_true rfl) (Nat.le_of_ble_eq_true rfl) ⟨_, rfl, ⟨by simp only [mbB, zk11]; decide, rfl⟩⟩
  · refine x_iconst (v := (1)) C 15 dX6_isMember_14 (by decide) rfl ?_
    refine x_goto C 19 dX6_isMember_15 (by decide) ?_
    exact x_nret C0 rfl (rfl) dX6_isMember_19 (Nat.le_of_ble_eq_true rfl) (Nat.le_of_ble_eq_true rfl) ⟨_, rfl, ⟨by simp only [mbB, zk11]; decide, rfl⟩⟩
theorem fg_X6_base_45 : gF RX6 wsX6_base 45 10 13 := ⟨RX6, TX6, 36, "StageConsoleModel", rfl, fun w h => (List.mem_cons_of_mem _ (List.mem_append_left _ (List.mem_append_left _ (List.mem_append_right _ h)))), by decide, (List.mem_cons_of_mem _ (List.mem_append_left _ (List.mem_append_left _ (List.mem_append_left _ (List.mem_append_left _ (List.mem_of_getElem? (i := 0) rfl)))))), Or.inl rfl⟩
theorem fg_X6_base_165 : gF RX6 wsX6_base 165 10 18 := ⟨RX6, TX6, 36, "StageConsoleModel", rfl, fun w h => (List.mem_cons_of_mem _ (List.mem_append_left _ (List.mem_append_left _ (List.mem_append_right _ h)))), by decide, (List.mem_cons_of_mem _ (List.mem_append_left _ (List.mem_append_left _ (List.mem_append_left _ (List.mem_append_left _ (List.mem_of_getElem? (i := 3) rfl)))))), Or.inl rfl⟩
theorem fg_X6_base_57 : gF RX6 wsX6_base 57 10 17 := ⟨RX6, TX6, 36, "StageConsoleModel", rfl, fun w h => (List.mem_cons_of_mem _ (List.mem_append_left _ (List.mem_append_left _ (List.mem_append_right _ h)))), by decide, (List.mem_cons_of_mem _ (List.mem_append_left _ (List.mem_append_left _ (List.mem_append_left _ (List.mem_append_left _ (List.mem_of_getElem? (i := 2) rfl)))))), Or.inl rfl⟩
theorem fg_X6_base_48 : gF RX6 wsX6_base 48 10 14 := ⟨RX6, TX6, 36, "StageConsoleModel", rfl, fun w h => (List.mem_cons_of_mem _ (List.mem_append_left _ (List.mem_append_left _ (List.mem_append_right _ h)))), by decide, (List.mem_cons_of_mem _ (List.mem_append_left _ (List.mem_append_left _ (List.mem_append_left _ (List.mem_append_left _ (List.mem_of_getElem? (i := 1) rfl)))))), Or.inl rfl⟩
set_option maxRecDepth 100000 in
set_option maxHeartbeats 4000000 in
theorem cM_base (hl : l.stackTraces = false) {I : Nat → Nat → Int32} {ng : Nat} (x : Nat) (hx : x < 12) (ht : ¬ I 10 x = 0 → ∃ t, 1 ≤ t ∧ t ≤ 40 ∧ I 8 x = nI t) (h2 : I 30 2 = nI ng) (hg : ng ≤ 5) (hs : ¬ I 12 x < 0 → ∃ g, g < ng ∧ I 12 x = nI g) : Ct (gm D a E0) l yX6_base wsX6_base { frames := 8, cells := 0, slots := 0, locals := 200 } [.ref m, .int (nI x)] (wM m am a I en) (qI fun v w => v = bsF I ng x ∧ w = wM m am a I en) noX := by
  refine Ct.of [some (.ref m), some (.int (nI x)), none, none] rfl hl (by decide) (Nat.le_of_ble_eq_true rfl) rfl (fun φ C0 => ?_)
  have C := C0.1
  refine x_aload_n C 1 dX6_base_0 rfl rfl ?_
  refine x_iload_n C 2 dX6_base_1 rfl rfl ?_
  refine x_callV0_i C 5 0 0 0 10 1 (cM_faded hl _ (by omega) (by assumption)) rfl gX6_base_X6_faded ⟨rfl, by decide, by decide, rfl⟩ ⟨Nat.le_of_ble_eq_true rfl, Nat.le_of_ble_eq_true rfl⟩ rfl rfl rfl rfl (Nat.le_of_ble_eq_true rfl) ⟨Nat.le_of_ble_eq_true rfl, Nat.le_of_ble_eq_true rfl⟩ dX6_base_2 rfl rfl rfl (fun r1 w1 h1 => ?_)
  obtain ⟨rfl, rfl⟩ := h1
  refine x_nm (fun f ef => ?_)
  refine x_istore_n C 6 dX6_base_5 (by decide) rfl rfl ?_
  refine x_aload_n C 7 dX6_base_6 rfl rfl ?_
  refine xm_get C 10 fg_X6_base_45 rfl dX6_base_7 rfl ?_
  refine x_iload_n C 11 dX6_base_10 rfl rfl ?_
  refine xm_zald C 12 11 12 (x) (by decide) rfl rfl rfl (by omega) dX6_base_11 rfl ?_
  refine x_if_eq C 54 15 dX6_base_12 (by decide) rfl (fun zk12 => ?_) (fun zk12 => ?_)
  · refine x_iconst (v := (0)) C 55 dX6_base_54 (by decide) rfl ?_
    refine x_istore_n C 56 dX6_base_55 (by decide) rfl rfl ?_
    have lp56 : ∀ (n i : Nat) (f : Int32), i + n = ng → bsF I ng x = bsL (I 14) (I 15) x n i f → X φ 56 [some (.ref m), some (.int (nI x)), some (.int f), some (.int (nI i))] [] (wM m am a I en) 0 0 := by
      intro n
      induction n with
      | zero =>
        intro i f hi hr
        refine x_iload_n C 57 dX6_base_56 rfl rfl ?_
        refine x_aload_n C 58 dX6_base_57 rfl rfl ?_
        refine xm_get C 61 fg_X6_base_165 rfl dX6_base_58 rfl ?_
        refine x_top h2 ?_
        refine x_icmp_ge C 94 64 dX6_base_61 (by decide) rfl (fun zk61 => ?_) (fun zk61 => ?_)
        · have zk61 := (nI_leI (a := ng) (b := i) (by omega) (by omega)).mp zk61
          refine x_iload_n C 95 dX6_base_94 rfl rfl ?_
          exact x_zret C0 dX6_base_95 (Nat.le_of_ble_eq_true rfl) (Nat.le_of_ble_eq_true rfl) ⟨_, rfl, ⟨by rw [hr]; rfl, rfl⟩⟩
        · have zk61 := mt (nI_leI (a := ng) (b := i) (by omega) (by omega)).mpr zk61
          exfalso; omega
      | succ n ih =>
        intro i f hi hr
        refine x_iload_n C 57 dX6_base_56 rfl rfl ?_
        refine x_aload_n C 58 dX6_base_57 rfl rfl ?_
        refine xm_get C 61 fg_X6_base_165 rfl dX6_base_58 rfl ?_
        refine x_top h2 ?_
        refine x_icmp_ge C 94 64 dX6_base_61 (by decide) rfl (fun zk61 => ?_) (fun zk61 => ?_)
        · have zk61 := (nI_leI (a := ng) (b := i) (by omega) (by omega)).mp zk61
          exfalso; omega
        · have zk61 := mt (nI_leI (a := ng) (b := i) (by omega) (by omega)).mpr zk61
          refine x_aload_n C 65 dX6_base_64 rfl rfl ?_
          refine x_iload_n C 66 dX6_base_65 rfl rfl ?_
          refine x_iload_n C 67 dX6_base_66 rfl rfl ?_
          refine x_callV0_i C 70 0 0 0 10 2 (cM_isMember hl _ _ (by omega)) rfl gX6_base_X6_isMember ⟨rfl, by decide, by decide, rfl⟩ ⟨Nat.le_of_ble_eq_true rfl, Nat.le_of_ble_eq_true rfl⟩ rfl rfl rfl rfl (Nat.le_of_ble_eq_true rfl) ⟨Nat.le_of_ble_eq_true rfl, Nat.le_of_ble_eq_true rfl⟩ dX6_base_67 rfl rfl rfl (fun r3 w3 h3 => ?_)
          obtain ⟨rfl, rfl⟩ := h3
          refine x_if_eq C 86 73 dX6_base_70 (by decide) rfl (fun zk70 => ?_) (fun zk70 => ?_)
          · have zk70 := bI_eq0.mp zk70
            refine x_iload_n C 87 dX6_base_86 rfl rfl ?_
            refine x_istore_n C 88 dX6_base_87 (by decide) rfl rfl ?_
            refine x_iinc (v := nI (i + 1)) C 91 rfl dX6_base_88 (iinc1 _) (by decide) rfl rfl ?_
            refine x_goto C 56 dX6_base_91 (by decide) ?_
            exact ih (i + 1) _ (by omega) (by rw [hr, bsL]; simp only [zk70, if_true, if_false, Bool.false_eq_true]; try (first | rfl | (subst ef2; rfl)))
          · have zk70 := bI_ne0.mp zk70
            refine x_iload_n C 74 dX6_base_73 rfl rfl ?_
            refine x_aload_n C 75 dX6_base_74 rfl rfl ?_
            refine xm_get C 78 fg_X6_base_57 rfl dX6_base_75 rfl ?_
            refine x_iload_n C 79 dX6_base_78 rfl rfl ?_
            refine xm_iald C 80 15 5 (i) (by decide) rfl rfl rfl (by omega) dX6_base_79 rfl ?_
            refine x_mmax C 83 (List.mem_cons_of_mem _ (List.mem_append_left _ (List.mem_append_left _ (List.mem_append_left _ (List.mem_append_left _ (List.mem_of_getElem? (i := 4) rfl)))))) (List.mem_cons_of_mem _ (List.mem_append_left _ (List.mem_append_left _ (List.mem_append_left _ (List.mem_append_left _ (List.mem_of_getElem? (i := 5) rfl)))))) (List.mem_cons_of_mem _ (List.mem_append_left _ (List.mem_append_left _ (List.mem_append_left _ (List.mem_append_left _ (List.mem_of_getElem? (i := 6) rfl)))))) (List.mem_cons_of_mem _ (List.mem_append_left _ (List.mem_append_left _ (List.mem_append_left _ (List.mem_append_left _ (List.mem_of_getElem? (i := 7) rfl)))))) (Nat.le_of_ble_eq_true rfl) (Nat.le_of_ble_eq_true rfl) (Nat.le_of_ble_eq_true rfl) (Nat.le_of_ble_eq_true rfl) dX6_base_80 rfl ?_
            refine x_goto C 87 dX6_base_83 (by decide) ?_
            refine x_nm (fun f2 ef2 => ?_)
            refine x_istore_n C 88 dX6_base_87 (by decide) rfl rfl ?_
            refine x_iinc (v := nI (i + 1)) C 91 rfl dX6_base_88 (iinc1 _) (by decide) rfl rfl ?_
            refine x_goto C 56 dX6_base_91 (by decide) ?_
            exact ih (i + 1) _ (by omega) (by rw [hr, bsL]; simp only [zk70, if_true, if_false, Bool.false_eq_true]; try (first | rfl | (subst ef2; rfl)))
    exact lp56 ng 0 _ (by omega) (by rw [bsF, if_pos zk12]; try (first | rfl | (subst ef; rfl)))
  · refine x_aload_n C 16 dX6_base_15 rfl rfl ?_
    refine xm_get C 19 fg_X6_base_48 rfl dX6_base_16 rfl ?_
    refine x_iload_n C 20 dX6_base_19 rfl rfl ?_
    refine xm_iald C 21 12 12 (x) (by decide) rfl rfl rfl (by omega) dX6_base_20 rfl ?_
    refine x_if_lt C 52 24 dX6_base_21 (by decide) rfl (fun zk21 => ?_) (fun zk21 => ?_)
    · refine x_iload_n C 53 dX6_base_52 rfl rfl ?_
      exact x_zret C0 dX6_base_53 (Nat.le_of_ble_eq_true rfl) (Nat.le_of_ble_eq_true rfl) ⟨_, rfl, ⟨by first | (rw [bsF, if_neg zk12, if_pos zk21]; done) | (rw [bsF, if_neg zk12, if_pos zk21]; exact ef) | (rw [bsF, if_neg zk12, if_neg zk21, eg2, if_pos zk35]; done) | (rw [bsF, if_neg zk12, if_neg zk21, eg2, if_neg (by rw [zk35]; decide)]; first | done | exact ef), rfl⟩⟩
    · obtain ⟨g, hg1, eg⟩ := hs zk21
      have eg2 : (I 12 x).toNatClampNeg = g := by rw [eg]; exact nI_clamp (by omega)
      refine x_aload_n C 25 dX6_base_24 rfl rfl ?_
      refine x_aload_n C 26 dX6_base_25 rfl rfl ?_
      refine xm_get C 29 fg_X6_base_48 rfl dX6_base_26 rfl ?_
      refine x_iload_n C 30 dX6_base_29 rfl rfl ?_
      refine xm_iald C 31 12 12 (x) (by decide) rfl rfl rfl (by omega) dX6_base_30 rfl ?_
      refine x_top eg ?_
      refine x_iload_n C 32 dX6_base_31 rfl rfl ?_
      refine x_callV0_i C 35 0 0 0 10 2 (cM_isMember hl _ _ (by omega)) rfl gX6_base_X6_isMember ⟨rfl, by decide, by decide, rfl⟩ ⟨Nat.le_of_ble_eq_true rfl, Nat.le_of_ble_eq_true rfl⟩ rfl rfl rfl rfl (Nat.le_of_ble_eq_true rfl) ⟨Nat.le_of_ble_eq_true rfl, Nat.le_of_ble_eq_true rfl⟩ dX6_base_32 rfl rfl rfl (fun r5 w5 h5 => ?_)
      obtain ⟨rfl, rfl⟩ := h5
      refine x_if_eq C 52 38 dX6_base_35 (by decide) rfl (fun zk35 => ?_) (fun zk35 => ?_)
      · have zk35 := bI_eq0.mp zk35
        refine x_iload_n C 53 dX6_base_52 rfl rfl ?_
        exact x_zret C0 dX6_base_53 (Nat.le_of_ble_eq_true rfl) (Nat.le_of_ble_eq_true rfl) ⟨_, rfl, ⟨by first | (rw [bsF, if_neg zk12, if_pos zk21]; done) | (rw [bsF, if_neg zk12, if_pos zk21]; exact ef) | (rw [bsF, if_neg zk12, if_neg zk21, eg2, if_pos zk35]; done) | (rw [bsF, if_neg zk12, if_neg zk21, eg2, if_neg (by rw [zk35]; decide)]; first | done | exact ef), rfl⟩⟩
      · have zk35 := bI_ne0.mp zk35
        refine x_aload_n C 39 dX6_base_38 rfl rfl ?_
        refine xm_get C 42 fg_X6_base_57 rfl dX6_base_39 rfl ?_
        refine x_aload_n C 43 dX6_base_42 rfl rfl ?_
        refine xm_get C 46 fg_X6_base_48 rfl dX6_base_43 rfl ?_
        refine x_iload_n C 47 dX6_base_46 rfl rfl ?_
        refine xm_iald C 48 12 12 (x) (by decide) rfl rfl rfl (by omega) dX6_base_47 rfl ?_
        refine x_top eg ?_
        refine xm_iald C 49 15 5 (g) (by decide) rfl rfl rfl (by omega) dX6_base_48 rfl ?_
        refine x_goto C 53 dX6_base_49 (by decide) ?_
        exact x_zret C0 dX6_base_53 (Nat.le_of_ble_eq_true rfl) (Nat.le_of_ble_eq_true rfl) ⟨_, rfl, ⟨by first | (rw [bsF, if_neg zk12, if_pos zk21]; done) | (rw [bsF, if_neg zk12, if_pos zk21]; exact ef) | (rw [bsF, if_neg zk12, if_neg zk21, eg2, if_pos zk35]; done) | (rw [bsF, if_neg zk12, if_neg zk21, eg2, if_neg (by rw [zk35]; decide)]; first | done | exact ef), rfl⟩⟩
end MM
