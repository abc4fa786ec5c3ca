section CC
variable {l : Launch} {Γ : Gm} {D : va_G} {a : Nat → ClassId} {E0 : Nat} {n cap : Nat → Nat} {A : Nat → Nat → Nat} {g : Nat → Nat} {en : Int64} {S : Nat → Nat → Nat → Int32}
set_option maxRecDepth 100000 in
set_option maxHeartbeats 4000000 in
theorem cC_isWithin (hl : l.stackTraces = false) {ws : va_W} {x y z : Int32} : Ct Γ l yX5_isWithin wsX5_isWithin { frames := 4, cells := 0, slots := 0, locals := 100 } [.int x, .int y, .int z] (ws) (qI fun v w => v = bI (inB x.toInt64 y.toInt64 z.toInt64) ∧ w = ws) noX := by
  refine Ct.of [some (.int x), some (.int y), some (.int z)] rfl hl (by decide) (Nat.le_of_ble_eq_true rfl) rfl (fun φ C0 => ?_)
  have C := C0.1
  refine x_iload_n C 1 dX5_isWithin_0 rfl rfl ?_
  refine x_iload_n C 2 dX5_isWithin_1 rfl rfl ?_
  refine x_icmp_lt C 14 5 dX5_isWithin_2 (by decide) rfl (fun zk2 => ?_) (fun zk2 => ?_)
  · refine x_iconst (v := (0)) C 15 dX5_isWithin_14 (by decide) rfl ?_
    exact x_nret C0 rfl (rfl) dX5_isWithin_15 (Nat.le_of_ble_eq_true rfl) (Nat.le_of_ble_eq_true rfl) ⟨_, rfl, ⟨by first | (rw [inB_lt zk2]; rfl) | (rw [inB_gt zk7]; rfl) | (rw [inB_ge (pw_ge zk2) (pw_ge zk7)]; rfl), rfl⟩⟩
  · refine x_iload_n C 6 dX5_isWithin_5 rfl rfl ?_
    refine x_iload_n C 7 dX5_isWithin_6 rfl rfl ?_
    refine x_icmp_gt C 14 10 dX5_isWithin_7 (by decide) rfl (fun zk7 => ?_) (fun zk7 => ?_)
    · refine x_iconst (v := (0)) C 15 dX5_isWithin_14 (by decide) rfl ?_
      exact x_nret C0 rfl (rfl) dX5_isWithin_15 (Nat.le_of_ble_eq_true rfl) (Nat.le_of_ble_eq_true rfl) ⟨_, rfl, ⟨by first | (rw [inB_lt zk2]; rfl) | (rw [inB_gt zk7]; rfl) | (rw [inB_ge (pw_ge zk2) (pw_ge zk7)]; rfl), rfl⟩⟩
    · refine x_iconst (v := (1)) C 11 dX5_isWithin_10 (by decide) rfl ?_
      refine x_goto C 15 dX5_isWithin_11 (by decide) ?_
      exact x_nret C0 rfl (rfl) dX5_isWithin_15 (Nat.le_of_ble_eq_true rfl) (Nat.le_of_ble_eq_true rfl) ⟨_, rfl, ⟨by first | (rw [inB_lt zk2]; rfl) | (rw [inB_gt zk7]; rfl) | (rw [inB_ge (pw_ge zk2) (pw_ge zk7)]; rfl), rfl⟩⟩
set_option maxRecDepth 100000 in
set_option maxHeartbeats 4000000 in
theorem cC_isChannel (hl : l.stackTraces = false) {ws : va_W} {x : Int32} : Ct Γ l yX5_isChannel wsX5_isChannel { frames := 8, cells := 0, slots := 0, locals := 200 } [.int x] (ws) (qI fun v w => v = bI (chB x) ∧ w = ws) noX := by
  refine Ct.of [some (.int x)] rfl hl (by decide) (Nat.le_of_ble_eq_true rfl) rfl (fun φ C0 => ?_)
  have C := C0.1
  refine x_iload_n C 1 dX5_isChannel_0 rfl rfl ?_
  refine x_iconst (v := (0)) C 2 dX5_isChannel_1 (by decide) rfl ?_
  refine x_bipush (v := (11)) C 4 dX5_isChannel_2 (by decide) rfl ?_
  refine x_callS0_i C 7 0 0 3 (cC_isWithin hl) rfl gX5_isChannel_X5_isWithin ⟨by decide, by decide, rfl⟩ ⟨Nat.le_of_ble_eq_true rfl, Nat.le_of_ble_eq_true rfl⟩ rfl rfl (Nat.le_of_ble_eq_true rfl) ⟨Nat.le_of_ble_eq_true rfl, Nat.le_of_ble_eq_true rfl⟩ dX5_isChannel_4 rfl rfl rfl (fun r1 w1 h1 => ?_)
  obtain ⟨rfl, rfl⟩ := h1
  refine x_top (show _ = bI (chB x) from rfl) ?_
  exact x_nret C0 rfl (bI_nar _) dX5_isChannel_7 (Nat.le_of_ble_eq_true rfl) (Nat.le_of_ble_eq_true rfl) ⟨_, rfl, ⟨rfl, rfl⟩⟩
set_option maxRecDepth 100000 in
set_option maxHeartbeats 4000000 in
theorem cC_isLevel (hl : l.stackTraces = false) {ws : va_W} {x : Int32} : Ct Γ l yX5_isLevel wsX5_isLevel { frames := 8, cells := 0, slots := 0, locals := 200 } [.int x] (ws) (qI fun v w => v = bI (lvB x) ∧ w = ws) noX := by
  refine Ct.of [some (.int x)] rfl hl (by decide) (Nat.le_of_ble_eq_true rfl) rfl (fun φ C0 => ?_)
  have C := C0.1
  refine x_iload_n C 1 dX5_isLevel_0 rfl rfl ?_
  refine x_iconst (v := (0)) C 2 dX5_isLevel_1 (by decide) rfl ?_
  refine x_sipush (v := (255)) C 5 dX5_isLevel_2 (by decide) rfl ?_
  refine x_callS0_i C 8 0 0 3 (cC_isWithin hl) rfl gX5_isLevel_X5_isWithin ⟨by decide, by decide, rfl⟩ ⟨Nat.le_of_ble_eq_true rfl, Nat.le_of_ble_eq_true rfl⟩ rfl rfl (Nat.le_of_ble_eq_true rfl) ⟨Nat.le_of_ble_eq_true rfl, Nat.le_of_ble_eq_true rfl⟩ dX5_isLevel_5 rfl rfl rfl (fun r1 w1 h1 => ?_)
  obtain ⟨rfl, rfl⟩ := h1
  refine x_top (show _ = bI (lvB x) from rfl) ?_
  exact x_nret C0 rfl (bI_nar _) dX5_isLevel_8 (Nat.le_of_ble_eq_true rfl) (Nat.le_of_ble_eq_true rfl) ⟨_, rfl, ⟨rfl, rfl⟩⟩
set_option maxRecDepth 100000 in
set_option maxHeartbeats 4000000 in
theorem cC_isPassing (hl : l.stackTraces = false) {ws : va_W} {x : Int32} : Ct Γ l yX5_isPassing wsX5_isPassing { frames := 8, cells := 0, slots := 0, locals := 200 } [.int x] (ws) (qI fun v w => v = bI (tkB x) ∧ w = ws) noX := by
  refine Ct.of [some (.int x)] rfl hl (by decide) (Nat.le_of_ble_eq_true rfl) rfl (fun φ C0 => ?_)
  have C := C0.1
  refine x_iload_n C 1 dX5_isPassing_0 rfl rfl ?_
  refine x_iconst (v := (1)) C 2 dX5_isPassing_1 (by decide) rfl ?_
  refine x_bipush (v := (100)) C 4 dX5_isPassing_2 (by decide) rfl ?_
  refine x_callS0_i C 7 0 0 3 (cC_isWithin hl) rfl gX5_isPassing_X5_isWithin ⟨by decide, by decide, rfl⟩ ⟨Nat.le_of_ble_eq_true rfl, Nat.le_of_ble_eq_true rfl⟩ rfl rfl (Nat.le_of_ble_eq_true rfl) ⟨Nat.le_of_ble_eq_true rfl, Nat.le_of_ble_eq_true rfl⟩ dX5_isPassing_4 rfl rfl rfl (fun r1 w1 h1 => ?_)
  obtain ⟨rfl, rfl⟩ := h1
  refine x_top (show _ = bI (tkB x) from rfl) ?_
  exact x_nret C0 rfl (bI_nar _) dX5_isPassing_7 (Nat.le_of_ble_eq_true rfl) (Nat.le_of_ble_eq_true rfl) ⟨_, rfl, ⟨rfl, rfl⟩⟩
set_option maxRecDepth 100000 in
set_option maxHeartbeats 4000000 in
theorem cC_isCurve (hl : l.stackTraces = false) {ws : va_W} {x : Int32} : Ct Γ l yX5_isCurve wsX5_isCurve { frames := 4, cells := 0, slots := 0, locals := 100 } [.int x] (ws) (qI fun v w => v = bI (cvB x) ∧ w = ws) noX := by
  refine Ct.of [some (.int x)] rfl hl (by decide) (Nat.le_of_ble_eq_true rfl) rfl (fun φ C0 => ?_)
  have C := C0.1
  refine x_iload_n C 1 dX5_isCurve_0 rfl rfl ?_
  refine x_bipush (v := (108)) C 3 dX5_isCurve_1 (by decide) rfl ?_
  refine x_icmp_eq C 18 6 dX5_isCurve_3 (by decide) rfl (fun zk3 => ?_) (fun zk3 => ?_)
  · refine x_iconst (v := (1)) C 19 dX5_isCurve_18 (by decide) rfl ?_
    refine x_goto C 23 dX5_isCurve_19 (by decide) ?_
    exact x_nret C0 rfl (rfl) dX5_isCurve_23 (Nat.le_of_ble_eq_true rfl) (Nat.le_of_ble_eq_true rfl) ⟨_, rfl, ⟨by first | (simp [cvB, bI, zk3, zk9, zk15]; done) | (simp [cvB, bI, zk3, zk9]; done) | (simp [cvB, bI, zk3]; done), rfl⟩⟩
  · refine x_iload_n C 7 dX5_isCurve_6 rfl rfl ?_
    refine x_bipush (v := (113)) C 9 dX5_isCurve_7 (by decide) rfl ?_
    refine x_icmp_eq C 18 12 dX5_isCurve_9 (by decide) rfl (fun zk9 => ?_) (fun zk9 => ?_)
    · refine x_iconst (v := (1)) C 19 dX5_isCurve_18 (by decide) rfl ?_
      refine x_goto C 23 dX5_isCurve_19 (by decide) ?_
      exact x_nret C0 rfl (rfl) dX5_isCurve_23 (Nat.le_of_ble_eq_true rfl) (Nat.le_of_ble_eq_true rfl) ⟨_, rfl, ⟨by first | (simp [cvB, bI, zk3, zk9, zk15]; done) | (simp [cvB, bI, zk3, zk9]; done) | (simp [cvB, bI, zk3]; done), rfl⟩⟩
    · refine x_iload_n C 13 dX5_isCurve_12 rfl rfl ?_
      refine x_bipush (v := (115)) C 15 dX5_isCurve_13 (by decide) rfl ?_
      refine x_icmp_ne C 22 18 dX5_isCurve_15 (by decide) rfl (fun zk15 => ?_) (fun zk15 => ?_)
      · refine x_iconst (v := (0)) C 23 dX5_isCurve_22 (by decide) rfl ?_
        exact x_nret C0 rfl (rfl) dX5_isCurve_23 (Nat.le_of_ble_eq_true rfl) (Nat.le_of_ble_eq_true rfl) ⟨_, rfl, ⟨by first | (simp [cvB, bI, zk3, zk9, zk15]; done) | (simp [cvB, bI, zk3, zk9]; done) | (simp [cvB, bI, zk3]; done), rfl⟩⟩
      · refine x_iconst (v := (1)) C 19 dX5_isCurve_18 (by decide) rfl ?_
        refine x_goto C 23 dX5_isCurve_19 (by decide) ?_
        exact x_nret C0 rfl (rfl) dX5_isCurve_23 (Nat.le_of_ble_eq_true rfl) (Nat.le_of_ble_eq_true rfl) ⟨_, rfl, ⟨by first | (simp [cvB, bI, zk3, zk9, zk15]; done) | (simp [cvB, bI, zk3, zk9]; done) | (simp [cvB, bI, zk3]; done), rfl⟩⟩
set_option maxRecDepth 100000 in
set_option maxHeartbeats 4000000 in
theorem cC_isShape (hl : l.stackTraces = false) {ws : va_W} {x : Int32} : Ct Γ l yX5_isShape wsX5_isShape { frames := 4, cells := 0, slots := 0, locals := 100 } [.int x] (ws) (qI fun v w => v = bI (shB x) ∧ w = ws) noX := by
  refine Ct.of [some (.int x)] rfl hl (by decide) (Nat.le_of_ble_eq_true rfl) rfl (fun φ C0 => ?_)
  have C := C0.1
  refine x_iload_n C 1 dX5_isShape_0 rfl rfl ?_
  refine x_bipush (v := (119)) C 3 dX5_isShape_1 (by decide) rfl ?_
  refine x_icmp_eq C 18 6 dX5_isShape_3 (by decide) rfl (fun zk3 => ?_) (fun zk3 => ?_)
  · refine x_iconst (v := (1)) C 19 dX5_isShape_18 (by decide) rfl ?_
    refine x_goto C 23 dX5_isShape_19 (by decide) ?_
    exact x_nret C0 rfl (rfl) dX5_isShape_23 (Nat.le_of_ble_eq_true rfl) (Nat.le_of_ble_eq_true rfl) ⟨_, rfl, ⟨by first | (simp [shB, bI, zk3, zk9, zk15]; done) | (simp [shB, bI, zk3, zk9]; done) | (simp [shB, bI, zk3]; done), rfl⟩⟩
  · refine x_iload_n C 7 dX5_isShape_6 rfl rfl ?_
    refine x_bipush (v := (116)) C 9 dX5_isShape_7 (by decide) rfl ?_
    refine x_icmp_eq C 18 12 dX5_isShape_9 (by decide) rfl (fun zk9 => ?_) (fun zk9 => ?_)
    · refine x_iconst (v := (1)) C 19 dX5_isShape_18 (by decide) rfl ?_
      refine x_goto C 23 dX5_isShape_19 (by decide) ?_
      exact x_nret C0 rfl (rfl) dX5_isShape_23 (Nat.le_of_ble_eq_true rfl) (Nat.le_of_ble_eq_true rfl) ⟨_, rfl, ⟨by first | (simp [shB, bI, zk3, zk9, zk15]; done) | (simp [shB, bI, zk3, zk9]; done) | (simp [shB, bI, zk3]; done), rfl⟩⟩
    · refine x_iload_n C 13 dX5_isShape_12 rfl rfl ?_
      refine x_bipush (v := (113)) C 15 dX5_isShape_13 (by decide) rfl ?_
      refine x_icmp_ne C 22 18 dX5_isShape_15 (by decide) rfl (fun zk15 => ?_) (fun zk15 => ?_)
      · refine x_iconst (v := (0)) C 23 dX5_isShape_22 (by decide) rfl ?_
        exact x_nret C0 rfl (rfl) dX5_isShape_23 (Nat.le_of_ble_eq_true rfl) (Nat.le_of_ble_eq_true rfl) ⟨_, rfl, ⟨by first | (simp [shB, bI, zk3, zk9, zk15]; done) | (simp [shB, bI, zk3, zk9]; done) | (simp [shB, bI, zk3]; done), rfl⟩⟩
      · refine x_iconst (v := (1)) C 19 dX5_isShape_18 (by decide) rfl ?_
        refine x_goto C 23 dX5_isShape_19 (by decide) ?_
        exact x_nret C0 rfl (rfl) dX5_isShape_23 (Nat.le_of_ble_eq_true rfl) (Nat.le_of_ble_eq_true rfl) ⟨_, rfl, ⟨by first | (simp [shB, bI, zk3, zk9, zk15]; done) | (simp [shB, bI, zk3, zk9]; done) | (simp [shB, bI, zk3]; done), rfl⟩⟩
set_option maxRecDepth 100000 in
set_option maxHeartbeats 4000000 in
theorem cC_isStepCall (hl : l.stackTraces = false) {ws : va_W} {x : Int32} : Ct Γ l yX5_isStepCall wsX5_isStepCall { frames := 4, cells := 0, slots := 0, locals := 100 } [.int x] (ws) (qI fun v w => v = bI (caB x) ∧ w = ws) noX := by
  refine Ct.of [some (.int x)] rfl hl (by decide) (Nat.le_of_ble_eq_true rfl) rfl (fun φ C0 => ?_)
  have C := C0.1
  refine x_iload_n C 1 dX5_isStepCall_0 rfl rfl ?_
  refine x_bipush (v := (103)) C 3 dX5_isStepCall_1 (by decide) rfl ?_
  refine x_icmp_eq C 42 6 dX5_isStepCall_3 (by decide) rfl (fun zk3 => ?_) (fun zk3 => ?_)
  · refine x_iconst (v := (1)) C 43 dX5_isStepCall_42 (by decide) rfl ?_
    refine x_goto C 47 dX5_isStepCall_43 (by decide) ?_
    exact x_nret C0 rfl (rfl) dX5_isStepCall_47 (Nat.le_of_ble_eq_true rfl) (Nat.le_of_ble_eq_true rfl) ⟨_, rfl, ⟨by first | (simp [caB, bI, zk3, zk9, zk15, zk21, zk27, zk33, zk39]; done) | (simp [caB, bI, zk3, zk9, zk15, zk21, zk27, zk33]; done) | (simp [caB, bI, zk3, zk9, zk15, zk21, zk27]; done) | (simp [caB, bI, zk3, zk9, zk15, zk21]; done) | (simp [caB, bI, zk3, zk9, zk15]; done) | (simp [caB, bI, zk3, zk9]; done) | (simp [caB, bI, zk3]; done), rfl⟩⟩
  · refine x_iload_n C 7 dX5_isStepCall_6 rfl rfl ?_
    refine x_bipush (v := (98)) C 9 dX5_isStepCall_7 (by decide) rfl ?_
    refine x_icmp_eq C 42 12 dX5_isStepCall_9 (by decide) rfl (fun zk9 => ?_) (fun zk9 => ?_)
    · refine x_iconst (v := (1)) C 43 dX5_isStepCall_42 (by decide) rfl ?_
      refine x_goto C 47 dX5_isStepCall_43 (by decide) ?_
      exact x_nret C0 rfl (rfl) dX5_isStepCall_47 (Nat.le_of_ble_eq_true rfl) (Nat.le_of_ble_eq_true rfl) ⟨_, rfl, ⟨by first | (simp [caB, bI, zk3, zk9, zk15, zk21, zk27, zk33, zk39]; done) | (simp [caB, bI, zk3, zk9, zk15, zk21, zk27, zk33]; done) | (simp [caB, bI, zk3, zk9, zk15, zk21, zk27]; done) | (simp [caB, bI, zk3, zk9, zk15, zk21]; done) | (simp [caB, bI, zk3, zk9, zk15]; done) | (simp [caB, bI, zk3, zk9]; done) | (simp [caB, bI, zk3]; done), rfl⟩⟩
    · refine x_iload_n C 13 dX5_isStepCall_12 rfl rfl ?_
      refine x_bipush (v := (116)) C 15 dX5_isStepCall_13 (by decide) rfl ?_
      refine x_icmp_eq C 42 18 dX5_isStepCall_15 (by decide) rfl (fun zk15 => ?_) (fun zk15 => ?_)
      · refine x_iconst (v := (1)) C 43 dX5_isStepCall_42 (by decide) rfl ?_
        refine x_goto C 47 dX5_isStepCall_43 (by decide) ?_
        exact x_nret C0 rfl (rfl) dX5_isStepCall_47 (Nat.le_of_ble_eq_true rfl) (Nat.le_of_ble_eq_true rfl) ⟨_, rfl, ⟨by first | (simp [caB, bI, zk3, zk9, zk15, zk21, zk27, zk33, zk39]; done) | (simp [caB, bI, zk3, zk9, zk15, zk21, zk27, zk33]; done) | (simp [caB, bI, zk3, zk9, zk15, zk21, zk27]; done) | (simp [caB, bI, zk3, zk9, zk15, zk21]; done) | (simp [caB, bI, zk3, zk9, zk15]; done) | (simp [caB, bI, zk3, zk9]; done) | (simp [caB, bI, zk3]; done), rfl⟩⟩
      · refine x_iload_n C 19 dX5_isStepCall_18 rfl rfl ?_
        refine x_bipush (v := (102)) C 21 dX5_isStepCall_19 (by decide) rfl ?_
        refine x_icmp_eq C 42 24 dX5_isStepCall_21 (by decide) rfl (fun zk21 => ?_) (fun zk21 => ?_)
        · refine x_iconst (v := (1)) C 43 dX5_isStepCall_42 (by decide) rfl ?_
          refine x_goto C 47 dX5_isStepCall_43 (by decide) ?_
          exact x_nret C0 rfl (rfl) dX5_isStepCall_47 (Nat.le_of_ble_eq_true rfl) (Nat.le_of_ble_eq_true rfl) ⟨_, rfl, ⟨by first | (simp [caB, bI, zk3, zk9, zk15, zk21, zk27, zk33, zk39]; done) | (simp [caB, bI, zk3, zk9, zk15, zk21, zk27, zk33]; done) | (simp [caB, bI, zk3, zk9, zk15, zk21, zk27]; done) | (simp [caB, bI, zk3, zk9, zk15, zk21]; done) | (simp [caB, bI, zk3, zk9, zk15]; done) | (simp [caB, bI, zk3, zk9]; done) | (simp [caB, bI, zk3]; done), rfl⟩⟩
        · refine x_iload_n C 25 dX5_isStepCall_24 rfl rfl ?_
          refine x_bipush (v := (109)) C 27 dX5_isStepCall_25 (by decide) rfl ?_
          refine x_icmp_eq C 42 30 dX5_isStepCall_27 (by decide) rfl (fun zk27 => ?_) (fun zk27 => ?_)
          · refine x_iconst (v := (1)) C 43 dX5_isStepCall_42 (by decide) rfl ?_
            refine x_goto C 47 dX5_isStepCall_43 (by decide) ?_
            exact x_nret C0 rfl (rfl) dX5_isStepCall_47 (Nat.le_of_ble_eq_true rfl) (Nat.le_of_ble_eq_true rfl) ⟨_, rfl, ⟨by first | (simp [caB, bI, zk3, zk9, zk15, zk21, zk27, zk33, zk39]; done) | (simp [caB, bI, zk3, zk9, zk15, zk21, zk27, zk33]; done) | (simp [caB, bI, zk3, zk9, zk15, zk21, zk27]; done) | (simp [caB, bI, zk3, zk9, zk15, zk21]; done) | (simp [caB, bI, zk3, zk9, zk15]; done) | (simp [caB, bI, zk3, zk9]; done) | (simp [caB, bI, zk3]; done), rfl⟩⟩
          · refine x_iload_n C 31 dX5_isStepCall_30 rfl rfl ?_
            refine x_bipush (v := (112)) C 33 dX5_isStepCall_31 (by decide) rfl ?_
            refine x_icmp_eq C 42 36 dX5_isStepCall_33 (by decide) rfl (fun zk33 => ?_) (fun zk33 => ?_)
            · refine x_iconst (v := (1)) C 43 dX5_isStepCall_42 (by decide) rfl ?_
              refine x_goto C 47 dX5_isStepCall_43 (by decide) ?_
              exact x_nret C0 rfl (rfl) dX5_isStepCall_47 (Nat.le_of_ble_eq_true rfl) (Nat.le_of_ble_eq_true rfl) ⟨_, rfl, ⟨by first | (simp [caB, bI, zk3, zk9, zk15, zk21, zk27, zk33, zk39]; done) | (simp [caB, bI, zk3, zk9, zk15, zk21, zk27, zk33]; done) | (simp [caB, bI, zk3, zk9, zk15, zk21, zk27]; done) | (simp [caB, bI, zk3, zk9, zk15, zk21]; done) | (simp [caB, bI, zk3, zk9, zk15]; done) | (simp [caB, bI, zk3, zk9]; done) | (simp [caB, bI, zk3]; done), rfl⟩⟩
            · refine x_iload_n C 37 dX5_isStepCall_36 rfl rfl ?_
              refine x_bipush (v := (119)) C 39 dX5_isStepCall_37 (by decide) rfl ?_
              refine x_icmp_ne C 46 42 dX5_isStepCall_39 (by decide) rfl (fun zk39 => ?_) (fun zk39 => ?_)
              · refine x_iconst (v := (0)) C 47 dX5_isStepCall_46 (by decide) rfl ?_
                exact x_nret C0 rfl (rfl) dX5_isStepCall_47 (Nat.le_of_ble_eq_true rfl) (Nat.le_of_ble_eq_true rfl) ⟨_, rfl, ⟨by first | (simp [caB, bI, zk3, zk9, zk15, zk21, zk27, zk33, zk39]; done) | (simp [caB, bI, zk3, zk9, zk15, zk21, zk27, zk33]; done) | (simp [caB, bI, zk3, zk9, zk15, zk21, zk27]; done) | (simp [caB, bI, zk3, zk9, zk15, zk21]; done) | (simp [caB, bI, zk3, zk9, zk15]; done) | (simp [caB, bI, zk3, zk9]; done) | (simp [caB, bI, zk3]; done), rfl⟩⟩
              · refine x_iconst (v := (1)) C 43 dX5_isStepCall_42 (by decide) rfl ?_
                refine x_goto C 47 dX5_isStepCall_43 (by decide) ?_
                exact x_nret C0 rfl (rfl) dX5_isStepCall_47 (Nat.le_of_ble_eq_true rfl) (Nat.le_of_ble_eq_true rfl) ⟨_, rfl, ⟨by first | (simp [caB, bI, zk3, zk9, zk15, zk21, zk27, zk33, zk39]; done) | (simp [caB, bI, zk3, zk9, zk15, zk21, zk27, zk33]; done) | (simp [caB, bI, zk3, zk9, zk15, zk21, zk27]; done) | (simp [caB, bI, zk3, zk9, zk15, zk21]; done) | (simp [caB, bI, zk3, zk9, zk15]; done) | (simp [caB, bI, zk3, zk9]; done) | (simp [caB, bI, zk3]; done), rfl⟩⟩
theorem fg_X5_isGroup_29 : gF RX5 wsX5_isGroup 29 9 4 := ⟨RX5, TX5, 11, "StageConsole", rfl, fun w h => (List.mem_cons_of_mem _ (List.mem_append_left _ (List.mem_append_right _ h))), by decide, (List.mem_cons_of_mem _ (List.mem_append_left _ (List.mem_append_left _ (List.mem_of_getElem? (i := 0) rfl)))), Or.inl rfl⟩
set_option maxRecDepth 100000 in
set_option maxHeartbeats 4000000 in
theorem cC_isGroup (hl : l.stackTraces = false) {x : Int32}  : Ct (gm D a E0) l yX5_isGroup wsX5_isGroup { frames := 8, cells := 0, slots := 0, locals := 200 } [.ref (A 0 0), .int x] (wC a E0 n cap A g en S) (qI fun v w => v = bI (upB (n 1) x) ∧ w = wC a E0 n cap A g en S) noX := by
  refine Ct.of [some (.ref (A 0 0)), some (.int x)] rfl hl (by decide) (Nat.le_of_ble_eq_true rfl) rfl (fun φ C0 => ?_)
  have C := C0.1
  refine x_iload_n C 1 dX5_isGroup_0 rfl rfl ?_
  refine x_iconst (v := (0)) C 2 dX5_isGroup_1 (by decide) rfl ?_
  refine x_aload_n C 3 dX5_isGroup_2 rfl rfl ?_
  refine xc_get C 6 0 0 (by decide) (show 0 < 1 by decide) rfl fg_X5_isGroup_29 rfl dX5_isGroup_3 rfl ?_
  refine xc_callV_i C 9 0 0 3 1 3 0 (cC_size hl (j := 1) (by decide)) rfl gX5_isGroup_Jx4a65c_size_8abf5 ⟨rfl, by decide, by decide, rfl⟩ ⟨Nat.le_of_ble_eq_true rfl, Nat.le_of_ble_eq_true rfl⟩ rfl (by decide) (show 1 < 4 by decide) rfl rfl rfl (Nat.le_of_ble_eq_true rfl) ⟨Nat.le_of_ble_eq_true rfl, Nat.le_of_ble_eq_true rfl⟩ dX5_isGroup_6 rfl rfl rfl (fun r1 w1 h1 => ?_)
  obtain ⟨rfl, rfl⟩ := h1
  refine x_iconst (v := (1)) C 10 dX5_isGroup_9 (by decide) rfl ?_
  refine x_isub C 11 dX5_isGroup_10 rfl ?_
  refine x_callS0_i C 14 0 0 3 (cC_isWithin hl) rfl gX5_isGroup_X5_isWithin ⟨by decide, by decide, rfl⟩ ⟨Nat.le_of_ble_eq_true rfl, Nat.le_of_ble_eq_true rfl⟩ rfl rfl (Nat.le_of_ble_eq_true rfl) ⟨Nat.le_of_ble_eq_true rfl, Nat.le_of_ble_eq_true rfl⟩ dX5_isGroup_11 rfl rfl rfl (fun r2 w2 h2 => ?_)
  obtain ⟨rfl, rfl⟩ := h2
  refine x_top (show _ = bI (upB (n 1) x) from rfl) ?_
  exact x_nret C0 rfl (bI_nar _) dX5_isGroup_14 (Nat.le_of_ble_eq_true rfl) (Nat.le_of_ble_eq_true rfl) ⟨_, rfl, ⟨rfl, rfl⟩⟩
set_option maxRecDepth 100000 in
set_option maxHeartbeats 4000000 in
theorem cC_requireChannel_0 (hl : l.stackTraces = false) {ws : va_W} {x : Int32} (hv : chB x = true) : Ct Γ l yX5_requireChannel wsX5_requireChannel { frames := 12, cells := 0, slots := 0, locals := 300 } [.int x] (ws) (qV fun w => w = ws) noX := by
  refine Ct.of [some (.int x)] rfl hl (by decide) (Nat.le_of_ble_eq_true rfl) rfl (fun φ C0 => ?_)
  have C := C0.1
  refine x_iload_n C 1 dX5_requireChannel_0 rfl rfl ?_
  refine x_callS0_i C 4 0 0 1 (cC_isChannel hl) rfl gX5_requireChannel_X5_isChannel ⟨by decide, by decide, rfl⟩ ⟨Nat.le_of_ble_eq_true rfl, Nat.le_of_ble_eq_true rfl⟩ rfl rfl (Nat.le_of_ble_eq_true rfl) ⟨Nat.le_of_ble_eq_true rfl, Nat.le_of_ble_eq_true rfl⟩ dX5_requireChannel_1 rfl rfl rfl (fun r1 w1 h1 => ?_)
  obtain ⟨rfl, rfl⟩ := h1
  refine x_top (show _ = (1 : Int32) from (congrArg bI (show chB x = true from hv)).trans rfl) ?_
  refine x_if_ne C 18 7 dX5_requireChannel_4 (by decide) rfl (fun zk4 => ?_) (fun zk4 => ?_)
  · exact x_vret C0 dX5_requireChannel_18 (Nat.le_of_ble_eq_true rfl) (Nat.le_of_ble_eq_true rfl) ⟨rfl, rfl⟩
  · exact absurd zk4 (by decide)
set_option maxRecDepth 100000 in
set_option maxHeartbeats 4000000 in
theorem cC_requireChannel_1 (hl : l.stackTraces = false) {ws : va_W} {x : Int32} (hv : chB x = false) : Ct Γ l yX5_requireChannel wsX5_requireChannel { frames := 12, cells := 1, slots := 6, locals := 300 } [.int x] (ws) (qV fun _ => False) (fun E w => E = "java/lang/IndexOutOfBoundsException" ∧ w = ws) := by
  refine Ct.of [some (.int x)] rfl hl (by decide) (Nat.le_of_ble_eq_true rfl) rfl (fun φ C0 => ?_)
  have C := C0.1
  refine x_iload_n C 1 dX5_requireChannel_0 rfl rfl ?_
  refine x_callS0_i C 4 0 0 1 (cC_isChannel hl) rfl gX5_requireChannel_X5_isChannel ⟨by decide, by decide, rfl⟩ ⟨Nat.le_of_ble_eq_true rfl, Nat.le_of_ble_eq_true rfl⟩ rfl rfl (Nat.le_of_ble_eq_true rfl) ⟨Nat.le_of_ble_eq_true rfl, Nat.le_of_ble_eq_true rfl⟩ dX5_requireChannel_1 rfl rfl rfl (fun r1 w1 h1 => ?_)
  obtain ⟨rfl, rfl⟩ := h1
  refine x_top (show _ = (0 : Int32) from (congrArg bI (show chB x = false from hv)).trans rfl) ?_
  refine x_if_ne C 18 7 dX5_requireChannel_4 (by decide) rfl (fun zk4 => ?_) (fun zk4 => ?_)
  · exact absurd zk4 (by decide)
  · exact x_throwSW C0 (cls := "java/lang/IndexOutOfBoundsException") (text := "no such channel") (names := ["java/lang/RuntimeException", "java/lang/Exception"]) (List.mem_of_getElem? (i := 4) rfl) (by decide) (by decide) (List.mem_cons_of_mem _ (List.mem_append_left _ (List.mem_of_getElem? (i := 0) rfl))) (List.mem_cons_of_mem _ (List.mem_append_left _ (List.mem_of_getElem? (i := 1) rfl))) (fun w h => (List.mem_cons_of_mem _ (List.mem_append_right _ h))) (by decide) (by decide +kernel) (by decide +kernel) dX5_requireChannel_7 dX5_requireChannel_10 dX5_requireChannel_11 dX5_requireChannel_14 dX5_requireChannel_17 (Nat.le_of_ble_eq_true rfl) (Nat.le_of_ble_eq_true rfl) (Nat.le_of_ble_eq_true rfl) (Nat.le_of_ble_eq_true rfl) ⟨rfl, rfl⟩   
set_option maxRecDepth 100000 in
set_option maxHeartbeats 4000000 in
theorem cC_requireLevel_0 (hl : l.stackTraces = false) {ws : va_W} {x : Int32} (hv : lvB x = true) : Ct Γ l yX5_requireLevel wsX5_requireLevel { frames := 12, cells := 0, slots := 0, locals := 300 } [.int x] (ws) (qV fun w => w = ws) noX := by
  refine Ct.of [some (.int x)] rfl hl (by decide) (Nat.le_of_ble_eq_true rfl) rfl (fun φ C0 => ?_)
  have C := C0.1
  refine x_iload_n C 1 dX5_requireLevel_0 rfl rfl ?_
  refine x_callS0_i C 4 0 0 1 (cC_isLevel hl) rfl gX5_requireLevel_X5_isLevel ⟨by decide, by decide, rfl⟩ ⟨Nat.le_of_ble_eq_true rfl, Nat.le_of_ble_eq_true rfl⟩ rfl rfl (Nat.le_of_ble_eq_true rfl) ⟨Nat.le_of_ble_eq_true rfl, Nat.le_of_ble_eq_true rfl⟩ dX5_requireLevel_1 rfl rfl rfl (fun r1 w1 h1 => ?_)
  obtain ⟨rfl, rfl⟩ := h1
  refine x_top (show _ = (1 : Int32) from (congrArg bI (show lvB x = true from hv)).trans rfl) ?_
  refine x_if_ne C 18 7 dX5_requireLevel_4 (by decide) rfl (fun zk4 => ?_) (fun zk4 => ?_)
  · exact x_vret C0 dX5_requireLevel_18 (Nat.le_of_ble_eq_true rfl) (Nat.le_of_ble_eq_true rfl) ⟨rfl, rfl⟩
  · exact absurd zk4 (by decide)
set_option maxRecDepth 100000 in
set_option maxHeartbeats 4000000 in
theorem cC_requireLevel_1 (hl : l.stackTraces = false) {ws : va_W} {x : Int32} (hv : lvB x = false) : Ct Γ l yX5_requireLevel wsX5_requireLevel { frames := 12, cells := 1, slots := 6, locals := 300 } [.int x] (ws) (qV fun _ => False) (fun E w => E = "java/lang/IllegalArgumentException" ∧ w = ws) := by
  refine Ct.of [some (.int x)] rfl hl (by decide) (Nat.le_of_ble_eq_true rfl) rfl (fun φ C0 => ?_)
  have C := C0.1
  refine x_iload_n C 1 dX5_requireLevel_0 rfl rfl ?_
  refine x_callS0_i C 4 0 0 1 (cC_isLevel hl) rfl gX5_requireLevel_X5_isLevel ⟨by decide, by decide, rfl⟩ ⟨Nat.le_of_ble_eq_true rfl, Nat.le_of_ble_eq_true rfl⟩ rfl rfl (Nat.le_of_ble_eq_true rfl) ⟨Nat.le_of_ble_eq_true rfl, Nat.le_of_ble_eq_true rfl⟩ dX5_requireLevel_1 rfl rfl rfl (fun r1 w1 h1 => ?_)
  obtain ⟨rfl, rfl⟩ := h1
  refine x_top (show _ = (0 : Int32) from (congrArg bI (show lvB x = false from hv)).trans rfl) ?_
  refine x_if_ne C 18 7 dX5_requireLevel_4 (by decide) rfl (fun zk4 => ?_) (fun zk4 => ?_)
  · exact absurd zk4 (by decide)
  · exact x_throwSW C0 (cls := "java/lang/IllegalArgumentException") (text := "level out of range") (names := ["java/lang/RuntimeException", "java/lang/Exception"]) (List.mem_of_getElem? (i := 5) rfl) (by decide) (by decide) (List.mem_cons_of_mem _ (List.mem_append_left _ (List.mem_of_getElem? (i := 0) rfl))) (List.mem_cons_of_mem _ (List.mem_append_left _ (List.mem_of_getElem? (i := 1) rfl))) (fun w h => (List.mem_cons_of_mem _ (List.mem_append_right _ h))) (by decide) (by decide +kernel) (by decide +kernel) dX5_requireLevel_7 dX5_requireLevel_10 dX5_requireLevel_11 dX5_requireLevel_14 dX5_requireLevel_17 (Nat.le_of_ble_eq_true rfl) (Nat.le_of_ble_eq_true rfl) (Nat.le_of_ble_eq_true rfl) (Nat.le_of_ble_eq_true rfl) ⟨rfl, rfl⟩   
set_option maxRecDepth 100000 in
set_option maxHeartbeats 4000000 in
theorem cC_requireGroup_0 (hl : l.stackTraces = false) {x : Int32} (hv : upB (n 1) x = true) : Ct (gm D a E0) l yX5_requireGroup wsX5_requireGroup { frames := 12, cells := 0, slots := 0, locals := 300 } [.ref (A 0 0), .int x] (wC a E0 n cap A g en S) (qV fun w => w = wC a E0 n cap A g en S) noX := by
  refine Ct.of [some (.ref (A 0 0)), some (.int x)] rfl hl (by decide) (Nat.le_of_ble_eq_true rfl) rfl (fun φ C0 => ?_)
  have C := C0.1
  refine x_aload_n C 1 dX5_requireGroup_0 rfl rfl ?_
  refine x_iload_n C 2 dX5_requireGroup_1 rfl rfl ?_
  refine xc_callV_i C 5 0 0 0 0 9 1 (cC_isGroup hl) rfl gX5_requireGroup_X5_isGroup ⟨rfl, by decide, by decide, rfl⟩ ⟨Nat.le_of_ble_eq_true rfl, Nat.le_of_ble_eq_true rfl⟩ rfl (by decide) (show 0 < 1 by decide) rfl rfl rfl (Nat.le_of_ble_eq_true rfl) ⟨Nat.le_of_ble_eq_true rfl, Nat.le_of_ble_eq_true rfl⟩ dX5_requireGroup_2 rfl rfl rfl (fun r1 w1 h1 => ?_)
  obtain ⟨rfl, rfl⟩ := h1
  refine x_top (show _ = (1 : Int32) from (congrArg bI (show upB (n 1) x = true from hv)).trans rfl) ?_
  refine x_if_ne C 19 8 dX5_requireGroup_5 (by decide) rfl (fun zk5 => ?_) (fun zk5 => ?_)
  · exact x_vret C0 dX5_requireGroup_19 (Nat.le_of_ble_eq_true rfl) (Nat.le_of_ble_eq_true rfl) ⟨rfl, rfl⟩
  · exact absurd zk5 (by decide)
set_option maxRecDepth 100000 in
set_option maxHeartbeats 4000000 in
theorem cC_requireGroup_1 (hl : l.stackTraces = false) {x : Int32} (hv : upB (n 1) x = false) : Ct (gm D a E0) l yX5_requireGroup wsX5_requireGroup { frames := 12, cells := 1, slots := 6, locals := 300 } [.ref (A 0 0), .int x] (wC a E0 n cap A g en S) (qV fun _ => False) (fun E w => E = "java/lang/IndexOutOfBoundsException" ∧ w = wC a E0 n cap A g en S) := by
  refine Ct.of [some (.ref (A 0 0)), some (.int x)] rfl hl (by decide) (Nat.le_of_ble_eq_true rfl) rfl (fun φ C0 => ?_)
  have C := C0.1
  refine x_aload_n C 1 dX5_requireGroup_0 rfl rfl ?_
  refine x_iload_n C 2 dX5_requireGroup_1 rfl rfl ?_
  refine xc_callV_i C 5 0 0 0 0 9 1 (cC_isGroup hl) rfl gX5_requireGroup_X5_isGroup ⟨rfl, by decide, by decide, rfl⟩ ⟨Nat.le_of_ble_eq_true rfl, Nat.le_of_ble_eq_true rfl⟩ rfl (by decide) (show 0 < 1 by decide) rfl rfl rfl (Nat.le_of_ble_eq_true rfl) ⟨Nat.le_of_ble_eq_true rfl, Nat.le_of_ble_eq_true rfl⟩ dX5_requireGroup_2 rfl rfl rfl (fun r1 w1 h1 => ?_)
  obtain ⟨rfl, rfl⟩ := h1
  refine x_top (show _ = (0 : Int32) from (congrArg bI (show upB (n 1) x = false from hv)).trans rfl) ?_
  refine x_if_ne C 19 8 dX5_requireGroup_5 (by decide) rfl (fun zk5 => ?_) (fun zk5 => ?_)
  · exact absurd zk5 (by decide)
  · exact x_throwSW C0 (cls := "java/lang/IndexOutOfBoundsException") (text := "no such group") (names := ["java/lang/RuntimeException", "java/lang/Exception"]) (List.mem_of_getElem? (i := 6) rfl) (by decide) (by decide) (List.mem_cons_of_mem _ (List.mem_append_left _ (List.mem_append_left _ (List.mem_append_left _ (List.mem_of_getElem? (i := 0) rfl))))) (List.mem_cons_of_mem _ (List.mem_append_left _ (List.mem_append_left _ (List.mem_append_left _ (List.mem_of_getElem? (i := 1) rfl))))) (fun w h => (List.mem_cons_of_mem _ (List.mem_append_right _ h))) (by decide) (by decide +kernel) (by decide +kernel) dX5_requireGroup_8 dX5_requireGroup_11 dX5_requireGroup_12 dX5_requireGroup_15 dX5_requireGroup_18 (Nat.le_of_ble_eq_true rfl) (Nat.le_of_ble_eq_true rfl) (Nat.le_of_ble_eq_true rfl) (Nat.le_of_ble_eq_true rfl) ⟨rfl, rfl⟩   
theorem fg_X5_requireEffect_32 : gF RX5 wsX5_requireEffect 32 9 5 := ⟨RX5, TX5, 11, "StageConsole", rfl, fun w h => (List.mem_cons_of_mem _ (List.mem_append_left _ (List.mem_append_left _ (List.mem_append_right _ h)))), by decide, (List.mem_cons_of_mem _ (List.mem_append_left _ (List.mem_append_left _ (List.mem_append_left _ (List.mem_of_getElem? (i := 2) rfl))))), Or.inl rfl⟩
set_option maxRecDepth 100000 in
set_option maxHeartbeats 4000000 in
theorem cC_requireEffect_0 (hl : l.stackTraces = false) {x : Int32} (hv : upB (n 2) x = true) : Ct (gm D a E0) l yX5_requireEffect wsX5_requireEffect { frames := 12, cells := 0, slots := 0, locals := 300 } [.ref (A 0 0), .int x] (wC a E0 n cap A g en S) (qV fun w => w = wC a E0 n cap A g en S) noX := by
  refine Ct.of [some (.ref (A 0 0)), some (.int x)] rfl hl (by decide) (Nat.le_of_ble_eq_true rfl) rfl (fun φ C0 => ?_)
  have C := C0.1
  refine x_iload_n C 1 dX5_requireEffect_0 rfl rfl ?_
  refine x_iconst (v := (0)) C 2 dX5_requireEffect_1 (by decide) rfl ?_
  refine x_aload_n C 3 dX5_requireEffect_2 rfl rfl ?_
  refine xc_get C 6 0 0 (by decide) (show 0 < 1 by decide) rfl fg_X5_requireEffect_32 rfl dX5_requireEffect_3 rfl ?_
  refine xc_callV_i C 9 0 0 3 2 3 0 (cC_size hl (j := 2) (by decide)) rfl gX5_requireEffect_Jx4a65c_size_8abf5 ⟨rfl, by decide, by decide, rfl⟩ ⟨Nat.le_of_ble_eq_true rfl, Nat.le_of_ble_eq_true rfl⟩ rfl (by decide) (show 2 < 4 by decide) rfl rfl rfl (Nat.le_of_ble_eq_true rfl) ⟨Nat.le_of_ble_eq_true rfl, Nat.le_of_ble_eq_true rfl⟩ dX5_requireEffect_6 rfl rfl rfl (fun r1 w1 h1 => ?_)
  obtain ⟨rfl, rfl⟩ := h1
  refine x_iconst (v := (1)) C 10 dX5_requireEffect_9 (by decide) rfl ?_
  refine x_isub C 11 dX5_requireEffect_10 rfl ?_
  refine x_callS0_i C 14 0 0 3 (cC_isWithin hl) rfl gX5_requireEffect_X5_isWithin ⟨by decide, by decide, rfl⟩ ⟨Nat.le_of_ble_eq_true rfl, Nat.le_of_ble_eq_true rfl⟩ rfl rfl (Nat.le_of_ble_eq_true rfl) ⟨Nat.le_of_ble_eq_true rfl, Nat.le_of_ble_eq_true rfl⟩ dX5_requireEffect_11 rfl rfl rfl (fun r2 w2 h2 => ?_)
  obtain ⟨rfl, rfl⟩ := h2
  refine x_top (show _ = (1 : Int32) from (congrArg bI (show upB (n 2) x = true from hv)).trans rfl) ?_
  refine x_if_ne C 28 17 dX5_requireEffect_14 (by decide) rfl (fun zk14 => ?_) (fun zk14 => ?_)
  · exact x_vret C0 dX5_requireEffect_28 (Nat.le_of_ble_eq_true rfl) (Nat.le_of_ble_eq_true rfl) ⟨rfl, rfl⟩
  · exact absurd zk14 (by decide)
set_option maxRecDepth 100000 in
set_option maxHeartbeats 4000000 in
theorem cC_requireEffect_1 (hl : l.stackTraces = false) {x : Int32} (hv : upB (n 2) x = false) : Ct (gm D a E0) l yX5_requireEffect wsX5_requireEffect { frames := 12, cells := 1, slots := 6, locals := 300 } [.ref (A 0 0), .int x] (wC a E0 n cap A g en S) (qV fun _ => False) (fun E w => E = "java/lang/IndexOutOfBoundsException" ∧ w = wC a E0 n cap A g en S) := by
  refine Ct.of [some (.ref (A 0 0)), some (.int x)] rfl hl (by decide) (Nat.le_of_ble_eq_true rfl) rfl (fun φ C0 => ?_)
  have C := C0.1
  refine x_iload_n C 1 dX5_requireEffect_0 rfl rfl ?_
  refine x_iconst (v := (0)) C 2 dX5_requireEffect_1 (by decide) rfl ?_
  refine x_aload_n C 3 dX5_requireEffect_2 rfl rfl ?_
  refine xc_get C 6 0 0 (by decide) (show 0 < 1 by decide) rfl fg_X5_requireEffect_32 rfl dX5_requireEffect_3 rfl ?_
  refine xc_callV_i C 9 0 0 3 2 3 0 (cC_size hl (j := 2) (by decide)) rfl gX5_requireEffect_Jx4a65c_size_8abf5 ⟨rfl, by decide, by decide, rfl⟩ ⟨Nat.le_of_ble_eq_true rfl, Nat.le_of_ble_eq_true rfl⟩ rfl (by decide) (show 2 < 4 by decide) rfl rfl rfl (Nat.le_of_ble_eq_true rfl) ⟨Nat.le_of_ble_eq_true rfl, Nat.le_of_ble_eq_true rfl⟩ dX5_requireEffect_6 rfl rfl rfl (fun r1 w1 h1 => ?_)
  obtain ⟨rfl, rfl⟩ := h1
  refine x_iconst (v := (1)) C 10 dX5_requireEffect_9 (by decide) rfl ?_
  refine x_isub C 11 dX5_requireEffect_10 rfl ?_
  refine x_callS0_i C 14 0 0 3 (cC_isWithin hl) rfl gX5_requireEffect_X5_isWithin ⟨by decide, by decide, rfl⟩ ⟨Nat.le_of_ble_eq_true rfl, Nat.le_of_ble_eq_true rfl⟩ rfl rfl (Nat.le_of_ble_eq_true rfl) ⟨Nat.le_of_ble_eq_true rfl, Nat.le_of_ble_eq_true rfl⟩ dX5_requireEffect_11 rfl rfl rfl (fun r2 w2 h2 => ?_)
  obtain ⟨rfl, rfl⟩ := h2
  refine x_top (show _ = (0 : Int32) from (congrArg bI (show upB (n 2) x = false from hv)).trans rfl) ?_
  refine x_if_ne C 28 17 dX5_requireEffect_14 (by decide) rfl (fun zk14 => ?_) (fun zk14 => ?_)
  · exact absurd zk14 (by decide)
  · exact x_throwSW C0 (cls := "java/lang/IndexOutOfBoundsException") (text := "no such effect") (names := ["java/lang/RuntimeException", "java/lang/Exception"]) (List.mem_of_getElem? (i := 11) rfl) (by decide) (by decide) (List.mem_cons_of_mem _ (List.mem_append_left _ (List.mem_append_left _ (List.mem_append_left _ (List.mem_of_getElem? (i := 0) rfl))))) (List.mem_cons_of_mem _ (List.mem_append_left _ (List.mem_append_left _ (List.mem_append_left _ (List.mem_of_getElem? (i := 1) rfl))))) (fun w h => (List.mem_cons_of_mem _ (List.mem_append_right _ h))) (by decide) (by decide +kernel) (by decide +kernel) dX5_requireEffect_17 dX5_requireEffect_20 dX5_requireEffect_21 dX5_requireEffect_24 dX5_requireEffect_27 (Nat.le_of_ble_eq_true rfl) (Nat.le_of_ble_eq_true rfl) (Nat.le_of_ble_eq_true rfl) (Nat.le_of_ble_eq_true rfl) ⟨rfl, rfl⟩   
theorem fg_X5_placeOf_10 : gF RX5 wsX5_placeOf 10 9 0 := ⟨RX5, TX5, 11, "StageConsole", rfl, fun w h => (List.mem_cons_of_mem _ (List.mem_append_left _ (List.mem_append_left _ (List.mem_append_right _ h)))), by decide, (List.mem_cons_of_mem _ (List.mem_append_left _ (List.mem_append_left _ (List.mem_append_left _ (List.mem_append_left _ (List.mem_of_getElem? (i := 0) rfl)))))), Or.inl rfl⟩
theorem fg_X5_placeOf_311 : gF RX5 wsX5_placeOf 311 5 0 := ⟨RX1, TX1, 5, "StageConsole$Cue", rfl, fun w h => (List.mem_cons_of_mem _ (List.mem_append_left _ (List.mem_append_right _ h))), by decide, (List.mem_cons_of_mem _ (List.mem_append_left _ (List.mem_append_left _ (List.mem_append_left _ (List.mem_append_left _ (List.mem_of_getElem? (i := 2) rfl)))))), Or.inl rfl⟩
set_option maxRecDepth 100000 in
set_option maxHeartbeats 4000000 in
theorem cC_placeOf (hl : l.stackTraces = false) {x : Int32} (hN : CN n cap)  : Ct (gm D a E0) l yX5_placeOf wsX5_placeOf { frames := 16, cells := 0, slots := 0, locals := 400 } [.ref (A 0 0), .int x] (wC a E0 n cap A g en S) (qI fun v w => v = nI (poC S (n 0) x) ∧ w = wC a E0 n cap A g en S) noX := by
  refine Ct.of [some (.ref (A 0 0)), some (.int x), none] rfl hl (by decide) (Nat.le_of_ble_eq_true rfl) rfl (fun φ C0 => ?_)
  have C := C0.1
  refine x_iconst (v := (0)) C 1 dX5_placeOf_0 (by decide) rfl ?_
  refine x_istore_n C 2 dX5_placeOf_1 (by decide) rfl rfl ?_
  have lp2 : ∀ (k i : Nat), i + k = n 0 → (poC S (n 0) x) = poL (nuC S) x k i → X φ 2 [some (.ref (A 0 0)), some (.int x), some (.int (nI i))] [] (wC a E0 n cap A g en S) 0 0 := by
    intro k
    induction k with
    | zero =>
      intro i hi hr
      refine x_iload_n C 3 dX5_placeOf_2 rfl rfl ?_
      refine x_aload_n C 4 dX5_placeOf_3 rfl rfl ?_
      refine xc_get C 7 0 0 (by decide) (show 0 < 1 by decide) rfl fg_X5_placeOf_10 rfl dX5_placeOf_4 rfl ?_
      refine xc_callV_i C 10 0 0 3 0 3 0 (cC_size hl (j := 0) (by decide)) rfl gX5_placeOf_Jx4a65c_size_8abf5 ⟨rfl, by decide, by decide, rfl⟩ ⟨Nat.le_of_ble_eq_true rfl, Nat.le_of_ble_eq_true rfl⟩ rfl (by decide) (show 0 < 4 by decide) rfl rfl rfl (Nat.le_of_ble_eq_true rfl) ⟨Nat.le_of_ble_eq_true rfl, Nat.le_of_ble_eq_true rfl⟩ dX5_placeOf_7 rfl rfl rfl (fun r1 w1 h1 => ?_)
      obtain ⟨rfl, rfl⟩ := h1
      have := hN.2.1
      refine x_icmp_ge C 37 13 dX5_placeOf_10 (by decide) rfl (fun zk10 => ?_) (fun zk10 => ?_)
      · have zk10 := (nI_leI (a := (n 0)) (b := i) (by omega) (by omega)).mp zk10
        refine x_iload_n C 38 dX5_placeOf_37 rfl rfl ?_
        exact x_zret C0 dX5_placeOf_38 (Nat.le_of_ble_eq_true rfl) (Nat.le_of_ble_eq_true rfl) ⟨_, rfl, ⟨by rw [hr]; rfl, rfl⟩⟩
      · have zk10 := mt (nI_leI (a := (n 0)) (b := i) (by omega) (by omega)).mpr zk10
        exfalso; omega
    | succ k ih =>
      intro i hi hr
      refine x_iload_n C 3 dX5_placeOf_2 rfl rfl ?_
      refine x_aload_n C 4 dX5_placeOf_3 rfl rfl ?_
      refine xc_get C 7 0 0 (by decide) (show 0 < 1 by decide) rfl fg_X5_placeOf_10 rfl dX5_placeOf_4 rfl ?_
      refine xc_callV_i C 10 0 0 3 0 3 0 (cC_size hl (j := 0) (by decide)) rfl gX5_placeOf_Jx4a65c_size_8abf5 ⟨rfl, by decide, by decide, rfl⟩ ⟨Nat.le_of_ble_eq_true rfl, Nat.le_of_ble_eq_true rfl⟩ rfl (by decide) (show 0 < 4 by decide) rfl rfl rfl (Nat.le_of_ble_eq_true rfl) ⟨Nat.le_of_ble_eq_true rfl, Nat.le_of_ble_eq_true rfl⟩ dX5_placeOf_7 rfl rfl rfl (fun r2 w2 h2 => ?_)
      obtain ⟨rfl, rfl⟩ := h2
      have := hN.2.1
      refine x_icmp_ge C 37 13 dX5_placeOf_10 (by decide) rfl (fun zk10 => ?_) (fun zk10 => ?_)
      · have zk10 := (nI_leI (a := (n 0)) (b := i) (by omega) (by omega)).mp zk10
        exfalso; omega
      · have zk10 := mt (nI_leI (a := (n 0)) (b := i) (by omega) (by omega)).mpr zk10
        refine x_aload_n C 14 dX5_placeOf_13 rfl rfl ?_
        refine xc_get C 17 0 0 (by decide) (show 0 < 1 by decide) rfl fg_X5_placeOf_10 rfl dX5_placeOf_14 rfl ?_
        refine x_iload_n C 18 dX5_placeOf_17 rfl rfl ?_
        refine xc_callV_q C 21 0 0 3 0 3 1 (cC_get hl (j := 0) (by decide) (i := i) (by omega) (hN.1 0 (by decide)).1 (hN.1 0 (by decide)).2) rfl gX5_placeOf_Jx4a65c_get_915e3 ⟨rfl, by decide, by decide, rfl⟩ ⟨Nat.le_of_ble_eq_true rfl, Nat.le_of_ble_eq_true rfl⟩ rfl (by decide) (show 0 < 4 by decide) rfl rfl rfl (Nat.le_of_ble_eq_true rfl) ⟨Nat.le_of_ble_eq_true rfl, Nat.le_of_ble_eq_true rfl⟩ dX5_placeOf_18 rfl rfl rfl (fun r3 w3 h3 => ?_)
        obtain ⟨rfl, rfl⟩ := h3
        refine x_topq (show _ = Value.ref (A 5 i) from rfl) ?_
        refine xc_castS C 24 5 i (by decide) (show i < n 0 from by omega) rfl rfl (List.mem_cons_of_mem _ (List.mem_append_left _ (List.mem_append_left _ (List.mem_append_left _ (List.mem_append_left _ (List.mem_of_getElem? (i := 1) rfl)))))) dX5_placeOf_21 rfl ?_
        refine xc_get C 27 5 i (by decide) (show i < n 0 from by omega) rfl fg_X5_placeOf_311 rfl dX5_placeOf_24 rfl ?_
        refine x_iload_n C 28 dX5_placeOf_27 rfl rfl ?_
        refine x_icmp_ge C 37 31 dX5_placeOf_28 (by decide) rfl (fun zk28 => ?_) (fun zk28 => ?_)
        · refine x_iload_n C 38 dX5_placeOf_37 rfl rfl ?_
          exact x_zret C0 dX5_placeOf_38 (Nat.le_of_ble_eq_true rfl) (Nat.le_of_ble_eq_true rfl) ⟨_, rfl, ⟨by rw [hr, poL, if_neg (Int32.not_lt.mpr zk28)], rfl⟩⟩
        · refine x_iinc (v := nI (i + 1)) C 34 rfl dX5_placeOf_31 (iinc1 _) (by decide) rfl rfl ?_
          refine x_goto C 2 dX5_placeOf_34 (by decide) ?_
          exact ih (i + 1) (by omega) (by rw [hr, poL, if_pos (pw_lt zk28)])
  exact lp2 (n 0) 0 (by omega) rfl
theorem fg_X5_hasCue_10 : gF RX5 wsX5_hasCue 10 9 0 := ⟨RX5, TX5, 11, "StageConsole", rfl, fun w h => (List.mem_cons_of_mem _ (List.mem_append_left _ (List.mem_append_left _ (List.mem_append_right _ h)))), by decide, (List.mem_cons_of_mem _ (List.mem_append_left _ (List.mem_append_left _ (List.mem_append_left _ (List.mem_append_left _ (List.mem_of_getElem? (i := 0) rfl)))))), Or.inl rfl⟩
theorem fg_X5_hasCue_311 : gF RX5 wsX5_hasCue 311 5 0 := ⟨RX1, TX1, 5, "StageConsole$Cue", rfl, fun w h => (List.mem_cons_of_mem _ (List.mem_append_left _ (List.mem_append_right _ h))), by decide, (List.mem_cons_of_mem _ (List.mem_append_left _ (List.mem_append_left _ (List.mem_append_left _ (List.mem_append_left _ (List.mem_of_getElem? (i := 2) rfl)))))), Or.inl rfl⟩
set_option maxRecDepth 100000 in
set_option maxHeartbeats 4000000 in
theorem cC_hasCue (hl : l.stackTraces = false) {x : Int32} (hN : CN n cap)  : Ct (gm D a E0) l yX5_hasCue wsX5_hasCue { frames := 20, cells := 0, slots := 0, locals := 500 } [.ref (A 0 0), .int x] (wC a E0 n cap A g en S) (qI fun v w => v = bI (hqC S (n 0) x) ∧ w = wC a E0 n cap A g en S) noX := by
  refine Ct.of [some (.ref (A 0 0)), some (.int x), none] rfl hl (by decide) (Nat.le_of_ble_eq_true rfl) rfl (fun φ C0 => ?_)
  have C := C0.1
  refine x_aload_n C 1 dX5_hasCue_0 rfl rfl ?_
  refine x_iload_n C 2 dX5_hasCue_1 rfl rfl ?_
  refine xc_callV_i C 5 0 0 0 0 9 1 (cC_placeOf hl hN) rfl gX5_hasCue_X5_placeOf ⟨rfl, by decide, by decide, rfl⟩ ⟨Nat.le_of_ble_eq_true rfl, Nat.le_of_ble_eq_true rfl⟩ rfl (by decide) (show 0 < 1 by decide) rfl rfl rfl (Nat.le_of_ble_eq_true rfl) ⟨Nat.le_of_ble_eq_true rfl, Nat.le_of_ble_eq_true rfl⟩ dX5_hasCue_2 rfl rfl rfl (fun r1 w1 h1 => ?_)
  obtain ⟨rfl, rfl⟩ := h1
  refine x_istore_n C 6 dX5_hasCue_5 (by decide) rfl rfl ?_
  refine x_iload_n C 7 dX5_hasCue_6 rfl rfl ?_
  refine x_aload_n C 8 dX5_hasCue_7 rfl rfl ?_
  refine xc_get C 11 0 0 (by decide) (show 0 < 1 by decide) rfl fg_X5_hasCue_10 rfl dX5_hasCue_8 rfl ?_
  refine xc_callV_i C 14 0 0 3 0 3 0 (cC_size hl (j := 0) (by decide)) rfl gX5_hasCue_Jx4a65c_size_8abf5 ⟨rfl, by decide, by decide, rfl⟩ ⟨Nat.le_of_ble_eq_true rfl, Nat.le_of_ble_eq_true rfl⟩ rfl (by decide) (show 0 < 4 by decide) rfl rfl rfl (Nat.le_of_ble_eq_true rfl) ⟨Nat.le_of_ble_eq_true rfl, Nat.le_of_ble_eq_true rfl⟩ dX5_hasCue_11 rfl rfl rfl (fun r2 w2 h2 => ?_)
  obtain ⟨rfl, rfl⟩ := h2
  have h16 := hN.2.1
  have hle := poC_le S (n 0) x
  refine x_icmp_ge C 39 17 dX5_hasCue_14 (by decide) rfl (fun zk14 => ?_) (fun zk14 => ?_)
  · have zk14 := (nI_leI (a := (n 0)) (b := (poC S (n 0) x)) (by omega) (by omega)).mp zk14
    refine x_iconst (v := (0)) C 40 dX5_hasCue_39 (by decide) rfl ?_
    exact x_nret C0 rfl (rfl) dX5_hasCue_40 (Nat.le_of_ble_eq_true rfl) (Nat.le_of_ble_eq_true rfl) ⟨_, rfl, ⟨by first | (simp only [hqC, decide_eq_false (show ¬ poC S (n 0) x < n 0 by omega), Bool.false_and]; rfl) | (simp only [hqC, decide_eq_false zk32, Bool.and_false]; rfl) | (simp only [hqC, decide_eq_true zk32, decide_eq_true (show poC S (n 0) x < n 0 by omega), Bool.true_and]; rfl) | (simp only [hqC, decide_eq_true (Decidable.not_not.mp zk32), decide_eq_true (show poC S (n 0) x < n 0 by omega), Bool.true_and]; rfl), rfl⟩⟩
  · have zk14 := mt (nI_leI (a := (n 0)) (b := (poC S (n 0) x)) (by omega) (by omega)).mpr zk14
    refine x_aload_n C 18 dX5_hasCue_17 rfl rfl ?_
    refine xc_get C 21 0 0 (by decide) (show 0 < 1 by decide) rfl fg_X5_hasCue_10 rfl dX5_hasCue_18 rfl ?_
    refine x_iload_n C 22 dX5_hasCue_21 rfl rfl ?_
    refine xc_callV_q C 25 0 0 3 0 3 1 (cC_get hl (j := 0) (by decide) (i := (poC S (n 0) x)) (by omega) (hN.1 0 (by decide)).1 (hN.1 0 (by decide)).2) rfl gX5_hasCue_Jx4a65c_get_915e3 ⟨rfl, by decide, by decide, rfl⟩ ⟨Nat.le_of_ble_eq_true rfl, Nat.le_of_ble_eq_true rfl⟩ rfl (by decide) (show 0 < 4 by decide) rfl rfl rfl (Nat.le_of_ble_eq_true rfl) ⟨Nat.le_of_ble_eq_true rfl, Nat.le_of_ble_eq_true rfl⟩ dX5_hasCue_22 rfl rfl rfl (fun r3 w3 h3 => ?_)
    obtain ⟨rfl, rfl⟩ := h3
    refine x_topq (show _ = Value.ref (A 5 (poC S (n 0) x)) from rfl) ?_
    refine xc_castS C 28 5 (poC S (n 0) x) (by decide) (show (poC S (n 0) x) < n 0 from by omega) rfl rfl (List.mem_cons_of_mem _ (List.mem_append_left _ (List.mem_append_left _ (List.mem_append_left _ (List.mem_append_left _ (List.mem_of_getElem? (i := 1) rfl)))))) dX5_hasCue_25 rfl ?_
    refine xc_get C 31 5 (poC S (n 0) x) (by decide) (show (poC S (n 0) x) < n 0 from by omega) rfl fg_X5_hasCue_311 rfl dX5_hasCue_28 rfl ?_
    refine x_iload_n C 32 dX5_hasCue_31 rfl rfl ?_
    refine x_icmp_ne C 39 35 dX5_hasCue_32 (by decide) rfl (fun zk32 => ?_) (fun zk32 => ?_)
    · refine x_iconst (v := (0)) C 40 dX5_hasCue_39 (by decide) rfl ?_
      exact x_nret C0 rfl (rfl) dX5_hasCue_40 (Nat.le_of_ble_eq_true rfl) (Nat.le_of_ble_eq_true rfl) ⟨_, rfl, ⟨by first | (simp only [hqC, decide_eq_false (show ¬ poC S (n 0) x < n 0 by omega), Bool.false_and]; rfl) | (simp only [hqC, decide_eq_false zk32, Bool.and_false]; rfl) | (simp only [hqC, decide_eq_true zk32, decide_eq_true (show poC S (n 0) x < n 0 by omega), Bool.true_and]; rfl) | (simp only [hqC, decide_eq_true (Decidable.not_not.mp zk32), decide_eq_true (show poC S (n 0) x < n 0 by omega), Bool.true_and]; rfl), rfl⟩⟩
    · refine x_iconst (v := (1)) C 36 dX5_hasCue_35 (by decide) rfl ?_
      refine x_goto C 40 dX5_hasCue_36 (by decide) ?_
      exact x_nret C0 rfl (rfl) dX5_hasCue_40 (Nat.le_of_ble_eq_true rfl) (Nat.le_of_ble_eq_true rfl) ⟨_, rfl, ⟨by first | (simp only [hqC, decide_eq_false (show ¬ poC S (n 0) x < n 0 by omega), Bool.false_and]; rfl) | (simp only [hqC, decide_eq_false zk32, Bool.and_false]; rfl) | (simp only [hqC, decide_eq_true zk32, decide_eq_true (show poC S (n 0) x < n 0 by omega), Bool.true_and]; rfl) | (simp only [hqC, decide_eq_true (Decidable.not_not.mp zk32), decide_eq_true (show poC S (n 0) x < n 0 by omega), Bool.true_and]; rfl), rfl⟩⟩
set_option maxRecDepth 100000 in
set_option maxHeartbeats 4000000 in
theorem cC_requireCue_0 (hl : l.stackTraces = false) {x : Int32} (hN : CN n cap) (hq : hqC S (n 0) x = true) : Ct (gm D a E0) l yX5_requireCue wsX5_requireCue { frames := 24, cells := 0, slots := 0, locals := 600 } [.ref (A 0 0), .int x] (wC a E0 n cap A g en S) (qI fun v w => v = nI (poC S (n 0) x) ∧ w = wC a E0 n cap A g en S) noX := by
  refine Ct.of [some (.ref (A 0 0)), some (.int x)] rfl hl (by decide) (Nat.le_of_ble_eq_true rfl) rfl (fun φ C0 => ?_)
  have C := C0.1
  refine x_aload_n C 1 dX5_requireCue_0 rfl rfl ?_
  refine x_iload_n C 2 dX5_requireCue_1 rfl rfl ?_
  refine xc_callV_i C 5 0 0 0 0 9 1 (cC_hasCue hl hN) rfl gX5_requireCue_X5_hasCue ⟨rfl, by decide, by decide, rfl⟩ ⟨Nat.le_of_ble_eq_true rfl, Nat.le_of_ble_eq_true rfl⟩ rfl (by decide) (show 0 < 1 by decide) rfl rfl rfl (Nat.le_of_ble_eq_true rfl) ⟨Nat.le_of_ble_eq_true rfl, Nat.le_of_ble_eq_true rfl⟩ dX5_requireCue_2 rfl rfl rfl (fun r1 w1 h1 => ?_)
  obtain ⟨rfl, rfl⟩ := h1
  refine x_top (show _ = (1 : Int32) from (congrArg bI (show hqC S (n 0) x = true from hq)).trans rfl) ?_
  refine x_if_ne C 19 8 dX5_requireCue_5 (by decide) rfl (fun zk5 => ?_) (fun zk5 => ?_)
  · refine x_aload_n C 20 dX5_requireCue_19 rfl rfl ?_
    refine x_iload_n C 21 dX5_requireCue_20 rfl rfl ?_
    refine xc_callV_i C 24 0 0 0 0 9 1 (cC_placeOf hl hN) rfl gX5_requireCue_X5_placeOf ⟨rfl, by decide, by decide, rfl⟩ ⟨Nat.le_of_ble_eq_true rfl, Nat.le_of_ble_eq_true rfl⟩ rfl (by decide) (show 0 < 1 by decide) rfl rfl rfl (Nat.le_of_ble_eq_true rfl) ⟨Nat.le_of_ble_eq_true rfl, Nat.le_of_ble_eq_true rfl⟩ dX5_requireCue_21 rfl rfl rfl (fun r2 w2 h2 => ?_)
    obtain ⟨rfl, rfl⟩ := h2
    exact x_zret C0 dX5_requireCue_24 (Nat.le_of_ble_eq_true rfl) (Nat.le_of_ble_eq_true rfl) ⟨_, rfl, ⟨rfl, rfl⟩⟩
  · exact absurd zk5 (by decide)
set_option maxRecDepth 100000 in
set_option maxHeartbeats 4000000 in
theorem cC_requireCue_1 (hl : l.stackTraces = false) {x : Int32} (hN : CN n cap) (hq : hqC S (n 0) x = false) : Ct (gm D a E0) l yX5_requireCue wsX5_requireCue { frames := 24, cells := 1, slots := 6, locals := 600 } [.ref (A 0 0), .int x] (wC a E0 n cap A g en S) (qI fun _ _ => False) (fun E w => E = "java/util/NoSuchElementException" ∧ w = wC a E0 n cap A g en S) := by
  refine Ct.of [some (.ref (A 0 0)), some (.int x)] rfl hl (by decide) (Nat.le_of_ble_eq_true rfl) rfl (fun φ C0 => ?_)
  have C := C0.1
  refine x_aload_n C 1 dX5_requireCue_0 rfl rfl ?_
  refine x_iload_n C 2 dX5_requireCue_1 rfl rfl ?_
  refine xc_callV_i C 5 0 0 0 0 9 1 (cC_hasCue hl hN) rfl gX5_requireCue_X5_hasCue ⟨rfl, by decide, by decide, rfl⟩ ⟨Nat.le_of_ble_eq_true rfl, Nat.le_of_ble_eq_true rfl⟩ rfl (by decide) (show 0 < 1 by decide) rfl rfl rfl (Nat.le_of_ble_eq_true rfl) ⟨Nat.le_of_ble_eq_true rfl, Nat.le_of_ble_eq_true rfl⟩ dX5_requireCue_2 rfl rfl rfl (fun r1 w1 h1 => ?_)
  obtain ⟨rfl, rfl⟩ := h1
  refine x_top (show _ = (0 : Int32) from (congrArg bI (show hqC S (n 0) x = false from hq)).trans rfl) ?_
  refine x_if_ne C 19 8 dX5_requireCue_5 (by decide) rfl (fun zk5 => ?_) (fun zk5 => ?_)
  · exact absurd zk5 (by decide)
  · exact x_throwSW C0 (cls := "java/util/NoSuchElementException") (text := "no such cue") (names := ["java/lang/RuntimeException", "java/lang/Exception"]) (List.mem_of_getElem? (i := 7) rfl) (by decide) (by decide) (List.mem_cons_of_mem _ (List.mem_append_left _ (List.mem_append_left _ (List.mem_append_left _ (List.mem_append_left _ (List.mem_append_left _ (List.mem_of_getElem? (i := 0) rfl))))))) (List.mem_cons_of_mem _ (List.mem_append_left _ (List.mem_append_left _ (List.mem_append_left _ (List.mem_append_left _ (List.mem_append_left _ (List.mem_of_getElem? (i := 1) rfl))))))) (fun w h => (List.mem_cons_of_mem _ (List.mem_append_right _ h))) (by decide) (by decide +kernel) (by decide +kernel) dX5_requireCue_8 dX5_requireCue_11 dX5_requireCue_12 dX5_requireCue_15 dX5_requireCue_18 (Nat.le_of_ble_eq_true rfl) (Nat.le_of_ble_eq_true rfl) (Nat.le_of_ble_eq_true rfl) (Nat.le_of_ble_eq_true rfl) ⟨rfl, rfl⟩   
theorem fg_X5_placeAbove_16 : gF RX5 wsX5_placeAbove 16 9 1 := ⟨RX5, TX5, 11, "StageConsole", rfl, fun w h => (List.mem_cons_of_mem _ (List.mem_append_left _ (List.mem_append_left _ (List.mem_append_right _ h)))), by decide, (List.mem_cons_of_mem _ (List.mem_append_left _ (List.mem_append_left _ (List.mem_append_left _ (List.mem_append_left _ (List.mem_of_getElem? (i := 0) rfl)))))), Or.inl rfl⟩
set_option maxRecDepth 100000 in
set_option maxHeartbeats 4000000 in
theorem cC_placeAbove (hl : l.stackTraces = false) (hN : CN n cap)  : Ct (gm D a E0) l yX5_placeAbove wsX5_placeAbove { frames := 20, cells := 0, slots := 0, locals := 500 } [.ref (A 0 0)] (wC a E0 n cap A g en S) (qI fun v w => v = nI (poC S (n 0) (S 0 0 0 + 1)) ∧ w = wC a E0 n cap A g en S) noX := by
  refine Ct.of [some (.ref (A 0 0))] rfl hl (by decide) (Nat.le_of_ble_eq_true rfl) rfl (fun φ C0 => ?_)
  have C := C0.1
  refine x_aload_n C 1 dX5_placeAbove_0 rfl rfl ?_
  refine x_aload_n C 2 dX5_placeAbove_1 rfl rfl ?_
  refine xc_get C 5 0 0 (by decide) (show 0 < 1 by decide) rfl fg_X5_placeAbove_16 rfl dX5_placeAbove_2 rfl ?_
  refine x_iconst (v := (1)) C 6 dX5_placeAbove_5 (by decide) rfl ?_
  refine x_iadd C 7 dX5_placeAbove_6 rfl ?_
  refine xc_callV_i C 10 0 0 0 0 9 1 (cC_placeOf hl hN) rfl gX5_placeAbove_X5_placeOf ⟨rfl, by decide, by decide, rfl⟩ ⟨Nat.le_of_ble_eq_true rfl, Nat.le_of_ble_eq_true rfl⟩ rfl (by decide) (show 0 < 1 by decide) rfl rfl rfl (Nat.le_of_ble_eq_true rfl) ⟨Nat.le_of_ble_eq_true rfl, Nat.le_of_ble_eq_true rfl⟩ dX5_placeAbove_7 rfl rfl rfl (fun r1 w1 h1 => ?_)
  obtain ⟨rfl, rfl⟩ := h1
  exact x_zret C0 dX5_placeAbove_10 (Nat.le_of_ble_eq_true rfl) (Nat.le_of_ble_eq_true rfl) ⟨_, rfl, ⟨rfl, rfl⟩⟩
theorem fg_X5_placeBelow_16 : gF RX5 wsX5_placeBelow 16 9 1 := ⟨RX5, TX5, 11, "StageConsole", rfl, fun w h => (List.mem_cons_of_mem _ (List.mem_append_left _ (List.mem_append_left _ (List.mem_append_right _ h)))), by decide, (List.mem_cons_of_mem _ (List.mem_append_left _ (List.mem_append_left _ (List.mem_append_left _ (List.mem_append_left _ (List.mem_of_getElem? (i := 0) rfl)))))), Or.inl rfl⟩
set_option maxRecDepth 100000 in
set_option maxHeartbeats 4000000 in
theorem cC_placeBelow (hl : l.stackTraces = false) (hN : CN n cap)  : Ct (gm D a E0) l yX5_placeBelow wsX5_placeBelow { frames := 20, cells := 0, slots := 0, locals := 500 } [.ref (A 0 0)] (wC a E0 n cap A g en S) (qI fun v w => v = kd (poC S (n 0) (S 0 0 0)) ∧ w = wC a E0 n cap A g en S) noX := by
  refine Ct.of [some (.ref (A 0 0))] rfl hl (by decide) (Nat.le_of_ble_eq_true rfl) rfl (fun φ C0 => ?_)
  have C := C0.1
  refine x_aload_n C 1 dX5_placeBelow_0 rfl rfl ?_
  refine x_aload_n C 2 dX5_placeBelow_1 rfl rfl ?_
  refine xc_get C 5 0 0 (by decide) (show 0 < 1 by decide) rfl fg_X5_placeBelow_16 rfl dX5_placeBelow_2 rfl ?_
  refine xc_callV_i C 8 0 0 0 0 9 1 (cC_placeOf hl hN) rfl gX5_placeBelow_X5_placeOf ⟨rfl, by decide, by decide, rfl⟩ ⟨Nat.le_of_ble_eq_true rfl, Nat.le_of_ble_eq_true rfl⟩ rfl (by decide) (show 0 < 1 by decide) rfl rfl rfl (Nat.le_of_ble_eq_true rfl) ⟨Nat.le_of_ble_eq_true rfl, Nat.le_of_ble_eq_true rfl⟩ dX5_placeBelow_5 rfl rfl rfl (fun r1 w1 h1 => ?_)
  obtain ⟨rfl, rfl⟩ := h1
  refine x_iconst (v := (1)) C 9 dX5_placeBelow_8 (by decide) rfl ?_
  refine x_isub C 10 dX5_placeBelow_9 rfl ?_
  exact x_zret C0 dX5_placeBelow_10 (Nat.le_of_ble_eq_true rfl) (Nat.le_of_ble_eq_true rfl) ⟨_, rfl, ⟨kd_sub _, rfl⟩⟩
theorem fg_X5_hasCueAbove_10 : gF RX5 wsX5_hasCueAbove 10 9 0 := ⟨RX5, TX5, 11, "StageConsole", rfl, fun w h => (List.mem_cons_of_mem _ (List.mem_append_left _ (List.mem_append_left _ (List.mem_append_right _ h)))), by decide, (List.mem_cons_of_mem _ (List.mem_append_left _ (List.mem_append_left _ (List.mem_append_left _ (List.mem_append_left _ (List.mem_of_getElem? (i := 0) rfl)))))), Or.inl rfl⟩
set_option maxRecDepth 100000 in
set_option maxHeartbeats 4000000 in
theorem cC_hasCueAbove (hl : l.stackTraces = false) (hN : CN n cap)  : Ct (gm D a E0) l yX5_hasCueAbove wsX5_hasCueAbove { frames := 24, cells := 0, slots := 0, locals := 600 } [.ref (A 0 0)] (wC a E0 n cap A g en S) (qI fun v w => v = bI (decide ((poC S (n 0) (S 0 0 0 + 1)) < n 0)) ∧ w = wC a E0 n cap A g en S) noX := by
  refine Ct.of [some (.ref (A 0 0))] rfl hl (by decide) (Nat.le_of_ble_eq_true rfl) rfl (fun φ C0 => ?_)
  have C := C0.1
  refine x_aload_n C 1 dX5_hasCueAbove_0 rfl rfl ?_
  refine xc_callV_i C 4 0 0 0 0 9 0 (cC_placeAbove hl hN) rfl gX5_hasCueAbove_X5_placeAbove ⟨rfl, by decide, by decide, rfl⟩ ⟨Nat.le_of_ble_eq_true rfl, Nat.le_of_ble_eq_true rfl⟩ rfl (by decide) (show 0 < 1 by decide) rfl rfl rfl (Nat.le_of_ble_eq_true rfl) ⟨Nat.le_of_ble_eq_true rfl, Nat.le_of_ble_eq_true rfl⟩ dX5_hasCueAbove_1 rfl rfl rfl (fun r1 w1 h1 => ?_)
  obtain ⟨rfl, rfl⟩ := h1
  refine x_aload_n C 5 dX5_hasCueAbove_4 rfl rfl ?_
  refine xc_get C 8 0 0 (by decide) (show 0 < 1 by decide) rfl fg_X5_hasCueAbove_10 rfl dX5_hasCueAbove_5 rfl ?_
  refine xc_callV_i C 11 0 0 3 0 3 0 (cC_size hl (j := 0) (by decide)) rfl gX5_hasCueAbove_Jx4a65c_size_8abf5 ⟨rfl, by decide, by decide, rfl⟩ ⟨Nat.le_of_ble_eq_true rfl, Nat.le_of_ble_eq_true rfl⟩ rfl (by decide) (show 0 < 4 by decide) rfl rfl rfl (Nat.le_of_ble_eq_true rfl) ⟨Nat.le_of_ble_eq_true rfl, Nat.le_of_ble_eq_true rfl⟩ dX5_hasCueAbove_8 rfl rfl rfl (fun r2 w2 h2 => ?_)
  obtain ⟨rfl, rfl⟩ := h2
  have h16 := hN.2.1
  have hle := poC_le S (n 0) (S 0 0 0 + 1)
  refine x_icmp_ge C 18 14 dX5_hasCueAbove_11 (by decide) rfl (fun zk11 => ?_) (fun zk11 => ?_)
  · have zk11 := (nI_leI (a := (n 0)) (b := (poC S (n 0) (S 0 0 0 + 1))) (by omega) (by omega)).mp zk11
    refine x_iconst (v := (0)) C 19 dX5_hasCueAbove_18 (by decide) rfl ?_
    exact x_nret C0 rfl (rfl) dX5_hasCueAbove_19 (Nat.le_of_ble_eq_true rfl) (Nat.le_of_ble_eq_true rfl) ⟨_, rfl, ⟨by first | (rw [decide_eq_true (show (poC S (n 0) (S 0 0 0 + 1)) < n 0 by omega)]; rfl) | (rw [decide_eq_false (show ¬ (poC S (n 0) (S 0 0 0 + 1)) < n 0 by omega)]; rfl), rfl⟩⟩
  · have zk11 := mt (nI_leI (a := (n 0)) (b := (poC S (n 0) (S 0 0 0 + 1))) (by omega) (by omega)).mpr zk11
    refine x_iconst (v := (1)) C 15 dX5_hasCueAbove_14 (by decide) rfl ?_
    refine x_goto C 19 dX5_hasCueAbove_15 (by decide) ?_
    exact x_nret C0 rfl (rfl) dX5_hasCueAbove_19 (Nat.le_of_ble_eq_true rfl) (Nat.le_of_ble_eq_true rfl) ⟨_, rfl, ⟨by first | (rw [decide_eq_true (show (poC S (n 0) (S 0 0 0 + 1)) < n 0 by omega)]; rfl) | (rw [decide_eq_false (show ¬ (poC S (n 0) (S 0 0 0 + 1)) < n 0 by omega)]; rfl), rfl⟩⟩
set_option maxRecDepth 100000 in
set_option maxHeartbeats 4000000 in
theorem cC_hasCueBelow (hl : l.stackTraces = false) (hN : CN n cap)  : Ct (gm D a E0) l yX5_hasCueBelow wsX5_hasCueBelow { frames := 24, cells := 0, slots := 0, locals := 600 } [.ref (A 0 0)] (wC a E0 n cap A g en S) (qI fun v w => v = bI (decide (0 < (poC S (n 0) (S 0 0 0)))) ∧ w = wC a E0 n cap A g en S) noX := by
  refine Ct.of [some (.ref (A 0 0))] rfl hl (by decide) (Nat.le_of_ble_eq_true rfl) rfl (fun φ C0 => ?_)
  have C := C0.1
  refine x_aload_n C 1 dX5_hasCueBelow_0 rfl rfl ?_
  refine xc_callV_i C 4 0 0 0 0 9 0 (cC_placeBelow hl hN) rfl gX5_hasCueBelow_X5_placeBelow ⟨rfl, by decide, by decide, rfl⟩ ⟨Nat.le_of_ble_eq_true rfl, Nat.le_of_ble_eq_true rfl⟩ rfl (by decide) (show 0 < 1 by decide) rfl rfl rfl (Nat.le_of_ble_eq_true rfl) ⟨Nat.le_of_ble_eq_true rfl, Nat.le_of_ble_eq_true rfl⟩ dX5_hasCueBelow_1 rfl rfl rfl (fun r1 w1 h1 => ?_)
  obtain ⟨rfl, rfl⟩ := h1
  have h16 := hN.2.1
  have hle := poC_le S (n 0) (S 0 0 0)
  have hkn := kd_neg (k := (poC S (n 0) (S 0 0 0))) (by omega)
  refine x_if_lt C 11 7 dX5_hasCueBelow_4 (by decide) rfl (fun zk4 => ?_) (fun zk4 => ?_)
  · refine x_iconst (v := (0)) C 12 dX5_hasCueBelow_11 (by decide) rfl ?_
    exact x_nret C0 rfl (rfl) dX5_hasCueBelow_12 (Nat.le_of_ble_eq_true rfl) (Nat.le_of_ble_eq_true rfl) ⟨_, rfl, ⟨by first | (rw [decide_eq_false (show ¬ 0 < (poC S (n 0) (S 0 0 0)) from fun q => absurd (hkn.mp zk4) (by omega))]; rfl) | (rw [decide_eq_true (show 0 < (poC S (n 0) (S 0 0 0)) from Nat.pos_of_ne_zero fun q => zk4 (hkn.mpr q))]; rfl), rfl⟩⟩
  · refine x_iconst (v := (1)) C 8 dX5_hasCueBelow_7 (by decide) rfl ?_
    refine x_goto C 12 dX5_hasCueBelow_8 (by decide) ?_
    exact x_nret C0 rfl (rfl) dX5_hasCueBelow_12 (Nat.le_of_ble_eq_true rfl) (Nat.le_of_ble_eq_true rfl) ⟨_, rfl, ⟨by first | (rw [decide_eq_false (show ¬ 0 < (poC S (n 0) (S 0 0 0)) from fun q => absurd (hkn.mp zk4) (by omega))]; rfl) | (rw [decide_eq_true (show 0 < (poC S (n 0) (S 0 0 0)) from Nat.pos_of_ne_zero fun q => zk4 (hkn.mpr q))]; rfl), rfl⟩⟩
theorem fg_X5_trackedAt_10 : gF RX5 wsX5_trackedAt 10 9 0 := ⟨RX5, TX5, 11, "StageConsole", rfl, fun w h => (List.mem_cons_of_mem _ (List.mem_append_left _ (List.mem_append_left _ (List.mem_append_left _ (List.mem_append_right _ h))))), by decide, (List.mem_cons_of_mem _ (List.mem_append_left _ (List.mem_append_left _ (List.mem_append_left _ (List.mem_append_left _ (List.mem_of_getElem? (i := 0) rfl)))))), Or.inl rfl⟩
theorem fg_X5_trackedAt_117 : gF RX5 wsX5_trackedAt 117 5 4 := ⟨RX1, TX1, 5, "StageConsole$Cue", rfl, fun w h => (List.mem_cons_of_mem _ (List.mem_append_left _ (List.mem_append_left _ (List.mem_append_right _ h)))), by decide, (List.mem_cons_of_mem _ (List.mem_append_left _ (List.mem_append_left _ (List.mem_append_left _ (List.mem_append_left _ (List.mem_of_getElem? (i := 2) rfl)))))), Or.inl rfl⟩
theorem fg_X5_trackedAt_125 : gF RX5 wsX5_trackedAt 125 5 3 := ⟨RX1, TX1, 5, "StageConsole$Cue", rfl, fun w h => (List.mem_cons_of_mem _ (List.mem_append_left _ (List.mem_append_left _ (List.mem_append_right _ h)))), by decide, (List.mem_cons_of_mem _ (List.mem_append_left _ (List.mem_append_left _ (List.mem_append_left _ (List.mem_append_left _ (List.mem_of_getElem? (i := 3) rfl)))))), Or.inl rfl⟩
set_option maxRecDepth 100000 in
set_option maxHeartbeats 4000000 in
theorem cC_trackedAt (hl : l.stackTraces = false) {p c : Nat} (hN : CN n cap) (hp : p < n 0) (hc : c < 12) : Ct (gm D a E0) l yX5_trackedAt wsX5_trackedAt { frames := 16, cells := 0, slots := 0, locals := 400 } [.ref (A 0 0), .int (nI p), .int (nI c)] (wC a E0 n cap A g en S) (qI fun v w => v = trC S c (p + 1) ∧ w = wC a E0 n cap A g en S) noX := by
  refine Ct.of [some (.ref (A 0 0)), some (.int (nI p)), some (.int (nI c)), none, none] rfl hl (by decide) (Nat.le_of_ble_eq_true rfl) rfl (fun φ C0 => ?_)
  have C := C0.1
  refine x_iload_n C 1 dX5_trackedAt_0 rfl rfl ?_
  refine x_istore_n C 2 dX5_trackedAt_1 (by decide) rfl rfl ?_
  have lp2 : ∀ (k : Nat), k ≤ n 0 → trC S c (p + 1) = trC S c k → X φ 2 [some (.ref (A 0 0)), some (.int (nI p)), some (.int (nI c)), some (.int (kd k)), none] [] (wC a E0 n cap A g en S) 0 0 := by
    intro k
    induction k with
    | zero =>
      intro hi hr
      refine x_ls (show _ = [some (.ref (A 0 0)), some (.int (nI p)), some (.int (nI c)), some (.int (-1)), none] from rfl) ?_
      refine x_iload_n C 3 dX5_trackedAt_2 rfl rfl ?_
      have h16 := hN.2.1
      refine x_if_lt C 54 6 dX5_trackedAt_3 (by decide) rfl (fun zk3 => ?_) (fun zk3 => ?_)
      · refine x_iconst (v := (0)) C 55 dX5_trackedAt_54 (by decide) rfl ?_
        exact x_zret C0 dX5_trackedAt_55 (Nat.le_of_ble_eq_true rfl) (Nat.le_of_ble_eq_true rfl) ⟨_, rfl, ⟨by rw [hr]; rfl, rfl⟩⟩
      · exact absurd zk3 (by decide)
    | succ k ih =>
      intro hi hr
      refine x_ls (show _ = [some (.ref (A 0 0)), some (.int (nI p)), some (.int (nI c)), some (.int (nI k)), none] from rfl) ?_
      refine x_iload_n C 3 dX5_trackedAt_2 rfl rfl ?_
      have h16 := hN.2.1
      refine x_if_lt C 54 6 dX5_trackedAt_3 (by decide) rfl (fun zk3 => ?_) (fun zk3 => ?_)
      · have zk3 := (nI_ltI (a := k) (b := 0) (by omega) (by omega)).mp zk3
        exfalso; omega
      · have zk3 := mt (nI_ltI (a := k) (b := 0) (by omega) (by omega)).mpr zk3
        refine x_aload_n C 7 dX5_trackedAt_6 rfl rfl ?_
        refine xc_get C 10 0 0 (by decide) (show 0 < 1 by decide) rfl fg_X5_trackedAt_10 rfl dX5_trackedAt_7 rfl ?_
        refine x_iload_n C 11 dX5_trackedAt_10 rfl rfl ?_
        refine xc_callV_q C 14 0 0 3 0 3 1 (cC_get hl (j := 0) (by decide) (i := k) (by omega) (hN.1 0 (by decide)).1 (hN.1 0 (by decide)).2) rfl gX5_trackedAt_Jx4a65c_get_915e3 ⟨rfl, by decide, by decide, rfl⟩ ⟨Nat.le_of_ble_eq_true rfl, Nat.le_of_ble_eq_true rfl⟩ rfl (by decide) (show 0 < 4 by decide) rfl rfl rfl (Nat.le_of_ble_eq_true rfl) ⟨Nat.le_of_ble_eq_true rfl, Nat.le_of_ble_eq_true rfl⟩ dX5_trackedAt_11 rfl rfl rfl (fun r1 w1 h1 => ?_)
        obtain ⟨rfl, rfl⟩ := h1
        refine x_topq (show _ = Value.ref (A 5 k) from rfl) ?_
        refine xc_castS C 17 5 k (by decide) (show k < n 0 from by omega) rfl rfl (List.mem_cons_of_mem _ (List.mem_append_left _ (List.mem_append_left _ (List.mem_append_left _ (List.mem_append_left _ (List.mem_of_getElem? (i := 1) rfl)))))) dX5_trackedAt_14 rfl ?_
        refine x_astore C 19 dX5_trackedAt_17 (by decide) rfl rfl ?_
        refine x_aload C 21 dX5_trackedAt_19 rfl rfl ?_
        refine xc_get C 24 5 k (by decide) (show k < n 0 from by omega) rfl fg_X5_trackedAt_117 rfl dX5_trackedAt_21 rfl ?_
        refine x_iload_n C 25 dX5_trackedAt_24 rfl rfl ?_
        refine xc_iald C 26 6 k c (by decide) (show k < n 0 from by omega) rfl rfl (by omega) dX5_trackedAt_25 rfl ?_
        refine x_iconst (v := (-1)) C 27 dX5_trackedAt_26 (by decide) rfl ?_
        refine x_icmp_eq C 38 30 dX5_trackedAt_27 (by decide) rfl (fun zk27 => ?_) (fun zk27 => ?_)
        · refine x_aload C 40 dX5_trackedAt_38 rfl rfl ?_
          refine xc_get C 43 5 k (by decide) (show k < n 0 from by omega) rfl fg_X5_trackedAt_125 rfl dX5_trackedAt_40 rfl ?_
          refine x_if_eq C 48 46 dX5_trackedAt_43 (by decide) rfl (fun zk43 => ?_) (fun zk43 => ?_)
          · refine x_iinc (v := kd k) C 51 rfl dX5_trackedAt_48 (kd_dec _) (by decide) rfl rfl ?_
            refine x_goto C 2 dX5_trackedAt_51 (by decide) ?_
            refine x_dropn 4 ?_
            exact ih (by omega) (by rw [hr, trC, if_pos zk27, if_pos zk43])
          · refine x_iconst (v := (0)) C 47 dX5_trackedAt_46 (by decide) rfl ?_
            exact x_zret C0 dX5_trackedAt_47 (Nat.le_of_ble_eq_true rfl) (Nat.le_of_ble_eq_true rfl) ⟨_, rfl, ⟨by rw [hr, trC, if_pos zk27, if_neg zk43], rfl⟩⟩
        · refine x_aload C 32 dX5_trackedAt_30 rfl rfl ?_
          refine xc_get C 35 5 k (by decide) (show k < n 0 from by omega) rfl fg_X5_trackedAt_117 rfl dX5_trackedAt_32 rfl ?_
          refine x_iload_n C 36 dX5_trackedAt_35 rfl rfl ?_
          refine xc_iald C 37 6 k c (by decide) (show k < n 0 from by omega) rfl rfl (by omega) dX5_trackedAt_36 rfl ?_
          exact x_zret C0 dX5_trackedAt_37 (Nat.le_of_ble_eq_true rfl) (Nat.le_of_ble_eq_true rfl) ⟨_, rfl, ⟨by rw [hr, trC, if_neg zk27], rfl⟩⟩
  exact lp2 (p + 1) (by omega) rfl
end CC
