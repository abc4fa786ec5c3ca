section MM
variable {l : Launch} {Γ : Gm} {D : va_G} {a : Nat → ClassId} {E0 m : Nat} {am : Nat → Nat} {I : Nat → Nat → Int32} {en : Int64}
theorem fp_X6_currentCue_98 : pF RX6 wsX6_currentCue 98 10 35 false (.int) := ⟨RX6, TX6, 36, "StageConsoleModel", tyX6, rfl, fun w h => (List.mem_cons_of_mem _ (List.mem_append_right _ h)), by decide, (List.mem_cons_of_mem _ (List.mem_append_left _ (List.mem_of_getElem? (i := 0) rfl))), Or.inl rfl, tyX6_ok, nmX6, rfl, rfl, fun h => absurd h (by decide)⟩
theorem fg_X6_currentCue_143 : gF RX6 wsX6_currentCue 143 10 6 := ⟨RX6, TX6, 36, "StageConsoleModel", rfl, fun w h => (List.mem_cons_of_mem _ (List.mem_append_right _ h)), by decide, (List.mem_cons_of_mem _ (List.mem_append_left _ (List.mem_of_getElem? (i := 1) rfl))), Or.inl rfl⟩
set_option maxRecDepth 100000 in
set_option maxHeartbeats 4000000 in
theorem cM_currentCue (hl : l.stackTraces = false)  : Ct (gm D a E0) l yX6_currentCue wsX6_currentCue { frames := 4, cells := 0, slots := 0, locals := 100 } [.ref m] (wM m am a I en) (qI fun v w => v = I 30 1 ∧ w = wM m am a (uI I 30 8 0) en) noX := by
  refine Ct.of [some (.ref m)] rfl hl (by decide) (Nat.le_of_ble_eq_true rfl) rfl (fun φ C0 => ?_)
  have C := C0.1
  refine x_aload_n C 1 dX6_currentCue_0 rfl rfl ?_
  refine x_iconst (v := (0)) C 2 dX6_currentCue_1 (by decide) rfl ?_
  refine xm_put C 5 8 (by decide) fp_X6_currentCue_98 rfl rfl dX6_currentCue_2 rfl ?_
  refine x_aload_n C 6 dX6_currentCue_5 rfl rfl ?_
  refine xm_get C 9 fg_X6_currentCue_143 rfl dX6_currentCue_6 rfl ?_
  exact x_zret C0 dX6_currentCue_9 (Nat.le_of_ble_eq_true rfl) (Nat.le_of_ble_eq_true rfl) ⟨_, rfl, ⟨rfl, rfl⟩⟩
theorem fp_X6_energy_98 : pF RX6 wsX6_energy 98 10 35 false (.int) := ⟨RX6, TX6, 36, "StageConsoleModel", tyX6, rfl, fun w h => (List.mem_cons_of_mem _ (List.mem_append_right _ h)), by decide, (List.mem_cons_of_mem _ (List.mem_append_left _ (List.mem_of_getElem? (i := 0) rfl))), Or.inl rfl, tyX6_ok, nmX6, rfl, rfl, fun h => absurd h (by decide)⟩
theorem fg_X6_energy_158 : gF RX6 wsX6_energy 158 10 34 := ⟨RX6, TX6, 36, "StageConsoleModel", rfl, fun w h => (List.mem_cons_of_mem _ (List.mem_append_right _ h)), by decide, (List.mem_cons_of_mem _ (List.mem_append_left _ (List.mem_of_getElem? (i := 1) rfl))), Or.inl rfl⟩
set_option maxRecDepth 100000 in
set_option maxHeartbeats 4000000 in
theorem cM_energy (hl : l.stackTraces = false)  : Ct (gm D a E0) l yX6_energy wsX6_energy { frames := 4, cells := 0, slots := 0, locals := 100 } [.ref m] (wM m am a I en) (qJ fun v w => v = en ∧ w = wM m am a (uI I 30 8 0) en) noX := by
  refine Ct.of [some (.ref m)] rfl hl (by decide) (Nat.le_of_ble_eq_true rfl) rfl (fun φ C0 => ?_)
  have C := C0.1
  refine x_aload_n C 1 dX6_energy_0 rfl rfl ?_
  refine x_iconst (v := (0)) C 2 dX6_energy_1 (by decide) rfl ?_
  refine xm_put C 5 8 (by decide) fp_X6_energy_98 rfl rfl dX6_energy_2 rfl ?_
  refine x_aload_n C 6 dX6_energy_5 rfl rfl ?_
  refine xm_get C 9 fg_X6_energy_158 rfl dX6_energy_6 rfl ?_
  exact x_lret C0 dX6_energy_9 (Nat.le_of_ble_eq_true rfl) (Nat.le_of_ble_eq_true rfl) ⟨_, rfl, ⟨rfl, rfl⟩⟩
theorem fp_X6_cueLevel_98 : pF RX6 wsX6_cueLevel 98 10 35 false (.int) := ⟨RX6, TX6, 36, "StageConsoleModel", tyX6, rfl, fun w h => (List.mem_cons_of_mem _ (List.mem_append_left _ (List.mem_append_left _ (List.mem_append_right _ h)))), by decide, (List.mem_cons_of_mem _ (List.mem_append_left _ (List.mem_append_left _ (List.mem_append_left _ (List.mem_of_getElem? (i := 0) rfl))))), Or.inl rfl, tyX6_ok, nmX6, rfl, rfl, fun h => absurd h (by decide)⟩
theorem fg_X6_cueLevel_98 : gF RX6 wsX6_cueLevel 98 10 35 := ⟨RX6, TX6, 36, "StageConsoleModel", rfl, fun w h => (List.mem_cons_of_mem _ (List.mem_append_left _ (List.mem_append_left _ (List.mem_append_right _ h)))), by decide, (List.mem_cons_of_mem _ (List.mem_append_left _ (List.mem_append_left _ (List.mem_append_left _ (List.mem_of_getElem? (i := 0) rfl))))), Or.inl rfl⟩
set_option maxRecDepth 100000 in
set_option maxHeartbeats 4000000 in
theorem cM_cueLevel_1 (hl : l.stackTraces = false) {I : Nat → Nat → Int32} {ch : Int32} (hc : chB ch = false) : Ct (gm D a E0) l yX6_cueLevel wsX6_cueLevel { frames := 12, cells := 0, slots := 0, locals := 300 } [.ref m, .int ch] (wM m am a I en) (qI fun v w => v = -1 ∧ w = wM m am a (uI I 30 8 1) en) noX := by
  refine Ct.of [some (.ref m), some (.int ch)] rfl hl (by decide) (Nat.le_of_ble_eq_true rfl) rfl (fun φ C0 => ?_)
  have C := C0.1
  refine x_aload_n C 1 dX6_cueLevel_0 rfl rfl ?_
  refine x_iload_n C 2 dX6_cueLevel_1 rfl rfl ?_
  refine x_callS0_i C 5 0 0 1 (cM_isChannel hl _ _) rfl gX6_cueLevel_X6_isChannel ⟨by decide, by decide, rfl⟩ ⟨Nat.le_of_ble_eq_true rfl, Nat.le_of_ble_eq_true rfl⟩ rfl rfl (Nat.le_of_ble_eq_true rfl) ⟨Nat.le_of_ble_eq_true rfl, Nat.le_of_ble_eq_true rfl⟩ dX6_cueLevel_2 rfl rfl rfl (fun r1 w1 h1 => ?_)
  obtain ⟨rfl, rfl⟩ := h1
  refine x_top (show _ = (0 : Int32) from by rw [hc]; rfl) ?_
  refine x_if_eq C 12 8 dX6_cueLevel_5 (by decide) rfl (fun zk5 => ?_) (fun zk5 => ?_)
  · refine x_iconst (v := (1)) C 13 dX6_cueLevel_12 (by decide) rfl ?_
    refine xm_put C 16 8 (by decide) fp_X6_cueLevel_98 rfl rfl dX6_cueLevel_13 rfl ?_
    refine x_aload_n C 17 dX6_cueLevel_16 rfl rfl ?_
    refine xm_get C 20 fg_X6_cueLevel_98 rfl dX6_cueLevel_17 rfl ?_
    refine x_top (show _ = (1) from rfl) ?_
    refine x_if_ne C 31 23 dX6_cueLevel_20 (by decide) rfl (fun zk20 => ?_) (fun zk20 => ?_)
    · refine x_iconst (v := (-1)) C 32 dX6_cueLevel_31 (by decide) rfl ?_
      exact x_zret C0 dX6_cueLevel_32 (Nat.le_of_ble_eq_true rfl) (Nat.le_of_ble_eq_true rfl) ⟨_, rfl, ⟨rfl, rfl⟩⟩
    · exact absurd zk20 (by decide)
  · exact absurd zk5 (by decide)
set_option maxRecDepth 100000 in
set_option maxHeartbeats 4000000 in
theorem cM_cueLevel_0 (hl : l.stackTraces = false) {I : Nat → Nat → Int32} {c : Nat} (hc : c < 12) (ht : ¬ I 10 c = 0 → ∃ t, 1 ≤ t ∧ t ≤ 40 ∧ I 8 c = nI t)  : Ct (gm D a E0) l yX6_cueLevel wsX6_cueLevel { frames := 12, cells := 0, slots := 0, locals := 300 } [.ref m, .int (nI c)] (wM m am a I en) (qI fun v w => v = fadF (uI I 30 8 0) c ∧ w = wM m am a (uI I 30 8 0) en) noX := by
  refine Ct.of [some (.ref m), some (.int (nI c))] rfl hl (by decide) (Nat.le_of_ble_eq_true rfl) rfl (fun φ C0 => ?_)
  have C := C0.1
  refine x_aload_n C 1 dX6_cueLevel_0 rfl rfl ?_
  refine x_iload_n C 2 dX6_cueLevel_1 rfl rfl ?_
  refine x_callS0_i C 5 0 0 1 (cM_isChannel hl _ _) rfl gX6_cueLevel_X6_isChannel ⟨by decide, by decide, rfl⟩ ⟨Nat.le_of_ble_eq_true rfl, Nat.le_of_ble_eq_true rfl⟩ rfl rfl (Nat.le_of_ble_eq_true rfl) ⟨Nat.le_of_ble_eq_true rfl, Nat.le_of_ble_eq_true rfl⟩ dX6_cueLevel_2 rfl rfl rfl (fun r1 w1 h1 => ?_)
  obtain ⟨rfl, rfl⟩ := h1
  refine x_top (show _ = (1 : Int32) from by rw [chB_nI hc]; rfl) ?_
  refine x_if_eq C 12 8 dX6_cueLevel_5 (by decide) rfl (fun zk5 => ?_) (fun zk5 => ?_)
  · exact absurd zk5 (by decide)
  · refine x_iconst (v := (0)) C 9 dX6_cueLevel_8 (by decide) rfl ?_
    refine x_goto C 13 dX6_cueLevel_9 (by decide) ?_
    refine xm_put C 16 8 (by decide) fp_X6_cueLevel_98 rfl rfl dX6_cueLevel_13 rfl ?_
    refine x_aload_n C 17 dX6_cueLevel_16 rfl rfl ?_
    refine xm_get C 20 fg_X6_cueLevel_98 rfl dX6_cueLevel_17 rfl ?_
    refine x_top (show _ = (0) from rfl) ?_
    refine x_if_ne C 31 23 dX6_cueLevel_20 (by decide) rfl (fun zk20 => ?_) (fun zk20 => ?_)
    · exact absurd zk20 (by decide)
    · refine x_aload_n C 24 dX6_cueLevel_23 rfl rfl ?_
      refine x_iload_n C 25 dX6_cueLevel_24 rfl rfl ?_
      refine x_callV0_i C 28 0 0 0 10 1 (cM_faded hl _ hc ht) rfl gX6_cueLevel_X6_faded ⟨rfl, by decide, by decide, rfl⟩ ⟨Nat.le_of_ble_eq_true rfl, Nat.le_of_ble_eq_true rfl⟩ rfl rfl rfl rfl (Nat.le_of_ble_eq_true rfl) ⟨Nat.le_of_ble_eq_true rfl, Nat.le_of_ble_eq_true rfl⟩ dX6_cueLevel_25 rfl rfl rfl (fun r2 w2 h2 => ?_)
      obtain ⟨rfl, rfl⟩ := h2
      refine x_goto C 32 dX6_cueLevel_28 (by decide) ?_
      exact x_zret C0 dX6_cueLevel_32 (Nat.le_of_ble_eq_true rfl) (Nat.le_of_ble_eq_true rfl) ⟨_, rfl, ⟨rfl, rfl⟩⟩
theorem fp_X6_ticksLeft_98 : pF RX6 wsX6_ticksLeft 98 10 35 false (.int) := ⟨RX6, TX6, 36, "StageConsoleModel", tyX6, rfl, fun w h => (List.mem_cons_of_mem _ (List.mem_append_left _ (List.mem_append_right _ h))), by decide, (List.mem_cons_of_mem _ (List.mem_append_left _ (List.mem_append_left _ (List.mem_of_getElem? (i := 0) rfl)))), Or.inl rfl, tyX6_ok, nmX6, rfl, rfl, fun h => absurd h (by decide)⟩
theorem fg_X6_ticksLeft_42 : gF RX6 wsX6_ticksLeft 42 10 12 := ⟨RX6, TX6, 36, "StageConsoleModel", rfl, fun w h => (List.mem_cons_of_mem _ (List.mem_append_left _ (List.mem_append_right _ h))), by decide, (List.mem_cons_of_mem _ (List.mem_append_left _ (List.mem_append_left _ (List.mem_of_getElem? (i := 1) rfl)))), Or.inl rfl⟩
theorem fg_X6_ticksLeft_36 : gF RX6 wsX6_ticksLeft 36 10 10 := ⟨RX6, TX6, 36, "StageConsoleModel", rfl, fun w h => (List.mem_cons_of_mem _ (List.mem_append_left _ (List.mem_append_right _ h))), by decide, (List.mem_cons_of_mem _ (List.mem_append_left _ (List.mem_append_left _ (List.mem_of_getElem? (i := 2) rfl)))), Or.inl rfl⟩
theorem fg_X6_ticksLeft_140 : gF RX6 wsX6_ticksLeft 140 10 32 := ⟨RX6, TX6, 36, "StageConsoleModel", rfl, fun w h => (List.mem_cons_of_mem _ (List.mem_append_left _ (List.mem_append_right _ h))), by decide, (List.mem_cons_of_mem _ (List.mem_append_left _ (List.mem_append_left _ (List.mem_of_getElem? (i := 3) rfl)))), Or.inl rfl⟩
theorem fg_X6_ticksLeft_33 : gF RX6 wsX6_ticksLeft 33 10 9 := ⟨RX6, TX6, 36, "StageConsoleModel", rfl, fun w h => (List.mem_cons_of_mem _ (List.mem_append_left _ (List.mem_append_right _ h))), by decide, (List.mem_cons_of_mem _ (List.mem_append_left _ (List.mem_append_left _ (List.mem_of_getElem? (i := 4) rfl)))), Or.inl rfl⟩
set_option maxRecDepth 100000 in
set_option maxHeartbeats 4000000 in
theorem cM_ticksLeft (hl : l.stackTraces = false) {I : Nat → Nat → Int32}  : Ct (gm D a E0) l yX6_ticksLeft wsX6_ticksLeft { frames := 4, cells := 0, slots := 0, locals := 100 } [.ref m] (wM m am a I en) (qI fun v w => v = tlL I 12 0 0 ∧ w = wM m am a (uI I 30 8 0) en) noX := by
  refine Ct.of [some (.ref m), none, none] rfl hl (by decide) (Nat.le_of_ble_eq_true rfl) rfl (fun φ C0 => ?_)
  have C := C0.1
  refine x_aload_n C 1 dX6_ticksLeft_0 rfl rfl ?_
  refine x_iconst (v := (0)) C 2 dX6_ticksLeft_1 (by decide) rfl ?_
  refine xm_put C 5 8 (by decide) fp_X6_ticksLeft_98 rfl rfl dX6_ticksLeft_2 rfl ?_
  refine x_iconst (v := (0)) C 6 dX6_ticksLeft_5 (by decide) rfl ?_
  refine x_istore_n C 7 dX6_ticksLeft_6 (by decide) rfl rfl ?_
  refine x_iconst (v := (0)) C 8 dX6_ticksLeft_7 (by decide) rfl ?_
  refine x_istore_n C 9 dX6_ticksLeft_8 (by decide) rfl rfl ?_
  have lp9 : ∀ (n i : Nat) (v : Int32), i + n = 12 → tlL I 12 0 0 = tlL I n i v → X φ 9 [some (.ref m), some (.int v), some (.int (nI i))] [] (wM m am a (uI I 30 8 0) en) 0 0 := by
    intro n
    induction n with
    | zero =>
      intro i v hi hr
      refine x_iload_n C 10 dX6_ticksLeft_9 rfl rfl ?_
      refine x_bipush (v := (12)) C 12 dX6_ticksLeft_10 (by decide) rfl ?_
      refine x_icmp_ge C 57 15 dX6_ticksLeft_12 (by decide) rfl (fun zk12 => ?_) (fun zk12 => ?_)
      · have zk12 := (nI_leI (a := 12) (b := i) (by omega) (by omega)).mp zk12
        refine x_iload_n C 58 dX6_ticksLeft_57 rfl rfl ?_
        exact x_zret C0 dX6_ticksLeft_58 (Nat.le_of_ble_eq_true rfl) (Nat.le_of_ble_eq_true rfl) ⟨_, rfl, ⟨by rw [hr]; rfl, rfl⟩⟩
      · have zk12 := mt (nI_leI (a := 12) (b := i) (by omega) (by omega)).mpr zk12
        exfalso; omega
    | succ n ih =>
      intro i v hi hr
      refine x_iload_n C 10 dX6_ticksLeft_9 rfl rfl ?_
      refine x_bipush (v := (12)) C 12 dX6_ticksLeft_10 (by decide) rfl ?_
      refine x_icmp_ge C 57 15 dX6_ticksLeft_12 (by decide) rfl (fun zk12 => ?_) (fun zk12 => ?_)
      · have zk12 := (nI_leI (a := 12) (b := i) (by omega) (by omega)).mp zk12
        exfalso; omega
      · have zk12 := mt (nI_leI (a := 12) (b := i) (by omega) (by omega)).mpr zk12
        refine x_iload_n C 16 dX6_ticksLeft_15 rfl rfl ?_
        refine x_aload_n C 17 dX6_ticksLeft_16 rfl rfl ?_
        refine xm_get C 20 fg_X6_ticksLeft_42 rfl dX6_ticksLeft_17 rfl ?_
        refine x_iload_n C 21 dX6_ticksLeft_20 rfl rfl ?_
        refine xm_zald C 22 10 12 (i) (by decide) rfl rfl rfl (by omega) dX6_ticksLeft_21 rfl ?_
        refine x_if_eq C 46 25 dX6_ticksLeft_22 (by decide) rfl (fun zk22 => ?_) (fun zk22 => ?_)
        · refine x_iconst (v := (0)) C 47 dX6_ticksLeft_46 (by decide) rfl ?_
          refine x_mmax C 50 (List.mem_cons_of_mem _ (List.mem_append_left _ (List.mem_append_left _ (List.mem_of_getElem? (i := 5) rfl)))) (List.mem_cons_of_mem _ (List.mem_append_left _ (List.mem_append_left _ (List.mem_of_getElem? (i := 6) rfl)))) (List.mem_cons_of_mem _ (List.mem_append_left _ (List.mem_append_left _ (List.mem_of_getElem? (i := 7) rfl)))) (List.mem_cons_of_mem _ (List.mem_append_left _ (List.mem_append_left _ (List.mem_of_getElem? (i := 8) rfl)))) (Nat.le_of_ble_eq_true rfl) (Nat.le_of_ble_eq_true rfl) (Nat.le_of_ble_eq_true rfl) (Nat.le_of_ble_eq_true rfl) dX6_ticksLeft_47 rfl ?_
          refine x_nm (fun u eu => ?_)
          refine x_istore_n C 51 dX6_ticksLeft_50 (by decide) rfl rfl ?_
          refine x_iinc (v := nI (i + 1)) C 54 rfl dX6_ticksLeft_51 (iinc1 _) (by decide) rfl rfl ?_
          refine x_goto C 9 dX6_ticksLeft_54 (by decide) ?_
          exact ih (i + 1) _ (by omega) (by rw [hr, tlL]; first | (rw [if_pos (show I 10 i = 0 from zk22), eu]; rfl) | (rw [if_neg (show ¬ I 10 i = 0 from zk22), eu]; rfl))
        · refine x_aload_n C 26 dX6_ticksLeft_25 rfl rfl ?_
          refine xm_get C 29 fg_X6_ticksLeft_36 rfl dX6_ticksLeft_26 rfl ?_
          refine x_iload_n C 30 dX6_ticksLeft_29 rfl rfl ?_
          refine xm_iald C 31 8 12 (i) (by decide) rfl rfl rfl (by omega) dX6_ticksLeft_30 rfl ?_
          refine x_aload_n C 32 dX6_ticksLeft_31 rfl rfl ?_
          refine xm_get C 35 fg_X6_ticksLeft_140 rfl dX6_ticksLeft_32 rfl ?_
          refine x_aload_n C 36 dX6_ticksLeft_35 rfl rfl ?_
          refine xm_get C 39 fg_X6_ticksLeft_33 rfl dX6_ticksLeft_36 rfl ?_
          refine x_iload_n C 40 dX6_ticksLeft_39 rfl rfl ?_
          refine xm_iald C 41 7 12 (i) (by decide) rfl rfl rfl (by omega) dX6_ticksLeft_40 rfl ?_
          refine x_isub C 42 dX6_ticksLeft_41 rfl ?_
          refine x_isub C 43 dX6_ticksLeft_42 rfl ?_
          refine x_goto C 47 dX6_ticksLeft_43 (by decide) ?_
          refine x_mmax C 50 (List.mem_cons_of_mem _ (List.mem_append_left _ (List.mem_append_left _ (List.mem_of_getElem? (i := 5) rfl)))) (List.mem_cons_of_mem _ (List.mem_append_left _ (List.mem_append_left _ (List.mem_of_getElem? (i := 6) rfl)))) (List.mem_cons_of_mem _ (List.mem_append_left _ (List.mem_append_left _ (List.mem_of_getElem? (i := 7) rfl)))) (List.mem_cons_of_mem _ (List.mem_append_left _ (List.mem_append_left _ (List.mem_of_getElem? (i := 8) rfl)))) (Nat.le_of_ble_eq_true rfl) (Nat.le_of_ble_eq_true rfl) (Nat.le_of_ble_eq_true rfl) (Nat.le_of_ble_eq_true rfl) dX6_ticksLeft_47 rfl ?_
          refine x_nm (fun u eu => ?_)
          refine x_istore_n C 51 dX6_ticksLeft_50 (by decide) rfl rfl ?_
          refine x_iinc (v := nI (i + 1)) C 54 rfl dX6_ticksLeft_51 (iinc1 _) (by decide) rfl rfl ?_
          refine x_goto C 9 dX6_ticksLeft_54 (by decide) ?_
          exact ih (i + 1) _ (by omega) (by rw [hr, tlL]; first | (rw [if_pos (show I 10 i = 0 from zk22), eu]; rfl) | (rw [if_neg (show ¬ I 10 i = 0 from zk22), eu]; rfl))
  exact lp9 12 0 0 rfl rfl
theorem fg_X6_addGroup_165 : gF RX6 wsX6_addGroup 165 10 18 := ⟨RX6, TX6, 36, "StageConsoleModel", rfl, fun w h => (List.mem_cons_of_mem _ (List.mem_append_right _ h)), by decide, (List.mem_cons_of_mem _ (List.mem_append_left _ (List.mem_of_getElem? (i := 0) rfl))), Or.inl rfl⟩
theorem fp_X6_addGroup_98 : pF RX6 wsX6_addGroup 98 10 35 false (.int) := ⟨RX6, TX6, 36, "StageConsoleModel", tyX6, rfl, fun w h => (List.mem_cons_of_mem _ (List.mem_append_right _ h)), by decide, (List.mem_cons_of_mem _ (List.mem_append_left _ (List.mem_of_getElem? (i := 1) rfl))), Or.inl rfl, tyX6_ok, nmX6, rfl, rfl, fun h => absurd h (by decide)⟩
theorem fg_X6_addGroup_98 : gF RX6 wsX6_addGroup 98 10 35 := ⟨RX6, TX6, 36, "StageConsoleModel", rfl, fun w h => (List.mem_cons_of_mem _ (List.mem_append_right _ h)), by decide, (List.mem_cons_of_mem _ (List.mem_append_left _ (List.mem_of_getElem? (i := 1) rfl))), Or.inl rfl⟩
set_option maxRecDepth 100000 in
set_option maxHeartbeats 4000000 in
theorem cM_addGroup_1 (hl : l.stackTraces = false) {I : Nat → Nat → Int32} {ng : Nat} (h2 : I 30 2 = nI ng) (hg : ng ≤ 5) (hf : ng = 5) : Ct (gm D a E0) l yX6_addGroup wsX6_addGroup { frames := 12, cells := 0, slots := 0, locals := 300 } [.ref m] (wM m am a I en) (qI fun v w => v = -1 ∧ w = wM m am a (uI I 30 8 1) en) noX := by
  refine Ct.of [some (.ref m)] rfl hl (by decide) (Nat.le_of_ble_eq_true rfl) rfl (fun φ C0 => ?_)
  have C := C0.1
  refine x_aload_n C 1 dX6_addGroup_0 rfl rfl ?_
  refine x_aload_n C 2 dX6_addGroup_1 rfl rfl ?_
  refine xm_get C 5 fg_X6_addGroup_165 rfl dX6_addGroup_2 rfl ?_
  refine x_top h2 ?_
  refine x_iconst (v := (5)) C 6 dX6_addGroup_5 (by decide) rfl ?_
  refine x_icmp_ne C 13 9 dX6_addGroup_6 (by decide) rfl (fun zk6 => ?_) (fun zk6 => ?_)
  · have zk6 := mt (nI_eq (a := ng) (b := 5) (by omega) (by omega)).mpr zk6
    exact absurd hf zk6
  · have zk6 := (nI_eq (a := ng) (b := 5) (by omega) (by omega)).mp zk6
    refine x_iconst (v := (1)) C 10 dX6_addGroup_9 (by decide) rfl ?_
    refine x_goto C 14 dX6_addGroup_10 (by decide) ?_
    refine xm_put C 17 8 (by decide) fp_X6_addGroup_98 rfl rfl dX6_addGroup_14 rfl ?_
    refine x_aload_n C 18 dX6_addGroup_17 rfl rfl ?_
    refine xm_get C 21 fg_X6_addGroup_98 rfl dX6_addGroup_18 rfl ?_
    refine x_top (show _ = (1) from rfl) ?_
    refine x_if_le C 26 24 dX6_addGroup_21 (by decide) rfl (fun zk21 => ?_) (fun zk21 => ?_)
    · exact absurd zk21 (by decide)
    · refine x_iconst (v := (-1)) C 25 dX6_addGroup_24 (by decide) rfl ?_
      exact x_zret C0 dX6_addGroup_25 (Nat.le_of_ble_eq_true rfl) (Nat.le_of_ble_eq_true rfl) ⟨_, rfl, ⟨rfl, rfl⟩⟩
theorem fp_X6_addGroup_165 : pF RX6 wsX6_addGroup 165 10 18 false (.int) := ⟨RX6, TX6, 36, "StageConsoleModel", tyX6, rfl, fun w h => (List.mem_cons_of_mem _ (List.mem_append_right _ h)), by decide, (List.mem_cons_of_mem _ (List.mem_append_left _ (List.mem_of_getElem? (i := 0) rfl))), Or.inl rfl, tyX6_ok, nmX6, rfl, rfl, fun h => absurd h (by decide)⟩
set_option maxRecDepth 100000 in
set_option maxHeartbeats 4000000 in
theorem cM_addGroup_0 (hl : l.stackTraces = false) {I : Nat → Nat → Int32} {ng : Nat} (h2 : I 30 2 = nI ng) (hg : ng ≤ 5) (hf : ng < 5) : Ct (gm D a E0) l yX6_addGroup wsX6_addGroup { frames := 8, cells := 0, slots := 0, locals := 200 } [.ref m] (wM m am a I en) (qI fun v w => v = nI ng ∧ w = wM m am a (uI (uI I 30 8 0) 30 2 (nI (ng + 1))) en) noX := by
  refine Ct.of [some (.ref m)] rfl hl (by decide) (Nat.le_of_ble_eq_true rfl) rfl (fun φ C0 => ?_)
  have C := C0.1
  refine x_aload_n C 1 dX6_addGroup_0 rfl rfl ?_
  refine x_aload_n C 2 dX6_addGroup_1 rfl rfl ?_
  refine xm_get C 5 fg_X6_addGroup_165 rfl dX6_addGroup_2 rfl ?_
  refine x_top h2 ?_
  refine x_iconst (v := (5)) C 6 dX6_addGroup_5 (by decide) rfl ?_
  refine x_icmp_ne C 13 9 dX6_addGroup_6 (by decide) rfl (fun zk6 => ?_) (fun zk6 => ?_)
  · have zk6 := mt (nI_eq (a := ng) (b := 5) (by omega) (by omega)).mpr zk6
    refine x_iconst (v := (0)) C 14 dX6_addGroup_13 (by decide) rfl ?_
    refine xm_put C 17 8 (by decide) fp_X6_addGroup_98 rfl rfl dX6_addGroup_14 rfl ?_
    refine x_aload_n C 18 dX6_addGroup_17 rfl rfl ?_
    refine xm_get C 21 fg_X6_addGroup_98 rfl dX6_addGroup_18 rfl ?_
    refine x_top (show _ = (0) from rfl) ?_
    refine x_if_le C 26 24 dX6_addGroup_21 (by decide) rfl (fun zk21 => ?_) (fun zk21 => ?_)
    · refine x_aload_n C 27 dX6_addGroup_26 rfl rfl ?_
      refine x_dup C 28 dX6_addGroup_27 rfl rfl ?_
      refine xm_get C 31 fg_X6_addGroup_165 rfl dX6_addGroup_28 rfl ?_
      refine x_top h2 ?_
      refine x_iconst (v := (1)) C 32 dX6_addGroup_31 (by decide) rfl ?_
      refine x_iadd C 33 dX6_addGroup_32 rfl ?_
      refine x_top (show _ = nI (ng + 1) from nI_add _ _) ?_
      refine xm_put C 36 2 (by decide) fp_X6_addGroup_165 rfl rfl dX6_addGroup_33 rfl ?_
      refine x_aload_n C 37 dX6_addGroup_36 rfl rfl ?_
      refine xm_get C 40 fg_X6_addGroup_165 rfl dX6_addGroup_37 rfl ?_
      refine x_top (show _ = (nI (ng + 1)) from rfl) ?_
      refine x_iconst (v := (1)) C 41 dX6_addGroup_40 (by decide) rfl ?_
      refine x_isub C 42 dX6_addGroup_41 rfl ?_
      refine x_top (nI_pred _) ?_
      exact x_zret C0 dX6_addGroup_42 (Nat.le_of_ble_eq_true rfl) (Nat.le_of_ble_eq_true rfl) ⟨_, rfl, ⟨rfl, rfl⟩⟩
    · exact absurd zk21 (by decide)
  · have zk6 := (nI_eq (a := ng) (b := 5) (by omega) (by omega)).mp zk6
    exfalso; omega
theorem fp_X6_setMember_98 : pF RX6 wsX6_setMember 98 10 35 false (.int) := ⟨RX6, TX6, 36, "StageConsoleModel", tyX6, rfl, fun w h => (List.mem_cons_of_mem _ (List.mem_append_left _ (List.mem_append_right _ h))), by decide, (List.mem_cons_of_mem _ (List.mem_append_left _ (List.mem_append_left _ (List.mem_of_getElem? (i := 0) rfl)))), Or.inl rfl, tyX6_ok, nmX6, rfl, rfl, fun h => absurd h (by decide)⟩
theorem fg_X6_setMember_98 : gF RX6 wsX6_setMember 98 10 35 := ⟨RX6, TX6, 36, "StageConsoleModel", rfl, fun w h => (List.mem_cons_of_mem _ (List.mem_append_left _ (List.mem_append_right _ h))), by decide, (List.mem_cons_of_mem _ (List.mem_append_left _ (List.mem_append_left _ (List.mem_of_getElem? (i := 0) rfl)))), Or.inl rfl⟩
set_option maxRecDepth 100000 in
set_option maxHeartbeats 4000000 in
theorem cM_setMember_1 (hl : l.stackTraces = false) {I : Nat → Nat → Int32} {ng : Nat} (h2 : I 30 2 = nI ng) (hg : ng ≤ 5) {g ch : Int32} {b : Bool} (hx : upB ng g = false) : Ct (gm D a E0) l yX6_setMember wsX6_setMember { frames := 12, cells := 0, slots := 0, locals := 300 } [.ref m, .int g, .int ch, .int (bI b)] (wM m am a I en) (qI fun v w => v = bI false ∧ w = wM m am a (uI I 30 8 1) en) noX := by
  refine Ct.of [some (.ref m), some (.int g), some (.int ch), some (.int (bI b)), none] rfl hl (by decide) (Nat.le_of_ble_eq_true rfl) rfl (fun φ C0 => ?_)
  have C := C0.1
  refine x_aload_n C 1 dX6_setMember_0 rfl rfl ?_
  refine x_aload_n C 2 dX6_setMember_1 rfl rfl ?_
  refine x_iload_n C 3 dX6_setMember_2 rfl rfl ?_
  refine x_callV0_i C 6 0 0 0 10 1 (cM_isGroup hl h2 _) rfl gX6_setMember_X6_isGroup ⟨rfl, by decide, by decide, rfl⟩ ⟨Nat.le_of_ble_eq_true rfl, Nat.le_of_ble_eq_true rfl⟩ rfl rfl rfl rfl (Nat.le_of_ble_eq_true rfl) ⟨Nat.le_of_ble_eq_true rfl, Nat.le_of_ble_eq_true rfl⟩ dX6_setMember_3 rfl rfl rfl (fun r1 w1 h1 => ?_)
  obtain ⟨rfl, rfl⟩ := h1
  refine x_top (show _ = (0 : Int32) from by rw [hx]; rfl) ?_
  refine x_if_eq C 20 9 dX6_setMember_6 (by decide) rfl (fun zk6 => ?_) (fun zk6 => ?_)
  · refine x_iconst (v := (1)) C 21 dX6_setMember_20 (by decide) rfl ?_
    refine xm_put C 24 8 (by decide) fp_X6_setMember_98 rfl rfl dX6_setMember_21 rfl ?_
    refine x_aload_n C 25 dX6_setMember_24 rfl rfl ?_
    refine xm_get C 28 fg_X6_setMember_98 rfl dX6_setMember_25 rfl ?_
    refine x_top (show _ = (1) from rfl) ?_
    refine x_if_ne C 44 31 dX6_setMember_28 (by decide) rfl (fun zk28 => ?_) (fun zk28 => ?_)
    · refine x_iconst (v := (0)) C 45 dX6_setMember_44 (by decide) rfl ?_
      refine x_istore C 47 dX6_setMember_45 (by decide) rfl rfl ?_
      refine x_aload_n C 48 dX6_setMember_47 rfl rfl ?_
      refine xm_get C 51 fg_X6_setMember_98 rfl dX6_setMember_48 rfl ?_
      refine x_top (show _ = (1) from rfl) ?_
      refine x_if_ne C 72 54 dX6_setMember_51 (by decide) rfl (fun zk51 => ?_) (fun zk51 => ?_)
      · refine x_iload C 74 dX6_setMember_72 rfl rfl ?_
        exact x_nret C0 rfl (rfl) dX6_setMember_74 (Nat.le_of_ble_eq_true rfl) (Nat.le_of_ble_eq_true rfl) ⟨_, rfl, ⟨rfl, rfl⟩⟩
      · exact absurd zk51 (by decide)
    · exact absurd zk28 (by decide)
  · exact absurd zk6 (by decide)
set_option maxRecDepth 100000 in
set_option maxHeartbeats 4000000 in
theorem cM_setMember_1b (hl : l.stackTraces = false) {I : Nat → Nat → Int32} {ng : Nat} (h2 : I 30 2 = nI ng) (hg : ng ≤ 5) {g : Nat} {ch : Int32} {b : Bool} (hx : g < ng) (hc : chB ch = false) : Ct (gm D a E0) l yX6_setMember wsX6_setMember { frames := 12, cells := 0, slots := 0, locals := 300 } [.ref m, .int (nI g), .int ch, .int (bI b)] (wM m am a I en) (qI fun v w => v = bI false ∧ w = wM m am a (uI I 30 8 1) en) noX := by
  refine Ct.of [some (.ref m), some (.int (nI g)), some (.int ch), some (.int (bI b)), none] rfl hl (by decide) (Nat.le_of_ble_eq_true rfl) rfl (fun φ C0 => ?_)
  have C := C0.1
  refine x_aload_n C 1 dX6_setMember_0 rfl rfl ?_
  refine x_aload_n C 2 dX6_setMember_1 rfl rfl ?_
  refine x_iload_n C 3 dX6_setMember_2 rfl rfl ?_
  refine x_callV0_i C 6 0 0 0 10 1 (cM_isGroup hl h2 _) rfl gX6_setMember_X6_isGroup ⟨rfl, by decide, by decide, rfl⟩ ⟨Nat.le_of_ble_eq_true rfl, Nat.le_of_ble_eq_true rfl⟩ rfl rfl rfl rfl (Nat.le_of_ble_eq_true rfl) ⟨Nat.le_of_ble_eq_true rfl, Nat.le_of_ble_eq_true rfl⟩ dX6_setMember_3 rfl rfl rfl (fun r1 w1 h1 => ?_)
  obtain ⟨rfl, rfl⟩ := h1
  refine x_top (show _ = (1 : Int32) from by rw [upB_nI (by omega) hx]; rfl) ?_
  refine x_if_eq C 20 9 dX6_setMember_6 (by decide) rfl (fun zk6 => ?_) (fun zk6 => ?_)
  · exact absurd zk6 (by decide)
  · refine x_iload_n C 10 dX6_setMember_9 rfl rfl ?_
    refine x_callS0_i C 13 0 0 1 (cM_isChannel hl _ _) rfl gX6_setMember_X6_isChannel ⟨by decide, by decide, rfl⟩ ⟨Nat.le_of_ble_eq_true rfl, Nat.le_of_ble_eq_true rfl⟩ rfl rfl (Nat.le_of_ble_eq_true rfl) ⟨Nat.le_of_ble_eq_true rfl, Nat.le_of_ble_eq_true rfl⟩ dX6_setMember_10 rfl rfl rfl (fun r2 w2 h2 => ?_)
    obtain ⟨rfl, rfl⟩ := h2
    refine x_top (show _ = (0 : Int32) from by rw [hc]; rfl) ?_
    refine x_if_eq C 20 16 dX6_setMember_13 (by decide) rfl (fun zk13 => ?_) (fun zk13 => ?_)
    · refine x_iconst (v := (1)) C 21 dX6_setMember_20 (by decide) rfl ?_
      refine xm_put C 24 8 (by decide) fp_X6_setMember_98 rfl rfl dX6_setMember_21 rfl ?_
      refine x_aload_n C 25 dX6_setMember_24 rfl rfl ?_
      refine xm_get C 28 fg_X6_setMember_98 rfl dX6_setMember_25 rfl ?_
      refine x_top (show _ = (1) from rfl) ?_
      refine x_if_ne C 44 31 dX6_setMember_28 (by decide) rfl (fun zk28 => ?_) (fun zk28 => ?_)
      · refine x_iconst (v := (0)) C 45 dX6_setMember_44 (by decide) rfl ?_
        refine x_istore C 47 dX6_setMember_45 (by decide) rfl rfl ?_
        refine x_aload_n C 48 dX6_setMember_47 rfl rfl ?_
        refine xm_get C 51 fg_X6_setMember_98 rfl dX6_setMember_48 rfl ?_
        refine x_top (show _ = (1) from rfl) ?_
        refine x_if_ne C 72 54 dX6_setMember_51 (by decide) rfl (fun zk51 => ?_) (fun zk51 => ?_)
        · refine x_iload C 74 dX6_setMember_72 rfl rfl ?_
          exact x_nret C0 rfl (rfl) dX6_setMember_74 (Nat.le_of_ble_eq_true rfl) (Nat.le_of_ble_eq_true rfl) ⟨_, rfl, ⟨rfl, rfl⟩⟩
        · exact absurd zk51 (by decide)
      · exact absurd zk28 (by decide)
    · exact absurd zk13 (by decide)
theorem fg_X6_setMember_54 : gF RX6 wsX6_setMember 54 10 16 := ⟨RX6, TX6, 36, "StageConsoleModel", rfl, fun w h => (List.mem_cons_of_mem _ (List.mem_append_left _ (List.mem_append_right _ h))), by decide, (List.mem_cons_of_mem _ (List.mem_append_left _ (List.mem_append_left _ (List.mem_of_getElem? (i := 1) rfl)))), Or.inl rfl⟩
set_option maxRecDepth 100000 in
set_option maxHeartbeats 4000000 in
theorem cM_setMember_0 (hl : l.stackTraces = false) {I : Nat → Nat → Int32} {ng : Nat} (h2 : I 30 2 = nI ng) (hg : ng ≤ 5) {g c : Nat} {b : Bool} (hx : g < ng) (hc : c < 12) : Ct (gm D a E0) l yX6_setMember wsX6_setMember { frames := 12, cells := 0, slots := 0, locals := 300 } [.ref m, .int (nI g), .int (nI c), .int (bI b)] (wM m am a I en) (qI fun v w => v = bI (mbB (I 14 g) c) ∧ w = wM m am a (if mbB (I 14 g) c = b then uI I 30 8 0 else uI (uI I 30 8 0) 14 g (I 14 g ^^^ (1 <<< (nI c &&& 31)))) en) noX := by
  refine Ct.of [some (.ref m), some (.int (nI g)), some (.int (nI c)), some (.int (bI b)), none] rfl hl (by decide) (Nat.le_of_ble_eq_true rfl) rfl (fun φ C0 => ?_)
  have C := C0.1
  refine x_aload_n C 1 dX6_setMember_0 rfl rfl ?_
  refine x_aload_n C 2 dX6_setMember_1 rfl rfl ?_
  refine x_iload_n C 3 dX6_setMember_2 rfl rfl ?_
  refine x_callV0_i C 6 0 0 0 10 1 (cM_isGroup hl h2 _) rfl gX6_setMember_X6_isGroup ⟨rfl, by decide, by decide, rfl⟩ ⟨Nat.le_of_ble_eq_true rfl, Nat.le_of_ble_eq_true rfl⟩ rfl rfl rfl rfl (Nat.le_of_ble_eq_true rfl) ⟨Nat.le_of_ble_eq_true rfl, Nat.le_of_ble_eq_true rfl⟩ dX6_setMember_3 rfl rfl rfl (fun r1 w1 h1 => ?_)
  obtain ⟨rfl, rfl⟩ := h1
  refine x_top (show _ = (1 : Int32) from by rw [upB_nI (by omega) hx]; rfl) ?_
  refine x_if_eq C 20 9 dX6_setMember_6 (by decide) rfl (fun zk6 => ?_) (fun zk6 => ?_)
  · exact absurd zk6 (by decide)
  · refine x_iload_n C 10 dX6_setMember_9 rfl rfl ?_
    refine x_callS0_i C 13 0 0 1 (cM_isChannel hl _ _) rfl gX6_setMember_X6_isChannel ⟨by decide, by decide, rfl⟩ ⟨Nat.le_of_ble_eq_true rfl, Nat.le_of_ble_eq_true rfl⟩ rfl rfl (Nat.le_of_ble_eq_true rfl) ⟨Nat.le_of_ble_eq_true rfl, Nat.le_of_ble_eq_true rfl⟩ dX6_setMember_10 rfl rfl rfl (fun r2 w2 h2 => ?_)
    obtain ⟨rfl, rfl⟩ := h2
    refine x_top (show _ = (1 : Int32) from by rw [chB_nI hc]; rfl) ?_
    refine x_if_eq C 20 16 dX6_setMember_13 (by decide) rfl (fun zk13 => ?_) (fun zk13 => ?_)
    · exact absurd zk13 (by decide)
    · refine x_iconst (v := (0)) C 17 dX6_setMember_16 (by decide) rfl ?_
      refine x_goto C 21 dX6_setMember_17 (by decide) ?_
      refine xm_put C 24 8 (by decide) fp_X6_setMember_98 rfl rfl dX6_setMember_21 rfl ?_
      refine x_aload_n C 25 dX6_setMember_24 rfl rfl ?_
      refine xm_get C 28 fg_X6_setMember_98 rfl dX6_setMember_25 rfl ?_
      refine x_top (show _ = (0) from rfl) ?_
      refine x_if_ne C 44 31 dX6_setMember_28 (by decide) rfl (fun zk28 => ?_) (fun zk28 => ?_)
      · exact absurd zk28 (by decide)
      · refine x_aload_n C 32 dX6_setMember_31 rfl rfl ?_
        refine x_iload_n C 33 dX6_setMember_32 rfl rfl ?_
        refine x_iload_n C 34 dX6_setMember_33 rfl rfl ?_
        refine x_callV0_i C 37 0 0 0 10 2 (cM_isMember hl _ _ (by omega)) rfl gX6_setMember_X6_isMember ⟨rfl, by decide, by decide, rfl⟩ ⟨Nat.le_of_ble_eq_true rfl, Nat.le_of_ble_eq_true rfl⟩ rfl rfl rfl rfl (Nat.le_of_ble_eq_true rfl) ⟨Nat.le_of_ble_eq_true rfl, Nat.le_of_ble_eq_true rfl⟩ dX6_setMember_34 rfl rfl rfl (fun r3 w3 h3 => ?_)
        obtain ⟨rfl, rfl⟩ := h3
        refine x_if_eq C 44 40 dX6_setMember_37 (by decide) rfl (fun zk37 => ?_) (fun zk37 => ?_)
        · have zk37 := bI_eq0.mp zk37
          refine x_iconst (v := (0)) C 45 dX6_setMember_44 (by decide) rfl ?_
          refine x_istore C 47 dX6_setMember_45 (by decide) rfl rfl ?_
          refine x_aload_n C 48 dX6_setMember_47 rfl rfl ?_
          refine xm_get C 51 fg_X6_setMember_98 rfl dX6_setMember_48 rfl ?_
          refine x_top (show _ = (0) from rfl) ?_
          refine x_if_ne C 72 54 dX6_setMember_51 (by decide) rfl (fun zk51 => ?_) (fun zk51 => ?_)
          · exact absurd zk51 (by decide)
          · refine x_iload C 56 dX6_setMember_54 rfl rfl ?_
            refine x_iload_n C 57 dX6_setMember_56 rfl rfl ?_
            refine x_icmp_eq C 72 60 dX6_setMember_57 (by decide) rfl (fun zk57 => ?_) (fun zk57 => ?_)
            · refine x_iload C 74 dX6_setMember_72 rfl rfl ?_
              exact x_nret C0 rfl (rfl) dX6_setMember_74 (Nat.le_of_ble_eq_true rfl) (Nat.le_of_ble_eq_true rfl) ⟨_, rfl, ⟨by have zk37 : mbB (I 14 g) c = _ := zk37; rw [zk37]; rfl, by have zk37 : mbB (I 14 g) c = _ := zk37; rw [zk37]; revert zk57; cases b <;> intro zk57 <;> first | rfl | exact absurd zk57 (by decide) | exact absurd (by decide) zk57⟩⟩
            · refine x_aload_n C 61 dX6_setMember_60 rfl rfl ?_
              refine xm_get C 64 fg_X6_setMember_54 rfl dX6_setMember_61 rfl ?_
              refine x_iload_n C 65 dX6_setMember_64 rfl rfl ?_
              refine x_dup2_11 C 66 dX6_setMember_65 rfl rfl rfl ?_
              refine xm_iald C 67 14 5 (g) (by decide) rfl rfl rfl (by omega) dX6_setMember_66 rfl ?_
              refine x_iconst (v := (1)) C 68 dX6_setMember_67 (by decide) rfl ?_
              refine x_iload_n C 69 dX6_setMember_68 rfl rfl ?_
              refine x_ishl C 70 dX6_setMember_69 rfl ?_
              refine x_ixor C 71 dX6_setMember_70 rfl ?_
              refine xm_iast C 72 14 5 (g) (by decide) rfl rfl rfl (by omega) dX6_setMember_71 rfl ?_
              refine x_iload C 74 dX6_setMember_72 rfl rfl ?_
              exact x_nret C0 rfl (rfl) dX6_setMember_74 (Nat.le_of_ble_eq_true rfl) (Nat.le_of_ble_eq_true rfl) ⟨_, rfl, ⟨by have zk37 : mbB (I 14 g) c = _ := zk37; rw [zk37]; rfl, by have zk37 : mbB (I 14 g) c = _ := zk37; rw [zk37]; revert zk57; cases b <;> intro zk57 <;> first | rfl | exact absurd zk57 (by decide) | exact absurd (by decide) zk57⟩⟩
        · have zk37 := bI_ne0.mp zk37
          refine x_iconst (v := (1)) C 41 dX6_setMember_40 (by decide) rfl ?_
          refine x_goto C 45 dX6_setMember_41 (by decide) ?_
          refine x_istore C 47 dX6_setMember_45 (by decide) rfl rfl ?_
          refine x_aload_n C 48 dX6_setMember_47 rfl rfl ?_
          refine xm_get C 51 fg_X6_setMember_98 rfl dX6_setMember_48 rfl ?_
          refine x_top (show _ = (0) from rfl) ?_
          refine x_if_ne C 72 54 dX6_setMember_51 (by decide) rfl (fun zk51 => ?_) (fun zk51 => ?_)
          · exact absurd zk51 (by decide)
          · refine x_iload C 56 dX6_setMember_54 rfl rfl ?_
            refine x_iload_n C 57 dX6_setMember_56 rfl rfl ?_
            refine x_icmp_eq C 72 60 dX6_setMember_57 (by decide) rfl (fun zk57 => ?_) (fun zk57 => ?_)
            · refine x_iload C 74 dX6_setMember_72 rfl rfl ?_
              exact x_nret C0 rfl (rfl) dX6_setMember_74 (Nat.le_of_ble_eq_true rfl) (Nat.le_of_ble_eq_true rfl) ⟨_, rfl, ⟨by have zk37 : mbB (I 14 g) c = _ := zk37; rw [zk37]; rfl, by have zk37 : mbB (I 14 g) c = _ := zk37; rw [zk37]; revert zk57; cases b <;> intro zk57 <;> first | rfl | exact absurd zk57 (by decide) | exact absurd (by decide) zk57⟩⟩
            · refine x_aload_n C 61 dX6_setMember_60 rfl rfl ?_
              refine xm_get C 64 fg_X6_setMember_54 rfl dX6_setMember_61 rfl ?_
              refine x_iload_n C 65 dX6_setMember_64 rfl rfl ?_
              refine x_dup2_11 C 66 dX6_setMember_65 rfl rfl rfl ?_
              refine xm_iald C 67 14 5 (g) (by decide) rfl rfl rfl (by omega) dX6_setMember_66 rfl ?_
              refine x_iconst (v := (1)) C 68 dX6_setMember_67 (by decide) rfl ?_
              refine x_iload_n C 69 dX6_setMember_68 rfl rfl ?_
              refine x_ishl C 70 dX6_setMember_69 rfl ?_
              refine x_ixor C 71 dX6_setMember_70 rfl ?_
              refine xm_iast C 72 14 5 (g) (by decide) rfl rfl rfl (by omega) dX6_setMember_71 rfl ?_
              refine x_iload C 74 dX6_setMember_72 rfl rfl ?_
              exact x_nret C0 rfl (rfl) dX6_setMember_74 (Nat.le_of_ble_eq_true rfl) (Nat.le_of_ble_eq_true rfl) ⟨_, rfl, ⟨by have zk37 : mbB (I 14 g) c = _ := zk37; rw [zk37]; rfl, by have zk37 : mbB (I 14 g) c = _ := zk37; rw [zk37]; revert zk57; cases b <;> intro zk57 <;> first | rfl | exact absurd zk57 (by decide) | exact absurd (by decide) zk57⟩⟩
theorem fp_X6_setFader_98 : pF RX6 wsX6_setFader 98 10 35 false (.int) := ⟨RX6, TX6, 36, "StageConsoleModel", tyX6, rfl, fun w h => (List.mem_cons_of_mem _ (List.mem_append_left _ (List.mem_append_right _ h))), by decide, (List.mem_cons_of_mem _ (List.mem_append_left _ (List.mem_append_left _ (List.mem_of_getElem? (i := 0) rfl)))), Or.inl rfl, tyX6_ok, nmX6, rfl, rfl, fun h => absurd h (by decide)⟩
theorem fg_X6_setFader_98 : gF RX6 wsX6_setFader 98 10 35 := ⟨RX6, TX6, 36, "StageConsoleModel", rfl, fun w h => (List.mem_cons_of_mem _ (List.mem_append_left _ (List.mem_append_right _ h))), by decide, (List.mem_cons_of_mem _ (List.mem_append_left _ (List.mem_append_left _ (List.mem_of_getElem? (i := 0) rfl)))), Or.inl rfl⟩
set_option maxRecDepth 100000 in
set_option maxHeartbeats 4000000 in
theorem cM_setFader_1 (hl : l.stackTraces = false) {I : Nat → Nat → Int32} {ng : Nat} (h2 : I 30 2 = nI ng) (hg : ng ≤ 5) {g lv : Int32} (hx : upB ng g = false) : Ct (gm D a E0) l yX6_setFader wsX6_setFader { frames := 12, cells := 0, slots := 0, locals := 300 } [.ref m, .int g, .int lv] (wM m am a I en) (qI fun v w => v = -1 ∧ w = wM m am a (uI I 30 8 1) en) noX := by
  refine Ct.of [some (.ref m), some (.int g), some (.int lv), none, none] rfl hl (by decide) (Nat.le_of_ble_eq_true rfl) rfl (fun φ C0 => ?_)
  have C := C0.1
  refine x_aload_n C 1 dX6_setFader_0 rfl rfl ?_
  refine x_aload_n C 2 dX6_setFader_1 rfl rfl ?_
  refine x_iload_n C 3 dX6_setFader_2 rfl rfl ?_
  refine x_callV0_i C 6 0 0 0 10 1 (cM_isGroup hl h2 _) rfl gX6_setFader_X6_isGroup ⟨rfl, by decide, by decide, rfl⟩ ⟨Nat.le_of_ble_eq_true rfl, Nat.le_of_ble_eq_true rfl⟩ rfl rfl rfl rfl (Nat.le_of_ble_eq_true rfl) ⟨Nat.le_of_ble_eq_true rfl, Nat.le_of_ble_eq_true rfl⟩ dX6_setFader_3 rfl rfl rfl (fun r1 w1 h1 => ?_)
  obtain ⟨rfl, rfl⟩ := h1
  refine x_top (show _ = (0 : Int32) from by rw [hx]; rfl) ?_
  refine x_if_ne C 13 9 dX6_setFader_6 (by decide) rfl (fun zk6 => ?_) (fun zk6 => ?_)
  · exact absurd zk6 (by decide)
  · refine x_iconst (v := (1)) C 10 dX6_setFader_9 (by decide) rfl ?_
    refine x_goto C 25 dX6_setFader_10 (by decide) ?_
    refine xm_put C 28 8 (by decide) fp_X6_setFader_98 rfl rfl dX6_setFader_25 rfl ?_
    refine x_aload_n C 29 dX6_setFader_28 rfl rfl ?_
    refine xm_get C 32 fg_X6_setFader_98 rfl dX6_setFader_29 rfl ?_
    refine x_top (show _ = (1) from rfl) ?_
    refine x_if_le C 37 35 dX6_setFader_32 (by decide) rfl (fun zk32 => ?_) (fun zk32 => ?_)
    · exact absurd zk32 (by decide)
    · refine x_iconst (v := (-1)) C 36 dX6_setFader_35 (by decide) rfl ?_
      exact x_zret C0 dX6_setFader_36 (Nat.le_of_ble_eq_true rfl) (Nat.le_of_ble_eq_true rfl) ⟨_, rfl, ⟨rfl, rfl⟩⟩
set_option maxRecDepth 100000 in
set_option maxHeartbeats 4000000 in
theorem cM_setFader_2 (hl : l.stackTraces = false) {I : Nat → Nat → Int32} {ng : Nat} (h2 : I 30 2 = nI ng) (hg : ng ≤ 5) {g : Nat} {lv : Int32} (hx : g < ng) (hv : lvB lv = false) : Ct (gm D a E0) l yX6_setFader wsX6_setFader { frames := 12, cells := 0, slots := 0, locals := 300 } [.ref m, .int (nI g), .int lv] (wM m am a I en) (qI fun v w => v = -1 ∧ w = wM m am a (uI I 30 8 2) en) noX := by
  refine Ct.of [some (.ref m), some (.int (nI g)), some (.int lv), none, none] rfl hl (by decide) (Nat.le_of_ble_eq_true rfl) rfl (fun φ C0 => ?_)
  have C := C0.1
  refine x_aload_n C 1 dX6_setFader_0 rfl rfl ?_
  refine x_aload_n C 2 dX6_setFader_1 rfl rfl ?_
  refine x_iload_n C 3 dX6_setFader_2 rfl rfl ?_
  refine x_callV0_i C 6 0 0 0 10 1 (cM_isGroup hl h2 _) rfl gX6_setFader_X6_isGroup ⟨rfl, by decide, by decide, rfl⟩ ⟨Nat.le_of_ble_eq_true rfl, Nat.le_of_ble_eq_true rfl⟩ rfl rfl rfl rfl (Nat.le_of_ble_eq_true rfl) ⟨Nat.le_of_ble_eq_true rfl, Nat.le_of_ble_eq_true rfl⟩ dX6_setFader_3 rfl rfl rfl (fun r1 w1 h1 => ?_)
  obtain ⟨rfl, rfl⟩ := h1
  refine x_top (show _ = (1 : Int32) from by rw [upB_nI (by omega) hx]; rfl) ?_
  refine x_if_ne C 13 9 dX6_setFader_6 (by decide) rfl (fun zk6 => ?_) (fun zk6 => ?_)
  · refine x_iload_n C 14 dX6_setFader_13 rfl rfl ?_
    refine x_callS0_i C 17 0 0 1 (cM_isLevel hl _ _) rfl gX6_setFader_X6_isLevel ⟨by decide, by decide, rfl⟩ ⟨Nat.le_of_ble_eq_true rfl, Nat.le_of_ble_eq_true rfl⟩ rfl rfl (Nat.le_of_ble_eq_true rfl) ⟨Nat.le_of_ble_eq_true rfl, Nat.le_of_ble_eq_true rfl⟩ dX6_setFader_14 rfl rfl rfl (fun r2 w2 h2 => ?_)
    obtain ⟨rfl, rfl⟩ := h2
    refine x_top (show _ = (0 : Int32) from by rw [hv]; rfl) ?_
    refine x_if_ne C 24 20 dX6_setFader_17 (by decide) rfl (fun zk17 => ?_) (fun zk17 => ?_)
    · exact absurd zk17 (by decide)
    · refine x_iconst (v := (2)) C 21 dX6_setFader_20 (by decide) rfl ?_
      refine x_goto C 25 dX6_setFader_21 (by decide) ?_
      refine xm_put C 28 8 (by decide) fp_X6_setFader_98 rfl rfl dX6_setFader_25 rfl ?_
      refine x_aload_n C 29 dX6_setFader_28 rfl rfl ?_
      refine xm_get C 32 fg_X6_setFader_98 rfl dX6_setFader_29 rfl ?_
      refine x_top (show _ = (2) from rfl) ?_
      refine x_if_le C 37 35 dX6_setFader_32 (by decide) rfl (fun zk32 => ?_) (fun zk32 => ?_)
      · exact absurd zk32 (by decide)
      · refine x_iconst (v := (-1)) C 36 dX6_setFader_35 (by decide) rfl ?_
        exact x_zret C0 dX6_setFader_36 (Nat.le_of_ble_eq_true rfl) (Nat.le_of_ble_eq_true rfl) ⟨_, rfl, ⟨rfl, rfl⟩⟩
  · exact absurd zk6 (by decide)
theorem fg_X6_setFader_57 : gF RX6 wsX6_setFader 57 10 17 := ⟨RX6, TX6, 36, "StageConsoleModel", rfl, fun w h => (List.mem_cons_of_mem _ (List.mem_append_left _ (List.mem_append_right _ h))), by decide, (List.mem_cons_of_mem _ (List.mem_append_left _ (List.mem_append_left _ (List.mem_of_getElem? (i := 1) rfl)))), Or.inl rfl⟩
theorem fg_X6_setFader_48 : gF RX6 wsX6_setFader 48 10 14 := ⟨RX6, TX6, 36, "StageConsoleModel", rfl, fun w h => (List.mem_cons_of_mem _ (List.mem_append_left _ (List.mem_append_right _ h))), by decide, (List.mem_cons_of_mem _ (List.mem_append_left _ (List.mem_append_left _ (List.mem_of_getElem? (i := 2) rfl)))), Or.inl rfl⟩
set_option maxRecDepth 100000 in
set_option maxHeartbeats 4000000 in
theorem cM_setFader_0 (hl : l.stackTraces = false) {I : Nat → Nat → Int32} {ng : Nat} (h2 : I 30 2 = nI ng) (hg : ng ≤ 5) {g lv : Nat} (hx : g < ng) (hv : lv < 256) : Ct (gm D a E0) l yX6_setFader wsX6_setFader { frames := 12, cells := 0, slots := 0, locals := 300 } [.ref m, .int (nI g), .int (nI lv)] (wM m am a I en) (qI fun v w => v = I 15 g ∧ w = wM m am a (sfM (uI I 30 8 0) g lv) en) noX := by
  refine Ct.of [some (.ref m), some (.int (nI g)), some (.int (nI lv)), none, none] rfl hl (by decide) (Nat.le_of_ble_eq_true rfl) rfl (fun φ C0 => ?_)
  have C := C0.1
  refine x_aload_n C 1 dX6_setFader_0 rfl rfl ?_
  refine x_aload_n C 2 dX6_setFader_1 rfl rfl ?_
  refine x_iload_n C 3 dX6_setFader_2 rfl rfl ?_
  refine x_callV0_i C 6 0 0 0 10 1 (cM_isGroup hl h2 _) rfl gX6_setFader_X6_isGroup ⟨rfl, by decide, by decide, rfl⟩ ⟨Nat.le_of_ble_eq_true rfl, Nat.le_of_ble_eq_true rfl⟩ rfl rfl rfl rfl (Nat.le_of_ble_eq_true rfl) ⟨Nat.le_of_ble_eq_true rfl, Nat.le_of_ble_eq_true rfl⟩ dX6_setFader_3 rfl rfl rfl (fun r1 w1 h1 => ?_)
  obtain ⟨rfl, rfl⟩ := h1
  refine x_top (show _ = (1 : Int32) from by rw [upB_nI (by omega) hx]; rfl) ?_
  refine x_if_ne C 13 9 dX6_setFader_6 (by decide) rfl (fun zk6 => ?_) (fun zk6 => ?_)
  · refine x_iload_n C 14 dX6_setFader_13 rfl rfl ?_
    refine x_callS0_i C 17 0 0 1 (cM_isLevel hl _ _) rfl gX6_setFader_X6_isLevel ⟨by decide, by decide, rfl⟩ ⟨Nat.le_of_ble_eq_true rfl, Nat.le_of_ble_eq_true rfl⟩ rfl rfl (Nat.le_of_ble_eq_true rfl) ⟨Nat.le_of_ble_eq_true rfl, Nat.le_of_ble_eq_true rfl⟩ dX6_setFader_14 rfl rfl rfl (fun r2 w2 h2 => ?_)
    obtain ⟨rfl, rfl⟩ := h2
    refine x_top (show _ = (1 : Int32) from by rw [lvB_nI hv]; rfl) ?_
    refine x_if_ne C 24 20 dX6_setFader_17 (by decide) rfl (fun zk17 => ?_) (fun zk17 => ?_)
    · refine x_iconst (v := (0)) C 25 dX6_setFader_24 (by decide) rfl ?_
      refine xm_put C 28 8 (by decide) fp_X6_setFader_98 rfl rfl dX6_setFader_25 rfl ?_
      refine x_aload_n C 29 dX6_setFader_28 rfl rfl ?_
      refine xm_get C 32 fg_X6_setFader_98 rfl dX6_setFader_29 rfl ?_
      refine x_top (show _ = (0) from rfl) ?_
      refine x_if_le C 37 35 dX6_setFader_32 (by decide) rfl (fun zk32 => ?_) (fun zk32 => ?_)
      · refine x_aload_n C 38 dX6_setFader_37 rfl rfl ?_
        refine xm_get C 41 fg_X6_setFader_57 rfl dX6_setFader_38 rfl ?_
        refine x_iload_n C 42 dX6_setFader_41 rfl rfl ?_
        refine xm_iald C 43 15 5 (g) (by decide) rfl rfl rfl (by omega) dX6_setFader_42 rfl ?_
        refine x_nm (fun v ev => ?_)
        refine x_istore_n C 44 dX6_setFader_43 (by decide) rfl rfl ?_
        refine x_aload_n C 45 dX6_setFader_44 rfl rfl ?_
        refine xm_get C 48 fg_X6_setFader_57 rfl dX6_setFader_45 rfl ?_
        refine x_iload_n C 49 dX6_setFader_48 rfl rfl ?_
        refine x_iload_n C 50 dX6_setFader_49 rfl rfl ?_
        refine xm_iast C 51 15 5 (g) (by decide) rfl rfl rfl (by omega) dX6_setFader_50 rfl ?_
        refine x_iconst (v := (0)) C 52 dX6_setFader_51 (by decide) rfl ?_
        refine x_istore C 54 dX6_setFader_52 (by decide) rfl rfl ?_
        have lp54 : ∀ (n i : Nat) (J : Nat → Nat → Int32), i + n = 12 → sfM (uI I 30 8 0) g lv = sfL g n i J → X φ 54 [some (.ref m), some (.int (nI g)), some (.int (nI lv)), some (.int v), some (.int (nI i))] [] (wM m am a J en) 0 0 := by
          intro n
          induction n with
          | zero =>
            intro i J hi hr
            refine x_iload C 56 dX6_setFader_54 rfl rfl ?_
            refine x_bipush (v := (12)) C 58 dX6_setFader_56 (by decide) rfl ?_
            refine x_icmp_ge C 95 61 dX6_setFader_58 (by decide) rfl (fun zk58 => ?_) (fun zk58 => ?_)
            · have zk58 := (nI_leI (a := 12) (b := i) (by omega) (by omega)).mp zk58
              refine x_iload_n C 96 dX6_setFader_95 rfl rfl ?_
              exact x_zret C0 dX6_setFader_96 (Nat.le_of_ble_eq_true rfl) (Nat.le_of_ble_eq_true rfl) ⟨_, rfl, ⟨ev, by rw [hr]; rfl⟩⟩
            · have zk58 := mt (nI_leI (a := 12) (b := i) (by omega) (by omega)).mpr zk58
              exfalso; omega
          | succ n ih =>
            intro i J hi hr
            refine x_iload C 56 dX6_setFader_54 rfl rfl ?_
            refine x_bipush (v := (12)) C 58 dX6_setFader_56 (by decide) rfl ?_
            refine x_icmp_ge C 95 61 dX6_setFader_58 (by decide) rfl (fun zk58 => ?_) (fun zk58 => ?_)
            · have zk58 := (nI_leI (a := 12) (b := i) (by omega) (by omega)).mp zk58
              exfalso; omega
            · have zk58 := mt (nI_leI (a := 12) (b := i) (by omega) (by omega)).mpr zk58
              refine x_aload_n C 62 dX6_setFader_61 rfl rfl ?_
              refine xm_get C 65 fg_X6_setFader_48 rfl dX6_setFader_62 rfl ?_
              refine x_iload C 67 dX6_setFader_65 rfl rfl ?_
              refine x_aload_n C 68 dX6_setFader_67 rfl rfl ?_
              refine x_iload_n C 69 dX6_setFader_68 rfl rfl ?_
              refine x_iload C 71 dX6_setFader_69 rfl rfl ?_
              refine x_callV0_i C 74 0 0 0 10 2 (cM_isMember hl _ _ (by omega)) rfl gX6_setFader_X6_isMember ⟨rfl, by decide, by decide, rfl⟩ ⟨Nat.le_of_ble_eq_true rfl, Nat.le_of_ble_eq_true rfl⟩ rfl rfl rfl rfl (Nat.le_of_ble_eq_true rfl) ⟨Nat.le_of_ble_eq_true rfl, Nat.le_of_ble_eq_true rfl⟩ dX6_setFader_71 rfl rfl rfl (fun r4 w4 h4 => ?_)
              obtain ⟨rfl, rfl⟩ := h4
              refine x_if_eq C 81 77 dX6_setFader_74 (by decide) rfl (fun zk74 => ?_) (fun zk74 => ?_)
              · have zk74 := bI_eq0.mp zk74
                refine x_aload_n C 82 dX6_setFader_81 rfl rfl ?_
                refine xm_get C 85 fg_X6_setFader_48 rfl dX6_setFader_82 rfl ?_
                refine x_iload C 87 dX6_setFader_85 rfl rfl ?_
                refine xm_iald C 88 12 12 (i) (by decide) rfl rfl rfl (by omega) dX6_setFader_87 rfl ?_
                refine xm_iast C 89 12 12 (i) (by decide) rfl rfl rfl (by omega) dX6_setFader_88 rfl ?_
                refine x_iinc (v := nI (i + 1)) C 92 rfl dX6_setFader_89 (iinc1 _) (by decide) rfl rfl ?_
                refine x_goto C 54 dX6_setFader_92 (by decide) ?_
                exact ih (i + 1) _ (by omega) (by rw [hr, sfL]; have zk74 : mbB (J 14 g) i = _ := zk74; rw [zk74]; rfl)
              · have zk74 := bI_ne0.mp zk74
                refine x_iload_n C 78 dX6_setFader_77 rfl rfl ?_
                refine x_goto C 88 dX6_setFader_78 (by decide) ?_
                refine xm_iast C 89 12 12 (i) (by decide) rfl rfl rfl (by omega) dX6_setFader_88 rfl ?_
                refine x_iinc (v := nI (i + 1)) C 92 rfl dX6_setFader_89 (iinc1 _) (by decide) rfl rfl ?_
                refine x_goto C 54 dX6_setFader_92 (by decide) ?_
                exact ih (i + 1) _ (by omega) (by rw [hr, sfL]; have zk74 : mbB (J 14 g) i = _ := zk74; rw [zk74]; rfl)
        exact lp54 12 0 _ rfl rfl
      · exact absurd zk32 (by decide)
    · exact absurd zk17 (by decide)
  · exact absurd zk6 (by decide)
theorem fp_X6_setLatest_98 : pF RX6 wsX6_setLatest 98 10 35 false (.int) := ⟨RX6, TX6, 36, "StageConsoleModel", tyX6, rfl, fun w h => (List.mem_cons_of_mem _ (List.mem_append_left _ (List.mem_append_right _ h))), by decide, (List.mem_cons_of_mem _ (List.mem_append_left _ (List.mem_append_left _ (List.mem_of_getElem? (i := 0) rfl)))), Or.inl rfl, tyX6_ok, nmX6, rfl, rfl, fun h => absurd h (by decide)⟩
theorem fg_X6_setLatest_98 : gF RX6 wsX6_setLatest 98 10 35 := ⟨RX6, TX6, 36, "StageConsoleModel", rfl, fun w h => (List.mem_cons_of_mem _ (List.mem_append_left _ (List.mem_append_right _ h))), by decide, (List.mem_cons_of_mem _ (List.mem_append_left _ (List.mem_append_left _ (List.mem_of_getElem? (i := 0) rfl)))), Or.inl rfl⟩
set_option maxRecDepth 100000 in
set_option maxHeartbeats 4000000 in
theorem cM_setLatest_1 (hl : l.stackTraces = false) {I : Nat → Nat → Int32} {ch : Int32} {b : Bool} (hc : chB ch = false) : Ct (gm D a E0) l yX6_setLatest wsX6_setLatest { frames := 12, cells := 0, slots := 0, locals := 300 } [.ref m, .int ch, .int (bI b)] (wM m am a I en) (qI fun v w => v = 0 ∧ w = wM m am a (uI I 30 8 1) en) noX := by
  refine Ct.of [some (.ref m), some (.int ch), some (.int (bI b)), none] rfl hl (by decide) (Nat.le_of_ble_eq_true rfl) rfl (fun φ C0 => ?_)
  have C := C0.1
  refine x_aload_n C 1 dX6_setLatest_0 rfl rfl ?_
  refine x_iload_n C 2 dX6_setLatest_1 rfl rfl ?_
  refine x_callS0_i C 5 0 0 1 (cM_isChannel hl _ _) rfl gX6_setLatest_X6_isChannel ⟨by decide, by decide, rfl⟩ ⟨Nat.le_of_ble_eq_true rfl, Nat.le_of_ble_eq_true rfl⟩ rfl rfl (Nat.le_of_ble_eq_true rfl) ⟨Nat.le_of_ble_eq_true rfl, Nat.le_of_ble_eq_true rfl⟩ dX6_setLatest_2 rfl rfl rfl (fun r1 w1 h1 => ?_)
  obtain ⟨rfl, rfl⟩ := h1
  refine x_top (show _ = (0 : Int32) from by rw [hc]; rfl) ?_
  refine x_if_eq C 12 8 dX6_setLatest_5 (by decide) rfl (fun zk5 => ?_) (fun zk5 => ?_)
  · refine x_iconst (v := (1)) C 13 dX6_setLatest_12 (by decide) rfl ?_
    refine xm_put C 16 8 (by decide) fp_X6_setLatest_98 rfl rfl dX6_setLatest_13 rfl ?_
    refine x_aload_n C 17 dX6_setLatest_16 rfl rfl ?_
    refine xm_get C 20 fg_X6_setLatest_98 rfl dX6_setLatest_17 rfl ?_
    refine x_top (show _ = (1) from rfl) ?_
    refine x_if_ne C 36 23 dX6_setLatest_20 (by decide) rfl (fun zk20 => ?_) (fun zk20 => ?_)
    · refine x_iconst (v := (0)) C 37 dX6_setLatest_36 (by decide) rfl ?_
      refine x_istore_n C 38 dX6_setLatest_37 (by decide) rfl rfl ?_
      refine x_aload_n C 39 dX6_setLatest_38 rfl rfl ?_
      refine xm_get C 42 fg_X6_setLatest_98 rfl dX6_setLatest_39 rfl ?_
      refine x_top (show _ = (1) from rfl) ?_
      refine x_if_ne C 52 45 dX6_setLatest_42 (by decide) rfl (fun zk42 => ?_) (fun zk42 => ?_)
      · refine x_iload_n C 53 dX6_setLatest_52 rfl rfl ?_
        exact x_nret C0 rfl (rfl) dX6_setLatest_53 (Nat.le_of_ble_eq_true rfl) (Nat.le_of_ble_eq_true rfl) ⟨_, rfl, ⟨rfl, rfl⟩⟩
      · exact absurd zk42 (by decide)
    · exact absurd zk20 (by decide)
  · exact absurd zk5 (by decide)
theorem fg_X6_setLatest_45 : gF RX6 wsX6_setLatest 45 10 13 := ⟨RX6, TX6, 36, "StageConsoleModel", rfl, fun w h => (List.mem_cons_of_mem _ (List.mem_append_left _ (List.mem_append_right _ h))), by decide, (List.mem_cons_of_mem _ (List.mem_append_left _ (List.mem_append_left _ (List.mem_of_getElem? (i := 1) rfl)))), Or.inl rfl⟩
set_option maxRecDepth 100000 in
set_option maxHeartbeats 4000000 in
theorem cM_setLatest_0 (hl : l.stackTraces = false) {I : Nat → Nat → Int32} {c : Nat} {b : Bool} (hc : c < 12) : Ct (gm D a E0) l yX6_setLatest wsX6_setLatest { frames := 12, cells := 0, slots := 0, locals := 300 } [.ref m, .int (nI c), .int (bI b)] (wM m am a I en) (qI fun v w => v = (if I 11 c = 0 then 0 else 1) ∧ w = wM m am a (uI (uI I 30 8 0) 11 c (bI b)) en) noX := by
  refine Ct.of [some (.ref m), some (.int (nI c)), some (.int (bI b)), none] rfl hl (by decide) (Nat.le_of_ble_eq_true rfl) rfl (fun φ C0 => ?_)
  have C := C0.1
  refine x_aload_n C 1 dX6_setLatest_0 rfl rfl ?_
  refine x_iload_n C 2 dX6_setLatest_1 rfl rfl ?_
  refine x_callS0_i C 5 0 0 1 (cM_isChannel hl _ _) rfl gX6_setLatest_X6_isChannel ⟨by decide, by decide, rfl⟩ ⟨Nat.le_of_ble_eq_true rfl, Nat.le_of_ble_eq_true rfl⟩ rfl rfl (Nat.le_of_ble_eq_true rfl) ⟨Nat.le_of_ble_eq_true rfl, Nat.le_of_ble_eq_true rfl⟩ dX6_setLatest_2 rfl rfl rfl (fun r1 w1 h1 => ?_)
  obtain ⟨rfl, rfl⟩ := h1
  refine x_top (show _ = (1 : Int32) from by rw [chB_nI hc]; rfl) ?_
  refine x_if_eq C 12 8 dX6_setLatest_5 (by decide) rfl (fun zk5 => ?_) (fun zk5 => ?_)
  · exact absurd zk5 (by decide)
  · refine x_iconst (v := (0)) C 9 dX6_setLatest_8 (by decide) rfl ?_
    refine x_goto C 13 dX6_setLatest_9 (by decide) ?_
    refine xm_put C 16 8 (by decide) fp_X6_setLatest_98 rfl rfl dX6_setLatest_13 rfl ?_
    refine x_aload_n C 17 dX6_setLatest_16 rfl rfl ?_
    refine xm_get C 20 fg_X6_setLatest_98 rfl dX6_setLatest_17 rfl ?_
    refine x_top (show _ = (0) from rfl) ?_
    refine x_if_ne C 36 23 dX6_setLatest_20 (by decide) rfl (fun zk20 => ?_) (fun zk20 => ?_)
    · exact absurd zk20 (by decide)
    · refine x_aload_n C 24 dX6_setLatest_23 rfl rfl ?_
      refine xm_get C 27 fg_X6_setLatest_45 rfl dX6_setLatest_24 rfl ?_
      refine x_iload_n C 28 dX6_setLatest_27 rfl rfl ?_
      refine xm_zald C 29 11 12 (c) (by decide) rfl rfl rfl (by omega) dX6_setLatest_28 rfl ?_
      refine x_if_eq C 36 32 dX6_setLatest_29 (by decide) rfl (fun zk29 => ?_) (fun zk29 => ?_)
      · refine x_iconst (v := (0)) C 37 dX6_setLatest_36 (by decide) rfl ?_
        refine x_istore_n C 38 dX6_setLatest_37 (by decide) rfl rfl ?_
        refine x_aload_n C 39 dX6_setLatest_38 rfl rfl ?_
        refine xm_get C 42 fg_X6_setLatest_98 rfl dX6_setLatest_39 rfl ?_
        refine x_top (show _ = (0) from rfl) ?_
        refine x_if_ne C 52 45 dX6_setLatest_42 (by decide) rfl (fun zk42 => ?_) (fun zk42 => ?_)
        · exact absurd zk42 (by decide)
        · refine x_aload_n C 46 dX6_setLatest_45 rfl rfl ?_
          refine xm_get C 49 fg_X6_setLatest_45 rfl dX6_setLatest_46 rfl ?_
          refine x_iload_n C 50 dX6_setLatest_49 rfl rfl ?_
          refine x_iload_n C 51 dX6_setLatest_50 rfl rfl ?_
          refine xm_zast C 52 11 12 (c) (by decide) rfl rfl rfl (by omega) (bI_arr _) dX6_setLatest_51 rfl ?_
          refine x_iload_n C 53 dX6_setLatest_52 rfl rfl ?_
          exact x_nret C0 rfl (rfl) dX6_setLatest_53 (Nat.le_of_ble_eq_true rfl) (Nat.le_of_ble_eq_true rfl) ⟨_, rfl, ⟨by first | rw [if_pos (show I 11 c = 0 from zk29)] | rw [if_neg (show ¬ I 11 c = 0 from zk29)], rfl⟩⟩
      · refine x_iconst (v := (1)) C 33 dX6_setLatest_32 (by decide) rfl ?_
        refine x_goto C 37 dX6_setLatest_33 (by decide) ?_
        refine x_istore_n C 38 dX6_setLatest_37 (by decide) rfl rfl ?_
        refine x_aload_n C 39 dX6_setLatest_38 rfl rfl ?_
        refine xm_get C 42 fg_X6_setLatest_98 rfl dX6_setLatest_39 rfl ?_
        refine x_top (show _ = (0) from rfl) ?_
        refine x_if_ne C 52 45 dX6_setLatest_42 (by decide) rfl (fun zk42 => ?_) (fun zk42 => ?_)
        · exact absurd zk42 (by decide)
        · refine x_aload_n C 46 dX6_setLatest_45 rfl rfl ?_
          refine xm_get C 49 fg_X6_setLatest_45 rfl dX6_setLatest_46 rfl ?_
          refine x_iload_n C 50 dX6_setLatest_49 rfl rfl ?_
          refine x_iload_n C 51 dX6_setLatest_50 rfl rfl ?_
          refine xm_zast C 52 11 12 (c) (by decide) rfl rfl rfl (by omega) (bI_arr _) dX6_setLatest_51 rfl ?_
          refine x_iload_n C 53 dX6_setLatest_52 rfl rfl ?_
          exact x_nret C0 rfl (rfl) dX6_setLatest_53 (Nat.le_of_ble_eq_true rfl) (Nat.le_of_ble_eq_true rfl) ⟨_, rfl, ⟨by first | rw [if_pos (show I 11 c = 0 from zk29)] | rw [if_neg (show ¬ I 11 c = 0 from zk29)], rfl⟩⟩
theorem fp_X6_latestSource_98 : pF RX6 wsX6_latestSource 98 10 35 false (.int) := ⟨RX6, TX6, 36, "StageConsoleModel", tyX6, rfl, fun w h => (List.mem_cons_of_mem _ (List.mem_append_left _ (List.mem_append_right _ h))), by decide, (List.mem_cons_of_mem _ (List.mem_append_left _ (List.mem_append_left _ (List.mem_of_getElem? (i := 1) rfl)))), Or.inl rfl, tyX6_ok, nmX6, rfl, rfl, fun h => absurd h (by decide)⟩
theorem fg_X6_latestSource_98 : gF RX6 wsX6_latestSource 98 10 35 := ⟨RX6, TX6, 36, "StageConsoleModel", rfl, fun w h => (List.mem_cons_of_mem _ (List.mem_append_left _ (List.mem_append_right _ h))), by decide, (List.mem_cons_of_mem _ (List.mem_append_left _ (List.mem_append_left _ (List.mem_of_getElem? (i := 1) rfl)))), Or.inl rfl⟩
set_option maxRecDepth 100000 in
set_option maxHeartbeats 4000000 in
theorem cM_latestSource_1 (hl : l.stackTraces = false) {I : Nat → Nat → Int32} {ch : Int32} (hc : chB ch = false) : Ct (gm D a E0) l yX6_latestSource wsX6_latestSource { frames := 12, cells := 0, slots := 0, locals := 300 } [.ref m, .int ch] (wM m am a I en) (qI fun v w => v = -1 ∧ w = wM m am a (uI I 30 8 1) en) noX := by
  refine Ct.of [some (.ref m), some (.int ch)] rfl hl (by decide) (Nat.le_of_ble_eq_true rfl) rfl (fun φ C0 => ?_)
  have C := C0.1
  refine x_aload_n C 1 dX6_latestSource_0 rfl rfl ?_
  refine x_iload_n C 2 dX6_latestSource_1 rfl rfl ?_
  refine x_callS0_i C 5 0 0 1 (cM_isChannel hl _ _) rfl gX6_latestSource_X6_isChannel ⟨by decide, by decide, rfl⟩ ⟨Nat.le_of_ble_eq_true rfl, Nat.le_of_ble_eq_true rfl⟩ rfl rfl (Nat.le_of_ble_eq_true rfl) ⟨Nat.le_of_ble_eq_true rfl, Nat.le_of_ble_eq_true rfl⟩ dX6_latestSource_2 rfl rfl rfl (fun r1 w1 h1 => ?_)
  obtain ⟨rfl, rfl⟩ := h1
  refine x_top (show _ = (0 : Int32) from by rw [hc]; rfl) ?_
  refine x_if_ne C 12 8 dX6_latestSource_5 (by decide) rfl (fun zk5 => ?_) (fun zk5 => ?_)
  · exact absurd zk5 (by decide)
  · refine x_iconst (v := (1)) C 9 dX6_latestSource_8 (by decide) rfl ?_
    refine x_goto C 28 dX6_latestSource_9 (by decide) ?_
    refine xm_put C 31 8 (by decide) fp_X6_latestSource_98 rfl rfl dX6_latestSource_28 rfl ?_
    refine x_aload_n C 32 dX6_latestSource_31 rfl rfl ?_
    refine xm_get C 35 fg_X6_latestSource_98 rfl dX6_latestSource_32 rfl ?_
    refine x_top (show _ = (1) from rfl) ?_
    refine x_if_ne C 47 38 dX6_latestSource_35 (by decide) rfl (fun zk35 => ?_) (fun zk35 => ?_)
    · refine x_iconst (v := (-1)) C 48 dX6_latestSource_47 (by decide) rfl ?_
      exact x_zret C0 dX6_latestSource_48 (Nat.le_of_ble_eq_true rfl) (Nat.le_of_ble_eq_true rfl) ⟨_, rfl, ⟨rfl, rfl⟩⟩
    · exact absurd zk35 (by decide)
theorem fg_X6_latestSource_48 : gF RX6 wsX6_latestSource 48 10 14 := ⟨RX6, TX6, 36, "StageConsoleModel", rfl, fun w h => (List.mem_cons_of_mem _ (List.mem_append_left _ (List.mem_append_right _ h))), by decide, (List.mem_cons_of_mem _ (List.mem_append_left _ (List.mem_append_left _ (List.mem_of_getElem? (i := 0) rfl)))), Or.inl rfl⟩
set_option maxRecDepth 100000 in
set_option maxHeartbeats 4000000 in
theorem cM_latestSource_2 (hl : l.stackTraces = false) {I : Nat → Nat → Int32} {c : Nat} (hc : c < 12) (hv : I 12 c = -2) : Ct (gm D a E0) l yX6_latestSource wsX6_latestSource { frames := 12, cells := 0, slots := 0, locals := 300 } [.ref m, .int (nI c)] (wM m am a I en) (qI fun v w => v = -1 ∧ w = wM m am a (uI I 30 8 2) en) noX := by
  refine Ct.of [some (.ref m), some (.int (nI c))] rfl hl (by decide) (Nat.le_of_ble_eq_true rfl) rfl (fun φ C0 => ?_)
  have C := C0.1
  refine x_aload_n C 1 dX6_latestSource_0 rfl rfl ?_
  refine x_iload_n C 2 dX6_latestSource_1 rfl rfl ?_
  refine x_callS0_i C 5 0 0 1 (cM_isChannel hl _ _) rfl gX6_latestSource_X6_isChannel ⟨by decide, by decide, rfl⟩ ⟨Nat.le_of_ble_eq_true rfl, Nat.le_of_ble_eq_true rfl⟩ rfl rfl (Nat.le_of_ble_eq_true rfl) ⟨Nat.le_of_ble_eq_true rfl, Nat.le_of_ble_eq_true rfl⟩ dX6_latestSource_2 rfl rfl rfl (fun r1 w1 h1 => ?_)
  obtain ⟨rfl, rfl⟩ := h1
  refine x_top (show _ = (1 : Int32) from by rw [chB_nI hc]; rfl) ?_
  refine x_if_ne C 12 8 dX6_latestSource_5 (by decide) rfl (fun zk5 => ?_) (fun zk5 => ?_)
  · refine x_aload_n C 13 dX6_latestSource_12 rfl rfl ?_
    refine xm_get C 16 fg_X6_latestSource_48 rfl dX6_latestSource_13 rfl ?_
    refine x_iload_n C 17 dX6_latestSource_16 rfl rfl ?_
    refine xm_iald C 18 12 12 (c) (by decide) rfl rfl rfl (by omega) dX6_latestSource_17 rfl ?_
    refine x_bipush (v := (-2)) C 20 dX6_latestSource_18 (by decide) rfl ?_
    refine x_icmp_ne C 27 23 dX6_latestSource_20 (by decide) rfl (fun zk20 => ?_) (fun zk20 => ?_)
    · exact absurd hv zk20
    · refine x_iconst (v := (2)) C 24 dX6_latestSource_23 (by decide) rfl ?_
      refine x_goto C 28 dX6_latestSource_24 (by decide) ?_
      refine xm_put C 31 8 (by decide) fp_X6_latestSource_98 rfl rfl dX6_latestSource_28 rfl ?_
      refine x_aload_n C 32 dX6_latestSource_31 rfl rfl ?_
      refine xm_get C 35 fg_X6_latestSource_98 rfl dX6_latestSource_32 rfl ?_
      refine x_top (show _ = (2) from rfl) ?_
      refine x_if_ne C 47 38 dX6_latestSource_35 (by decide) rfl (fun zk35 => ?_) (fun zk35 => ?_)
      · refine x_iconst (v := (-1)) C 48 dX6_latestSource_47 (by decide) rfl ?_
        exact x_zret C0 dX6_latestSource_48 (Nat.le_of_ble_eq_true rfl) (Nat.le_of_ble_eq_true rfl) ⟨_, rfl, ⟨rfl, rfl⟩⟩
      · exact absurd zk35 (by decide)
  · exact absurd zk5 (by decide)
set_option maxRecDepth 100000 in
set_option maxHeartbeats 4000000 in
theorem cM_latestSource_0 (hl : l.stackTraces = false) {I : Nat → Nat → Int32} {c : Nat} (hc : c < 12) (hv : ¬ I 12 c = -2) : Ct (gm D a E0) l yX6_latestSource wsX6_latestSource { frames := 12, cells := 0, slots := 0, locals := 300 } [.ref m, .int (nI c)] (wM m am a I en) (qI fun v w => v = I 12 c ∧ w = wM m am a (uI I 30 8 0) en) noX := by
  refine Ct.of [some (.ref m), some (.int (nI c))] rfl hl (by decide) (Nat.le_of_ble_eq_true rfl) rfl (fun φ C0 => ?_)
  have C := C0.1
  refine x_aload_n C 1 dX6_latestSource_0 rfl rfl ?_
  refine x_iload_n C 2 dX6_latestSource_1 rfl rfl ?_
  refine x_callS0_i C 5 0 0 1 (cM_isChannel hl _ _) rfl gX6_latestSource_X6_isChannel ⟨by decide, by decide, rfl⟩ ⟨Nat.le_of_ble_eq_true rfl, Nat.le_of_ble_eq_true rfl⟩ rfl rfl (Nat.le_of_ble_eq_true rfl) ⟨Nat.le_of_ble_eq_true rfl, Nat.le_of_ble_eq_true rfl⟩ dX6_latestSource_2 rfl rfl rfl (fun r1 w1 h1 => ?_)
  obtain ⟨rfl, rfl⟩ := h1
  refine x_top (show _ = (1 : Int32) from by rw [chB_nI hc]; rfl) ?_
  refine x_if_ne C 12 8 dX6_latestSource_5 (by decide) rfl (fun zk5 => ?_) (fun zk5 => ?_)
  · refine x_aload_n C 13 dX6_latestSource_12 rfl rfl ?_
    refine xm_get C 16 fg_X6_latestSource_48 rfl dX6_latestSource_13 rfl ?_
    refine x_iload_n C 17 dX6_latestSource_16 rfl rfl ?_
    refine xm_iald C 18 12 12 (c) (by decide) rfl rfl rfl (by omega) dX6_latestSource_17 rfl ?_
    refine x_bipush (v := (-2)) C 20 dX6_latestSource_18 (by decide) rfl ?_
    refine x_icmp_ne C 27 23 dX6_latestSource_20 (by decide) rfl (fun zk20 => ?_) (fun zk20 => ?_)
    · refine x_iconst (v := (0)) C 28 dX6_latestSource_27 (by decide) rfl ?_
      refine xm_put C 31 8 (by decide) fp_X6_latestSource_98 rfl rfl dX6_latestSource_28 rfl ?_
      refine x_aload_n C 32 dX6_latestSource_31 rfl rfl ?_
      refine xm_get C 35 fg_X6_latestSource_98 rfl dX6_latestSource_32 rfl ?_
      refine x_top (show _ = (0) from rfl) ?_
      refine x_if_ne C 47 38 dX6_latestSource_35 (by decide) rfl (fun zk35 => ?_) (fun zk35 => ?_)
      · exact absurd zk35 (by decide)
      · refine x_aload_n C 39 dX6_latestSource_38 rfl rfl ?_
        refine xm_get C 42 fg_X6_latestSource_48 rfl dX6_latestSource_39 rfl ?_
        refine x_iload_n C 43 dX6_latestSource_42 rfl rfl ?_
        refine xm_iald C 44 12 12 (c) (by decide) rfl rfl rfl (by omega) dX6_latestSource_43 rfl ?_
        refine x_goto C 48 dX6_latestSource_44 (by decide) ?_
        exact x_zret C0 dX6_latestSource_48 (Nat.le_of_ble_eq_true rfl) (Nat.le_of_ble_eq_true rfl) ⟨_, rfl, ⟨rfl, rfl⟩⟩
    · exact absurd zk20 hv
  · exact absurd zk5 (by decide)
theorem fp_X6_baseLevel_98 : pF RX6 wsX6_baseLevel 98 10 35 false (.int) := ⟨RX6, TX6, 36, "StageConsoleModel", tyX6, rfl, fun w h => (List.mem_cons_of_mem _ (List.mem_append_left _ (List.mem_append_left _ (List.mem_append_right _ h)))), by decide, (List.mem_cons_of_mem _ (List.mem_append_left _ (List.mem_append_left _ (List.mem_append_left _ (List.mem_append_left _ (List.mem_of_getElem? (i := 0) rfl)))))), Or.inl rfl, tyX6_ok, nmX6, rfl, rfl, fun h => absurd h (by decide)⟩
theorem fg_X6_baseLevel_98 : gF RX6 wsX6_baseLevel 98 10 35 := ⟨RX6, TX6, 36, "StageConsoleModel", rfl, fun w h => (List.mem_cons_of_mem _ (List.mem_append_left _ (List.mem_append_left _ (List.mem_append_right _ h)))), by decide, (List.mem_cons_of_mem _ (List.mem_append_left _ (List.mem_append_left _ (List.mem_append_left _ (List.mem_append_left _ (List.mem_of_getElem? (i := 0) rfl)))))), Or.inl rfl⟩
set_option maxRecDepth 100000 in
set_option maxHeartbeats 4000000 in
theorem cM_baseLevel_1 (hl : l.stackTraces = false) {I : Nat → Nat → Int32} {ch : Int32} (hc : chB ch = false) : Ct (gm D a E0) l yX6_baseLevel wsX6_baseLevel { frames := 16, cells := 0, slots := 0, locals := 400 } [.ref m, .int ch] (wM m am a I en) (qI fun v w => v = -1 ∧ w = wM m am a (uI I 30 8 1) en) noX := by
  refine Ct.of [some (.ref m), some (.int ch)] rfl hl (by decide) (Nat.le_of_ble_eq_true rfl) rfl (fun φ C0 => ?_)
  have C := C0.1
  refine x_aload_n C 1 dX6_baseLevel_0 rfl rfl ?_
  refine x_iload_n C 2 dX6_baseLevel_1 rfl rfl ?_
  refine x_callS0_i C 5 0 0 1 (cM_isChannel hl _ _) rfl gX6_baseLevel_X6_isChannel ⟨by decide, by decide, rfl⟩ ⟨Nat.le_of_ble_eq_true rfl, Nat.le_of_ble_eq_true rfl⟩ rfl rfl (Nat.le_of_ble_eq_true rfl) ⟨Nat.le_of_ble_eq_true rfl, Nat.le_of_ble_eq_true rfl⟩ dX6_baseLevel_2 rfl rfl rfl (fun r1 w1 h1 => ?_)
  obtain ⟨rfl, rfl⟩ := h1
  refine x_top (show _ = (0 : Int32) from by rw [hc]; rfl) ?_
  refine x_if_eq C 12 8 dX6_baseLevel_5 (by decide) rfl (fun zk5 => ?_) (fun zk5 => ?_)
  · refine x_iconst (v := (1)) C 13 dX6_baseLevel_12 (by decide) rfl ?_
    refine xm_put C 16 8 (by decide) fp_X6_baseLevel_98 rfl rfl dX6_baseLevel_13 rfl ?_
    refine x_aload_n C 17 dX6_baseLevel_16 rfl rfl ?_
    refine xm_get C 20 fg_X6_baseLevel_98 rfl dX6_baseLevel_17 rfl ?_
    refine x_top (show _ = (1) from rfl) ?_
    refine x_if_ne C 31 23 dX6_baseLevel_20 (by decide) rfl (fun zk20 => ?_) (fun zk20 => ?_)
    · refine x_iconst (v := (-1)) C 32 dX6_baseLevel_31 (by decide) rfl ?_
      exact x_zret C0 dX6_baseLevel_32 (Nat.le_of_ble_eq_true rfl) (Nat.le_of_ble_eq_true rfl) ⟨_, rfl, ⟨rfl, rfl⟩⟩
    · exact absurd zk20 (by decide)
  · exact absurd zk5 (by decide)
set_option maxRecDepth 100000 in
set_option maxHeartbeats 4000000 in
theorem cM_baseLevel_0 (hl : l.stackTraces = false) {I : Nat → Nat → Int32} {eg : Nat → Nat} {nq ng ne nt : Nat} (hM : MI I eg nq ng ne nt) {c : Nat} (hc : c < 12) : Ct (gm D a E0) l yX6_baseLevel wsX6_baseLevel { frames := 16, cells := 0, slots := 0, locals := 400 } [.ref m, .int (nI c)] (wM m am a I en) (qI fun v w => v = bsF (uI I 30 8 0) ng c ∧ w = wM m am a (uI I 30 8 0) en) noX := by
  refine Ct.of [some (.ref m), some (.int (nI c))] rfl hl (by decide) (Nat.le_of_ble_eq_true rfl) rfl (fun φ C0 => ?_)
  have C := C0.1
  refine x_aload_n C 1 dX6_baseLevel_0 rfl rfl ?_
  refine x_iload_n C 2 dX6_baseLevel_1 rfl rfl ?_
  refine x_callS0_i C 5 0 0 1 (cM_isChannel hl _ _) rfl gX6_baseLevel_X6_isChannel ⟨by decide, by decide, rfl⟩ ⟨Nat.le_of_ble_eq_true rfl, Nat.le_of_ble_eq_true rfl⟩ rfl rfl (Nat.le_of_ble_eq_true rfl) ⟨Nat.le_of_ble_eq_true rfl, Nat.le_of_ble_eq_true rfl⟩ dX6_baseLevel_2 rfl rfl rfl (fun r1 w1 h1 => ?_)
  obtain ⟨rfl, rfl⟩ := h1
  refine x_top (show _ = (1 : Int32) from by rw [chB_nI hc]; rfl) ?_
  refine x_if_eq C 12 8 dX6_baseLevel_5 (by decide) rfl (fun zk5 => ?_) (fun zk5 => ?_)
  · exact absurd zk5 (by decide)
  · refine x_iconst (v := (0)) C 9 dX6_baseLevel_8 (by decide) rfl ?_
    refine x_goto C 13 dX6_baseLevel_9 (by decide) ?_
    refine xm_put C 16 8 (by decide) fp_X6_baseLevel_98 rfl rfl dX6_baseLevel_13 rfl ?_
    refine x_aload_n C 17 dX6_baseLevel_16 rfl rfl ?_
    refine xm_get C 20 fg_X6_baseLevel_98 rfl dX6_baseLevel_17 rfl ?_
    refine x_top (show _ = (0) from rfl) ?_
    refine x_if_ne C 31 23 dX6_baseLevel_20 (by decide) rfl (fun zk20 => ?_) (fun zk20 => ?_)
    · exact absurd zk20 (by decide)
    · refine x_aload_n C 24 dX6_baseLevel_23 rfl rfl ?_
      refine x_iload_n C 25 dX6_baseLevel_24 rfl rfl ?_
      refine x_callV0_i C 28 0 0 0 10 1 (cM_base hl _ hc (hM.2.2.2.2.2.1 c hc) hM.2.1.1 hM.2.1.2 (hM.2.2.2.2.1 c hc)) rfl gX6_baseLevel_X6_base ⟨rfl, by decide, by decide, rfl⟩ ⟨Nat.le_of_ble_eq_true rfl, Nat.le_of_ble_eq_true rfl⟩ rfl rfl rfl rfl (Nat.le_of_ble_eq_true rfl) ⟨Nat.le_of_ble_eq_true rfl, Nat.le_of_ble_eq_true rfl⟩ dX6_baseLevel_25 rfl rfl rfl (fun r2 w2 h2 => ?_)
      obtain ⟨rfl, rfl⟩ := h2
      refine x_goto C 32 dX6_baseLevel_28 (by decide) ?_
      exact x_zret C0 dX6_baseLevel_32 (Nat.le_of_ble_eq_true rfl) (Nat.le_of_ble_eq_true rfl) ⟨_, rfl, ⟨rfl, rfl⟩⟩
theorem fp_X6_level_98 : pF RX6 wsX6_level 98 10 35 false (.int) := ⟨RX6, TX6, 36, "StageConsoleModel", tyX6, rfl, fun w h => (List.mem_cons_of_mem _ (List.mem_append_left _ (List.mem_append_left _ (List.mem_append_right _ h)))), by decide, (List.mem_cons_of_mem _ (List.mem_append_left _ (List.mem_append_left _ (List.mem_append_left _ (List.mem_append_left _ (List.mem_of_getElem? (i := 0) rfl)))))), Or.inl rfl, tyX6_ok, nmX6, rfl, rfl, fun h => absurd h (by decide)⟩
theorem fg_X6_level_98 : gF RX6 wsX6_level 98 10 35 := ⟨RX6, TX6, 36, "StageConsoleModel", rfl, fun w h => (List.mem_cons_of_mem _ (List.mem_append_left _ (List.mem_append_left _ (List.mem_append_right _ h)))), by decide, (List.mem_cons_of_mem _ (List.mem_append_left _ (List.mem_append_left _ (List.mem_append_left _ (List.mem_append_left _ (List.mem_of_getElem? (i := 0) rfl)))))), Or.inl rfl⟩
set_option maxRecDepth 100000 in
set_option maxHeartbeats 4000000 in
theorem cM_level_1 (hl : l.stackTraces = false) {I : Nat → Nat → Int32} {ch : Int32} (hc : chB ch = false) : Ct (gm D a E0) l yX6_level wsX6_level { frames := 16, cells := 0, slots := 0, locals := 400 } [.ref m, .int ch] (wM m am a I en) (qI fun v w => v = -1 ∧ w = wM m am a (uI I 30 8 1) en) noX := by
  refine Ct.of [some (.ref m), some (.int ch)] rfl hl (by decide) (Nat.le_of_ble_eq_true rfl) rfl (fun φ C0 => ?_)
  have C := C0.1
  refine x_aload_n C 1 dX6_level_0 rfl rfl ?_
  refine x_iload_n C 2 dX6_level_1 rfl rfl ?_
  refine x_callS0_i C 5 0 0 1 (cM_isChannel hl _ _) rfl gX6_level_X6_isChannel ⟨by decide, by decide, rfl⟩ ⟨Nat.le_of_ble_eq_true rfl, Nat.le_of_ble_eq_true rfl⟩ rfl rfl (Nat.le_of_ble_eq_true rfl) ⟨Nat.le_of_ble_eq_true rfl, Nat.le_of_ble_eq_true rfl⟩ dX6_level_2 rfl rfl rfl (fun r1 w1 h1 => ?_)
  obtain ⟨rfl, rfl⟩ := h1
  refine x_top (show _ = (0 : Int32) from by rw [hc]; rfl) ?_
  refine x_if_eq C 12 8 dX6_level_5 (by decide) rfl (fun zk5 => ?_) (fun zk5 => ?_)
  · refine x_iconst (v := (1)) C 13 dX6_level_12 (by decide) rfl ?_
    refine xm_put C 16 8 (by decide) fp_X6_level_98 rfl rfl dX6_level_13 rfl ?_
    refine x_aload_n C 17 dX6_level_16 rfl rfl ?_
    refine xm_get C 20 fg_X6_level_98 rfl dX6_level_17 rfl ?_
    refine x_top (show _ = (1) from rfl) ?_
    refine x_if_ne C 31 23 dX6_level_20 (by decide) rfl (fun zk20 => ?_) (fun zk20 => ?_)
    · refine x_iconst (v := (-1)) C 32 dX6_level_31 (by decide) rfl ?_
      exact x_zret C0 dX6_level_32 (Nat.le_of_ble_eq_true rfl) (Nat.le_of_ble_eq_true rfl) ⟨_, rfl, ⟨rfl, rfl⟩⟩
    · exact absurd zk20 (by decide)
  · exact absurd zk5 (by decide)
set_option maxRecDepth 100000 in
set_option maxHeartbeats 4000000 in
theorem cM_level_0 (hl : l.stackTraces = false) {I : Nat → Nat → Int32} {eg : Nat → Nat} {nq ng ne nt : Nat} (hM : MI I eg nq ng ne nt) {c : Nat} (hc : c < 12) : Ct (gm D a E0) l yX6_level wsX6_level { frames := 16, cells := 0, slots := 0, locals := 400 } [.ref m, .int (nI c)] (wM m am a I en) (qI fun v w => v = lvF (uI I 30 8 0) eg ng ne c ∧ w = wM m am a (uI I 30 8 0) en) noX := by
  refine Ct.of [some (.ref m), some (.int (nI c))] rfl hl (by decide) (Nat.le_of_ble_eq_true rfl) rfl (fun φ C0 => ?_)
  have C := C0.1
  refine x_aload_n C 1 dX6_level_0 rfl rfl ?_
  refine x_iload_n C 2 dX6_level_1 rfl rfl ?_
  refine x_callS0_i C 5 0 0 1 (cM_isChannel hl _ _) rfl gX6_level_X6_isChannel ⟨by decide, by decide, rfl⟩ ⟨Nat.le_of_ble_eq_true rfl, Nat.le_of_ble_eq_true rfl⟩ rfl rfl (Nat.le_of_ble_eq_true rfl) ⟨Nat.le_of_ble_eq_true rfl, Nat.le_of_ble_eq_true rfl⟩ dX6_level_2 rfl rfl rfl (fun r1 w1 h1 => ?_)
  obtain ⟨rfl, rfl⟩ := h1
  refine x_top (show _ = (1 : Int32) from by rw [chB_nI hc]; rfl) ?_
  refine x_if_eq C 12 8 dX6_level_5 (by decide) rfl (fun zk5 => ?_) (fun zk5 => ?_)
  · exact absurd zk5 (by decide)
  · refine x_iconst (v := (0)) C 9 dX6_level_8 (by decide) rfl ?_
    refine x_goto C 13 dX6_level_9 (by decide) ?_
    refine xm_put C 16 8 (by decide) fp_X6_level_98 rfl rfl dX6_level_13 rfl ?_
    refine x_aload_n C 17 dX6_level_16 rfl rfl ?_
    refine xm_get C 20 fg_X6_level_98 rfl dX6_level_17 rfl ?_
    refine x_top (show _ = (0) from rfl) ?_
    refine x_if_ne C 31 23 dX6_level_20 (by decide) rfl (fun zk20 => ?_) (fun zk20 => ?_)
    · exact absurd zk20 (by decide)
    · refine x_aload_n C 24 dX6_level_23 rfl rfl ?_
      refine x_iload_n C 25 dX6_level_24 rfl rfl ?_
      refine x_callV0_i C 28 0 0 0 10 1 (cM_levelOf hl (I := uI I 30 8 0) (show MI (uI I 30 8 0) eg nq ng ne nt from hM) c hc) rfl gX6_level_X6_levelOf ⟨rfl, by decide, by decide, rfl⟩ ⟨Nat.le_of_ble_eq_true rfl, Nat.le_of_ble_eq_true rfl⟩ rfl rfl rfl rfl (Nat.le_of_ble_eq_true rfl) ⟨Nat.le_of_ble_eq_true rfl, Nat.le_of_ble_eq_true rfl⟩ dX6_level_25 rfl rfl rfl (fun r2 w2 h2 => ?_)
      obtain ⟨rfl, rfl⟩ := h2
      refine x_goto C 32 dX6_level_28 (by decide) ?_
      exact x_zret C0 dX6_level_32 (Nat.le_of_ble_eq_true rfl) (Nat.le_of_ble_eq_true rfl) ⟨_, rfl, ⟨rfl, rfl⟩⟩
set_option maxRecDepth 100000 in
set_option maxHeartbeats 4000000 in
theorem cM_levelAlone_1 (hl : l.stackTraces = false) {I : Nat → Nat → Int32} {ch : Int32} (hc : chB ch = false) : Ct (gm D a E0) l yX6_levelAlone wsX6_levelAlone { frames := 20, cells := 0, slots := 0, locals := 500 } [.ref m, .int ch] (wM m am a I en) (qI fun v w => v = -1 ∧ w = wM m am a (uI I 30 8 1) en) noX := by
  refine Ct.of [some (.ref m), some (.int ch)] rfl hl (by decide) (Nat.le_of_ble_eq_true rfl) rfl (fun φ C0 => ?_)
  have C := C0.1
  refine x_aload_n C 1 dX6_levelAlone_0 rfl rfl ?_
  refine x_iload_n C 2 dX6_levelAlone_1 rfl rfl ?_
  refine x_callV0_i C 5 0 0 0 10 1 (cM_level_1 hl hc) rfl gX6_levelAlone_X6_level ⟨rfl, by decide, by decide, rfl⟩ ⟨Nat.le_of_ble_eq_true rfl, Nat.le_of_ble_eq_true rfl⟩ rfl rfl rfl rfl (Nat.le_of_ble_eq_true rfl) ⟨Nat.le_of_ble_eq_true rfl, Nat.le_of_ble_eq_true rfl⟩ dX6_levelAlone_2 rfl rfl rfl (fun r1 w1 h1 => ?_)
  obtain ⟨rfl, rfl⟩ := h1
  exact x_zret C0 dX6_levelAlone_5 (Nat.le_of_ble_eq_true rfl) (Nat.le_of_ble_eq_true rfl) ⟨_, rfl, ⟨rfl, rfl⟩⟩
set_option maxRecDepth 100000 in
set_option maxHeartbeats 4000000 in
theorem cM_levelAlone_0 (hl : l.stackTraces = false) {I : Nat → Nat → Int32} {eg : Nat → Nat} {nq ng ne nt : Nat} (hM : MI I eg nq ng ne nt) {c : Nat} (hc : c < 12) : Ct (gm D a E0) l yX6_levelAlone wsX6_levelAlone { frames := 20, cells := 0, slots := 0, locals := 500 } [.ref m, .int (nI c)] (wM m am a I en) (qI fun v w => v = lvF (uI I 30 8 0) eg ng ne c ∧ w = wM m am a (uI I 30 8 0) en) noX := by
  refine Ct.of [some (.ref m), some (.int (nI c))] rfl hl (by decide) (Nat.le_of_ble_eq_true rfl) rfl (fun φ C0 => ?_)
  have C := C0.1
  refine x_aload_n C 1 dX6_levelAlone_0 rfl rfl ?_
  refine x_iload_n C 2 dX6_levelAlone_1 rfl rfl ?_
  refine x_callV0_i C 5 0 0 0 10 1 (cM_level_0 hl hM hc) rfl gX6_levelAlone_X6_level ⟨rfl, by decide, by decide, rfl⟩ ⟨Nat.le_of_ble_eq_true rfl, Nat.le_of_ble_eq_true rfl⟩ rfl rfl rfl rfl (Nat.le_of_ble_eq_true rfl) ⟨Nat.le_of_ble_eq_true rfl, Nat.le_of_ble_eq_true rfl⟩ dX6_levelAlone_2 rfl rfl rfl (fun r1 w1 h1 => ?_)
  obtain ⟨rfl, rfl⟩ := h1
  exact x_zret C0 dX6_levelAlone_5 (Nat.le_of_ble_eq_true rfl) (Nat.le_of_ble_eq_true rfl) ⟨_, rfl, ⟨rfl, rfl⟩⟩
theorem fp_X6_addEffect_98 : pF RX6 wsX6_addEffect 98 10 35 false (.int) := ⟨RX6, TX6, 36, "StageConsoleModel", tyX6, rfl, fun w h => (List.mem_cons_of_mem _ (List.mem_append_left _ (List.mem_append_right _ h))), by decide, (List.mem_cons_of_mem _ (List.mem_append_left _ (List.mem_append_left _ (List.mem_of_getElem? (i := 5) rfl)))), Or.inl rfl, tyX6_ok, nmX6, rfl, rfl, fun h => absurd h (by decide)⟩
theorem fg_X6_addEffect_98 : gF RX6 wsX6_addEffect 98 10 35 := ⟨RX6, TX6, 36, "StageConsoleModel", rfl, fun w h => (List.mem_cons_of_mem _ (List.mem_append_left _ (List.mem_append_right _ h))), by decide, (List.mem_cons_of_mem _ (List.mem_append_left _ (List.mem_append_left _ (List.mem_of_getElem? (i := 5) rfl)))), Or.inl rfl⟩
set_option maxRecDepth 100000 in
set_option maxHeartbeats 4000000 in
theorem cM_addEffect_1 (hl : l.stackTraces = false) {I : Nat → Nat → Int32} {ng : Nat} (h2 : I 30 2 = nI ng) (hg : ng ≤ 5) {g : Int32} {sh p sz sp : Int32} (hx : upB ng g = false) : Ct (gm D a E0) l yX6_addEffect wsX6_addEffect { frames := 12, cells := 0, slots := 0, locals := 300 } [.ref m, .int g, .int sh, .int p, .int sz, .int sp] (wM m am a I en) (qI fun v w => v = -1 ∧ w = wM m am a (uI I 30 8 1) en) noX := by
  refine Ct.of [some (.ref m), some (.int g), some (.int sh), some (.int p), some (.int sz), some (.int sp), none] rfl hl (by decide) (Nat.le_of_ble_eq_true rfl) rfl (fun φ C0 => ?_)
  have C := C0.1
  refine x_iload_n C 1 dX6_addEffect_0 rfl rfl ?_
  refine x_bipush (v := (119)) C 3 dX6_addEffect_1 (by decide) rfl ?_
  refine x_icmp_eq C 18 6 dX6_addEffect_3 (by decide) rfl (fun zk3 => ?_) (fun zk3 => ?_)
  · refine x_iload_n C 19 dX6_addEffect_18 rfl rfl ?_
    refine x_i2l C 20 dX6_addEffect_19 rfl rfl ?_
    refine x_ldc2 (v := 2) C 23 (List.mem_cons_of_mem _ (List.mem_append_left _ (List.mem_append_left _ (List.mem_of_getElem? (i := 0) rfl)))) dX6_addEffect_20 rfl ?_
    refine x_ldc2 (v := 40) C 26 (List.mem_cons_of_mem _ (List.mem_append_left _ (List.mem_append_left _ (List.mem_of_getElem? (i := 1) rfl)))) dX6_addEffect_23 rfl ?_
    refine x_callS0_i C 29 0 0 3 (cM_in hl _ _ _ _) rfl gX6_addEffect_X6_in ⟨by decide, by decide, rfl⟩ ⟨Nat.le_of_ble_eq_true rfl, Nat.le_of_ble_eq_true rfl⟩ rfl rfl (Nat.le_of_ble_eq_true rfl) ⟨Nat.le_of_ble_eq_true rfl, Nat.le_of_ble_eq_true rfl⟩ dX6_addEffect_26 rfl rfl rfl (fun r1 w1 h1 => ?_)
    obtain ⟨rfl, rfl⟩ := h1
    refine x_if_eq C 62 32 dX6_addEffect_29 (by decide) rfl (fun zk29 => ?_) (fun zk29 => ?_)
    · have zk29 := bI_eq0.mp zk29
      refine x_iconst (v := (0)) C 63 dX6_addEffect_62 (by decide) rfl ?_
      refine x_istore C 65 dX6_addEffect_63 (by decide) rfl rfl ?_
      refine x_aload_n C 66 dX6_addEffect_65 rfl rfl ?_
      refine x_aload_n C 67 dX6_addEffect_66 rfl rfl ?_
      refine x_iload_n C 68 dX6_addEffect_67 rfl rfl ?_
      refine x_callV0_i C 71 0 0 0 10 1 (cM_isGroup hl h2 _) rfl gX6_addEffect_X6_isGroup ⟨rfl, by decide, by decide, rfl⟩ ⟨Nat.le_of_ble_eq_true rfl, Nat.le_of_ble_eq_true rfl⟩ rfl rfl rfl rfl (Nat.le_of_ble_eq_true rfl) ⟨Nat.le_of_ble_eq_true rfl, Nat.le_of_ble_eq_true rfl⟩ dX6_addEffect_68 rfl rfl rfl (fun r2 w2 h2 => ?_)
      obtain ⟨rfl, rfl⟩ := h2
      refine x_top (show _ = (0 : Int32) from by rw [hx]; rfl) ?_
      refine x_if_ne C 78 74 dX6_addEffect_71 (by decide) rfl (fun zk71 => ?_) (fun zk71 => ?_)
      · exact absurd zk71 (by decide)
      · refine x_iconst (v := (1)) C 75 dX6_addEffect_74 (by decide) rfl ?_
        refine x_goto C 100 dX6_addEffect_75 (by decide) ?_
        refine xm_put C 103 8 (by decide) fp_X6_addEffect_98 rfl rfl dX6_addEffect_100 rfl ?_
        refine x_aload_n C 104 dX6_addEffect_103 rfl rfl ?_
        refine xm_get C 107 fg_X6_addEffect_98 rfl dX6_addEffect_104 rfl ?_
        refine x_top (show _ = (1) from rfl) ?_
        refine x_if_le C 112 110 dX6_addEffect_107 (by decide) rfl (fun zk107 => ?_) (fun zk107 => ?_)
        · exact absurd zk107 (by decide)
        · refine x_iconst (v := (-1)) C 111 dX6_addEffect_110 (by decide) rfl ?_
          exact x_zret C0 dX6_addEffect_111 (Nat.le_of_ble_eq_true rfl) (Nat.le_of_ble_eq_true rfl) ⟨_, rfl, ⟨rfl, rfl⟩⟩
    · have zk29 := bI_ne0.mp zk29
      refine x_iload C 34 dX6_addEffect_32 rfl rfl ?_
      refine x_i2l C 35 dX6_addEffect_34 rfl rfl ?_
      refine x_lconst (v := 1) C 36 dX6_addEffect_35 (by decide) rfl ?_
      refine x_ldc2 (v := 255) C 39 (List.mem_cons_of_mem _ (List.mem_append_left _ (List.mem_append_left _ (List.mem_of_getElem? (i := 2) rfl)))) dX6_addEffect_36 rfl ?_
      refine x_callS0_i C 42 0 0 3 (cM_in hl _ _ _ _) rfl gX6_addEffect_X6_in ⟨by decide, by decide, rfl⟩ ⟨Nat.le_of_ble_eq_true rfl, Nat.le_of_ble_eq_true rfl⟩ rfl rfl (Nat.le_of_ble_eq_true rfl) ⟨Nat.le_of_ble_eq_true rfl, Nat.le_of_ble_eq_true rfl⟩ dX6_addEffect_39 rfl rfl rfl (fun r3 w3 h3 => ?_)
      obtain ⟨rfl, rfl⟩ := h3
      refine x_if_eq C 62 45 dX6_addEffect_42 (by decide) rfl (fun zk42 => ?_) (fun zk42 => ?_)
      · have zk42 := bI_eq0.mp zk42
        refine x_iconst (v := (0)) C 63 dX6_addEffect_62 (by decide) rfl ?_
        refine x_istore C 65 dX6_addEffect_63 (by decide) rfl rfl ?_
        refine x_aload_n C 66 dX6_addEffect_65 rfl rfl ?_
        refine x_aload_n C 67 dX6_addEffect_66 rfl rfl ?_
        refine x_iload_n C 68 dX6_addEffect_67 rfl rfl ?_
        refine x_callV0_i C 71 0 0 0 10 1 (cM_isGroup hl h2 _) rfl gX6_addEffect_X6_isGroup ⟨rfl, by decide, by decide, rfl⟩ ⟨Nat.le_of_ble_eq_true rfl, Nat.le_of_ble_eq_true rfl⟩ rfl rfl rfl rfl (Nat.le_of_ble_eq_true rfl) ⟨Nat.le_of_ble_eq_true rfl, Nat.le_of_ble_eq_true rfl⟩ dX6_addEffect_68 rfl rfl rfl (fun r4 w4 h4 => ?_)
        obtain ⟨rfl, rfl⟩ := h4
        refine x_top (show _ = (0 : Int32) from by rw [hx]; rfl) ?_
        refine x_if_ne C 78 74 dX6_addEffect_71 (by decide) rfl (fun zk71 => ?_) (fun zk71 => ?_)
        · exact absurd zk71 (by decide)
        · refine x_iconst (v := (1)) C 75 dX6_addEffect_74 (by decide) rfl ?_
          refine x_goto C 100 dX6_addEffect_75 (by decide) ?_
          refine xm_put C 103 8 (by decide) fp_X6_addEffect_98 rfl rfl dX6_addEffect_100 rfl ?_
          refine x_aload_n C 104 dX6_addEffect_103 rfl rfl ?_
          refine xm_get C 107 fg_X6_addEffect_98 rfl dX6_addEffect_104 rfl ?_
          refine x_top (show _ = (1) from rfl) ?_
          refine x_if_le C 112 110 dX6_addEffect_107 (by decide) rfl (fun zk107 => ?_) (fun zk107 => ?_)
          · exact absurd zk107 (by decide)
          · refine x_iconst (v := (-1)) C 111 dX6_addEffect_110 (by decide) rfl ?_
            exact x_zret C0 dX6_addEffect_111 (Nat.le_of_ble_eq_true rfl) (Nat.le_of_ble_eq_true rfl) ⟨_, rfl, ⟨rfl, rfl⟩⟩
      · have zk42 := bI_ne0.mp zk42
        refine x_iload C 47 dX6_addEffect_45 rfl rfl ?_
        refine x_i2l C 48 dX6_addEffect_47 rfl rfl ?_
        refine x_lconst (v := 0) C 49 dX6_addEffect_48 (by decide) rfl ?_
        refine x_ldc2 (v := 39) C 52 (List.mem_cons_of_mem _ (List.mem_append_left _ (List.mem_append_left _ (List.mem_of_getElem? (i := 3) rfl)))) dX6_addEffect_49 rfl ?_
        refine x_callS0_i C 55 0 0 3 (cM_in hl _ _ _ _) rfl gX6_addEffect_X6_in ⟨by decide, by decide, rfl⟩ ⟨Nat.le_of_ble_eq_true rfl, Nat.le_of_ble_eq_true rfl⟩ rfl rfl (Nat.le_of_ble_eq_true rfl) ⟨Nat.le_of_ble_eq_true rfl, Nat.le_of_ble_eq_true rfl⟩ dX6_addEffect_52 rfl rfl rfl (fun r5 w5 h5 => ?_)
        obtain ⟨rfl, rfl⟩ := h5
        refine x_if_eq C 62 58 dX6_addEffect_55 (by decide) rfl (fun zk55 => ?_) (fun zk55 => ?_)
        · have zk55 := bI_eq0.mp zk55
          refine x_iconst (v := (0)) C 63 dX6_addEffect_62 (by decide) rfl ?_
          refine x_istore C 65 dX6_addEffect_63 (by decide) rfl rfl ?_
          refine x_aload_n C 66 dX6_addEffect_65 rfl rfl ?_
          refine x_aload_n C 67 dX6_addEffect_66 rfl rfl ?_
          refine x_iload_n C 68 dX6_addEffect_67 rfl rfl ?_
          refine x_callV0_i C 71 0 0 0 10 1 (cM_isGroup hl h2 _) rfl gX6_addEffect_X6_isGroup ⟨rfl, by decide, by decide, rfl⟩ ⟨Nat.le_of_ble_eq_true rfl, Nat.le_of_ble_eq_true rfl⟩ rfl rfl rfl rfl (Nat.le_of_ble_eq_true rfl) ⟨Nat.le_of_ble_eq_true rfl, Nat.le_of_ble_eq_true rfl⟩ dX6_addEffect_68 rfl rfl rfl (fun r6 w6 h6 => ?_)
          obtain ⟨rfl, rfl⟩ := h6
          refine x_top (show _ = (0 : Int32) from by rw [hx]; rfl) ?_
          refine x_if_ne C 78 74 dX6_addEffect_71 (by decide) rfl (fun zk71 => ?_) (fun zk71 => ?_)
          · exact absurd zk71 (by decide)
          · refine x_iconst (v := (1)) C 75 dX6_addEffect_74 (by decide) rfl ?_
            refine x_goto C 100 dX6_addEffect_75 (by decide) ?_
            refine xm_put C 103 8 (by decide) fp_X6_addEffect_98 rfl rfl dX6_addEffect_100 rfl ?_
            refine x_aload_n C 104 dX6_addEffect_103 rfl rfl ?_
            refine xm_get C 107 fg_X6_addEffect_98 rfl dX6_addEffect_104 rfl ?_
            refine x_top (show _ = (1) from rfl) ?_
            refine x_if_le C 112 110 dX6_addEffect_107 (by decide) rfl (fun zk107 => ?_) (fun zk107 => ?_)
            · exact absurd zk107 (by decide)
            · refine x_iconst (v := (-1)) C 111 dX6_addEffect_110 (by decide) rfl ?_
              exact x_zret C0 dX6_addEffect_111 (Nat.le_of_ble_eq_true rfl) (Nat.le_of_ble_eq_true rfl) ⟨_, rfl, ⟨rfl, rfl⟩⟩
        · have zk55 := bI_ne0.mp zk55
          refine x_iconst (v := (1)) C 59 dX6_addEffect_58 (by decide) rfl ?_
          refine x_goto C 63 dX6_addEffect_59 (by decide) ?_
          refine x_istore C 65 dX6_addEffect_63 (by decide) rfl rfl ?_
          refine x_aload_n C 66 dX6_addEffect_65 rfl rfl ?_
          refine x_aload_n C 67 dX6_addEffect_66 rfl rfl ?_
          refine x_iload_n C 68 dX6_addEffect_67 rfl rfl ?_
          refine x_callV0_i C 71 0 0 0 10 1 (cM_isGroup hl h2 _) rfl gX6_addEffect_X6_isGroup ⟨rfl, by decide, by decide, rfl⟩ ⟨Nat.le_of_ble_eq_true rfl, Nat.le_of_ble_eq_true rfl⟩ rfl rfl rfl rfl (Nat.le_of_ble_eq_true rfl) ⟨Nat.le_of_ble_eq_true rfl, Nat.le_of_ble_eq_true rfl⟩ dX6_addEffect_68 rfl rfl rfl (fun r7 w7 h7 => ?_)
          obtain ⟨rfl, rfl⟩ := h7
          refine x_top (show _ = (0 : Int32) from by rw [hx]; rfl) ?_
          refine x_if_ne C 78 74 dX6_addEffect_71 (by decide) rfl (fun zk71 => ?_) (fun zk71 => ?_)
          · exact absurd zk71 (by decide)
          · refine x_iconst (v := (1)) C 75 dX6_addEffect_74 (by decide) rfl ?_
            refine x_goto C 100 dX6_addEffect_75 (by decide) ?_
            refine xm_put C 103 8 (by decide) fp_X6_addEffect_98 rfl rfl dX6_addEffect_100 rfl ?_
            refine x_aload_n C 104 dX6_addEffect_103 rfl rfl ?_
            refine xm_get C 107 fg_X6_addEffect_98 rfl dX6_addEffect_104 rfl ?_
            refine x_top (show _ = (1) from rfl) ?_
            refine x_if_le C 112 110 dX6_addEffect_107 (by decide) rfl (fun zk107 => ?_) (fun zk107 => ?_)
            · exact absurd zk107 (by decide)
            · refine x_iconst (v := (-1)) C 111 dX6_addEffect_110 (by decide) rfl ?_
              exact x_zret C0 dX6_addEffect_111 (Nat.le_of_ble_eq_true rfl) (Nat.le_of_ble_eq_true rfl) ⟨_, rfl, ⟨rfl, rfl⟩⟩
  · refine x_iload_n C 7 dX6_addEffect_6 rfl rfl ?_
    refine x_bipush (v := (116)) C 9 dX6_addEffect_7 (by decide) rfl ?_
    refine x_icmp_eq C 18 12 dX6_addEffect_9 (by decide) rfl (fun zk9 => ?_) (fun zk9 => ?_)
    · refine x_iload_n C 19 dX6_addEffect_18 rfl rfl ?_
      refine x_i2l C 20 dX6_addEffect_19 rfl rfl ?_
      refine x_ldc2 (v := 2) C 23 (List.mem_cons_of_mem _ (List.mem_append_left _ (List.mem_append_left _ (List.mem_of_getElem? (i := 0) rfl)))) dX6_addEffect_20 rfl ?_
      refine x_ldc2 (v := 40) C 26 (List.mem_cons_of_mem _ (List.mem_append_left _ (List.mem_append_left _ (List.mem_of_getElem? (i := 1) rfl)))) dX6_addEffect_23 rfl ?_
      refine x_callS0_i C 29 0 0 3 (cM_in hl _ _ _ _) rfl gX6_addEffect_X6_in ⟨by decide, by decide, rfl⟩ ⟨Nat.le_of_ble_eq_true rfl, Nat.le_of_ble_eq_true rfl⟩ rfl rfl (Nat.le_of_ble_eq_true rfl) ⟨Nat.le_of_ble_eq_true rfl, Nat.le_of_ble_eq_true rfl⟩ dX6_addEffect_26 rfl rfl rfl (fun r8 w8 h8 => ?_)
      obtain ⟨rfl, rfl⟩ := h8
      refine x_if_eq C 62 32 dX6_addEffect_29 (by decide) rfl (fun zk29 => ?_) (fun zk29 => ?_)
      · have zk29 := bI_eq0.mp zk29
        refine x_iconst (v := (0)) C 63 dX6_addEffect_62 (by decide) rfl ?_
        refine x_istore C 65 dX6_addEffect_63 (by decide) rfl rfl ?_
        refine x_aload_n C 66 dX6_addEffect_65 rfl rfl ?_
        refine x_aload_n C 67 dX6_addEffect_66 rfl rfl ?_
        refine x_iload_n C 68 dX6_addEffect_67 rfl rfl ?_
        refine x_callV0_i C 71 0 0 0 10 1 (cM_isGroup hl h2 _) rfl gX6_addEffect_X6_isGroup ⟨rfl, by decide, by decide, rfl⟩ ⟨Nat.le_of_ble_eq_true rfl, Nat.le_of_ble_eq_true rfl⟩ rfl rfl rfl rfl (Nat.le_of_ble_eq_true rfl) ⟨Nat.le_of_ble_eq_true rfl, Nat.le_of_ble_eq_true rfl⟩ dX6_addEffect_68 rfl rfl rfl (fun r9 w9 h9 => ?_)
        obtain ⟨rfl, rfl⟩ := h9
        refine x_top (show _ = (0 : Int32) from by rw [hx]; rfl) ?_
        refine x_if_ne C 78 74 dX6_addEffect_71 (by decide) rfl (fun zk71 => ?_) (fun zk71 => ?_)
        · exact absurd zk71 (by decide)
        · refine x_iconst (v := (1)) C 75 dX6_addEffect_74 (by decide) rfl ?_
          refine x_goto C 100 dX6_addEffect_75 (by decide) ?_
          refine xm_put C 103 8 (by decide) fp_X6_addEffect_98 rfl rfl dX6_addEffect_100 rfl ?_
          refine x_aload_n C 104 dX6_addEffect_103 rfl rfl ?_
          refine xm_get C 107 fg_X6_addEffect_98 rfl dX6_addEffect_104 rfl ?_
          refine x_top (show _ = (1) from rfl) ?_
          refine x_if_le C 112 110 dX6_addEffect_107 (by decide) rfl (fun zk107 => ?_) (fun zk107 => ?_)
          · exact absurd zk107 (by decide)
          · refine x_iconst (v := (-1)) C 111 dX6_addEffect_110 (by decide) rfl ?_
            exact x_zret C0 dX6_addEffect_111 (Nat.le_of_ble_eq_true rfl) (Nat.le_of_ble_eq_true rfl) ⟨_, rfl, ⟨rfl, rfl⟩⟩
      · have zk29 := bI_ne0.mp zk29
        refine x_iload C 34 dX6_addEffect_32 rfl rfl ?_
        refine x_i2l C 35 dX6_addEffect_34 rfl rfl ?_
        refine x_lconst (v := 1) C 36 dX6_addEffect_35 (by decide) rfl ?_
        refine x_ldc2 (v := 255) C 39 (List.mem_cons_of_mem _ (List.mem_append_left _ (List.mem_append_left _ (List.mem_of_getElem? (i := 2) rfl)))) dX6_addEffect_36 rfl ?_
        refine x_callS0_i C 42 0 0 3 (cM_in hl _ _ _ _) rfl gX6_addEffect_X6_in ⟨by decide, by decide, rfl⟩ ⟨Nat.le_of_ble_eq_true rfl, Nat.le_of_ble_eq_true rfl⟩ rfl rfl (Nat.le_of_ble_eq_true rfl) ⟨Nat.le_of_ble_eq_true rfl, Nat.le_of_ble_eq_true rfl⟩ dX6_addEffect_39 rfl rfl rfl (fun r10 w10 h10 => ?_)
        obtain ⟨rfl, rfl⟩ := h10
        refine x_if_eq C 62 45 dX6_addEffect_42 (by decide) rfl (fun zk42 => ?_) (fun zk42 => ?_)
        · have zk42 := bI_eq0.mp zk42
          refine x_iconst (v := (0)) C 63 dX6_addEffect_62 (by decide) rfl ?_
          refine x_istore C 65 dX6_addEffect_63 (by decide) rfl rfl ?_
          refine x_aload_n C 66 dX6_addEffect_65 rfl rfl ?_
          refine x_aload_n C 67 dX6_addEffect_66 rfl rfl ?_
          refine x_iload_n C 68 dX6_addEffect_67 rfl rfl ?_
          refine x_callV0_i C 71 0 0 0 10 1 (cM_isGroup hl h2 _) rfl gX6_addEffect_X6_isGroup ⟨rfl, by decide, by decide, rfl⟩ ⟨Nat.le_of_ble_eq_true rfl, Nat.le_of_ble_eq_true rfl⟩ rfl rfl rfl rfl (Nat.le_of_ble_eq_true rfl) ⟨Nat.le_of_ble_eq_true rfl, Nat.le_of_ble_eq_true rfl⟩ dX6_addEffect_68 rfl rfl rfl (fun r11 w11 h11 => ?_)
          obtain ⟨rfl, rfl⟩ := h11
          refine x_top (show _ = (0 : Int32) from by rw [hx]; rfl) ?_
          refine x_if_ne C 78 74 dX6_addEffect_71 (by decide) rfl (fun zk71 => ?_) (fun zk71 => ?_)
          · exact absurd zk71 (by decide)
          · refine x_iconst (v := (1)) C 75 dX6_addEffect_74 (by decide) rfl ?_
            refine x_goto C 100 dX6_addEffect_75 (by decide) ?_
            refine xm_put C 103 8 (by decide) fp_X6_addEffect_98 rfl rfl dX6_addEffect_100 rfl ?_
            refine x_aload_n C 104 dX6_addEffect_103 rfl rfl ?_
            refine xm_get C 107 fg_X6_addEffect_98 rfl dX6_addEffect_104 rfl ?_
            refine x_top (show _ = (1) from rfl) ?_
            refine x_if_le C 112 110 dX6_addEffect_107 (by decide) rfl (fun zk107 => ?_) (fun zk107 => ?_)
            · exact absurd zk107 (by decide)
            · refine x_iconst (v := (-1)) C 111 dX6_addEffect_110 (by decide) rfl ?_
              exact x_zret C0 dX6_addEffect_111 (Nat.le_of_ble_eq_true rfl) (Nat.le_of_ble_eq_true rfl) ⟨_, rfl, ⟨rfl, rfl⟩⟩
        · have zk42 := bI_ne0.mp zk42
          refine x_iload C 47 dX6_addEffect_45 rfl rfl ?_
          refine x_i2l C 48 dX6_addEffect_47 rfl rfl ?_
          refine x_lconst (v := 0) C 49 dX6_addEffect_48 (by decide) rfl ?_
          refine x_ldc2 (v := 39) C 52 (List.mem_cons_of_mem _ (List.mem_append_left _ (List.mem_append_left _ (List.mem_of_getElem? (i := 3) rfl)))) dX6_addEffect_49 rfl ?_
          refine x_callS0_i C 55 0 0 3 (cM_in hl _ _ _ _) rfl gX6_addEffect_X6_in ⟨by decide, by decide, rfl⟩ ⟨Nat.le_of_ble_eq_true rfl, Nat.le_of_ble_eq_true rfl⟩ rfl rfl (Nat.le_of_ble_eq_true rfl) ⟨Nat.le_of_ble_eq_true rfl, Nat.le_of_ble_eq_true rfl⟩ dX6_addEffect_52 rfl rfl rfl (fun r12 w12 h12 => ?_)
          obtain ⟨rfl, rfl⟩ := h12
          refine x_if_eq C 62 58 dX6_addEffect_55 (by decide) rfl (fun zk55 => ?_) (fun zk55 => ?_)
          · have zk55 := bI_eq0.mp zk55
            refine x_iconst (v := (0)) C 63 dX6_addEffect_62 (by decide) rfl ?_
            refine x_istore C 65 dX6_addEffect_63 (by decide) rfl rfl ?_
            refine x_aload_n C 66 dX6_addEffect_65 rfl rfl ?_
            refine x_aload_n C 67 dX6_addEffect_66 rfl rfl ?_
            refine x_iload_n C 68 dX6_addEffect_67 rfl rfl ?_
            refine x_callV0_i C 71 0 0 0 10 1 (cM_isGroup hl h2 _) rfl gX6_addEffect_X6_isGroup ⟨rfl, by decide, by decide, rfl⟩ ⟨Nat.le_of_ble_eq_true rfl, Nat.le_of_ble_eq_true rfl⟩ rfl rfl rfl rfl (Nat.le_of_ble_eq_true rfl) ⟨Nat.le_of_ble_eq_true rfl, Nat.le_of_ble_eq_true rfl⟩ dX6_addEffect_68 rfl rfl rfl (fun r13 w13 h13 => ?_)
            obtain ⟨rfl, rfl⟩ := h13
            refine x_top (show _ = (0 : Int32) from by rw [hx]; rfl) ?_
            refine x_if_ne C 78 74 dX6_addEffect_71 (by decide) rfl (fun zk71 => ?_) (fun zk71 => ?_)
            · exact absurd zk71 (by decide)
            · refine x_iconst (v := (1)) C 75 dX6_addEffect_74 (by decide) rfl ?_
              refine x_goto C 100 dX6_addEffect_75 (by decide) ?_
              refine xm_put C 103 8 (by decide) fp_X6_addEffect_98 rfl rfl dX6_addEffect_100 rfl ?_
              refine x_aload_n C 104 dX6_addEffect_103 rfl rfl ?_
              refine xm_get C 107 fg_X6_addEffect_98 rfl dX6_addEffect_104 rfl ?_
              refine x_top (show _ = (1) from rfl) ?_
              refine x_if_le C 112 110 dX6_addEffect_107 (by decide) rfl (fun zk107 => ?_) (fun zk107 => ?_)
              · exact absurd zk107 (by decide)
              · refine x_iconst (v := (-1)) C 111 dX6_addEffect_110 (by decide) rfl ?_
                exact x_zret C0 dX6_addEffect_111 (Nat.le_of_ble_eq_true rfl) (Nat.le_of_ble_eq_true rfl) ⟨_, rfl, ⟨rfl, rfl⟩⟩
          · have zk55 := bI_ne0.mp zk55
            refine x_iconst (v := (1)) C 59 dX6_addEffect_58 (by decide) rfl ?_
            refine x_goto C 63 dX6_addEffect_59 (by decide) ?_
            refine x_istore C 65 dX6_addEffect_63 (by decide) rfl rfl ?_
            refine x_aload_n C 66 dX6_addEffect_65 rfl rfl ?_
            refine x_aload_n C 67 dX6_addEffect_66 rfl rfl ?_
            refine x_iload_n C 68 dX6_addEffect_67 rfl rfl ?_
            refine x_callV0_i C 71 0 0 0 10 1 (cM_isGroup hl h2 _) rfl gX6_addEffect_X6_isGroup ⟨rfl, by decide, by decide, rfl⟩ ⟨Nat.le_of_ble_eq_true rfl, Nat.le_of_ble_eq_true rfl⟩ rfl rfl rfl rfl (Nat.le_of_ble_eq_true rfl) ⟨Nat.le_of_ble_eq_true rfl, Nat.le_of_ble_eq_true rfl⟩ dX6_addEffect_68 rfl rfl rfl (fun r14 w14 h14 => ?_)
            obtain ⟨rfl, rfl⟩ := h14
            refine x_top (show _ = (0 : Int32) from by rw [hx]; rfl) ?_
            refine x_if_ne C 78 74 dX6_addEffect_71 (by decide) rfl (fun zk71 => ?_) (fun zk71 => ?_)
            · exact absurd zk71 (by decide)
            · refine x_iconst (v := (1)) C 75 dX6_addEffect_74 (by decide) rfl ?_
              refine x_goto C 100 dX6_addEffect_75 (by decide) ?_
              refine xm_put C 103 8 (by decide) fp_X6_addEffect_98 rfl rfl dX6_addEffect_100 rfl ?_
              refine x_aload_n C 104 dX6_addEffect_103 rfl rfl ?_
              refine xm_get C 107 fg_X6_addEffect_98 rfl dX6_addEffect_104 rfl ?_
              refine x_top (show _ = (1) from rfl) ?_
              refine x_if_le C 112 110 dX6_addEffect_107 (by decide) rfl (fun zk107 => ?_) (fun zk107 => ?_)
              · exact absurd zk107 (by decide)
              · refine x_iconst (v := (-1)) C 111 dX6_addEffect_110 (by decide) rfl ?_
                exact x_zret C0 dX6_addEffect_111 (Nat.le_of_ble_eq_true rfl) (Nat.le_of_ble_eq_true rfl) ⟨_, rfl, ⟨rfl, rfl⟩⟩
    · refine x_iload_n C 13 dX6_addEffect_12 rfl rfl ?_
      refine x_bipush (v := (113)) C 15 dX6_addEffect_13 (by decide) rfl ?_
      refine x_icmp_ne C 62 18 dX6_addEffect_15 (by decide) rfl (fun zk15 => ?_) (fun zk15 => ?_)
      · refine x_iconst (v := (0)) C 63 dX6_addEffect_62 (by decide) rfl ?_
        refine x_istore C 65 dX6_addEffect_63 (by decide) rfl rfl ?_
        refine x_aload_n C 66 dX6_addEffect_65 rfl rfl ?_
        refine x_aload_n C 67 dX6_addEffect_66 rfl rfl ?_
        refine x_iload_n C 68 dX6_addEffect_67 rfl rfl ?_
        refine x_callV0_i C 71 0 0 0 10 1 (cM_isGroup hl h2 _) rfl gX6_addEffect_X6_isGroup ⟨rfl, by decide, by decide, rfl⟩ ⟨Nat.le_of_ble_eq_true rfl, Nat.le_of_ble_eq_true rfl⟩ rfl rfl rfl rfl (Nat.le_of_ble_eq_true rfl) ⟨Nat.le_of_ble_eq_true rfl, Nat.le_of_ble_eq_true rfl⟩ dX6_addEffect_68 rfl rfl rfl (fun r15 w15 h15 => ?_)
        obtain ⟨rfl, rfl⟩ := h15
        refine x_top (show _ = (0 : Int32) from by rw [hx]; rfl) ?_
        refine x_if_ne C 78 74 dX6_addEffect_71 (by decide) rfl (fun zk71 => ?_) (fun zk71 => ?_)
        · exact absurd zk71 (by decide)
        · refine x_iconst (v := (1)) C 75 dX6_addEffect_74 (by decide) rfl ?_
          refine x_goto C 100 dX6_addEffect_75 (by decide) ?_
          refine xm_put C 103 8 (by decide) fp_X6_addEffect_98 rfl rfl dX6_addEffect_100 rfl ?_
          refine x_aload_n C 104 dX6_addEffect_103 rfl rfl ?_
          refine xm_get C 107 fg_X6_addEffect_98 rfl dX6_addEffect_104 rfl ?_
          refine x_top (show _ = (1) from rfl) ?_
          refine x_if_le C 112 110 dX6_addEffect_107 (by decide) rfl (fun zk107 => ?_) (fun zk107 => ?_)
          · exact absurd zk107 (by decide)
          · refine x_iconst (v := (-1)) C 111 dX6_addEffect_110 (by decide) rfl ?_
            exact x_zret C0 dX6_addEffect_111 (Nat.le_of_ble_eq_true rfl) (Nat.le_of_ble_eq_true rfl) ⟨_, rfl, ⟨rfl, rfl⟩⟩
      · refine x_iload_n C 19 dX6_addEffect_18 rfl rfl ?_
        refine x_i2l C 20 dX6_addEffect_19 rfl rfl ?_
        refine x_ldc2 (v := 2) C 23 (List.mem_cons_of_mem _ (List.mem_append_left _ (List.mem_append_left _ (List.mem_of_getElem? (i := 0) rfl)))) dX6_addEffect_20 rfl ?_
        refine x_ldc2 (v := 40) C 26 (List.mem_cons_of_mem _ (List.mem_append_left _ (List.mem_append_left _ (List.mem_of_getElem? (i := 1) rfl)))) dX6_addEffect_23 rfl ?_
        refine x_callS0_i C 29 0 0 3 (cM_in hl _ _ _ _) rfl gX6_addEffect_X6_in ⟨by decide, by decide, rfl⟩ ⟨Nat.le_of_ble_eq_true rfl, Nat.le_of_ble_eq_true rfl⟩ rfl rfl (Nat.le_of_ble_eq_true rfl) ⟨Nat.le_of_ble_eq_true rfl, Nat.le_of_ble_eq_true rfl⟩ dX6_addEffect_26 rfl rfl rfl (fun r16 w16 h16 => ?_)
        obtain ⟨rfl, rfl⟩ := h16
        refine x_if_eq C 62 32 dX6_addEffect_29 (by decide) rfl (fun zk29 => ?_) (fun zk29 => ?_)
        · have zk29 := bI_eq0.mp zk29
          refine x_iconst (v := (0)) C 63 dX6_addEffect_62 (by decide) rfl ?_
          refine x_istore C 65 dX6_addEffect_63 (by decide) rfl rfl ?_
          refine x_aload_n C 66 dX6_addEffect_65 rfl rfl ?_
          refine x_aload_n C 67 dX6_addEffect_66 rfl rfl ?_
          refine x_iload_n C 68 dX6_addEffect_67 rfl rfl ?_
          refine x_callV0_i C 71 0 0 0 10 1 (cM_isGroup hl h2 _) rfl gX6_addEffect_X6_isGroup ⟨rfl, by decide, by decide, rfl⟩ ⟨Nat.le_of_ble_eq_true rfl, Nat.le_of_ble_eq_true rfl⟩ rfl rfl rfl rfl (Nat.le_of_ble_eq_true rfl) ⟨Nat.le_of_ble_eq_true rfl, Nat.le_of_ble_eq_true rfl⟩ dX6_addEffect_68 rfl rfl rfl (fun r17 w17 h17 => ?_)
          obtain ⟨rfl, rfl⟩ := h17
          refine x_top (show _ = (0 : Int32) from by rw [hx]; rfl) ?_
          refine x_if_ne C 78 74 dX6_addEffect_71 (by decide) rfl (fun zk71 => ?_) (fun zk71 => ?_)
          · exact absurd zk71 (by decide)
          · refine x_iconst (v := (1)) C 75 dX6_addEffect_74 (by decide) rfl ?_
            refine x_goto C 100 dX6_addEffect_75 (by decide) ?_
            refine xm_put C 103 8 (by decide) fp_X6_addEffect_98 rfl rfl dX6_addEffect_100 rfl ?_
            refine x_aload_n C 104 dX6_addEffect_103 rfl rfl ?_
            refine xm_get C 107 fg_X6_addEffect_98 rfl dX6_addEffect_104 rfl ?_
            refine x_top (show _ = (1) from rfl) ?_
            refine x_if_le C 112 110 dX6_addEffect_107 (by decide) rfl (fun zk107 => ?_) (fun zk107 => ?_)
            · exact absurd zk107 (by decide)
            · refine x_iconst (v := (-1)) C 111 dX6_addEffect_110 (by decide) rfl ?_
              exact x_zret C0 dX6_addEffect_111 (Nat.le_of_ble_eq_true rfl) (Nat.le_of_ble_eq_true rfl) ⟨_, rfl, ⟨rfl, rfl⟩⟩
        · have zk29 := bI_ne0.mp zk29
          refine x_iload C 34 dX6_addEffect_32 rfl rfl ?_
          refine x_i2l C 35 dX6_addEffect_34 rfl rfl ?_
          refine x_lconst (v := 1) C 36 dX6_addEffect_35 (by decide) rfl ?_
          refine x_ldc2 (v := 255) C 39 (List.mem_cons_of_mem _ (List.mem_append_left _ (List.mem_append_left _ (List.mem_of_getElem? (i := 2) rfl)))) dX6_addEffect_36 rfl ?_
          refine x_callS0_i C 42 0 0 3 (cM_in hl _ _ _ _) rfl gX6_addEffect_X6_in ⟨by decide, by decide, rfl⟩ ⟨Nat.le_of_ble_eq_true rfl, Nat.le_of_ble_eq_true rfl⟩ rfl rfl (Nat.le_of_ble_eq_true rfl) ⟨Nat.le_of_ble_eq_true rfl, Nat.le_of_ble_eq_true rfl⟩ dX6_addEffect_39 rfl rfl rfl (fun r18 w18 h18 => ?_)
          obtain ⟨rfl, rfl⟩ := h18
          refine x_if_eq C 62 45 dX6_addEffect_42 (by decide) rfl (fun zk42 => ?_) (fun zk42 => ?_)
          · have zk42 := bI_eq0.mp zk42
            refine x_iconst (v := (0)) C 63 dX6_addEffect_62 (by decide) rfl ?_
            refine x_istore C 65 dX6_addEffect_63 (by decide) rfl rfl ?_
            refine x_aload_n C 66 dX6_addEffect_65 rfl rfl ?_
            refine x_aload_n C 67 dX6_addEffect_66 rfl rfl ?_
            refine x_iload_n C 68 dX6_addEffect_67 rfl rfl ?_
            refine x_callV0_i C 71 0 0 0 10 1 (cM_isGroup hl h2 _) rfl gX6_addEffect_X6_isGroup ⟨rfl, by decide, by decide, rfl⟩ ⟨Nat.le_of_ble_eq_true rfl, Nat.le_of_ble_eq_true rfl⟩ rfl rfl rfl rfl (Nat.le_of_ble_eq_true rfl) ⟨Nat.le_of_ble_eq_true rfl, Nat.le_of_ble_eq_true rfl⟩ dX6_addEffect_68 rfl rfl rfl (fun r19 w19 h19 => ?_)
            obtain ⟨rfl, rfl⟩ := h19
            refine x_top (show _ = (0 : Int32) from by rw [hx]; rfl) ?_
            refine x_if_ne C 78 74 dX6_addEffect_71 (by decide) rfl (fun zk71 => ?_) (fun zk71 => ?_)
            · exact absurd zk71 (by decide)
            · refine x_iconst (v := (1)) C 75 dX6_addEffect_74 (by decide) rfl ?_
              refine x_goto C 100 dX6_addEffect_75 (by decide) ?_
              refine xm_put C 103 8 (by decide) fp_X6_addEffect_98 rfl rfl dX6_addEffect_100 rfl ?_
              refine x_aload_n C 104 dX6_addEffect_103 rfl rfl ?_
              refine xm_get C 107 fg_X6_addEffect_98 rfl dX6_addEffect_104 rfl ?_
              refine x_top (show _ = (1) from rfl) ?_
              refine x_if_le C 112 110 dX6_addEffect_107 (by decide) rfl (fun zk107 => ?_) (fun zk107 => ?_)
              · exact absurd zk107 (by decide)
              · refine x_iconst (v := (-1)) C 111 dX6_addEffect_110 (by decide) rfl ?_
                exact x_zret C0 dX6_addEffect_111 (Nat.le_of_ble_eq_true rfl) (Nat.le_of_ble_eq_true rfl) ⟨_, rfl, ⟨rfl, rfl⟩⟩
          · have zk42 := bI_ne0.mp zk42
            refine x_iload C 47 dX6_addEffect_45 rfl rfl ?_
            refine x_i2l C 48 dX6_addEffect_47 rfl rfl ?_
            refine x_lconst (v := 0) C 49 dX6_addEffect_48 (by decide) rfl ?_
            refine x_ldc2 (v := 39) C 52 (List.mem_cons_of_mem _ (List.mem_append_left _ (List.mem_append_left _ (List.mem_of_getElem? (i := 3) rfl)))) dX6_addEffect_49 rfl ?_
            refine x_callS0_i C 55 0 0 3 (cM_in hl _ _ _ _) rfl gX6_addEffect_X6_in ⟨by decide, by decide, rfl⟩ ⟨Nat.le_of_ble_eq_true rfl, Nat.le_of_ble_eq_true rfl⟩ rfl rfl (Nat.le_of_ble_eq_true rfl) ⟨Nat.le_of_ble_eq_true rfl, Nat.le_of_ble_eq_true rfl⟩ dX6_addEffect_52 rfl rfl rfl (fun r20 w20 h20 => ?_)
            obtain ⟨rfl, rfl⟩ := h20
            refine x_if_eq C 62 58 dX6_addEffect_55 (by decide) rfl (fun zk55 => ?_) (fun zk55 => ?_)
            · have zk55 := bI_eq0.mp zk55
              refine x_iconst (v := (0)) C 63 dX6_addEffect_62 (by decide) rfl ?_
              refine x_istore C 65 dX6_addEffect_63 (by decide) rfl rfl ?_
              refine x_aload_n C 66 dX6_addEffect_65 rfl rfl ?_
              refine x_aload_n C 67 dX6_addEffect_66 rfl rfl ?_
              refine x_iload_n C 68 dX6_addEffect_67 rfl rfl ?_
              refine x_callV0_i C 71 0 0 0 10 1 (cM_isGroup hl h2 _) rfl gX6_addEffect_X6_isGroup ⟨rfl, by decide, by decide, rfl⟩ ⟨Nat.le_of_ble_eq_true rfl, Nat.le_of_ble_eq_true rfl⟩ rfl rfl rfl rfl (Nat.le_of_ble_eq_true rfl) ⟨Nat.le_of_ble_eq_true rfl, Nat.le_of_ble_eq_true rfl⟩ dX6_addEffect_68 rfl rfl rfl (fun r21 w21 h21 => ?_)
              obtain ⟨rfl, rfl⟩ := h21
              refine x_top (show _ = (0 : Int32) from by rw [hx]; rfl) ?_
              refine x_if_ne C 78 74 dX6_addEffect_71 (by decide) rfl (fun zk71 => ?_) (fun zk71 => ?_)
              · exact absurd zk71 (by decide)
              · refine x_iconst (v := (1)) C 75 dX6_addEffect_74 (by decide) rfl ?_
                refine x_goto C 100 dX6_addEffect_75 (by decide) ?_
                refine xm_put C 103 8 (by decide) fp_X6_addEffect_98 rfl rfl dX6_addEffect_100 rfl ?_
                refine x_aload_n C 104 dX6_addEffect_103 rfl rfl ?_
                refine xm_get C 107 fg_X6_addEffect_98 rfl dX6_addEffect_104 rfl ?_
                refine x_top (show _ = (1) from rfl) ?_
                refine x_if_le C 112 110 dX6_addEffect_107 (by decide) rfl (fun zk107 => ?_) (fun zk107 => ?_)
                · exact absurd zk107 (by decide)
                · refine x_iconst (v := (-1)) C 111 dX6_addEffect_110 (by decide) rfl ?_
                  exact x_zret C0 dX6_addEffect_111 (Nat.le_of_ble_eq_true rfl) (Nat.le_of_ble_eq_true rfl) ⟨_, rfl, ⟨rfl, rfl⟩⟩
            · have zk55 := bI_ne0.mp zk55
              refine x_iconst (v := (1)) C 59 dX6_addEffect_58 (by decide) rfl ?_
              refine x_goto C 63 dX6_addEffect_59 (by decide) ?_
              refine x_istore C 65 dX6_addEffect_63 (by decide) rfl rfl ?_
              refine x_aload_n C 66 dX6_addEffect_65 rfl rfl ?_
              refine x_aload_n C 67 dX6_addEffect_66 rfl rfl ?_
              refine x_iload_n C 68 dX6_addEffect_67 rfl rfl ?_
              refine x_callV0_i C 71 0 0 0 10 1 (cM_isGroup hl h2 _) rfl gX6_addEffect_X6_isGroup ⟨rfl, by decide, by decide, rfl⟩ ⟨Nat.le_of_ble_eq_true rfl, Nat.le_of_ble_eq_true rfl⟩ rfl rfl rfl rfl (Nat.le_of_ble_eq_true rfl) ⟨Nat.le_of_ble_eq_true rfl, Nat.le_of_ble_eq_true rfl⟩ dX6_addEffect_68 rfl rfl rfl (fun r22 w22 h22 => ?_)
              obtain ⟨rfl, rfl⟩ := h22
              refine x_top (show _ = (0 : Int32) from by rw [hx]; rfl) ?_
              refine x_if_ne C 78 74 dX6_addEffect_71 (by decide) rfl (fun zk71 => ?_) (fun zk71 => ?_)
              · exact absurd zk71 (by decide)
              · refine x_iconst (v := (1)) C 75 dX6_addEffect_74 (by decide) rfl ?_
                refine x_goto C 100 dX6_addEffect_75 (by decide) ?_
                refine xm_put C 103 8 (by decide) fp_X6_addEffect_98 rfl rfl dX6_addEffect_100 rfl ?_
                refine x_aload_n C 104 dX6_addEffect_103 rfl rfl ?_
                refine xm_get C 107 fg_X6_addEffect_98 rfl dX6_addEffect_104 rfl ?_
                refine x_top (show _ = (1) from rfl) ?_
                refine x_if_le C 112 110 dX6_addEffect_107 (by decide) rfl (fun zk107 => ?_) (fun zk107 => ?_)
                · exact absurd zk107 (by decide)
                · refine x_iconst (v := (-1)) C 111 dX6_addEffect_110 (by decide) rfl ?_
                  exact x_zret C0 dX6_addEffect_111 (Nat.le_of_ble_eq_true rfl) (Nat.le_of_ble_eq_true rfl) ⟨_, rfl, ⟨rfl, rfl⟩⟩
set_option maxRecDepth 100000 in
set_option maxHeartbeats 4000000 in
theorem cM_addEffect_2 (hl : l.stackTraces = false) {I : Nat → Nat → Int32} {ng : Nat} (h2 : I 30 2 = nI ng) (hg : ng ≤ 5) {g : Nat} {sh p sz sp : Int32} (hx : g < ng) (hE : effB sh p sz sp = false) : Ct (gm D a E0) l yX6_addEffect wsX6_addEffect { frames := 12, cells := 0, slots := 0, locals := 300 } [.ref m, .int (nI g), .int sh, .int p, .int sz, .int sp] (wM m am a I en) (qI fun v w => v = -1 ∧ w = wM m am a (uI I 30 8 2) en) noX := by
  refine Ct.of [some (.ref m), some (.int (nI g)), some (.int sh), some (.int p), some (.int sz), some (.int sp), none] rfl hl (by decide) (Nat.le_of_ble_eq_true rfl) rfl (fun φ C0 => ?_)
  have C := C0.1
  refine x_iload_n C 1 dX6_addEffect_0 rfl rfl ?_
  refine x_bipush (v := (119)) C 3 dX6_addEffect_1 (by decide) rfl ?_
  refine x_icmp_eq C 18 6 dX6_addEffect_3 (by decide) rfl (fun zk3 => ?_) (fun zk3 => ?_)
  · refine x_iload_n C 19 dX6_addEffect_18 rfl rfl ?_
    refine x_i2l C 20 dX6_addEffect_19 rfl rfl ?_
    refine x_ldc2 (v := 2) C 23 (List.mem_cons_of_mem _ (List.mem_append_left _ (List.mem_append_left _ (List.mem_of_getElem? (i := 0) rfl)))) dX6_addEffect_20 rfl ?_
    refine x_ldc2 (v := 40) C 26 (List.mem_cons_of_mem _ (List.mem_append_left _ (List.mem_append_left _ (List.mem_of_getElem? (i := 1) rfl)))) dX6_addEffect_23 rfl ?_
    refine x_callS0_i C 29 0 0 3 (cM_in hl _ _ _ _) rfl gX6_addEffect_X6_in ⟨by decide, by decide, rfl⟩ ⟨Nat.le_of_ble_eq_true rfl, Nat.le_of_ble_eq_true rfl⟩ rfl rfl (Nat.le_of_ble_eq_true rfl) ⟨Nat.le_of_ble_eq_true rfl, Nat.le_of_ble_eq_true rfl⟩ dX6_addEffect_26 rfl rfl rfl (fun r1 w1 h1 => ?_)
    obtain ⟨rfl, rfl⟩ := h1
    refine x_if_eq C 62 32 dX6_addEffect_29 (by decide) rfl (fun zk29 => ?_) (fun zk29 => ?_)
    · have zk29 := bI_eq0.mp zk29
      refine x_iconst (v := (0)) C 63 dX6_addEffect_62 (by decide) rfl ?_
      refine x_istore C 65 dX6_addEffect_63 (by decide) rfl rfl ?_
      refine x_aload_n C 66 dX6_addEffect_65 rfl rfl ?_
      refine x_aload_n C 67 dX6_addEffect_66 rfl rfl ?_
      refine x_iload_n C 68 dX6_addEffect_67 rfl rfl ?_
      refine x_callV0_i C 71 0 0 0 10 1 (cM_isGroup hl h2 _) rfl gX6_addEffect_X6_isGroup ⟨rfl, by decide, by decide, rfl⟩ ⟨Nat.le_of_ble_eq_true rfl, Nat.le_of_ble_eq_true rfl⟩ rfl rfl rfl rfl (Nat.le_of_ble_eq_true rfl) ⟨Nat.le_of_ble_eq_true rfl, Nat.le_of_ble_eq_true rfl⟩ dX6_addEffect_68 rfl rfl rfl (fun r2 w2 h2 => ?_)
      obtain ⟨rfl, rfl⟩ := h2
      refine x_top (show _ = (1 : Int32) from by rw [upB_nI (by omega) hx]; rfl) ?_
      refine x_if_ne C 78 74 dX6_addEffect_71 (by decide) rfl (fun zk71 => ?_) (fun zk71 => ?_)
      · refine x_iload C 80 dX6_addEffect_78 rfl rfl ?_
        refine x_if_ne C 87 83 dX6_addEffect_80 (by decide) rfl (fun zk80 => ?_) (fun zk80 => ?_)
        · exact absurd zk80 (by decide)
        · refine x_iconst (v := (2)) C 84 dX6_addEffect_83 (by decide) rfl ?_
          refine x_goto C 100 dX6_addEffect_84 (by decide) ?_
          refine xm_put C 103 8 (by decide) fp_X6_addEffect_98 rfl rfl dX6_addEffect_100 rfl ?_
          refine x_aload_n C 104 dX6_addEffect_103 rfl rfl ?_
          refine xm_get C 107 fg_X6_addEffect_98 rfl dX6_addEffect_104 rfl ?_
          refine x_top (show _ = (2) from rfl) ?_
          refine x_if_le C 112 110 dX6_addEffect_107 (by decide) rfl (fun zk107 => ?_) (fun zk107 => ?_)
          · exact absurd zk107 (by decide)
          · refine x_iconst (v := (-1)) C 111 dX6_addEffect_110 (by decide) rfl ?_
            exact x_zret C0 dX6_addEffect_111 (Nat.le_of_ble_eq_true rfl) (Nat.le_of_ble_eq_true rfl) ⟨_, rfl, ⟨rfl, rfl⟩⟩
      · exact absurd zk71 (by decide)
    · have zk29 := bI_ne0.mp zk29
      refine x_iload C 34 dX6_addEffect_32 rfl rfl ?_
      refine x_i2l C 35 dX6_addEffect_34 rfl rfl ?_
      refine x_lconst (v := 1) C 36 dX6_addEffect_35 (by decide) rfl ?_
      refine x_ldc2 (v := 255) C 39 (List.mem_cons_of_mem _ (List.mem_append_left _ (List.mem_append_left _ (List.mem_of_getElem? (i := 2) rfl)))) dX6_addEffect_36 rfl ?_
      refine x_callS0_i C 42 0 0 3 (cM_in hl _ _ _ _) rfl gX6_addEffect_X6_in ⟨by decide, by decide, rfl⟩ ⟨Nat.le_of_ble_eq_true rfl, Nat.le_of_ble_eq_true rfl⟩ rfl rfl (Nat.le_of_ble_eq_true rfl) ⟨Nat.le_of_ble_eq_true rfl, Nat.le_of_ble_eq_true rfl⟩ dX6_addEffect_39 rfl rfl rfl (fun r3 w3 h3 => ?_)
      obtain ⟨rfl, rfl⟩ := h3
      refine x_if_eq C 62 45 dX6_addEffect_42 (by decide) rfl (fun zk42 => ?_) (fun zk42 => ?_)
      · have zk42 := bI_eq0.mp zk42
        refine x_iconst (v := (0)) C 63 dX6_addEffect_62 (by decide) rfl ?_
        refine x_istore C 65 dX6_addEffect_63 (by decide) rfl rfl ?_
        refine x_aload_n C 66 dX6_addEffect_65 rfl rfl ?_
        refine x_aload_n C 67 dX6_addEffect_66 rfl rfl ?_
        refine x_iload_n C 68 dX6_addEffect_67 rfl rfl ?_
        refine x_callV0_i C 71 0 0 0 10 1 (cM_isGroup hl h2 _) rfl gX6_addEffect_X6_isGroup ⟨rfl, by decide, by decide, rfl⟩ ⟨Nat.le_of_ble_eq_true rfl, Nat.le_of_ble_eq_true rfl⟩ rfl rfl rfl rfl (Nat.le_of_ble_eq_true rfl) ⟨Nat.le_of_ble_eq_true rfl, Nat.le_of_ble_eq_true rfl⟩ dX6_addEffect_68 rfl rfl rfl (fun r4 w4 h4 => ?_)
        obtain ⟨rfl, rfl⟩ := h4
        refine x_top (show _ = (1 : Int32) from by rw [upB_nI (by omega) hx]; rfl) ?_
        refine x_if_ne C 78 74 dX6_addEffect_71 (by decide) rfl (fun zk71 => ?_) (fun zk71 => ?_)
        · refine x_iload C 80 dX6_addEffect_78 rfl rfl ?_
          refine x_if_ne C 87 83 dX6_addEffect_80 (by decide) rfl (fun zk80 => ?_) (fun zk80 => ?_)
          · exact absurd zk80 (by decide)
          · refine x_iconst (v := (2)) C 84 dX6_addEffect_83 (by decide) rfl ?_
            refine x_goto C 100 dX6_addEffect_84 (by decide) ?_
            refine xm_put C 103 8 (by decide) fp_X6_addEffect_98 rfl rfl dX6_addEffect_100 rfl ?_
            refine x_aload_n C 104 dX6_addEffect_103 rfl rfl ?_
            refine xm_get C 107 fg_X6_addEffect_98 rfl dX6_addEffect_104 rfl ?_
            refine x_top (show _ = (2) from rfl) ?_
            refine x_if_le C 112 110 dX6_addEffect_107 (by decide) rfl (fun zk107 => ?_) (fun zk107 => ?_)
            · exact absurd zk107 (by decide)
            · refine x_iconst (v := (-1)) C 111 dX6_addEffect_110 (by decide) rfl ?_
              exact x_zret C0 dX6_addEffect_111 (Nat.le_of_ble_eq_true rfl) (Nat.le_of_ble_eq_true rfl) ⟨_, rfl, ⟨rfl, rfl⟩⟩
        · exact absurd zk71 (by decide)
      · have zk42 := bI_ne0.mp zk42
        refine x_iload C 47 dX6_addEffect_45 rfl rfl ?_
        refine x_i2l C 48 dX6_addEffect_47 rfl rfl ?_
        refine x_lconst (v := 0) C 49 dX6_addEffect_48 (by decide) rfl ?_
        refine x_ldc2 (v := 39) C 52 (List.mem_cons_of_mem _ (List.mem_append_left _ (List.mem_append_left _ (List.mem_of_getElem? (i := 3) rfl)))) dX6_addEffect_49 rfl ?_
        refine x_callS0_i C 55 0 0 3 (cM_in hl _ _ _ _) rfl gX6_addEffect_X6_in ⟨by decide, by decide, rfl⟩ ⟨Nat.le_of_ble_eq_true rfl, Nat.le_of_ble_eq_true rfl⟩ rfl rfl (Nat.le_of_ble_eq_true rfl) ⟨Nat.le_of_ble_eq_true rfl, Nat.le_of_ble_eq_true rfl⟩ dX6_addEffect_52 rfl rfl rfl (fun r5 w5 h5 => ?_)
        obtain ⟨rfl, rfl⟩ := h5
        refine x_if_eq C 62 58 dX6_addEffect_55 (by decide) rfl (fun zk55 => ?_) (fun zk55 => ?_)
        · have zk55 := bI_eq0.mp zk55
          refine x_iconst (v := (0)) C 63 dX6_addEffect_62 (by decide) rfl ?_
          refine x_istore C 65 dX6_addEffect_63 (by decide) rfl rfl ?_
          refine x_aload_n C 66 dX6_addEffect_65 rfl rfl ?_
          refine x_aload_n C 67 dX6_addEffect_66 rfl rfl ?_
          refine x_iload_n C 68 dX6_addEffect_67 rfl rfl ?_
          refine x_callV0_i C 71 0 0 0 10 1 (cM_isGroup hl h2 _) rfl gX6_addEffect_X6_isGroup ⟨rfl, by decide, by decide, rfl⟩ ⟨Nat.le_of_ble_eq_true rfl, Nat.le_of_ble_eq_true rfl⟩ rfl rfl rfl rfl (Nat.le_of_ble_eq_true rfl) ⟨Nat.le_of_ble_eq_true rfl, Nat.le_of_ble_eq_true rfl⟩ dX6_addEffect_68 rfl rfl rfl (fun r6 w6 h6 => ?_)
          obtain ⟨rfl, rfl⟩ := h6
          refine x_top (show _ = (1 : Int32) from by rw [upB_nI (by omega) hx]; rfl) ?_
          refine x_if_ne C 78 74 dX6_addEffect_71 (by decide) rfl (fun zk71 => ?_) (fun zk71 => ?_)
          · refine x_iload C 80 dX6_addEffect_78 rfl rfl ?_
            refine x_if_ne C 87 83 dX6_addEffect_80 (by decide) rfl (fun zk80 => ?_) (fun zk80 => ?_)
            · exact absurd zk80 (by decide)
            · refine x_iconst (v := (2)) C 84 dX6_addEffect_83 (by decide) rfl ?_
              refine x_goto C 100 dX6_addEffect_84 (by decide) ?_
              refine xm_put C 103 8 (by decide) fp_X6_addEffect_98 rfl rfl dX6_addEffect_100 rfl ?_
              refine x_aload_n C 104 dX6_addEffect_103 rfl rfl ?_
              refine xm_get C 107 fg_X6_addEffect_98 rfl dX6_addEffect_104 rfl ?_
              refine x_top (show _ = (2) from rfl) ?_
              refine x_if_le C 112 110 dX6_addEffect_107 (by decide) rfl (fun zk107 => ?_) (fun zk107 => ?_)
              · exact absurd zk107 (by decide)
              · refine x_iconst (v := (-1)) C 111 dX6_addEffect_110 (by decide) rfl ?_
                exact x_zret C0 dX6_addEffect_111 (Nat.le_of_ble_eq_true rfl) (Nat.le_of_ble_eq_true rfl) ⟨_, rfl, ⟨rfl, rfl⟩⟩
          · exact absurd zk71 (by decide)
        · have zk55 := bI_ne0.mp zk55
          refine x_iconst (v := (1)) C 59 dX6_addEffect_58 (by decide) rfl ?_
          refine x_goto C 63 dX6_addEffect_59 (by decide) ?_
          refine x_istore C 65 dX6_addEffect_63 (by decide) rfl rfl ?_
          refine x_aload_n C 66 dX6_addEffect_65 rfl rfl ?_
          refine x_aload_n C 67 dX6_addEffect_66 rfl rfl ?_
          refine x_iload_n C 68 dX6_addEffect_67 rfl rfl ?_
          refine x_callV0_i C 71 0 0 0 10 1 (cM_isGroup hl h2 _) rfl gX6_addEffect_X6_isGroup ⟨rfl, by decide, by decide, rfl⟩ ⟨Nat.le_of_ble_eq_true rfl, Nat.le_of_ble_eq_true rfl⟩ rfl rfl rfl rfl (Nat.le_of_ble_eq_true rfl) ⟨Nat.le_of_ble_eq_true rfl, Nat.le_of_ble_eq_true rfl⟩ dX6_addEffect_68 rfl rfl rfl (fun r7 w7 h7 => ?_)
          obtain ⟨rfl, rfl⟩ := h7
          refine x_top (show _ = (1 : Int32) from by rw [upB_nI (by omega) hx]; rfl) ?_
          refine x_if_ne C 78 74 dX6_addEffect_71 (by decide) rfl (fun zk71 => ?_) (fun zk71 => ?_)
          · refine x_iload C 80 dX6_addEffect_78 rfl rfl ?_
            refine x_if_ne C 87 83 dX6_addEffect_80 (by decide) rfl (fun zk80 => ?_) (fun zk80 => ?_)
            · exfalso; simp_all [effB, shB]
            · exact absurd zk80 (by decide)
          · exact absurd zk71 (by decide)
  · refine x_iload_n C 7 dX6_addEffect_6 rfl rfl ?_
    refine x_bipush (v := (116)) C 9 dX6_addEffect_7 (by decide) rfl ?_
    refine x_icmp_eq C 18 12 dX6_addEffect_9 (by decide) rfl (fun zk9 => ?_) (fun zk9 => ?_)
    · refine x_iload_n C 19 dX6_addEffect_18 rfl rfl ?_
      refine x_i2l C 20 dX6_addEffect_19 rfl rfl ?_
      refine x_ldc2 (v := 2) C 23 (List.mem_cons_of_mem _ (List.mem_append_left _ (List.mem_append_left _ (List.mem_of_getElem? (i := 0) rfl)))) dX6_addEffect_20 rfl ?_
      refine x_ldc2 (v := 40) C 26 (List.mem_cons_of_mem _ (List.mem_append_left _ (List.mem_append_left _ (List.mem_of_getElem? (i := 1) rfl)))) dX6_addEffect_23 rfl ?_
      refine x_callS0_i C 29 0 0 3 (cM_in hl _ _ _ _) rfl gX6_addEffect_X6_in ⟨by decide, by decide, rfl⟩ ⟨Nat.le_of_ble_eq_true rfl, Nat.le_of_ble_eq_true rfl⟩ rfl rfl (Nat.le_of_ble_eq_true rfl) ⟨Nat.le_of_ble_eq_true rfl, Nat.le_of_ble_eq_true rfl⟩ dX6_addEffect_26 rfl rfl rfl (fun r8 w8 h8 => ?_)
      obtain ⟨rfl, rfl⟩ := h8
      refine x_if_eq C 62 32 dX6_addEffect_29 (by decide) rfl (fun zk29 => ?_) (fun zk29 => ?_)
      · have zk29 := bI_eq0.mp zk29
        refine x_iconst (v := (0)) C 63 dX6_addEffect_62 (by decide) rfl ?_
        refine x_istore C 65 dX6_addEffect_63 (by decide) rfl rfl ?_
        refine x_aload_n C 66 dX6_addEffect_65 rfl rfl ?_
        refine x_aload_n C 67 dX6_addEffect_66 rfl rfl ?_
        refine x_iload_n C 68 dX6_addEffect_67 rfl rfl ?_
        refine x_callV0_i C 71 0 0 0 10 1 (cM_isGroup hl h2 _) rfl gX6_addEffect_X6_isGroup ⟨rfl, by decide, by decide, rfl⟩ ⟨Nat.le_of_ble_eq_true rfl, Nat.le_of_ble_eq_true rfl⟩ rfl rfl rfl rfl (Nat.le_of_ble_eq_true rfl) ⟨Nat.le_of_ble_eq_true rfl, Nat.le_of_ble_eq_true rfl⟩ dX6_addEffect_68 rfl rfl rfl (fun r9 w9 h9 => ?_)
        obtain ⟨rfl, rfl⟩ := h9
        refine x_top (show _ = (1 : Int32) from by rw [upB_nI (by omega) hx]; rfl) ?_
        refine x_if_ne C 78 74 dX6_addEffect_71 (by decide) rfl (fun zk71 => ?_) (fun zk71 => ?_)
        · refine x_iload C 80 dX6_addEffect_78 rfl rfl ?_
          refine x_if_ne C 87 83 dX6_addEffect_80 (by decide) rfl (fun zk80 => ?_) (fun zk80 => ?_)
          · exact absurd zk80 (by decide)
          · refine x_iconst (v := (2)) C 84 dX6_addEffect_83 (by decide) rfl ?_
            refine x_goto C 100 dX6_addEffect_84 (by decide) ?_
            refine xm_put C 103 8 (by decide) fp_X6_addEffect_98 rfl rfl dX6_addEffect_100 rfl ?_
            refine x_aload_n C 104 dX6_addEffect_103 rfl rfl ?_
            refine xm_get C 107 fg_X6_addEffect_98 rfl dX6_addEffect_104 rfl ?_
            refine x_top (show _ = (2) from rfl) ?_
            refine x_if_le C 112 110 dX6_addEffect_107 (by decide) rfl (fun zk107 => ?_) (fun zk107 => ?_)
            · exact absurd zk107 (by decide)
            · refine x_iconst (v := (-1)) C 111 dX6_addEffect_110 (by decide) rfl ?_
              exact x_zret C0 dX6_addEffect_111 (Nat.le_of_ble_eq_true rfl) (Nat.le_of_ble_eq_true rfl) ⟨_, rfl, ⟨rfl, rfl⟩⟩
        · exact absurd zk71 (by decide)
      · have zk29 := bI_ne0.mp zk29
        refine x_iload C 34 dX6_addEffect_32 rfl rfl ?_
        refine x_i2l C 35 dX6_addEffect_34 rfl rfl ?_
        refine x_lconst (v := 1) C 36 dX6_addEffect_35 (by decide) rfl ?_
        refine x_ldc2 (v := 255) C 39 (List.mem_cons_of_mem _ (List.mem_append_left _ (List.mem_append_left _ (List.mem_of_getElem? (i := 2) rfl)))) dX6_addEffect_36 rfl ?_
        refine x_callS0_i C 42 0 0 3 (cM_in hl _ _ _ _) rfl gX6_addEffect_X6_in ⟨by decide, by decide, rfl⟩ ⟨Nat.le_of_ble_eq_true rfl, Nat.le_of_ble_eq_true rfl⟩ rfl rfl (Nat.le_of_ble_eq_true rfl) ⟨Nat.le_of_ble_eq_true rfl, Nat.le_of_ble_eq_true rfl⟩ dX6_addEffect_39 rfl rfl rfl (fun r10 w10 h10 => ?_)
        obtain ⟨rfl, rfl⟩ := h10
        refine x_if_eq C 62 45 dX6_addEffect_42 (by decide) rfl (fun zk42 => ?_) (fun zk42 => ?_)
        · have zk42 := bI_eq0.mp zk42
          refine x_iconst (v := (0)) C 63 dX6_addEffect_62 (by decide) rfl ?_
          refine x_istore C 65 dX6_addEffect_63 (by decide) rfl rfl ?_
          refine x_aload_n C 66 dX6_addEffect_65 rfl rfl ?_
          refine x_aload_n C 67 dX6_addEffect_66 rfl rfl ?_
          refine x_iload_n C 68 dX6_addEffect_67 rfl rfl ?_
          refine x_callV0_i C 71 0 0 0 10 1 (cM_isGroup hl h2 _) rfl gX6_addEffect_X6_isGroup ⟨rfl, by decide, by decide, rfl⟩ ⟨Nat.le_of_ble_eq_true rfl, Nat.le_of_ble_eq_true rfl⟩ rfl rfl rfl rfl (Nat.le_of_ble_eq_true rfl) ⟨Nat.le_of_ble_eq_true rfl, Nat.le_of_ble_eq_true rfl⟩ dX6_addEffect_68 rfl rfl rfl (fun r11 w11 h11 => ?_)
          obtain ⟨rfl, rfl⟩ := h11
          refine x_top (show _ = (1 : Int32) from by rw [upB_nI (by omega) hx]; rfl) ?_
          refine x_if_ne C 78 74 dX6_addEffect_71 (by decide) rfl (fun zk71 => ?_) (fun zk71 => ?_)
          · refine x_iload C 80 dX6_addEffect_78 rfl rfl ?_
            refine x_if_ne C 87 83 dX6_addEffect_80 (by decide) rfl (fun zk80 => ?_) (fun zk80 => ?_)
            · exact absurd zk80 (by decide)
            · refine x_iconst (v := (2)) C 84 dX6_addEffect_83 (by decide) rfl ?_
              refine x_goto C 100 dX6_addEffect_84 (by decide) ?_
              refine xm_put C 103 8 (by decide) fp_X6_addEffect_98 rfl rfl dX6_addEffect_100 rfl ?_
              refine x_aload_n C 104 dX6_addEffect_103 rfl rfl ?_
              refine xm_get C 107 fg_X6_addEffect_98 rfl dX6_addEffect_104 rfl ?_
              refine x_top (show _ = (2) from rfl) ?_
              refine x_if_le C 112 110 dX6_addEffect_107 (by decide) rfl (fun zk107 => ?_) (fun zk107 => ?_)
              · exact absurd zk107 (by decide)
              · refine x_iconst (v := (-1)) C 111 dX6_addEffect_110 (by decide) rfl ?_
                exact x_zret C0 dX6_addEffect_111 (Nat.le_of_ble_eq_true rfl) (Nat.le_of_ble_eq_true rfl) ⟨_, rfl, ⟨rfl, rfl⟩⟩
          · exact absurd zk71 (by decide)
        · have zk42 := bI_ne0.mp zk42
          refine x_iload C 47 dX6_addEffect_45 rfl rfl ?_
          refine x_i2l C 48 dX6_addEffect_47 rfl rfl ?_
          refine x_lconst (v := 0) C 49 dX6_addEffect_48 (by decide) rfl ?_
          refine x_ldc2 (v := 39) C 52 (List.mem_cons_of_mem _ (List.mem_append_left _ (List.mem_append_left _ (List.mem_of_getElem? (i := 3) rfl)))) dX6_addEffect_49 rfl ?_
          refine x_callS0_i C 55 0 0 3 (cM_in hl _ _ _ _) rfl gX6_addEffect_X6_in ⟨by decide, by decide, rfl⟩ ⟨Nat.le_of_ble_eq_true rfl, Nat.le_of_ble_eq_true rfl⟩ rfl rfl (Nat.le_of_ble_eq_true rfl) ⟨Nat.le_of_ble_eq_true rfl, Nat.le_of_ble_eq_true rfl⟩ dX6_addEffect_52 rfl rfl rfl (fun r12 w12 h12 => ?_)
          obtain ⟨rfl, rfl⟩ := h12
          refine x_if_eq C 62 58 dX6_addEffect_55 (by decide) rfl (fun zk55 => ?_) (fun zk55 => ?_)
          · have zk55 := bI_eq0.mp zk55
            refine x_iconst (v := (0)) C 63 dX6_addEffect_62 (by decide) rfl ?_
            refine x_istore C 65 dX6_addEffect_63 (by decide) rfl rfl ?_
            refine x_aload_n C 66 dX6_addEffect_65 rfl rfl ?_
            refine x_aload_n C 67 dX6_addEffect_66 rfl rfl ?_
            refine x_iload_n C 68 dX6_addEffect_67 rfl rfl ?_
            refine x_callV0_i C 71 0 0 0 10 1 (cM_isGroup hl h2 _) rfl gX6_addEffect_X6_isGroup ⟨rfl, by decide, by decide, rfl⟩ ⟨Nat.le_of_ble_eq_true rfl, Nat.le_of_ble_eq_true rfl⟩ rfl rfl rfl rfl (Nat.le_of_ble_eq_true rfl) ⟨Nat.le_of_ble_eq_true rfl, Nat.le_of_ble_eq_true rfl⟩ dX6_addEffect_68 rfl rfl rfl (fun r13 w13 h13 => ?_)
            obtain ⟨rfl, rfl⟩ := h13
            refine x_top (show _ = (1 : Int32) from by rw [upB_nI (by omega) hx]; rfl) ?_
            refine x_if_ne C 78 74 dX6_addEffect_71 (by decide) rfl (fun zk71 => ?_) (fun zk71 => ?_)
            · refine x_iload C 80 dX6_addEffect_78 rfl rfl ?_
              refine x_if_ne C 87 83 dX6_addEffect_80 (by decide) rfl (fun zk80 => ?_) (fun zk80 => ?_)
              · exact absurd zk80 (by decide)
              · refine x_iconst (v := (2)) C 84 dX6_addEffect_83 (by decide) rfl ?_
                refine x_goto C 100 dX6_addEffect_84 (by decide) ?_
                refine xm_put C 103 8 (by decide) fp_X6_addEffect_98 rfl rfl dX6_addEffect_100 rfl ?_
                refine x_aload_n C 104 dX6_addEffect_103 rfl rfl ?_
                refine xm_get C 107 fg_X6_addEffect_98 rfl dX6_addEffect_104 rfl ?_
                refine x_top (show _ = (2) from rfl) ?_
                refine x_if_le C 112 110 dX6_addEffect_107 (by decide) rfl (fun zk107 => ?_) (fun zk107 => ?_)
                · exact absurd zk107 (by decide)
                · refine x_iconst (v := (-1)) C 111 dX6_addEffect_110 (by decide) rfl ?_
                  exact x_zret C0 dX6_addEffect_111 (Nat.le_of_ble_eq_true rfl) (Nat.le_of_ble_eq_true rfl) ⟨_, rfl, ⟨rfl, rfl⟩⟩
            · exact absurd zk71 (by decide)
          · have zk55 := bI_ne0.mp zk55
            refine x_iconst (v := (1)) C 59 dX6_addEffect_58 (by decide) rfl ?_
            refine x_goto C 63 dX6_addEffect_59 (by decide) ?_
            refine x_istore C 65 dX6_addEffect_63 (by decide) rfl rfl ?_
            refine x_aload_n C 66 dX6_addEffect_65 rfl rfl ?_
            refine x_aload_n C 67 dX6_addEffect_66 rfl rfl ?_
            refine x_iload_n C 68 dX6_addEffect_67 rfl rfl ?_
            refine x_callV0_i C 71 0 0 0 10 1 (cM_isGroup hl h2 _) rfl gX6_addEffect_X6_isGroup ⟨rfl, by decide, by decide, rfl⟩ ⟨Nat.le_of_ble_eq_true rfl, Nat.le_of_ble_eq_true rfl⟩ rfl rfl rfl rfl (Nat.le_of_ble_eq_true rfl) ⟨Nat.le_of_ble_eq_true rfl, Nat.le_of_ble_eq_true rfl⟩ dX6_addEffect_68 rfl rfl rfl (fun r14 w14 h14 => ?_)
            obtain ⟨rfl, rfl⟩ := h14
            refine x_top (show _ = (1 : Int32) from by rw [upB_nI (by omega) hx]; rfl) ?_
            refine x_if_ne C 78 74 dX6_addEffect_71 (by decide) rfl (fun zk71 => ?_) (fun zk71 => ?_)
            · refine x_iload C 80 dX6_addEffect_78 rfl rfl ?_
              refine x_if_ne C 87 83 dX6_addEffect_80 (by decide) rfl (fun zk80 => ?_) (fun zk80 => ?_)
              · exfalso; simp_all [effB, shB]
              · exact absurd zk80 (by decide)
            · exact absurd zk71 (by decide)
    · refine x_iload_n C 13 dX6_addEffect_12 rfl rfl ?_
      refine x_bipush (v := (113)) C 15 dX6_addEffect_13 (by decide) rfl ?_
      refine x_icmp_ne C 62 18 dX6_addEffect_15 (by decide) rfl (fun zk15 => ?_) (fun zk15 => ?_)
      · refine x_iconst (v := (0)) C 63 dX6_addEffect_62 (by decide) rfl ?_
        refine x_istore C 65 dX6_addEffect_63 (by decide) rfl rfl ?_
        refine x_aload_n C 66 dX6_addEffect_65 rfl rfl ?_
        refine x_aload_n C 67 dX6_addEffect_66 rfl rfl ?_
        refine x_iload_n C 68 dX6_addEffect_67 rfl rfl ?_
        refine x_callV0_i C 71 0 0 0 10 1 (cM_isGroup hl h2 _) rfl gX6_addEffect_X6_isGroup ⟨rfl, by decide, by decide, rfl⟩ ⟨Nat.le_of_ble_eq_true rfl, Nat.le_of_ble_eq_true rfl⟩ rfl rfl rfl rfl (Nat.le_of_ble_eq_true rfl) ⟨Nat.le_of_ble_eq_true rfl, Nat.le_of_ble_eq_true rfl⟩ dX6_addEffect_68 rfl rfl rfl (fun r15 w15 h15 => ?_)
        obtain ⟨rfl, rfl⟩ := h15
        refine x_top (show _ = (1 : Int32) from by rw [upB_nI (by omega) hx]; rfl) ?_
        refine x_if_ne C 78 74 dX6_addEffect_71 (by decide) rfl (fun zk71 => ?_) (fun zk71 => ?_)
        · refine x_iload C 80 dX6_addEffect_78 rfl rfl ?_
          refine x_if_ne C 87 83 dX6_addEffect_80 (by decide) rfl (fun zk80 => ?_) (fun zk80 => ?_)
          · exact absurd zk80 (by decide)
          · refine x_iconst (v := (2)) C 84 dX6_addEffect_83 (by decide) rfl ?_
            refine x_goto C 100 dX6_addEffect_84 (by decide) ?_
            refine xm_put C 103 8 (by decide) fp_X6_addEffect_98 rfl rfl dX6_addEffect_100 rfl ?_
            refine x_aload_n C 104 dX6_addEffect_103 rfl rfl ?_
            refine xm_get C 107 fg_X6_addEffect_98 rfl dX6_addEffect_104 rfl ?_
            refine x_top (show _ = (2) from rfl) ?_
            refine x_if_le C 112 110 dX6_addEffect_107 (by decide) rfl (fun zk107 => ?_) (fun zk107 => ?_)
            · exact absurd zk107 (by decide)
            · refine x_iconst (v := (-1)) C 111 dX6_addEffect_110 (by decide) rfl ?_
              exact x_zret C0 dX6_addEffect_111 (Nat.le_of_ble_eq_true rfl) (Nat.le_of_ble_eq_true rfl) ⟨_, rfl, ⟨rfl, rfl⟩⟩
        · exact absurd zk71 (by decide)
      · refine x_iload_n C 19 dX6_addEffect_18 rfl rfl ?_
        refine x_i2l C 20 dX6_addEffect_19 rfl rfl ?_
        refine x_ldc2 (v := 2) C 23 (List.mem_cons_of_mem _ (List.mem_append_left _ (List.mem_append_left _ (List.mem_of_getElem? (i := 0) rfl)))) dX6_addEffect_20 rfl ?_
        refine x_ldc2 (v := 40) C 26 (List.mem_cons_of_mem _ (List.mem_append_left _ (List.mem_append_left _ (List.mem_of_getElem? (i := 1) rfl)))) dX6_addEffect_23 rfl ?_
        refine x_callS0_i C 29 0 0 3 (cM_in hl _ _ _ _) rfl gX6_addEffect_X6_in ⟨by decide, by decide, rfl⟩ ⟨Nat.le_of_ble_eq_true rfl, Nat.le_of_ble_eq_true rfl⟩ rfl rfl (Nat.le_of_ble_eq_true rfl) ⟨Nat.le_of_ble_eq_true rfl, Nat.le_of_ble_eq_true rfl⟩ dX6_addEffect_26 rfl rfl rfl (fun r16 w16 h16 => ?_)
        obtain ⟨rfl, rfl⟩ := h16
        refine x_if_eq C 62 32 dX6_addEffect_29 (by decide) rfl (fun zk29 => ?_) (fun zk29 => ?_)
        · have zk29 := bI_eq0.mp zk29
          refine x_iconst (v := (0)) C 63 dX6_addEffect_62 (by decide) rfl ?_
          refine x_istore C 65 dX6_addEffect_63 (by decide) rfl rfl ?_
          refine x_aload_n C 66 dX6_addEffect_65 rfl rfl ?_
          refine x_aload_n C 67 dX6_addEffect_66 rfl rfl ?_
          refine x_iload_n C 68 dX6_addEffect_67 rfl rfl ?_
          refine x_callV0_i C 71 0 0 0 10 1 (cM_isGroup hl h2 _) rfl gX6_addEffect_X6_isGroup ⟨rfl, by decide, by decide, rfl⟩ ⟨Nat.le_of_ble_eq_true rfl, Nat.le_of_ble_eq_true rfl⟩ rfl rfl rfl rfl (Nat.le_of_ble_eq_true rfl) ⟨Nat.le_of_ble_eq_true rfl, Nat.le_of_ble_eq_true rfl⟩ dX6_addEffect_68 rfl rfl rfl (fun r17 w17 h17 => ?_)
          obtain ⟨rfl, rfl⟩ := h17
          refine x_top (show _ = (1 : Int32) from by rw [upB_nI (by omega) hx]; rfl) ?_
          refine x_if_ne C 78 74 dX6_addEffect_71 (by decide) rfl (fun zk71 => ?_) (fun zk71 => ?_)
          · refine x_iload C 80 dX6_addEffect_78 rfl rfl ?_
            refine x_if_ne C 87 83 dX6_addEffect_80 (by decide) rfl (fun zk80 => ?_) (fun zk80 => ?_)
            · exact absurd zk80 (by decide)
            · refine x_iconst (v := (2)) C 84 dX6_addEffect_83 (by decide) rfl ?_
              refine x_goto C 100 dX6_addEffect_84 (by decide) ?_
              refine xm_put C 103 8 (by decide) fp_X6_addEffect_98 rfl rfl dX6_addEffect_100 rfl ?_
              refine x_aload_n C 104 dX6_addEffect_103 rfl rfl ?_
              refine xm_get C 107 fg_X6_addEffect_98 rfl dX6_addEffect_104 rfl ?_
              refine x_top (show _ = (2) from rfl) ?_
              refine x_if_le C 112 110 dX6_addEffect_107 (by decide) rfl (fun zk107 => ?_) (fun zk107 => ?_)
              · exact absurd zk107 (by decide)
              · refine x_iconst (v := (-1)) C 111 dX6_addEffect_110 (by decide) rfl ?_
                exact x_zret C0 dX6_addEffect_111 (Nat.le_of_ble_eq_true rfl) (Nat.le_of_ble_eq_true rfl) ⟨_, rfl, ⟨rfl, rfl⟩⟩
          · exact absurd zk71 (by decide)
        · have zk29 := bI_ne0.mp zk29
          refine x_iload C 34 dX6_addEffect_32 rfl rfl ?_
          refine x_i2l C 35 dX6_addEffect_34 rfl rfl ?_
          refine x_lconst (v := 1) C 36 dX6_addEffect_35 (by decide) rfl ?_
          refine x_ldc2 (v := 255) C 39 (List.mem_cons_of_mem _ (List.mem_append_left _ (List.mem_append_left _ (List.mem_of_getElem? (i := 2) rfl)))) dX6_addEffect_36 rfl ?_
          refine x_callS0_i C 42 0 0 3 (cM_in hl _ _ _ _) rfl gX6_addEffect_X6_in ⟨by decide, by decide, rfl⟩ ⟨Nat.le_of_ble_eq_true rfl, Nat.le_of_ble_eq_true rfl⟩ rfl rfl (Nat.le_of_ble_eq_true rfl) ⟨Nat.le_of_ble_eq_true rfl, Nat.le_of_ble_eq_true rfl⟩ dX6_addEffect_39 rfl rfl rfl (fun r18 w18 h18 => ?_)
          obtain ⟨rfl, rfl⟩ := h18
          refine x_if_eq C 62 45 dX6_addEffect_42 (by decide) rfl (fun zk42 => ?_) (fun zk42 => ?_)
          · have zk42 := bI_eq0.mp zk42
            refine x_iconst (v := (0)) C 63 dX6_addEffect_62 (by decide) rfl ?_
            refine x_istore C 65 dX6_addEffect_63 (by decide) rfl rfl ?_
            refine x_aload_n C 66 dX6_addEffect_65 rfl rfl ?_
            refine x_aload_n C 67 dX6_addEffect_66 rfl rfl ?_
            refine x_iload_n C 68 dX6_addEffect_67 rfl rfl ?_
            refine x_callV0_i C 71 0 0 0 10 1 (cM_isGroup hl h2 _) rfl gX6_addEffect_X6_isGroup ⟨rfl, by decide, by decide, rfl⟩ ⟨Nat.le_of_ble_eq_true rfl, Nat.le_of_ble_eq_true rfl⟩ rfl rfl rfl rfl (Nat.le_of_ble_eq_true rfl) ⟨Nat.le_of_ble_eq_true rfl, Nat.le_of_ble_eq_true rfl⟩ dX6_addEffect_68 rfl rfl rfl (fun r19 w19 h19 => ?_)
            obtain ⟨rfl, rfl⟩ := h19
            refine x_top (show _ = (1 : Int32) from by rw [upB_nI (by omega) hx]; rfl) ?_
            refine x_if_ne C 78 74 dX6_addEffect_71 (by decide) rfl (fun zk71 => ?_) (fun zk71 => ?_)
            · refine x_iload C 80 dX6_addEffect_78 rfl rfl ?_
              refine x_if_ne C 87 83 dX6_addEffect_80 (by decide) rfl (fun zk80 => ?_) (fun zk80 => ?_)
              · exact absurd zk80 (by decide)
              · refine x_iconst (v := (2)) C 84 dX6_addEffect_83 (by decide) rfl ?_
                refine x_goto C 100 dX6_addEffect_84 (by decide) ?_
                refine xm_put C 103 8 (by decide) fp_X6_addEffect_98 rfl rfl dX6_addEffect_100 rfl ?_
                refine x_aload_n C 104 dX6_addEffect_103 rfl rfl ?_
                refine xm_get C 107 fg_X6_addEffect_98 rfl dX6_addEffect_104 rfl ?_
                refine x_top (show _ = (2) from rfl) ?_
                refine x_if_le C 112 110 dX6_addEffect_107 (by decide) rfl (fun zk107 => ?_) (fun zk107 => ?_)
                · exact absurd zk107 (by decide)
                · refine x_iconst (v := (-1)) C 111 dX6_addEffect_110 (by decide) rfl ?_
                  exact x_zret C0 dX6_addEffect_111 (Nat.le_of_ble_eq_true rfl) (Nat.le_of_ble_eq_true rfl) ⟨_, rfl, ⟨rfl, rfl⟩⟩
            · exact absurd zk71 (by decide)
          · have zk42 := bI_ne0.mp zk42
            refine x_iload C 47 dX6_addEffect_45 rfl rfl ?_
            refine x_i2l C 48 dX6_addEffect_47 rfl rfl ?_
            refine x_lconst (v := 0) C 49 dX6_addEffect_48 (by decide) rfl ?_
            refine x_ldc2 (v := 39) C 52 (List.mem_cons_of_mem _ (List.mem_append_left _ (List.mem_append_left _ (List.mem_of_getElem? (i := 3) rfl)))) dX6_addEffect_49 rfl ?_
            refine x_callS0_i C 55 0 0 3 (cM_in hl _ _ _ _) rfl gX6_addEffect_X6_in ⟨by decide, by decide, rfl⟩ ⟨Nat.le_of_ble_eq_true rfl, Nat.le_of_ble_eq_true rfl⟩ rfl rfl (Nat.le_of_ble_eq_true rfl) ⟨Nat.le_of_ble_eq_true rfl, Nat.le_of_ble_eq_true rfl⟩ dX6_addEffect_52 rfl rfl rfl (fun r20 w20 h20 => ?_)
            obtain ⟨rfl, rfl⟩ := h20
            refine x_if_eq C 62 58 dX6_addEffect_55 (by decide) rfl (fun zk55 => ?_) (fun zk55 => ?_)
            · have zk55 := bI_eq0.mp zk55
              refine x_iconst (v := (0)) C 63 dX6_addEffect_62 (by decide) rfl ?_
              refine x_istore C 65 dX6_addEffect_63 (by decide) rfl rfl ?_
              refine x_aload_n C 66 dX6_addEffect_65 rfl rfl ?_
              refine x_aload_n C 67 dX6_addEffect_66 rfl rfl ?_
              refine x_iload_n C 68 dX6_addEffect_67 rfl rfl ?_
              refine x_callV0_i C 71 0 0 0 10 1 (cM_isGroup hl h2 _) rfl gX6_addEffect_X6_isGroup ⟨rfl, by decide, by decide, rfl⟩ ⟨Nat.le_of_ble_eq_true rfl, Nat.le_of_ble_eq_true rfl⟩ rfl rfl rfl rfl (Nat.le_of_ble_eq_true rfl) ⟨Nat.le_of_ble_eq_true rfl, Nat.le_of_ble_eq_true rfl⟩ dX6_addEffect_68 rfl rfl rfl (fun r21 w21 h21 => ?_)
              obtain ⟨rfl, rfl⟩ := h21
              refine x_top (show _ = (1 : Int32) from by rw [upB_nI (by omega) hx]; rfl) ?_
              refine x_if_ne C 78 74 dX6_addEffect_71 (by decide) rfl (fun zk71 => ?_) (fun zk71 => ?_)
              · refine x_iload C 80 dX6_addEffect_78 rfl rfl ?_
                refine x_if_ne C 87 83 dX6_addEffect_80 (by decide) rfl (fun zk80 => ?_) (fun zk80 => ?_)
                · exact absurd zk80 (by decide)
                · refine x_iconst (v := (2)) C 84 dX6_addEffect_83 (by decide) rfl ?_
                  refine x_goto C 100 dX6_addEffect_84 (by decide) ?_
                  refine xm_put C 103 8 (by decide) fp_X6_addEffect_98 rfl rfl dX6_addEffect_100 rfl ?_
                  refine x_aload_n C 104 dX6_addEffect_103 rfl rfl ?_
                  refine xm_get C 107 fg_X6_addEffect_98 rfl dX6_addEffect_104 rfl ?_
                  refine x_top (show _ = (2) from rfl) ?_
                  refine x_if_le C 112 110 dX6_addEffect_107 (by decide) rfl (fun zk107 => ?_) (fun zk107 => ?_)
                  · exact absurd zk107 (by decide)
                  · refine x_iconst (v := (-1)) C 111 dX6_addEffect_110 (by decide) rfl ?_
                    exact x_zret C0 dX6_addEffect_111 (Nat.le_of_ble_eq_true rfl) (Nat.le_of_ble_eq_true rfl) ⟨_, rfl, ⟨rfl, rfl⟩⟩
              · exact absurd zk71 (by decide)
            · have zk55 := bI_ne0.mp zk55
              refine x_iconst (v := (1)) C 59 dX6_addEffect_58 (by decide) rfl ?_
              refine x_goto C 63 dX6_addEffect_59 (by decide) ?_
              refine x_istore C 65 dX6_addEffect_63 (by decide) rfl rfl ?_
              refine x_aload_n C 66 dX6_addEffect_65 rfl rfl ?_
              refine x_aload_n C 67 dX6_addEffect_66 rfl rfl ?_
              refine x_iload_n C 68 dX6_addEffect_67 rfl rfl ?_
              refine x_callV0_i C 71 0 0 0 10 1 (cM_isGroup hl h2 _) rfl gX6_addEffect_X6_isGroup ⟨rfl, by decide, by decide, rfl⟩ ⟨Nat.le_of_ble_eq_true rfl, Nat.le_of_ble_eq_true rfl⟩ rfl rfl rfl rfl (Nat.le_of_ble_eq_true rfl) ⟨Nat.le_of_ble_eq_true rfl, Nat.le_of_ble_eq_true rfl⟩ dX6_addEffect_68 rfl rfl rfl (fun r22 w22 h22 => ?_)
              obtain ⟨rfl, rfl⟩ := h22
              refine x_top (show _ = (1 : Int32) from by rw [upB_nI (by omega) hx]; rfl) ?_
              refine x_if_ne C 78 74 dX6_addEffect_71 (by decide) rfl (fun zk71 => ?_) (fun zk71 => ?_)
              · refine x_iload C 80 dX6_addEffect_78 rfl rfl ?_
                refine x_if_ne C 87 83 dX6_addEffect_80 (by decide) rfl (fun zk80 => ?_) (fun zk80 => ?_)
                · exfalso; simp_all [effB, shB]
                · exact absurd zk80 (by decide)
              · exact absurd zk71 (by decide)
theorem fg_X6_addEffect_178 : gF RX6 wsX6_addEffect 178 10 26 := ⟨RX6, TX6, 36, "StageConsoleModel", rfl, fun w h => (List.mem_cons_of_mem _ (List.mem_append_left _ (List.mem_append_right _ h))), by decide, (List.mem_cons_of_mem _ (List.mem_append_left _ (List.mem_append_left _ (List.mem_of_getElem? (i := 4) rfl)))), Or.inl rfl⟩
set_option maxRecDepth 100000 in
set_option maxHeartbeats 4000000 in
theorem cM_addEffect_3 (hl : l.stackTraces = false) {I : Nat → Nat → Int32} {ng : Nat} (h2 : I 30 2 = nI ng) (hg : ng ≤ 5) {ne g : Nat} (h3 : I 30 3 = nI ne) {sh p sz sp : Int32} (hx : g < ng) (hE : effB sh p sz sp = true) (hf : ne = 4) : Ct (gm D a E0) l yX6_addEffect wsX6_addEffect { frames := 12, cells := 0, slots := 0, locals := 300 } [.ref m, .int (nI g), .int sh, .int p, .int sz, .int sp] (wM m am a I en) (qI fun v w => v = -1 ∧ w = wM m am a (uI I 30 8 3) en) noX := by
  refine Ct.of [some (.ref m), some (.int (nI g)), some (.int sh), some (.int p), some (.int sz), some (.int sp), none] rfl hl (by decide) (Nat.le_of_ble_eq_true rfl) rfl (fun φ C0 => ?_)
  have C := C0.1
  refine x_iload_n C 1 dX6_addEffect_0 rfl rfl ?_
  refine x_bipush (v := (119)) C 3 dX6_addEffect_1 (by decide) rfl ?_
  refine x_icmp_eq C 18 6 dX6_addEffect_3 (by decide) rfl (fun zk3 => ?_) (fun zk3 => ?_)
  · refine x_iload_n C 19 dX6_addEffect_18 rfl rfl ?_
    refine x_i2l C 20 dX6_addEffect_19 rfl rfl ?_
    refine x_ldc2 (v := 2) C 23 (List.mem_cons_of_mem _ (List.mem_append_left _ (List.mem_append_left _ (List.mem_of_getElem? (i := 0) rfl)))) dX6_addEffect_20 rfl ?_
    refine x_ldc2 (v := 40) C 26 (List.mem_cons_of_mem _ (List.mem_append_left _ (List.mem_append_left _ (List.mem_of_getElem? (i := 1) rfl)))) dX6_addEffect_23 rfl ?_
    refine x_callS0_i C 29 0 0 3 (cM_in hl _ _ _ _) rfl gX6_addEffect_X6_in ⟨by decide, by decide, rfl⟩ ⟨Nat.le_of_ble_eq_true rfl, Nat.le_of_ble_eq_true rfl⟩ rfl rfl (Nat.le_of_ble_eq_true rfl) ⟨Nat.le_of_ble_eq_true rfl, Nat.le_of_ble_eq_true rfl⟩ dX6_addEffect_26 rfl rfl rfl (fun r1 w1 h1 => ?_)
    obtain ⟨rfl, rfl⟩ := h1
    refine x_if_eq C 62 32 dX6_addEffect_29 (by decide) rfl (fun zk29 => ?_) (fun zk29 => ?_)
    · have zk29 := bI_eq0.mp zk29
      refine x_iconst (v := (0)) C 63 dX6_addEffect_62 (by decide) rfl ?_
      refine x_istore C 65 dX6_addEffect_63 (by decide) rfl rfl ?_
      refine x_aload_n C 66 dX6_addEffect_65 rfl rfl ?_
      refine x_aload_n C 67 dX6_addEffect_66 rfl rfl ?_
      refine x_iload_n C 68 dX6_addEffect_67 rfl rfl ?_
      refine x_callV0_i C 71 0 0 0 10 1 (cM_isGroup hl h2 _) rfl gX6_addEffect_X6_isGroup ⟨rfl, by decide, by decide, rfl⟩ ⟨Nat.le_of_ble_eq_true rfl, Nat.le_of_ble_eq_true rfl⟩ rfl rfl rfl rfl (Nat.le_of_ble_eq_true rfl) ⟨Nat.le_of_ble_eq_true rfl, Nat.le_of_ble_eq_true rfl⟩ dX6_addEffect_68 rfl rfl rfl (fun r2 w2 h2 => ?_)
      obtain ⟨rfl, rfl⟩ := h2
      refine x_top (show _ = (1 : Int32) from by rw [upB_nI (by omega) hx]; rfl) ?_
      refine x_if_ne C 78 74 dX6_addEffect_71 (by decide) rfl (fun zk71 => ?_) (fun zk71 => ?_)
      · refine x_iload C 80 dX6_addEffect_78 rfl rfl ?_
        refine x_if_ne C 87 83 dX6_addEffect_80 (by decide) rfl (fun zk80 => ?_) (fun zk80 => ?_)
        · exact absurd zk80 (by decide)
        · exfalso; simp_all [effB, shB]
      · exact absurd zk71 (by decide)
    · have zk29 := bI_ne0.mp zk29
      refine x_iload C 34 dX6_addEffect_32 rfl rfl ?_
      refine x_i2l C 35 dX6_addEffect_34 rfl rfl ?_
      refine x_lconst (v := 1) C 36 dX6_addEffect_35 (by decide) rfl ?_
      refine x_ldc2 (v := 255) C 39 (List.mem_cons_of_mem _ (List.mem_append_left _ (List.mem_append_left _ (List.mem_of_getElem? (i := 2) rfl)))) dX6_addEffect_36 rfl ?_
      refine x_callS0_i C 42 0 0 3 (cM_in hl _ _ _ _) rfl gX6_addEffect_X6_in ⟨by decide, by decide, rfl⟩ ⟨Nat.le_of_ble_eq_true rfl, Nat.le_of_ble_eq_true rfl⟩ rfl rfl (Nat.le_of_ble_eq_true rfl) ⟨Nat.le_of_ble_eq_true rfl, Nat.le_of_ble_eq_true rfl⟩ dX6_addEffect_39 rfl rfl rfl (fun r3 w3 h3 => ?_)
      obtain ⟨rfl, rfl⟩ := h3
      refine x_if_eq C 62 45 dX6_addEffect_42 (by decide) rfl (fun zk42 => ?_) (fun zk42 => ?_)
      · have zk42 := bI_eq0.mp zk42
        refine x_iconst (v := (0)) C 63 dX6_addEffect_62 (by decide) rfl ?_
        refine x_istore C 65 dX6_addEffect_63 (by decide) rfl rfl ?_
        refine x_aload_n C 66 dX6_addEffect_65 rfl rfl ?_
        refine x_aload_n C 67 dX6_addEffect_66 rfl rfl ?_
        refine x_iload_n C 68 dX6_addEffect_67 rfl rfl ?_
        refine x_callV0_i C 71 0 0 0 10 1 (cM_isGroup hl h2 _) rfl gX6_addEffect_X6_isGroup ⟨rfl, by decide, by decide, rfl⟩ ⟨Nat.le_of_ble_eq_true rfl, Nat.le_of_ble_eq_true rfl⟩ rfl rfl rfl rfl (Nat.le_of_ble_eq_true rfl) ⟨Nat.le_of_ble_eq_true rfl, Nat.le_of_ble_eq_true rfl⟩ dX6_addEffect_68 rfl rfl rfl (fun r4 w4 h4 => ?_)
        obtain ⟨rfl, rfl⟩ := h4
        refine x_top (show _ = (1 : Int32) from by rw [upB_nI (by omega) hx]; rfl) ?_
        refine x_if_ne C 78 74 dX6_addEffect_71 (by decide) rfl (fun zk71 => ?_) (fun zk71 => ?_)
        · refine x_iload C 80 dX6_addEffect_78 rfl rfl ?_
          refine x_if_ne C 87 83 dX6_addEffect_80 (by decide) rfl (fun zk80 => ?_) (fun zk80 => ?_)
          · exact absurd zk80 (by decide)
          · exfalso; simp_all [effB, shB]
        · exact absurd zk71 (by decide)
      · have zk42 := bI_ne0.mp zk42
        refine x_iload C 47 dX6_addEffect_45 rfl rfl ?_
        refine x_i2l C 48 dX6_addEffect_47 rfl rfl ?_
        refine x_lconst (v := 0) C 49 dX6_addEffect_48 (by decide) rfl ?_
        refine x_ldc2 (v := 39) C 52 (List.mem_cons_of_mem _ (List.mem_append_left _ (List.mem_append_left _ (List.mem_of_getElem? (i := 3) rfl)))) dX6_addEffect_49 rfl ?_
        refine x_callS0_i C 55 0 0 3 (cM_in hl _ _ _ _) rfl gX6_addEffect_X6_in ⟨by decide, by decide, rfl⟩ ⟨Nat.le_of_ble_eq_true rfl, Nat.le_of_ble_eq_true rfl⟩ rfl rfl (Nat.le_of_ble_eq_true rfl) ⟨Nat.le_of_ble_eq_true rfl, Nat.le_of_ble_eq_true rfl⟩ dX6_addEffect_52 rfl rfl rfl (fun r5 w5 h5 => ?_)
        obtain ⟨rfl, rfl⟩ := h5
        refine x_if_eq C 62 58 dX6_addEffect_55 (by decide) rfl (fun zk55 => ?_) (fun zk55 => ?_)
        · have zk55 := bI_eq0.mp zk55
          refine x_iconst (v := (0)) C 63 dX6_addEffect_62 (by decide) rfl ?_
          refine x_istore C 65 dX6_addEffect_63 (by decide) rfl rfl ?_
          refine x_aload_n C 66 dX6_addEffect_65 rfl rfl ?_
          refine x_aload_n C 67 dX6_addEffect_66 rfl rfl ?_
          refine x_iload_n C 68 dX6_addEffect_67 rfl rfl ?_
          refine x_callV0_i C 71 0 0 0 10 1 (cM_isGroup hl h2 _) rfl gX6_addEffect_X6_isGroup ⟨rfl, by decide, by decide, rfl⟩ ⟨Nat.le_of_ble_eq_true rfl, Nat.le_of_ble_eq_true rfl⟩ rfl rfl rfl rfl (Nat.le_of_ble_eq_true rfl) ⟨Nat.le_of_ble_eq_true rfl, Nat.le_of_ble_eq_true rfl⟩ dX6_addEffect_68 rfl rfl rfl (fun r6 w6 h6 => ?_)
          obtain ⟨rfl, rfl⟩ := h6
          refine x_top (show _ = (1 : Int32) from by rw [upB_nI (by omega) hx]; rfl) ?_
          refine x_if_ne C 78 74 dX6_addEffect_71 (by decide) rfl (fun zk71 => ?_) (fun zk71 => ?_)
          · refine x_iload C 80 dX6_addEffect_78 rfl rfl ?_
            refine x_if_ne C 87 83 dX6_addEffect_80 (by decide) rfl (fun zk80 => ?_) (fun zk80 => ?_)
            · exact absurd zk80 (by decide)
            · exfalso; simp_all [effB, shB]
          · exact absurd zk71 (by decide)
        · have zk55 := bI_ne0.mp zk55
          refine x_iconst (v := (1)) C 59 dX6_addEffect_58 (by decide) rfl ?_
          refine x_goto C 63 dX6_addEffect_59 (by decide) ?_
          refine x_istore C 65 dX6_addEffect_63 (by decide) rfl rfl ?_
          refine x_aload_n C 66 dX6_addEffect_65 rfl rfl ?_
          refine x_aload_n C 67 dX6_addEffect_66 rfl rfl ?_
          refine x_iload_n C 68 dX6_addEffect_67 rfl rfl ?_
          refine x_callV0_i C 71 0 0 0 10 1 (cM_isGroup hl h2 _) rfl gX6_addEffect_X6_isGroup ⟨rfl, by decide, by decide, rfl⟩ ⟨Nat.le_of_ble_eq_true rfl, Nat.le_of_ble_eq_true rfl⟩ rfl rfl rfl rfl (Nat.le_of_ble_eq_true rfl) ⟨Nat.le_of_ble_eq_true rfl, Nat.le_of_ble_eq_true rfl⟩ dX6_addEffect_68 rfl rfl rfl (fun r7 w7 h7 => ?_)
          obtain ⟨rfl, rfl⟩ := h7
          refine x_top (show _ = (1 : Int32) from by rw [upB_nI (by omega) hx]; rfl) ?_
          refine x_if_ne C 78 74 dX6_addEffect_71 (by decide) rfl (fun zk71 => ?_) (fun zk71 => ?_)
          · refine x_iload C 80 dX6_addEffect_78 rfl rfl ?_
            refine x_if_ne C 87 83 dX6_addEffect_80 (by decide) rfl (fun zk80 => ?_) (fun zk80 => ?_)
            · refine x_aload_n C 88 dX6_addEffect_87 rfl rfl ?_
              refine xm_get C 91 fg_X6_addEffect_178 rfl dX6_addEffect_88 rfl ?_
              refine x_top h3 ?_
              refine x_iconst (v := (4)) C 92 dX6_addEffect_91 (by decide) rfl ?_
              refine x_icmp_ne C 99 95 dX6_addEffect_92 (by decide) rfl (fun zk92 => ?_) (fun zk92 => ?_)
              · have zk92 := mt (nI_eq (a := ne) (b := 4) (by omega) (by omega)).mpr zk92
                exact absurd hf zk92
              · have zk92 := (nI_eq (a := ne) (b := 4) (by omega) (by omega)).mp zk92
                refine x_iconst (v := (3)) C 96 dX6_addEffect_95 (by decide) rfl ?_
                refine x_goto C 100 dX6_addEffect_96 (by decide) ?_
                refine xm_put C 103 8 (by decide) fp_X6_addEffect_98 rfl rfl dX6_addEffect_100 rfl ?_
                refine x_aload_n C 104 dX6_addEffect_103 rfl rfl ?_
                refine xm_get C 107 fg_X6_addEffect_98 rfl dX6_addEffect_104 rfl ?_
                refine x_top (show _ = (3) from rfl) ?_
                refine x_if_le C 112 110 dX6_addEffect_107 (by decide) rfl (fun zk107 => ?_) (fun zk107 => ?_)
                · exact absurd zk107 (by decide)
                · refine x_iconst (v := (-1)) C 111 dX6_addEffect_110 (by decide) rfl ?_
                  exact x_zret C0 dX6_addEffect_111 (Nat.le_of_ble_eq_true rfl) (Nat.le_of_ble_eq_true rfl) ⟨_, rfl, ⟨rfl, rfl⟩⟩
            · exact absurd zk80 (by decide)
          · exact absurd zk71 (by decide)
  · refine x_iload_n C 7 dX6_addEffect_6 rfl rfl ?_
    refine x_bipush (v := (116)) C 9 dX6_addEffect_7 (by decide) rfl ?_
    refine x_icmp_eq C 18 12 dX6_addEffect_9 (by decide) rfl (fun zk9 => ?_) (fun zk9 => ?_)
    · refine x_iload_n C 19 dX6_addEffect_18 rfl rfl ?_
      refine x_i2l C 20 dX6_addEffect_19 rfl rfl ?_
      refine x_ldc2 (v := 2) C 23 (List.mem_cons_of_mem _ (List.mem_append_left _ (List.mem_append_left _ (List.mem_of_getElem? (i := 0) rfl)))) dX6_addEffect_20 rfl ?_
      refine x_ldc2 (v := 40) C 26 (List.mem_cons_of_mem _ (List.mem_append_left _ (List.mem_append_left _ (List.mem_of_getElem? (i := 1) rfl)))) dX6_addEffect_23 rfl ?_
      refine x_callS0_i C 29 0 0 3 (cM_in hl _ _ _ _) rfl gX6_addEffect_X6_in ⟨by decide, by decide, rfl⟩ ⟨Nat.le_of_ble_eq_true rfl, Nat.le_of_ble_eq_true rfl⟩ rfl rfl (Nat.le_of_ble_eq_true rfl) ⟨Nat.le_of_ble_eq_true rfl, Nat.le_of_ble_eq_true rfl⟩ dX6_addEffect_26 rfl rfl rfl (fun r8 w8 h8 => ?_)
      obtain ⟨rfl, rfl⟩ := h8
      refine x_if_eq C 62 32 dX6_addEffect_29 (by decide) rfl (fun zk29 => ?_) (fun zk29 => ?_)
      · have zk29 := bI_eq0.mp zk29
        refine x_iconst (v := (0)) C 63 dX6_addEffect_62 (by decide) rfl ?_
        refine x_istore C 65 dX6_addEffect_63 (by decide) rfl rfl ?_
        refine x_aload_n C 66 dX6_addEffect_65 rfl rfl ?_
        refine x_aload_n C 67 dX6_addEffect_66 rfl rfl ?_
        refine x_iload_n C 68 dX6_addEffect_67 rfl rfl ?_
        refine x_callV0_i C 71 0 0 0 10 1 (cM_isGroup hl h2 _) rfl gX6_addEffect_X6_isGroup ⟨rfl, by decide, by decide, rfl⟩ ⟨Nat.le_of_ble_eq_true rfl, Nat.le_of_ble_eq_true rfl⟩ rfl rfl rfl rfl (Nat.le_of_ble_eq_true rfl) ⟨Nat.le_of_ble_eq_true rfl, Nat.le_of_ble_eq_true rfl⟩ dX6_addEffect_68 rfl rfl rfl (fun r9 w9 h9 => ?_)
        obtain ⟨rfl, rfl⟩ := h9
        refine x_top (show _ = (1 : Int32) from by rw [upB_nI (by omega) hx]; rfl) ?_
        refine x_if_ne C 78 74 dX6_addEffect_71 (by decide) rfl (fun zk71 => ?_) (fun zk71 => ?_)
        · refine x_iload C 80 dX6_addEffect_78 rfl rfl ?_
          refine x_if_ne C 87 83 dX6_addEffect_80 (by decide) rfl (fun zk80 => ?_) (fun zk80 => ?_)
          · exact absurd zk80 (by decide)
          · exfalso; simp_all [effB, shB]
        · exact absurd zk71 (by decide)
      · have zk29 := bI_ne0.mp zk29
        refine x_iload C 34 dX6_addEffect_32 rfl rfl ?_
        refine x_i2l C 35 dX6_addEffect_34 rfl rfl ?_
        refine x_lconst (v := 1) C 36 dX6_addEffect_35 (by decide) rfl ?_
        refine x_ldc2 (v := 255) C 39 (List.mem_cons_of_mem _ (List.mem_append_left _ (List.mem_append_left _ (List.mem_of_getElem? (i := 2) rfl)))) dX6_addEffect_36 rfl ?_
        refine x_callS0_i C 42 0 0 3 (cM_in hl _ _ _ _) rfl gX6_addEffect_X6_in ⟨by decide, by decide, rfl⟩ ⟨Nat.le_of_ble_eq_true rfl, Nat.le_of_ble_eq_true rfl⟩ rfl rfl (Nat.le_of_ble_eq_true rfl) ⟨Nat.le_of_ble_eq_true rfl, Nat.le_of_ble_eq_true rfl⟩ dX6_addEffect_39 rfl rfl rfl (fun r10 w10 h10 => ?_)
        obtain ⟨rfl, rfl⟩ := h10
        refine x_if_eq C 62 45 dX6_addEffect_42 (by decide) rfl (fun zk42 => ?_) (fun zk42 => ?_)
        · have zk42 := bI_eq0.mp zk42
          refine x_iconst (v := (0)) C 63 dX6_addEffect_62 (by decide) rfl ?_
          refine x_istore C 65 dX6_addEffect_63 (by decide) rfl rfl ?_
          refine x_aload_n C 66 dX6_addEffect_65 rfl rfl ?_
          refine x_aload_n C 67 dX6_addEffect_66 rfl rfl ?_
          refine x_iload_n C 68 dX6_addEffect_67 rfl rfl ?_
          refine x_callV0_i C 71 0 0 0 10 1 (cM_isGroup hl h2 _) rfl gX6_addEffect_X6_isGroup ⟨rfl, by decide, by decide, rfl⟩ ⟨Nat.le_of_ble_eq_true rfl, Nat.le_of_ble_eq_true rfl⟩ rfl rfl rfl rfl (Nat.le_of_ble_eq_true rfl) ⟨Nat.le_of_ble_eq_true rfl, Nat.le_of_ble_eq_true rfl⟩ dX6_addEffect_68 rfl rfl rfl (fun r11 w11 h11 => ?_)
          obtain ⟨rfl, rfl⟩ := h11
          refine x_top (show _ = (1 : Int32) from by rw [upB_nI (by omega) hx]; rfl) ?_
          refine x_if_ne C 78 74 dX6_addEffect_71 (by decide) rfl (fun zk71 => ?_) (fun zk71 => ?_)
          · refine x_iload C 80 dX6_addEffect_78 rfl rfl ?_
            refine x_if_ne C 87 83 dX6_addEffect_80 (by decide) rfl (fun zk80 => ?_) (fun zk80 => ?_)
            · exact absurd zk80 (by decide)
            · exfalso; simp_all [effB, shB]
          · exact absurd zk71 (by decide)
        · have zk42 := bI_ne0.mp zk42
          refine x_iload C 47 dX6_addEffect_45 rfl rfl ?_
          refine x_i2l C 48 dX6_addEffect_47 rfl rfl ?_
          refine x_lconst (v := 0) C 49 dX6_addEffect_48 (by decide) rfl ?_
          refine x_ldc2 (v := 39) C 52 (List.mem_cons_of_mem _ (List.mem_append_left _ (List.mem_append_left _ (List.mem_of_getElem? (i := 3) rfl)))) dX6_addEffect_49 rfl ?_
          refine x_callS0_i C 55 0 0 3 (cM_in hl _ _ _ _) rfl gX6_addEffect_X6_in ⟨by decide, by decide, rfl⟩ ⟨Nat.le_of_ble_eq_true rfl, Nat.le_of_ble_eq_true rfl⟩ rfl rfl (Nat.le_of_ble_eq_true rfl) ⟨Nat.le_of_ble_eq_true rfl, Nat.le_of_ble_eq_true rfl⟩ dX6_addEffect_52 rfl rfl rfl (fun r12 w12 h12 => ?_)
          obtain ⟨rfl, rfl⟩ := h12
          refine x_if_eq C 62 58 dX6_addEffect_55 (by decide) rfl (fun zk55 => ?_) (fun zk55 => ?_)
          · have zk55 := bI_eq0.mp zk55
            refine x_iconst (v := (0)) C 63 dX6_addEffect_62 (by decide) rfl ?_
            refine x_istore C 65 dX6_addEffect_63 (by decide) rfl rfl ?_
            refine x_aload_n C 66 dX6_addEffect_65 rfl rfl ?_
            refine x_aload_n C 67 dX6_addEffect_66 rfl rfl ?_
            refine x_iload_n C 68 dX6_addEffect_67 rfl rfl ?_
            refine x_callV0_i C 71 0 0 0 10 1 (cM_isGroup hl h2 _) rfl gX6_addEffect_X6_isGroup ⟨rfl, by decide, by decide, rfl⟩ ⟨Nat.le_of_ble_eq_true rfl, Nat.le_of_ble_eq_true rfl⟩ rfl rfl rfl rfl (Nat.le_of_ble_eq_true rfl) ⟨Nat.le_of_ble_eq_true rfl, Nat.le_of_ble_eq_true rfl⟩ dX6_addEffect_68 rfl rfl rfl (fun r13 w13 h13 => ?_)
            obtain ⟨rfl, rfl⟩ := h13
            refine x_top (show _ = (1 : Int32) from by rw [upB_nI (by omega) hx]; rfl) ?_
            refine x_if_ne C 78 74 dX6_addEffect_71 (by decide) rfl (fun zk71 => ?_) (fun zk71 => ?_)
            · refine x_iload C 80 dX6_addEffect_78 rfl rfl ?_
              refine x_if_ne C 87 83 dX6_addEffect_80 (by decide) rfl (fun zk80 => ?_) (fun zk80 => ?_)
              · exact absurd zk80 (by decide)
              · exfalso; simp_all [effB, shB]
            · exact absurd zk71 (by decide)
          · have zk55 := bI_ne0.mp zk55
            refine x_iconst (v := (1)) C 59 dX6_addEffect_58 (by decide) rfl ?_
            refine x_goto C 63 dX6_addEffect_59 (by decide) ?_
            refine x_istore C 65 dX6_addEffect_63 (by decide) rfl rfl ?_
            refine x_aload_n C 66 dX6_addEffect_65 rfl rfl ?_
            refine x_aload_n C 67 dX6_addEffect_66 rfl rfl ?_
            refine x_iload_n C 68 dX6_addEffect_67 rfl rfl ?_
            refine x_callV0_i C 71 0 0 0 10 1 (cM_isGroup hl h2 _) rfl gX6_addEffect_X6_isGroup ⟨rfl, by decide, by decide, rfl⟩ ⟨Nat.le_of_ble_eq_true rfl, Nat.le_of_ble_eq_true rfl⟩ rfl rfl rfl rfl (Nat.le_of_ble_eq_true rfl) ⟨Nat.le_of_ble_eq_true rfl, Nat.le_of_ble_eq_true rfl⟩ dX6_addEffect_68 rfl rfl rfl (fun r14 w14 h14 => ?_)
            obtain ⟨rfl, rfl⟩ := h14
            refine x_top (show _ = (1 : Int32) from by rw [upB_nI (by omega) hx]; rfl) ?_
            refine x_if_ne C 78 74 dX6_addEffect_71 (by decide) rfl (fun zk71 => ?_) (fun zk71 => ?_)
            · refine x_iload C 80 dX6_addEffect_78 rfl rfl ?_
              refine x_if_ne C 87 83 dX6_addEffect_80 (by decide) rfl (fun zk80 => ?_) (fun zk80 => ?_)
              · refine x_aload_n C 88 dX6_addEffect_87 rfl rfl ?_
                refine xm_get C 91 fg_X6_addEffect_178 rfl dX6_addEffect_88 rfl ?_
                refine x_top h3 ?_
                refine x_iconst (v := (4)) C 92 dX6_addEffect_91 (by decide) rfl ?_
                refine x_icmp_ne C 99 95 dX6_addEffect_92 (by decide) rfl (fun zk92 => ?_) (fun zk92 => ?_)
                · have zk92 := mt (nI_eq (a := ne) (b := 4) (by omega) (by omega)).mpr zk92
                  exact absurd hf zk92
                · have zk92 := (nI_eq (a := ne) (b := 4) (by omega) (by omega)).mp zk92
                  refine x_iconst (v := (3)) C 96 dX6_addEffect_95 (by decide) rfl ?_
                  refine x_goto C 100 dX6_addEffect_96 (by decide) ?_
                  refine xm_put C 103 8 (by decide) fp_X6_addEffect_98 rfl rfl dX6_addEffect_100 rfl ?_
                  refine x_aload_n C 104 dX6_addEffect_103 rfl rfl ?_
                  refine xm_get C 107 fg_X6_addEffect_98 rfl dX6_addEffect_104 rfl ?_
                  refine x_top (show _ = (3) from rfl) ?_
                  refine x_if_le C 112 110 dX6_addEffect_107 (by decide) rfl (fun zk107 => ?_) (fun zk107 => ?_)
                  · exact absurd zk107 (by decide)
                  · refine x_iconst (v := (-1)) C 111 dX6_addEffect_110 (by decide) rfl ?_
                    exact x_zret C0 dX6_addEffect_111 (Nat.le_of_ble_eq_true rfl) (Nat.le_of_ble_eq_true rfl) ⟨_, rfl, ⟨rfl, rfl⟩⟩
              · exact absurd zk80 (by decide)
            · exact absurd zk71 (by decide)
    · refine x_iload_n C 13 dX6_addEffect_12 rfl rfl ?_
      refine x_bipush (v := (113)) C 15 dX6_addEffect_13 (by decide) rfl ?_
      refine x_icmp_ne C 62 18 dX6_addEffect_15 (by decide) rfl (fun zk15 => ?_) (fun zk15 => ?_)
      · refine x_iconst (v := (0)) C 63 dX6_addEffect_62 (by decide) rfl ?_
        refine x_istore C 65 dX6_addEffect_63 (by decide) rfl rfl ?_
        refine x_aload_n C 66 dX6_addEffect_65 rfl rfl ?_
        refine x_aload_n C 67 dX6_addEffect_66 rfl rfl ?_
        refine x_iload_n C 68 dX6_addEffect_67 rfl rfl ?_
        refine x_callV0_i C 71 0 0 0 10 1 (cM_isGroup hl h2 _) rfl gX6_addEffect_X6_isGroup ⟨rfl, by decide, by decide, rfl⟩ ⟨Nat.le_of_ble_eq_true rfl, Nat.le_of_ble_eq_true rfl⟩ rfl rfl rfl rfl (Nat.le_of_ble_eq_true rfl) ⟨Nat.le_of_ble_eq_true rfl, Nat.le_of_ble_eq_true rfl⟩ dX6_addEffect_68 rfl rfl rfl (fun r15 w15 h15 => ?_)
        obtain ⟨rfl, rfl⟩ := h15
        refine x_top (show _ = (1 : Int32) from by rw [upB_nI (by omega) hx]; rfl) ?_
        refine x_if_ne C 78 74 dX6_addEffect_71 (by decide) rfl (fun zk71 => ?_) (fun zk71 => ?_)
        · refine x_iload C 80 dX6_addEffect_78 rfl rfl ?_
          refine x_if_ne C 87 83 dX6_addEffect_80 (by decide) rfl (fun zk80 => ?_) (fun zk80 => ?_)
          · exact absurd zk80 (by decide)
          · exfalso; simp_all [effB, shB]
        · exact absurd zk71 (by decide)
      · refine x_iload_n C 19 dX6_addEffect_18 rfl rfl ?_
        refine x_i2l C 20 dX6_addEffect_19 rfl rfl ?_
        refine x_ldc2 (v := 2) C 23 (List.mem_cons_of_mem _ (List.mem_append_left _ (List.mem_append_left _ (List.mem_of_getElem? (i := 0) rfl)))) dX6_addEffect_20 rfl ?_
        refine x_ldc2 (v := 40) C 26 (List.mem_cons_of_mem _ (List.mem_append_left _ (List.mem_append_left _ (List.mem_of_getElem? (i := 1) rfl)))) dX6_addEffect_23 rfl ?_
        refine x_callS0_i C 29 0 0 3 (cM_in hl _ _ _ _) rfl gX6_addEffect_X6_in ⟨by decide, by decide, rfl⟩ ⟨Nat.le_of_ble_eq_true rfl, Nat.le_of_ble_eq_true rfl⟩ rfl rfl (Nat.le_of_ble_eq_true rfl) ⟨Nat.le_of_ble_eq_true rfl, Nat.le_of_ble_eq_true rfl⟩ dX6_addEffect_26 rfl rfl rfl (fun r16 w16 h16 => ?_)
        obtain ⟨rfl, rfl⟩ := h16
        refine x_if_eq C 62 32 dX6_addEffect_29 (by decide) rfl (fun zk29 => ?_) (fun zk29 => ?_)
        · have zk29 := bI_eq0.mp zk29
          refine x_iconst (v := (0)) C 63 dX6_addEffect_62 (by decide) rfl ?_
          refine x_istore C 65 dX6_addEffect_63 (by decide) rfl rfl ?_
          refine x_aload_n C 66 dX6_addEffect_65 rfl rfl ?_
          refine x_aload_n C 67 dX6_addEffect_66 rfl rfl ?_
          refine x_iload_n C 68 dX6_addEffect_67 rfl rfl ?_
          refine x_callV0_i C 71 0 0 0 10 1 (cM_isGroup hl h2 _) rfl gX6_addEffect_X6_isGroup ⟨rfl, by decide, by decide, rfl⟩ ⟨Nat.le_of_ble_eq_true rfl, Nat.le_of_ble_eq_true rfl⟩ rfl rfl rfl rfl (Nat.le_of_ble_eq_true rfl) ⟨Nat.le_of_ble_eq_true rfl, Nat.le_of_ble_eq_true rfl⟩ dX6_addEffect_68 rfl rfl rfl (fun r17 w17 h17 => ?_)
          obtain ⟨rfl, rfl⟩ := h17
          refine x_top (show _ = (1 : Int32) from by rw [upB_nI (by omega) hx]; rfl) ?_
          refine x_if_ne C 78 74 dX6_addEffect_71 (by decide) rfl (fun zk71 => ?_) (fun zk71 => ?_)
          · refine x_iload C 80 dX6_addEffect_78 rfl rfl ?_
            refine x_if_ne C 87 83 dX6_addEffect_80 (by decide) rfl (fun zk80 => ?_) (fun zk80 => ?_)
            · exact absurd zk80 (by decide)
            · exfalso; simp_all [effB, shB]
          · exact absurd zk71 (by decide)
        · have zk29 := bI_ne0.mp zk29
          refine x_iload C 34 dX6_addEffect_32 rfl rfl ?_
          refine x_i2l C 35 dX6_addEffect_34 rfl rfl ?_
          refine x_lconst (v := 1) C 36 dX6_addEffect_35 (by decide) rfl ?_
          refine x_ldc2 (v := 255) C 39 (List.mem_cons_of_mem _ (List.mem_append_left _ (List.mem_append_left _ (List.mem_of_getElem? (i := 2) rfl)))) dX6_addEffect_36 rfl ?_
          refine x_callS0_i C 42 0 0 3 (cM_in hl _ _ _ _) rfl gX6_addEffect_X6_in ⟨by decide, by decide, rfl⟩ ⟨Nat.le_of_ble_eq_true rfl, Nat.le_of_ble_eq_true rfl⟩ rfl rfl (Nat.le_of_ble_eq_true rfl) ⟨Nat.le_of_ble_eq_true rfl, Nat.le_of_ble_eq_true rfl⟩ dX6_addEffect_39 rfl rfl rfl (fun r18 w18 h18 => ?_)
          obtain ⟨rfl, rfl⟩ := h18
          refine x_if_eq C 62 45 dX6_addEffect_42 (by decide) rfl (fun zk42 => ?_) (fun zk42 => ?_)
          · have zk42 := bI_eq0.mp zk42
            refine x_iconst (v := (0)) C 63 dX6_addEffect_62 (by decide) rfl ?_
            refine x_istore C 65 dX6_addEffect_63 (by decide) rfl rfl ?_
            refine x_aload_n C 66 dX6_addEffect_65 rfl rfl ?_
            refine x_aload_n C 67 dX6_addEffect_66 rfl rfl ?_
            refine x_iload_n C 68 dX6_addEffect_67 rfl rfl ?_
            refine x_callV0_i C 71 0 0 0 10 1 (cM_isGroup hl h2 _) rfl gX6_addEffect_X6_isGroup ⟨rfl, by decide, by decide, rfl⟩ ⟨Nat.le_of_ble_eq_true rfl, Nat.le_of_ble_eq_true rfl⟩ rfl rfl rfl rfl (Nat.le_of_ble_eq_true rfl) ⟨Nat.le_of_ble_eq_true rfl, Nat.le_of_ble_eq_true rfl⟩ dX6_addEffect_68 rfl rfl rfl (fun r19 w19 h19 => ?_)
            obtain ⟨rfl, rfl⟩ := h19
            refine x_top (show _ = (1 : Int32) from by rw [upB_nI (by omega) hx]; rfl) ?_
            refine x_if_ne C 78 74 dX6_addEffect_71 (by decide) rfl (fun zk71 => ?_) (fun zk71 => ?_)
            · refine x_iload C 80 dX6_addEffect_78 rfl rfl ?_
              refine x_if_ne C 87 83 dX6_addEffect_80 (by decide) rfl (fun zk80 => ?_) (fun zk80 => ?_)
              · exact absurd zk80 (by decide)
              · exfalso; simp_all [effB, shB]
            · exact absurd zk71 (by decide)
          · have zk42 := bI_ne0.mp zk42
            refine x_iload C 47 dX6_addEffect_45 rfl rfl ?_
            refine x_i2l C 48 dX6_addEffect_47 rfl rfl ?_
            refine x_lconst (v := 0) C 49 dX6_addEffect_48 (by decide) rfl ?_
            refine x_ldc2 (v := 39) C 52 (List.mem_cons_of_mem _ (List.mem_append_left _ (List.mem_append_left _ (List.mem_of_getElem? (i := 3) rfl)))) dX6_addEffect_49 rfl ?_
            refine x_callS0_i C 55 0 0 3 (cM_in hl _ _ _ _) rfl gX6_addEffect_X6_in ⟨by decide, by decide, rfl⟩ ⟨Nat.le_of_ble_eq_true rfl, Nat.le_of_ble_eq_true rfl⟩ rfl rfl (Nat.le_of_ble_eq_true rfl) ⟨Nat.le_of_ble_eq_true rfl, Nat.le_of_ble_eq_true rfl⟩ dX6_addEffect_52 rfl rfl rfl (fun r20 w20 h20 => ?_)
            obtain ⟨rfl, rfl⟩ := h20
            refine x_if_eq C 62 58 dX6_addEffect_55 (by decide) rfl (fun zk55 => ?_) (fun zk55 => ?_)
            · have zk55 := bI_eq0.mp zk55
              refine x_iconst (v := (0)) C 63 dX6_addEffect_62 (by decide) rfl ?_
              refine x_istore C 65 dX6_addEffect_63 (by decide) rfl rfl ?_
              refine x_aload_n C 66 dX6_addEffect_65 rfl rfl ?_
              refine x_aload_n C 67 dX6_addEffect_66 rfl rfl ?_
              refine x_iload_n C 68 dX6_addEffect_67 rfl rfl ?_
              refine x_callV0_i C 71 0 0 0 10 1 (cM_isGroup hl h2 _) rfl gX6_addEffect_X6_isGroup ⟨rfl, by decide, by decide, rfl⟩ ⟨Nat.le_of_ble_eq_true rfl, Nat.le_of_ble_eq_true rfl⟩ rfl rfl rfl rfl (Nat.le_of_ble_eq_true rfl) ⟨Nat.le_of_ble_eq_true rfl, Nat.le_of_ble_eq_true rfl⟩ dX6_addEffect_68 rfl rfl rfl (fun r21 w21 h21 => ?_)
              obtain ⟨rfl, rfl⟩ := h21
              refine x_top (show _ = (1 : Int32) from by rw [upB_nI (by omega) hx]; rfl) ?_
              refine x_if_ne C 78 74 dX6_addEffect_71 (by decide) rfl (fun zk71 => ?_) (fun zk71 => ?_)
              · refine x_iload C 80 dX6_addEffect_78 rfl rfl ?_
                refine x_if_ne C 87 83 dX6_addEffect_80 (by decide) rfl (fun zk80 => ?_) (fun zk80 => ?_)
                · exact absurd zk80 (by decide)
                · exfalso; simp_all [effB, shB]
              · exact absurd zk71 (by decide)
            · have zk55 := bI_ne0.mp zk55
              refine x_iconst (v := (1)) C 59 dX6_addEffect_58 (by decide) rfl ?_
              refine x_goto C 63 dX6_addEffect_59 (by decide) ?_
              refine x_istore C 65 dX6_addEffect_63 (by decide) rfl rfl ?_
              refine x_aload_n C 66 dX6_addEffect_65 rfl rfl ?_
              refine x_aload_n C 67 dX6_addEffect_66 rfl rfl ?_
              refine x_iload_n C 68 dX6_addEffect_67 rfl rfl ?_
              refine x_callV0_i C 71 0 0 0 10 1 (cM_isGroup hl h2 _) rfl gX6_addEffect_X6_isGroup ⟨rfl, by decide, by decide, rfl⟩ ⟨Nat.le_of_ble_eq_true rfl, Nat.le_of_ble_eq_true rfl⟩ rfl rfl rfl rfl (Nat.le_of_ble_eq_true rfl) ⟨Nat.le_of_ble_eq_true rfl, Nat.le_of_ble_eq_true rfl⟩ dX6_addEffect_68 rfl rfl rfl (fun r22 w22 h22 => ?_)
              obtain ⟨rfl, rfl⟩ := h22
              refine x_top (show _ = (1 : Int32) from by rw [upB_nI (by omega) hx]; rfl) ?_
              refine x_if_ne C 78 74 dX6_addEffect_71 (by decide) rfl (fun zk71 => ?_) (fun zk71 => ?_)
              · refine x_iload C 80 dX6_addEffect_78 rfl rfl ?_
                refine x_if_ne C 87 83 dX6_addEffect_80 (by decide) rfl (fun zk80 => ?_) (fun zk80 => ?_)
                · refine x_aload_n C 88 dX6_addEffect_87 rfl rfl ?_
                  refine xm_get C 91 fg_X6_addEffect_178 rfl dX6_addEffect_88 rfl ?_
                  refine x_top h3 ?_
                  refine x_iconst (v := (4)) C 92 dX6_addEffect_91 (by decide) rfl ?_
                  refine x_icmp_ne C 99 95 dX6_addEffect_92 (by decide) rfl (fun zk92 => ?_) (fun zk92 => ?_)
                  · have zk92 := mt (nI_eq (a := ne) (b := 4) (by omega) (by omega)).mpr zk92
                    exact absurd hf zk92
                  · have zk92 := (nI_eq (a := ne) (b := 4) (by omega) (by omega)).mp zk92
                    refine x_iconst (v := (3)) C 96 dX6_addEffect_95 (by decide) rfl ?_
                    refine x_goto C 100 dX6_addEffect_96 (by decide) ?_
                    refine xm_put C 103 8 (by decide) fp_X6_addEffect_98 rfl rfl dX6_addEffect_100 rfl ?_
                    refine x_aload_n C 104 dX6_addEffect_103 rfl rfl ?_
                    refine xm_get C 107 fg_X6_addEffect_98 rfl dX6_addEffect_104 rfl ?_
                    refine x_top (show _ = (3) from rfl) ?_
                    refine x_if_le C 112 110 dX6_addEffect_107 (by decide) rfl (fun zk107 => ?_) (fun zk107 => ?_)
                    · exact absurd zk107 (by decide)
                    · refine x_iconst (v := (-1)) C 111 dX6_addEffect_110 (by decide) rfl ?_
                      exact x_zret C0 dX6_addEffect_111 (Nat.le_of_ble_eq_true rfl) (Nat.le_of_ble_eq_true rfl) ⟨_, rfl, ⟨rfl, rfl⟩⟩
                · exact absurd zk80 (by decide)
              · exact absurd zk71 (by decide)
theorem fg_X6_addEffect_60 : gF RX6 wsX6_addEffect 60 10 19 := ⟨RX6, TX6, 36, "StageConsoleModel", rfl, fun w h => (List.mem_cons_of_mem _ (List.mem_append_left _ (List.mem_append_right _ h))), by decide, (List.mem_cons_of_mem _ (List.mem_append_left _ (List.mem_append_left _ (List.mem_of_getElem? (i := 6) rfl)))), Or.inl rfl⟩
theorem fg_X6_addEffect_63 : gF RX6 wsX6_addEffect 63 10 20 := ⟨RX6, TX6, 36, "StageConsoleModel", rfl, fun w h => (List.mem_cons_of_mem _ (List.mem_append_left _ (List.mem_append_right _ h))), by decide, (List.mem_cons_of_mem _ (List.mem_append_left _ (List.mem_append_left _ (List.mem_of_getElem? (i := 7) rfl)))), Or.inl rfl⟩
theorem fg_X6_addEffect_66 : gF RX6 wsX6_addEffect 66 10 21 := ⟨RX6, TX6, 36, "StageConsoleModel", rfl, fun w h => (List.mem_cons_of_mem _ (List.mem_append_left _ (List.mem_append_right _ h))), by decide, (List.mem_cons_of_mem _ (List.mem_append_left _ (List.mem_append_left _ (List.mem_of_getElem? (i := 8) rfl)))), Or.inl rfl⟩
theorem fg_X6_addEffect_69 : gF RX6 wsX6_addEffect 69 10 22 := ⟨RX6, TX6, 36, "StageConsoleModel", rfl, fun w h => (List.mem_cons_of_mem _ (List.mem_append_left _ (List.mem_append_right _ h))), by decide, (List.mem_cons_of_mem _ (List.mem_append_left _ (List.mem_append_left _ (List.mem_of_getElem? (i := 9) rfl)))), Or.inl rfl⟩
theorem fg_X6_addEffect_72 : gF RX6 wsX6_addEffect 72 10 23 := ⟨RX6, TX6, 36, "StageConsoleModel", rfl, fun w h => (List.mem_cons_of_mem _ (List.mem_append_left _ (List.mem_append_right _ h))), by decide, (List.mem_cons_of_mem _ (List.mem_append_left _ (List.mem_append_left _ (List.mem_of_getElem? (i := 10) rfl)))), Or.inl rfl⟩
theorem fg_X6_addEffect_78 : gF RX6 wsX6_addEffect 78 10 25 := ⟨RX6, TX6, 36, "StageConsoleModel", rfl, fun w h => (List.mem_cons_of_mem _ (List.mem_append_left _ (List.mem_append_right _ h))), by decide, (List.mem_cons_of_mem _ (List.mem_append_left _ (List.mem_append_left _ (List.mem_of_getElem? (i := 11) rfl)))), Or.inl rfl⟩
theorem fp_X6_addEffect_178 : pF RX6 wsX6_addEffect 178 10 26 false (.int) := ⟨RX6, TX6, 36, "StageConsoleModel", tyX6, rfl, fun w h => (List.mem_cons_of_mem _ (List.mem_append_left _ (List.mem_append_right _ h))), by decide, (List.mem_cons_of_mem _ (List.mem_append_left _ (List.mem_append_left _ (List.mem_of_getElem? (i := 4) rfl)))), Or.inl rfl, tyX6_ok, nmX6, rfl, rfl, fun h => absurd h (by decide)⟩
set_option maxRecDepth 100000 in
set_option maxHeartbeats 4000000 in
theorem cM_addEffect_0 (hl : l.stackTraces = false) {I : Nat → Nat → Int32} {ng : Nat} (h2 : I 30 2 = nI ng) (hg : ng ≤ 5) {ne g : Nat} (h3 : I 30 3 = nI ne) {sh p sz sp : Int32} (hx : g < ng) (hE : effB sh p sz sp = true) (hf : ne < 4) (hs : vp_nar .char sh = sh) : Ct (gm D a E0) l yX6_addEffect wsX6_addEffect { frames := 12, cells := 0, slots := 0, locals := 300 } [.ref m, .int (nI g), .int sh, .int p, .int sz, .int sp] (wM m am a I en) (qI fun v w => v = nI ne ∧ w = wM m am a (uI (uI (uI (uI (uI (uI (uI (uI I 30 8 0) 16 ne (nI g)) 17 ne sh) 18 ne p) 19 ne sz) 20 ne sp) 22 ne 0) 30 3 (nI (ne + 1))) en) noX := by
  refine Ct.of [some (.ref m), some (.int (nI g)), some (.int sh), some (.int p), some (.int sz), some (.int sp), none] rfl hl (by decide) (Nat.le_of_ble_eq_true rfl) rfl (fun φ C0 => ?_)
  have C := C0.1
  refine x_iload_n C 1 dX6_addEffect_0 rfl rfl ?_
  refine x_bipush (v := (119)) C 3 dX6_addEffect_1 (by decide) rfl ?_
  refine x_icmp_eq C 18 6 dX6_addEffect_3 (by decide) rfl (fun zk3 => ?_) (fun zk3 => ?_)
  · refine x_iload_n C 19 dX6_addEffect_18 rfl rfl ?_
    refine x_i2l C 20 dX6_addEffect_19 rfl rfl ?_
    refine x_ldc2 (v := 2) C 23 (List.mem_cons_of_mem _ (List.mem_append_left _ (List.mem_append_left _ (List.mem_of_getElem? (i := 0) rfl)))) dX6_addEffect_20 rfl ?_
    refine x_ldc2 (v := 40) C 26 (List.mem_cons_of_mem _ (List.mem_append_left _ (List.mem_append_left _ (List.mem_of_getElem? (i := 1) rfl)))) dX6_addEffect_23 rfl ?_
    refine x_callS0_i C 29 0 0 3 (cM_in hl _ _ _ _) rfl gX6_addEffect_X6_in ⟨by decide, by decide, rfl⟩ ⟨Nat.le_of_ble_eq_true rfl, Nat.le_of_ble_eq_true rfl⟩ rfl rfl (Nat.le_of_ble_eq_true rfl) ⟨Nat.le_of_ble_eq_true rfl, Nat.le_of_ble_eq_true rfl⟩ dX6_addEffect_26 rfl rfl rfl (fun r1 w1 h1 => ?_)
    obtain ⟨rfl, rfl⟩ := h1
    refine x_if_eq C 62 32 dX6_addEffect_29 (by decide) rfl (fun zk29 => ?_) (fun zk29 => ?_)
    · have zk29 := bI_eq0.mp zk29
      refine x_iconst (v := (0)) C 63 dX6_addEffect_62 (by decide) rfl ?_
      refine x_istore C 65 dX6_addEffect_63 (by decide) rfl rfl ?_
      refine x_aload_n C 66 dX6_addEffect_65 rfl rfl ?_
      refine x_aload_n C 67 dX6_addEffect_66 rfl rfl ?_
      refine x_iload_n C 68 dX6_addEffect_67 rfl rfl ?_
      refine x_callV0_i C 71 0 0 0 10 1 (cM_isGroup hl h2 _) rfl gX6_addEffect_X6_isGroup ⟨rfl, by decide, by decide, rfl⟩ ⟨Nat.le_of_ble_eq_true rfl, Nat.le_of_ble_eq_true rfl⟩ rfl rfl rfl rfl (Nat.le_of_ble_eq_true rfl) ⟨Nat.le_of_ble_eq_true rfl, Nat.le_of_ble_eq_true rfl⟩ dX6_addEffect_68 rfl rfl rfl (fun r2 w2 h2 => ?_)
      obtain ⟨rfl, rfl⟩ := h2
      refine x_top (show _ = (1 : Int32) from by rw [upB_nI (by omega) hx]; rfl) ?_
      refine x_if_ne C 78 74 dX6_addEffect_71 (by decide) rfl (fun zk71 => ?_) (fun zk71 => ?_)
      · refine x_iload C 80 dX6_addEffect_78 rfl rfl ?_
        refine x_if_ne C 87 83 dX6_addEffect_80 (by decide) rfl (fun zk80 => ?_) (fun zk80 => ?_)
        · exact absurd zk80 (by decide)
        · exfalso; simp_all [effB, shB]
      · exact absurd zk71 (by decide)
    · have zk29 := bI_ne0.mp zk29
      refine x_iload C 34 dX6_addEffect_32 rfl rfl ?_
      refine x_i2l C 35 dX6_addEffect_34 rfl rfl ?_
      refine x_lconst (v := 1) C 36 dX6_addEffect_35 (by decide) rfl ?_
      refine x_ldc2 (v := 255) C 39 (List.mem_cons_of_mem _ (List.mem_append_left _ (List.mem_append_left _ (List.mem_of_getElem? (i := 2) rfl)))) dX6_addEffect_36 rfl ?_
      refine x_callS0_i C 42 0 0 3 (cM_in hl _ _ _ _) rfl gX6_addEffect_X6_in ⟨by decide, by decide, rfl⟩ ⟨Nat.le_of_ble_eq_true rfl, Nat.le_of_ble_eq_true rfl⟩ rfl rfl (Nat.le_of_ble_eq_true rfl) ⟨Nat.le_of_ble_eq_true rfl, Nat.le_of_ble_eq_true rfl⟩ dX6_addEffect_39 rfl rfl rfl (fun r3 w3 h3 => ?_)
      obtain ⟨rfl, rfl⟩ := h3
      refine x_if_eq C 62 45 dX6_addEffect_42 (by decide) rfl (fun zk42 => ?_) (fun zk42 => ?_)
      · have zk42 := bI_eq0.mp zk42
        refine x_iconst (v := (0)) C 63 dX6_addEffect_62 (by decide) rfl ?_
        refine x_istore C 65 dX6_addEffect_63 (by decide) rfl rfl ?_
        refine x_aload_n C 66 dX6_addEffect_65 rfl rfl ?_
        refine x_aload_n C 67 dX6_addEffect_66 rfl rfl ?_
        refine x_iload_n C 68 dX6_addEffect_67 rfl rfl ?_
        refine x_callV0_i C 71 0 0 0 10 1 (cM_isGroup hl h2 _) rfl gX6_addEffect_X6_isGroup ⟨rfl, by decide, by decide, rfl⟩ ⟨Nat.le_of_ble_eq_true rfl, Nat.le_of_ble_eq_true rfl⟩ rfl rfl rfl rfl (Nat.le_of_ble_eq_true rfl) ⟨Nat.le_of_ble_eq_true rfl, Nat.le_of_ble_eq_true rfl⟩ dX6_addEffect_68 rfl rfl rfl (fun r4 w4 h4 => ?_)
        obtain ⟨rfl, rfl⟩ := h4
        refine x_top (show _ = (1 : Int32) from by rw [upB_nI (by omega) hx]; rfl) ?_
        refine x_if_ne C 78 74 dX6_addEffect_71 (by decide) rfl (fun zk71 => ?_) (fun zk71 => ?_)
        · refine x_iload C 80 dX6_addEffect_78 rfl rfl ?_
          refine x_if_ne C 87 83 dX6_addEffect_80 (by decide) rfl (fun zk80 => ?_) (fun zk80 => ?_)
          · exact absurd zk80 (by decide)
          · exfalso; simp_all [effB, shB]
        · exact absurd zk71 (by decide)
      · have zk42 := bI_ne0.mp zk42
        refine x_iload C 47 dX6_addEffect_45 rfl rfl ?_
        refine x_i2l C 48 dX6_addEffect_47 rfl rfl ?_
        refine x_lconst (v := 0) C 49 dX6_addEffect_48 (by decide) rfl ?_
        refine x_ldc2 (v := 39) C 52 (List.mem_cons_of_mem _ (List.mem_append_left _ (List.mem_append_left _ (List.mem_of_getElem? (i := 3) rfl)))) dX6_addEffect_49 rfl ?_
        refine x_callS0_i C 55 0 0 3 (cM_in hl _ _ _ _) rfl gX6_addEffect_X6_in ⟨by decide, by decide, rfl⟩ ⟨Nat.le_of_ble_eq_true rfl, Nat.le_of_ble_eq_true rfl⟩ rfl rfl (Nat.le_of_ble_eq_true rfl) ⟨Nat.le_of_ble_eq_true rfl, Nat.le_of_ble_eq_true rfl⟩ dX6_addEffect_52 rfl rfl rfl (fun r5 w5 h5 => ?_)
        obtain ⟨rfl, rfl⟩ := h5
        refine x_if_eq C 62 58 dX6_addEffect_55 (by decide) rfl (fun zk55 => ?_) (fun zk55 => ?_)
        · have zk55 := bI_eq0.mp zk55
          refine x_iconst (v := (0)) C 63 dX6_addEffect_62 (by decide) rfl ?_
          refine x_istore C 65 dX6_addEffect_63 (by decide) rfl rfl ?_
          refine x_aload_n C 66 dX6_addEffect_65 rfl rfl ?_
          refine x_aload_n C 67 dX6_addEffect_66 rfl rfl ?_
          refine x_iload_n C 68 dX6_addEffect_67 rfl rfl ?_
          refine x_callV0_i C 71 0 0 0 10 1 (cM_isGroup hl h2 _) rfl gX6_addEffect_X6_isGroup ⟨rfl, by decide, by decide, rfl⟩ ⟨Nat.le_of_ble_eq_true rfl, Nat.le_of_ble_eq_true rfl⟩ rfl rfl rfl rfl (Nat.le_of_ble_eq_true rfl) ⟨Nat.le_of_ble_eq_true rfl, Nat.le_of_ble_eq_true rfl⟩ dX6_addEffect_68 rfl rfl rfl (fun r6 w6 h6 => ?_)
          obtain ⟨rfl, rfl⟩ := h6
          refine x_top (show _ = (1 : Int32) from by rw [upB_nI (by omega) hx]; rfl) ?_
          refine x_if_ne C 78 74 dX6_addEffect_71 (by decide) rfl (fun zk71 => ?_) (fun zk71 => ?_)
          · refine x_iload C 80 dX6_addEffect_78 rfl rfl ?_
            refine x_if_ne C 87 83 dX6_addEffect_80 (by decide) rfl (fun zk80 => ?_) (fun zk80 => ?_)
            · exact absurd zk80 (by decide)
            · exfalso; simp_all [effB, shB]
          · exact absurd zk71 (by decide)
        · have zk55 := bI_ne0.mp zk55
          refine x_iconst (v := (1)) C 59 dX6_addEffect_58 (by decide) rfl ?_
          refine x_goto C 63 dX6_addEffect_59 (by decide) ?_
          refine x_istore C 65 dX6_addEffect_63 (by decide) rfl rfl ?_
          refine x_aload_n C 66 dX6_addEffect_65 rfl rfl ?_
          refine x_aload_n C 67 dX6_addEffect_66 rfl rfl ?_
          refine x_iload_n C 68 dX6_addEffect_67 rfl rfl ?_
          refine x_callV0_i C 71 0 0 0 10 1 (cM_isGroup hl h2 _) rfl gX6_addEffect_X6_isGroup ⟨rfl, by decide, by decide, rfl⟩ ⟨Nat.le_of_ble_eq_true rfl, Nat.le_of_ble_eq_true rfl⟩ rfl rfl rfl rfl (Nat.le_of_ble_eq_true rfl) ⟨Nat.le_of_ble_eq_true rfl, Nat.le_of_ble_eq_true rfl⟩ dX6_addEffect_68 rfl rfl rfl (fun r7 w7 h7 => ?_)
          obtain ⟨rfl, rfl⟩ := h7
          refine x_top (show _ = (1 : Int32) from by rw [upB_nI (by omega) hx]; rfl) ?_
          refine x_if_ne C 78 74 dX6_addEffect_71 (by decide) rfl (fun zk71 => ?_) (fun zk71 => ?_)
          · refine x_iload C 80 dX6_addEffect_78 rfl rfl ?_
            refine x_if_ne C 87 83 dX6_addEffect_80 (by decide) rfl (fun zk80 => ?_) (fun zk80 => ?_)
            · refine x_aload_n C 88 dX6_addEffect_87 rfl rfl ?_
              refine xm_get C 91 fg_X6_addEffect_178 rfl dX6_addEffect_88 rfl ?_
              refine x_top h3 ?_
              refine x_iconst (v := (4)) C 92 dX6_addEffect_91 (by decide) rfl ?_
              refine x_icmp_ne C 99 95 dX6_addEffect_92 (by decide) rfl (fun zk92 => ?_) (fun zk92 => ?_)
              · have zk92 := mt (nI_eq (a := ne) (b := 4) (by omega) (by omega)).mpr zk92
                refine x_iconst (v := (0)) C 100 dX6_addEffect_99 (by decide) rfl ?_
                refine xm_put C 103 8 (by decide) fp_X6_addEffect_98 rfl rfl dX6_addEffect_100 rfl ?_
                refine x_aload_n C 104 dX6_addEffect_103 rfl rfl ?_
                refine xm_get C 107 fg_X6_addEffect_98 rfl dX6_addEffect_104 rfl ?_
                refine x_top (show _ = (0) from rfl) ?_
                refine x_if_le C 112 110 dX6_addEffect_107 (by decide) rfl (fun zk107 => ?_) (fun zk107 => ?_)
                · refine x_aload_n C 113 dX6_addEffect_112 rfl rfl ?_
                  refine xm_get C 116 fg_X6_addEffect_60 rfl dX6_addEffect_113 rfl ?_
                  refine x_aload_n C 117 dX6_addEffect_116 rfl rfl ?_
                  refine xm_get C 120 fg_X6_addEffect_178 rfl dX6_addEffect_117 rfl ?_
                  refine x_top h3 ?_
                  refine x_iload_n C 121 dX6_addEffect_120 rfl rfl ?_
                  refine xm_iast C 122 16 4 (ne) (by decide) rfl rfl rfl (by omega) dX6_addEffect_121 rfl ?_
                  refine x_aload_n C 123 dX6_addEffect_122 rfl rfl ?_
                  refine xm_get C 126 fg_X6_addEffect_63 rfl dX6_addEffect_123 rfl ?_
                  refine x_aload_n C 127 dX6_addEffect_126 rfl rfl ?_
                  refine xm_get C 130 fg_X6_addEffect_178 rfl dX6_addEffect_127 rfl ?_
                  refine x_top h3 ?_
                  refine x_iload_n C 131 dX6_addEffect_130 rfl rfl ?_
                  refine xm_cast C 132 17 4 (ne) (by decide) rfl rfl rfl (by omega) (hs) dX6_addEffect_131 rfl ?_
                  refine x_aload_n C 133 dX6_addEffect_132 rfl rfl ?_
                  refine xm_get C 136 fg_X6_addEffect_66 rfl dX6_addEffect_133 rfl ?_
                  refine x_aload_n C 137 dX6_addEffect_136 rfl rfl ?_
                  refine xm_get C 140 fg_X6_addEffect_178 rfl dX6_addEffect_137 rfl ?_
                  refine x_top h3 ?_
                  refine x_iload_n C 141 dX6_addEffect_140 rfl rfl ?_
                  refine xm_iast C 142 18 4 (ne) (by decide) rfl rfl rfl (by omega) dX6_addEffect_141 rfl ?_
                  refine x_aload_n C 143 dX6_addEffect_142 rfl rfl ?_
                  refine xm_get C 146 fg_X6_addEffect_69 rfl dX6_addEffect_143 rfl ?_
                  refine x_aload_n C 147 dX6_addEffect_146 rfl rfl ?_
                  refine xm_get C 150 fg_X6_addEffect_178 rfl dX6_addEffect_147 rfl ?_
                  refine x_top h3 ?_
                  refine x_iload C 152 dX6_addEffect_150 rfl rfl ?_
                  refine xm_iast C 153 19 4 (ne) (by decide) rfl rfl rfl (by omega) dX6_addEffect_152 rfl ?_
                  refine x_aload_n C 154 dX6_addEffect_153 rfl rfl ?_
                  refine xm_get C 157 fg_X6_addEffect_72 rfl dX6_addEffect_154 rfl ?_
                  refine x_aload_n C 158 dX6_addEffect_157 rfl rfl ?_
                  refine xm_get C 161 fg_X6_addEffect_178 rfl dX6_addEffect_158 rfl ?_
                  refine x_top h3 ?_
                  refine x_iload C 163 dX6_addEffect_161 rfl rfl ?_
                  refine xm_iast C 164 20 4 (ne) (by decide) rfl rfl rfl (by omega) dX6_addEffect_163 rfl ?_
                  refine x_aload_n C 165 dX6_addEffect_164 rfl rfl ?_
                  refine xm_get C 168 fg_X6_addEffect_78 rfl dX6_addEffect_165 rfl ?_
                  refine x_aload_n C 169 dX6_addEffect_168 rfl rfl ?_
                  refine xm_get C 172 fg_X6_addEffect_178 rfl dX6_addEffect_169 rfl ?_
                  refine x_top h3 ?_
                  refine x_iconst (v := (0)) C 173 dX6_addEffect_172 (by decide) rfl ?_
                  refine xm_zast C 174 22 4 (ne) (by decide) rfl rfl rfl (by omega) (rfl) dX6_addEffect_173 rfl ?_
                  refine x_aload_n C 175 dX6_addEffect_174 rfl rfl ?_
                  refine x_dup C 176 dX6_addEffect_175 rfl rfl ?_
                  refine xm_get C 179 fg_X6_addEffect_178 rfl dX6_addEffect_176 rfl ?_
                  refine x_top h3 ?_
                  refine x_iconst (v := (1)) C 180 dX6_addEffect_179 (by decide) rfl ?_
                  refine x_iadd C 181 dX6_addEffect_180 rfl ?_
                  refine x_top (show _ = nI (ne + 1) from nI_add _ _) ?_
                  refine xm_put C 184 3 (by decide) fp_X6_addEffect_178 rfl rfl dX6_addEffect_181 rfl ?_
                  refine x_aload_n C 185 dX6_addEffect_184 rfl rfl ?_
                  refine xm_get C 188 fg_X6_addEffect_178 rfl dX6_addEffect_185 rfl ?_
                  refine x_top (show _ = (nI (ne + 1)) from rfl) ?_
                  refine x_iconst (v := (1)) C 189 dX6_addEffect_188 (by decide) rfl ?_
                  refine x_isub C 190 dX6_addEffect_189 rfl ?_
                  refine x_top (nI_pred _) ?_
                  exact x_zret C0 dX6_addEffect_190 (Nat.le_of_ble_eq_true rfl) (Nat.le_of_ble_eq_true rfl) ⟨_, rfl, ⟨rfl, rfl⟩⟩
                · exact absurd zk107 (by decide)
              · have zk92 := (nI_eq (a := ne) (b := 4) (by omega) (by omega)).mp zk92
                exfalso; omega
            · exact absurd zk80 (by decide)
          · exact absurd zk71 (by decide)
  · refine x_iload_n C 7 dX6_addEffect_6 rfl rfl ?_
    refine x_bipush (v := (116)) C 9 dX6_addEffect_7 (by decide) rfl ?_
    refine x_icmp_eq C 18 12 dX6_addEffect_9 (by decide) rfl (fun zk9 => ?_) (fun zk9 => ?_)
    · refine x_iload_n C 19 dX6_addEffect_18 rfl rfl ?_
      refine x_i2l C 20 dX6_addEffect_19 rfl rfl ?_
      refine x_ldc2 (v := 2) C 23 (List.mem_cons_of_mem _ (List.mem_append_left _ (List.mem_append_left _ (List.mem_of_getElem? (i := 0) rfl)))) dX6_addEffect_20 rfl ?_
      refine x_ldc2 (v := 40) C 26 (List.mem_cons_of_mem _ (List.mem_append_left _ (List.mem_append_left _ (List.mem_of_getElem? (i := 1) rfl)))) dX6_addEffect_23 rfl ?_
      refine x_callS0_i C 29 0 0 3 (cM_in hl _ _ _ _) rfl gX6_addEffect_X6_in ⟨by decide, by decide, rfl⟩ ⟨Nat.le_of_ble_eq_true rfl, Nat.le_of_ble_eq_true rfl⟩ rfl rfl (Nat.le_of_ble_eq_true rfl) ⟨Nat.le_of_ble_eq_true rfl, Nat.le_of_ble_eq_true rfl⟩ dX6_addEffect_26 rfl rfl rfl (fun r8 w8 h8 => ?_)
      obtain ⟨rfl, rfl⟩ := h8
      refine x_if_eq C 62 32 dX6_addEffect_29 (by decide) rfl (fun zk29 => ?_) (fun zk29 => ?_)
      · have zk29 := bI_eq0.mp zk29
        refine x_iconst (v := (0)) C 63 dX6_addEffect_62 (by decide) rfl ?_
        refine x_istore C 65 dX6_addEffect_63 (by decide) rfl rfl ?_
        refine x_aload_n C 66 dX6_addEffect_65 rfl rfl ?_
        refine x_aload_n C 67 dX6_addEffect_66 rfl rfl ?_
        refine x_iload_n C 68 dX6_addEffect_67 rfl rfl ?_
        refine x_callV0_i C 71 0 0 0 10 1 (cM_isGroup hl h2 _) rfl gX6_addEffect_X6_isGroup ⟨rfl, by decide, by decide, rfl⟩ ⟨Nat.le_of_ble_eq_true rfl, Nat.le_of_ble_eq_true rfl⟩ rfl rfl rfl rfl (Nat.le_of_ble_eq_true rfl) ⟨Nat.le_of_ble_eq_true rfl, Nat.le_of_ble_eq_true rfl⟩ dX6_addEffect_68 rfl rfl rfl (fun r9 w9 h9 => ?_)
        obtain ⟨rfl, rfl⟩ := h9
        refine x_top (show _ = (1 : Int32) from by rw [upB_nI (by omega) hx]; rfl) ?_
        refine x_if_ne C 78 74 dX6_addEffect_71 (by decide) rfl (fun zk71 => ?_) (fun zk71 => ?_)
        · refine x_iload C 80 dX6_addEffect_78 rfl rfl ?_
          refine x_if_ne C 87 83 dX6_addEffect_80 (by decide) rfl (fun zk80 => ?_) (fun zk80 => ?_)
          · exact absurd zk80 (by decide)
          · exfalso; simp_all [effB, shB]
        · exact absurd zk71 (by decide)
      · have zk29 := bI_ne0.mp zk29
        refine x_iload C 34 dX6_addEffect_32 rfl rfl ?_
        refine x_i2l C 35 dX6_addEffect_34 rfl rfl ?_
        refine x_lconst (v := 1) C 36 dX6_addEffect_35 (by decide) rfl ?_
        refine x_ldc2 (v := 255) C 39 (List.mem_cons_of_mem _ (List.mem_append_left _ (List.mem_append_left _ (List.mem_of_getElem? (i := 2) rfl)))) dX6_addEffect_36 rfl ?_
        refine x_callS0_i C 42 0 0 3 (cM_in hl _ _ _ _) rfl gX6_addEffect_X6_in ⟨by decide, by decide, rfl⟩ ⟨Nat.le_of_ble_eq_true rfl, Nat.le_of_ble_eq_true rfl⟩ rfl rfl (Nat.le_of_ble_eq_true rfl) ⟨Nat.le_of_ble_eq_true rfl, Nat.le_of_ble_eq_true rfl⟩ dX6_addEffect_39 rfl rfl rfl (fun r10 w10 h10 => ?_)
        obtain ⟨rfl, rfl⟩ := h10
        refine x_if_eq C 62 45 dX6_addEffect_42 (by decide) rfl (fun zk42 => ?_) (fun zk42 => ?_)
        · have zk42 := bI_eq0.mp zk42
          refine x_iconst (v := (0)) C 63 dX6_addEffect_62 (by decide) rfl ?_
          refine x_istore C 65 dX6_addEffect_63 (by decide) rfl rfl ?_
          refine x_aload_n C 66 dX6_addEffect_65 rfl rfl ?_
          refine x_aload_n C 67 dX6_addEffect_66 rfl rfl ?_
          refine x_iload_n C 68 dX6_addEffect_67 rfl rfl ?_
          refine x_callV0_i C 71 0 0 0 10 1 (cM_isGroup hl h2 _) rfl gX6_addEffect_X6_isGroup ⟨rfl, by decide, by decide, rfl⟩ ⟨Nat.le_of_ble_eq_true rfl, Nat.le_of_ble_eq_true rfl⟩ rfl rfl rfl rfl (Nat.le_of_ble_eq_true rfl) ⟨Nat.le_of_ble_eq_true rfl, Nat.le_of_ble_eq_true rfl⟩ dX6_addEffect_68 rfl rfl rfl (fun r11 w11 h11 => ?_)
          obtain ⟨rfl, rfl⟩ := h11
          refine x_top (show _ = (1 : Int32) from by rw [upB_nI (by omega) hx]; rfl) ?_
          refine x_if_ne C 78 74 dX6_addEffect_71 (by decide) rfl (fun zk71 => ?_) (fun zk71 => ?_)
          · refine x_iload C 80 dX6_addEffect_78 rfl rfl ?_
            refine x_if_ne C 87 83 dX6_addEffect_80 (by decide) rfl (fun zk80 => ?_) (fun zk80 => ?_)
            · exact absurd zk80 (by decide)
            · exfalso; simp_all [effB, shB]
          · exact absurd zk71 (by decide)
        · have zk42 := bI_ne0.mp zk42
          refine x_iload C 47 dX6_addEffect_45 rfl rfl ?_
          refine x_i2l C 48 dX6_addEffect_47 rfl rfl ?_
          refine x_lconst (v := 0) C 49 dX6_addEffect_48 (by decide) rfl ?_
          refine x_ldc2 (v := 39) C 52 (List.mem_cons_of_mem _ (List.mem_append_left _ (List.mem_append_left _ (List.mem_of_getElem? (i := 3) rfl)))) dX6_addEffect_49 rfl ?_
          refine x_callS0_i C 55 0 0 3 (cM_in hl _ _ _ _) rfl gX6_addEffect_X6_in ⟨by decide, by decide, rfl⟩ ⟨Nat.le_of_ble_eq_true rfl, Nat.le_of_ble_eq_true rfl⟩ rfl rfl (Nat.le_of_ble_eq_true rfl) ⟨Nat.le_of_ble_eq_true rfl, Nat.le_of_ble_eq_true rfl⟩ dX6_addEffect_52 rfl rfl rfl (fun r12 w12 h12 => ?_)
          obtain ⟨rfl, rfl⟩ := h12
          refine x_if_eq C 62 58 dX6_addEffect_55 (by decide) rfl (fun zk55 => ?_) (fun zk55 => ?_)
          · have zk55 := bI_eq0.mp zk55
            refine x_iconst (v := (0)) C 63 dX6_addEffect_62 (by decide) rfl ?_
            refine x_istore C 65 dX6_addEffect_63 (by decide) rfl rfl ?_
            refine x_aload_n C 66 dX6_addEffect_65 rfl rfl ?_
            refine x_aload_n C 67 dX6_addEffect_66 rfl rfl ?_
            refine x_iload_n C 68 dX6_addEffect_67 rfl rfl ?_
            refine x_callV0_i C 71 0 0 0 10 1 (cM_isGroup hl h2 _) rfl gX6_addEffect_X6_isGroup ⟨rfl, by decide, by decide, rfl⟩ ⟨Nat.le_of_ble_eq_true rfl, Nat.le_of_ble_eq_true rfl⟩ rfl rfl rfl rfl (Nat.le_of_ble_eq_true rfl) ⟨Nat.le_of_ble_eq_true rfl, Nat.le_of_ble_eq_true rfl⟩ dX6_addEffect_68 rfl rfl rfl (fun r13 w13 h13 => ?_)
            obtain ⟨rfl, rfl⟩ := h13
            refine x_top (show _ = (1 : Int32) from by rw [upB_nI (by omega) hx]; rfl) ?_
            refine x_if_ne C 78 74 dX6_addEffect_71 (by decide) rfl (fun zk71 => ?_) (fun zk71 => ?_)
            · refine x_iload C 80 dX6_addEffect_78 rfl rfl ?_
              refine x_if_ne C 87 83 dX6_addEffect_80 (by decide) rfl (fun zk80 => ?_) (fun zk80 => ?_)
              · exact absurd zk80 (by decide)
              · exfalso; simp_all [effB, shB]
            · exact absurd zk71 (by decide)
          · have zk55 := bI_ne0.mp zk55
            refine x_iconst (v := (1)) C 59 dX6_addEffect_58 (by decide) rfl ?_
            refine x_goto C 63 dX6_addEffect_59 (by decide) ?_
            refine x_istore C 65 dX6_addEffect_63 (by decide) rfl rfl ?_
            refine x_aload_n C 66 dX6_addEffect_65 rfl rfl ?_
            refine x_aload_n C 67 dX6_addEffect_66 rfl rfl ?_
            refine x_iload_n C 68 dX6_addEffect_67 rfl rfl ?_
            refine x_callV0_i C 71 0 0 0 10 1 (cM_isGroup hl h2 _) rfl gX6_addEffect_X6_isGroup ⟨rfl, by decide, by decide, rfl⟩ ⟨Nat.le_of_ble_eq_true rfl, Nat.le_of_ble_eq_true rfl⟩ rfl rfl rfl rfl (Nat.le_of_ble_eq_true rfl) ⟨Nat.le_of_ble_eq_true rfl, Nat.le_of_ble_eq_true rfl⟩ dX6_addEffect_68 rfl rfl rfl (fun r14 w14 h14 => ?_)
            obtain ⟨rfl, rfl⟩ := h14
            refine x_top (show _ = (1 : Int32) from by rw [upB_nI (by omega) hx]; rfl) ?_
            refine x_if_ne C 78 74 dX6_addEffect_71 (by decide) rfl (fun zk71 => ?_) (fun zk71 => ?_)
            · refine x_iload C 80 dX6_addEffect_78 rfl rfl ?_
              refine x_if_ne C 87 83 dX6_addEffect_80 (by decide) rfl (fun zk80 => ?_) (fun zk80 => ?_)
              · refine x_aload_n C 88 dX6_addEffect_87 rfl rfl ?_
                refine xm_get C 91 fg_X6_addEffect_178 rfl dX6_addEffect_88 rfl ?_
                refine x_top h3 ?_
                refine x_iconst (v := (4)) C 92 dX6_addEffect_91 (by decide) rfl ?_
                refine x_icmp_ne C 99 95 dX6_addEffect_92 (by decide) rfl (fun zk92 => ?_) (fun zk92 => ?_)
                · have zk92 := mt (nI_eq (a := ne) (b := 4) (by omega) (by omega)).mpr zk92
                  refine x_iconst (v := (0)) C 100 dX6_addEffect_99 (by decide) rfl ?_
                  refine xm_put C 103 8 (by decide) fp_X6_addEffect_98 rfl rfl dX6_addEffect_100 rfl ?_
                  refine x_aload_n C 104 dX6_addEffect_103 rfl rfl ?_
                  refine xm_get C 107 fg_X6_addEffect_98 rfl dX6_addEffect_104 rfl ?_
                  refine x_top (show _ = (0) from rfl) ?_
                  refine x_if_le C 112 110 dX6_addEffect_107 (by decide) rfl (fun zk107 => ?_) (fun zk107 => ?_)
                  · refine x_aload_n C 113 dX6_addEffect_112 rfl rfl ?_
                    refine xm_get C 116 fg_X6_addEffect_60 rfl dX6_addEffect_113 rfl ?_
                    refine x_aload_n C 117 dX6_addEffect_116 rfl rfl ?_
                    refine xm_get C 120 fg_X6_addEffect_178 rfl dX6_addEffect_117 rfl ?_
                    refine x_top h3 ?_
                    refine x_iload_n C 121 dX6_addEffect_120 rfl rfl ?_
                    refine xm_iast C 122 16 4 (ne) (by decide) rfl rfl rfl (by omega) dX6_addEffect_121 rfl ?_
                    refine x_aload_n C 123 dX6_addEffect_122 rfl rfl ?_
                    refine xm_get C 126 fg_X6_addEffect_63 rfl dX6_addEffect_123 rfl ?_
                    refine x_aload_n C 127 dX6_addEffect_126 rfl rfl ?_
                    refine xm_get C 130 fg_X6_addEffect_178 rfl dX6_addEffect_127 rfl ?_
                    refine x_top h3 ?_
                    refine x_iload_n C 131 dX6_addEffect_130 rfl rfl ?_
                    refine xm_cast C 132 17 4 (ne) (by decide) rfl rfl rfl (by omega) (hs) dX6_addEffect_131 rfl ?_
                    refine x_aload_n C 133 dX6_addEffect_132 rfl rfl ?_
                    refine xm_get C 136 fg_X6_addEffect_66 rfl dX6_addEffect_133 rfl ?_
                    refine x_aload_n C 137 dX6_addEffect_136 rfl rfl ?_
                    refine xm_get C 140 fg_X6_addEffect_178 rfl dX6_addEffect_137 rfl ?_
                    refine x_top h3 ?_
                    refine x_iload_n C 141 dX6_addEffect_140 rfl rfl ?_
                    refine xm_iast C 142 18 4 (ne) (by decide) rfl rfl rfl (by omega) dX6_addEffect_141 rfl ?_
                    refine x_aload_n C 143 dX6_addEffect_142 rfl rfl ?_
                    refine xm_get C 146 fg_X6_addEffect_69 rfl dX6_addEffect_143 rfl ?_
                    refine x_aload_n C 147 dX6_addEffect_146 rfl rfl ?_
                    refine xm_get C 150 fg_X6_addEffect_178 rfl dX6_addEffect_147 rfl ?_
                    refine x_top h3 ?_
                    refine x_iload C 152 dX6_addEffect_150 rfl rfl ?_
                    refine xm_iast C 153 19 4 (ne) (by decide) rfl rfl rfl (by omega) dX6_addEffect_152 rfl ?_
                    refine x_aload_n C 154 dX6_addEffect_153 rfl rfl ?_
                    refine xm_get C 157 fg_X6_addEffect_72 rfl dX6_addEffect_154 rfl ?_
                    refine x_aload_n C 158 dX6_addEffect_157 rfl rfl ?_
                    refine xm_get C 161 fg_X6_addEffect_178 rfl dX6_addEffect_158 rfl ?_
                    refine x_top h3 ?_
                    refine x_iload C 163 dX6_addEffect_161 rfl rfl ?_
                    refine xm_iast C 164 20 4 (ne) (by decide) rfl rfl rfl (by omega) dX6_addEffect_163 rfl ?_
                    refine x_aload_n C 165 dX6_addEffect_164 rfl rfl ?_
                    refine xm_get C 168 fg_X6_addEffect_78 rfl dX6_addEffect_165 rfl ?_
                    refine x_aload_n C 169 dX6_addEffect_168 rfl rfl ?_
                    refine xm_get C 172 fg_X6_addEffect_178 rfl dX6_addEffect_169 rfl ?_
                    refine x_top h3 ?_
                    refine x_iconst (v := (0)) C 173 dX6_addEffect_172 (by decide) rfl ?_
                    refine xm_zast C 174 22 4 (ne) (by decide) rfl rfl rfl (by omega) (rfl) dX6_addEffect_173 rfl ?_
                    refine x_aload_n C 175 dX6_addEffect_174 rfl rfl ?_
                    refine x_dup C 176 dX6_addEffect_175 rfl rfl ?_
                    refine xm_get C 179 fg_X6_addEffect_178 rfl dX6_addEffect_176 rfl ?_
                    refine x_top h3 ?_
                    refine x_iconst (v := (1)) C 180 dX6_addEffect_179 (by decide) rfl ?_
                    refine x_iadd C 181 dX6_addEffect_180 rfl ?_
                    refine x_top (show _ = nI (ne + 1) from nI_add _ _) ?_
                    refine xm_put C 184 3 (by decide) fp_X6_addEffect_178 rfl rfl dX6_addEffect_181 rfl ?_
                    refine x_aload_n C 185 dX6_addEffect_184 rfl rfl ?_
                    refine xm_get C 188 fg_X6_addEffect_178 rfl dX6_addEffect_185 rfl ?_
                    refine x_top (show _ = (nI (ne + 1)) from rfl) ?_
                    refine x_iconst (v := (1)) C 189 dX6_addEffect_188 (by decide) rfl ?_
                    refine x_isub C 190 dX6_addEffect_189 rfl ?_
                    refine x_top (nI_pred _) ?_
                    exact x_zret C0 dX6_addEffect_190 (Nat.le_of_ble_eq_true rfl) (Nat.le_of_ble_eq_true rfl) ⟨_, rfl, ⟨rfl, rfl⟩⟩
                  · exact absurd zk107 (by decide)
                · have zk92 := (nI_eq (a := ne) (b := 4) (by omega) (by omega)).mp zk92
                  exfalso; omega
              · exact absurd zk80 (by decide)
            · exact absurd zk71 (by decide)
    · refine x_iload_n C 13 dX6_addEffect_12 rfl rfl ?_
      refine x_bipush (v := (113)) C 15 dX6_addEffect_13 (by decide) rfl ?_
      refine x_icmp_ne C 62 18 dX6_addEffect_15 (by decide) rfl (fun zk15 => ?_) (fun zk15 => ?_)
      · refine x_iconst (v := (0)) C 63 dX6_addEffect_62 (by decide) rfl ?_
        refine x_istore C 65 dX6_addEffect_63 (by decide) rfl rfl ?_
        refine x_aload_n C 66 dX6_addEffect_65 rfl rfl ?_
        refine x_aload_n C 67 dX6_addEffect_66 rfl rfl ?_
        refine x_iload_n C 68 dX6_addEffect_67 rfl rfl ?_
        refine x_callV0_i C 71 0 0 0 10 1 (cM_isGroup hl h2 _) rfl gX6_addEffect_X6_isGroup ⟨rfl, by decide, by decide, rfl⟩ ⟨Nat.le_of_ble_eq_true rfl, Nat.le_of_ble_eq_true rfl⟩ rfl rfl rfl rfl (Nat.le_of_ble_eq_true rfl) ⟨Nat.le_of_ble_eq_true rfl, Nat.le_of_ble_eq_true rfl⟩ dX6_addEffect_68 rfl rfl rfl (fun r15 w15 h15 => ?_)
        obtain ⟨rfl, rfl⟩ := h15
        refine x_top (show _ = (1 : Int32) from by rw [upB_nI (by omega) hx]; rfl) ?_
        refine x_if_ne C 78 74 dX6_addEffect_71 (by decide) rfl (fun zk71 => ?_) (fun zk71 => ?_)
        · refine x_iload C 80 dX6_addEffect_78 rfl rfl ?_
          refine x_if_ne C 87 83 dX6_addEffect_80 (by decide) rfl (fun zk80 => ?_) (fun zk80 => ?_)
          · exact absurd zk80 (by decide)
          · exfalso; simp_all [effB, shB]
        · exact absurd zk71 (by decide)
      · refine x_iload_n C 19 dX6_addEffect_18 rfl rfl ?_
        refine x_i2l C 20 dX6_addEffect_19 rfl rfl ?_
        refine x_ldc2 (v := 2) C 23 (List.mem_cons_of_mem _ (List.mem_append_left _ (List.mem_append_left _ (List.mem_of_getElem? (i := 0) rfl)))) dX6_addEffect_20 rfl ?_
        refine x_ldc2 (v := 40) C 26 (List.mem_cons_of_mem _ (List.mem_append_left _ (List.mem_append_left _ (List.mem_of_getElem? (i := 1) rfl)))) dX6_addEffect_23 rfl ?_
        refine x_callS0_i C 29 0 0 3 (cM_in hl _ _ _ _) rfl gX6_addEffect_X6_in ⟨by decide, by decide, rfl⟩ ⟨Nat.le_of_ble_eq_true rfl, Nat.le_of_ble_eq_true rfl⟩ rfl rfl (Nat.le_of_ble_eq_true rfl) ⟨Nat.le_of_ble_eq_true rfl, Nat.le_of_ble_eq_true rfl⟩ dX6_addEffect_26 rfl rfl rfl (fun r16 w16 h16 => ?_)
        obtain ⟨rfl, rfl⟩ := h16
        refine x_if_eq C 62 32 dX6_addEffect_29 (by decide) rfl (fun zk29 => ?_) (fun zk29 => ?_)
        · have zk29 := bI_eq0.mp zk29
          refine x_iconst (v := (0)) C 63 dX6_addEffect_62 (by decide) rfl ?_
          refine x_istore C 65 dX6_addEffect_63 (by decide) rfl rfl ?_
          refine x_aload_n C 66 dX6_addEffect_65 rfl rfl ?_
          refine x_aload_n C 67 dX6_addEffect_66 rfl rfl ?_
          refine x_iload_n C 68 dX6_addEffect_67 rfl rfl ?_
          refine x_callV0_i C 71 0 0 0 10 1 (cM_isGroup hl h2 _) rfl gX6_addEffect_X6_isGroup ⟨rfl, by decide, by decide, rfl⟩ ⟨Nat.le_of_ble_eq_true rfl, Nat.le_of_ble_eq_true rfl⟩ rfl rfl rfl rfl (Nat.le_of_ble_eq_true rfl) ⟨Nat.le_of_ble_eq_true rfl, Nat.le_of_ble_eq_true rfl⟩ dX6_addEffect_68 rfl rfl rfl (fun r17 w17 h17 => ?_)
          obtain ⟨rfl, rfl⟩ := h17
          refine x_top (show _ = (1 : Int32) from by rw [upB_nI (by omega) hx]; rfl) ?_
          refine x_if_ne C 78 74 dX6_addEffect_71 (by decide) rfl (fun zk71 => ?_) (fun zk71 => ?_)
          · refine x_iload C 80 dX6_addEffect_78 rfl rfl ?_
            refine x_if_ne C 87 83 dX6_addEffect_80 (by decide) rfl (fun zk80 => ?_) (fun zk80 => ?_)
            · exact absurd zk80 (by decide)
            · exfalso; simp_all [effB, shB]
          · exact absurd zk71 (by decide)
        · have zk29 := bI_ne0.mp zk29
          refine x_iload C 34 dX6_addEffect_32 rfl rfl ?_
          refine x_i2l C 35 dX6_addEffect_34 rfl rfl ?_
          refine x_lconst (v := 1) C 36 dX6_addEffect_35 (by decide) rfl ?_
          refine x_ldc2 (v := 255) C 39 (List.mem_cons_of_mem _ (List.mem_append_left _ (List.mem_append_left _ (List.mem_of_getElem? (i := 2) rfl)))) dX6_addEffect_36 rfl ?_
          refine x_callS0_i C 42 0 0 3 (cM_in hl _ _ _ _) rfl gX6_addEffect_X6_in ⟨by decide, by decide, rfl⟩ ⟨Nat.le_of_ble_eq_true rfl, Nat.le_of_ble_eq_true rfl⟩ rfl rfl (Nat.le_of_ble_eq_true rfl) ⟨Nat.le_of_ble_eq_true rfl, Nat.le_of_ble_eq_true rfl⟩ dX6_addEffect_39 rfl rfl rfl (fun r18 w18 h18 => ?_)
          obtain ⟨rfl, rfl⟩ := h18
          refine x_if_eq C 62 45 dX6_addEffect_42 (by decide) rfl (fun zk42 => ?_) (fun zk42 => ?_)
          · have zk42 := bI_eq0.mp zk42
            refine x_iconst (v := (0)) C 63 dX6_addEffect_62 (by decide) rfl ?_
            refine x_istore C 65 dX6_addEffect_63 (by decide) rfl rfl ?_
            refine x_aload_n C 66 dX6_addEffect_65 rfl rfl ?_
            refine x_aload_n C 67 dX6_addEffect_66 rfl rfl ?_
            refine x_iload_n C 68 dX6_addEffect_67 rfl rfl ?_
            refine x_callV0_i C 71 0 0 0 10 1 (cM_isGroup hl h2 _) rfl gX6_addEffect_X6_isGroup ⟨rfl, by decide, by decide, rfl⟩ ⟨Nat.le_of_ble_eq_true rfl, Nat.le_of_ble_eq_true rfl⟩ rfl rfl rfl rfl (Nat.le_of_ble_eq_true rfl) ⟨Nat.le_of_ble_eq_true rfl, Nat.le_of_ble_eq_true rfl⟩ dX6_addEffect_68 rfl rfl rfl (fun r19 w19 h19 => ?_)
            obtain ⟨rfl, rfl⟩ := h19
            refine x_top (show _ = (1 : Int32) from by rw [upB_nI (by omega) hx]; rfl) ?_
            refine x_if_ne C 78 74 dX6_addEffect_71 (by decide) rfl (fun zk71 => ?_) (fun zk71 => ?_)
            · refine x_iload C 80 dX6_addEffect_78 rfl rfl ?_
              refine x_if_ne C 87 83 dX6_addEffect_80 (by decide) rfl (fun zk80 => ?_) (fun zk80 => ?_)
              · exact absurd zk80 (by decide)
              · exfalso; simp_all [effB, shB]
            · exact absurd zk71 (by decide)
          · have zk42 := bI_ne0.mp zk42
            refine x_iload C 47 dX6_addEffect_45 rfl rfl ?_
            refine x_i2l C 48 dX6_addEffect_47 rfl rfl ?_
            refine x_lconst (v := 0) C 49 dX6_addEffect_48 (by decide) rfl ?_
            refine x_ldc2 (v := 39) C 52 (List.mem_cons_of_mem _ (List.mem_append_left _ (List.mem_append_left _ (List.mem_of_getElem? (i := 3) rfl)))) dX6_addEffect_49 rfl ?_
            refine x_callS0_i C 55 0 0 3 (cM_in hl _ _ _ _) rfl gX6_addEffect_X6_in ⟨by decide, by decide, rfl⟩ ⟨Nat.le_of_ble_eq_true rfl, Nat.le_of_ble_eq_true rfl⟩ rfl rfl (Nat.le_of_ble_eq_true rfl) ⟨Nat.le_of_ble_eq_true rfl, Nat.le_of_ble_eq_true rfl⟩ dX6_addEffect_52 rfl rfl rfl (fun r20 w20 h20 => ?_)
            obtain ⟨rfl, rfl⟩ := h20
            refine x_if_eq C 62 58 dX6_addEffect_55 (by decide) rfl (fun zk55 => ?_) (fun zk55 => ?_)
            · have zk55 := bI_eq0.mp zk55
              refine x_iconst (v := (0)) C 63 dX6_addEffect_62 (by decide) rfl ?_
              refine x_istore C 65 dX6_addEffect_63 (by decide) rfl rfl ?_
              refine x_aload_n C 66 dX6_addEffect_65 rfl rfl ?_
              refine x_aload_n C 67 dX6_addEffect_66 rfl rfl ?_
              refine x_iload_n C 68 dX6_addEffect_67 rfl rfl ?_
              refine x_callV0_i C 71 0 0 0 10 1 (cM_isGroup hl h2 _) rfl gX6_addEffect_X6_isGroup ⟨rfl, by decide, by decide, rfl⟩ ⟨Nat.le_of_ble_eq_true rfl, Nat.le_of_ble_eq_true rfl⟩ rfl rfl rfl rfl (Nat.le_of_ble_eq_true rfl) ⟨Nat.le_of_ble_eq_true rfl, Nat.le_of_ble_eq_true rfl⟩ dX6_addEffect_68 rfl rfl rfl (fun r21 w21 h21 => ?_)
              obtain ⟨rfl, rfl⟩ := h21
              refine x_top (show _ = (1 : Int32) from by rw [upB_nI (by omega) hx]; rfl) ?_
              refine x_if_ne C 78 74 dX6_addEffect_71 (by decide) rfl (fun zk71 => ?_) (fun zk71 => ?_)
              · refine x_iload C 80 dX6_addEffect_78 rfl rfl ?_
                refine x_if_ne C 87 83 dX6_addEffect_80 (by decide) rfl (fun zk80 => ?_) (fun zk80 => ?_)
                · exact absurd zk80 (by decide)
                · exfalso; simp_all [effB, shB]
              · exact absurd zk71 (by decide)
            · have zk55 := bI_ne0.mp zk55
              refine x_iconst (v := (1)) C 59 dX6_addEffect_58 (by decide) rfl ?_
              refine x_goto C 63 dX6_addEffect_59 (by decide) ?_
              refine x_istore C 65 dX6_addEffect_63 (by decide) rfl rfl ?_
              refine x_aload_n C 66 dX6_addEffect_65 rfl rfl ?_
              refine x_aload_n C 67 dX6_addEffect_66 rfl rfl ?_
              refine x_iload_n C 68 dX6_addEffect_67 rfl rfl ?_
              refine x_callV0_i C 71 0 0 0 10 1 (cM_isGroup hl h2 _) rfl gX6_addEffect_X6_isGroup ⟨rfl, by decide, by decide, rfl⟩ ⟨Nat.le_of_ble_eq_true rfl, Nat.le_of_ble_eq_true rfl⟩ rfl rfl rfl rfl (Nat.le_of_ble_eq_true rfl) ⟨Nat.le_of_ble_eq_true rfl, Nat.le_of_ble_eq_true rfl⟩ dX6_addEffect_68 rfl rfl rfl (fun r22 w22 h22 => ?_)
              obtain ⟨rfl, rfl⟩ := h22
              refine x_top (show _ = (1 : Int32) from by rw [upB_nI (by omega) hx]; rfl) ?_
              refine x_if_ne C 78 74 dX6_addEffect_71 (by decide) rfl (fun zk71 => ?_) (fun zk71 => ?_)
              · refine x_iload C 80 dX6_addEffect_78 rfl rfl ?_
                refine x_if_ne C 87 83 dX6_addEffect_80 (by decide) rfl (fun zk80 => ?_) (fun zk80 => ?_)
                · refine x_aload_n C 88 dX6_addEffect_87 rfl rfl ?_
                  refine xm_get C 91 fg_X6_addEffect_178 rfl dX6_addEffect_88 rfl ?_
                  refine x_top h3 ?_
                  refine x_iconst (v := (4)) C 92 dX6_addEffect_91 (by decide) rfl ?_
                  refine x_icmp_ne C 99 95 dX6_addEffect_92 (by decide) rfl (fun zk92 => ?_) (fun zk92 => ?_)
                  · have zk92 := mt (nI_eq (a := ne) (b := 4) (by omega) (by omega)).mpr zk92
                    refine x_iconst (v := (0)) C 100 dX6_addEffect_99 (by decide) rfl ?_
                    refine xm_put C 103 8 (by decide) fp_X6_addEffect_98 rfl rfl dX6_addEffect_100 rfl ?_
                    refine x_aload_n C 104 dX6_addEffect_103 rfl rfl ?_
                    refine xm_get C 107 fg_X6_addEffect_98 rfl dX6_addEffect_104 rfl ?_
                    refine x_top (show _ = (0) from rfl) ?_
                    refine x_if_le C 112 110 dX6_addEffect_107 (by decide) rfl (fun zk107 => ?_) (fun zk107 => ?_)
                    · refine x_aload_n C 113 dX6_addEffect_112 rfl rfl ?_
                      refine xm_get C 116 fg_X6_addEffect_60 rfl dX6_addEffect_113 rfl ?_
                      refine x_aload_n C 117 dX6_addEffect_116 rfl rfl ?_
                      refine xm_get C 120 fg_X6_addEffect_178 rfl dX6_addEffect_117 rfl ?_
                      refine x_top h3 ?_
                      refine x_iload_n C 121 dX6_addEffect_120 rfl rfl ?_
                      refine xm_iast C 122 16 4 (ne) (by decide) rfl rfl rfl (by omega) dX6_addEffect_121 rfl ?_
                      refine x_aload_n C 123 dX6_addEffect_122 rfl rfl ?_
                      refine xm_get C 126 fg_X6_addEffect_63 rfl dX6_addEffect_123 rfl ?_
                      refine x_aload_n C 127 dX6_addEffect_126 rfl rfl ?_
                      refine xm_get C 130 fg_X6_addEffect_178 rfl dX6_addEffect_127 rfl ?_
                      refine x_top h3 ?_
                      refine x_iload_n C 131 dX6_addEffect_130 rfl rfl ?_
                      refine xm_cast C 132 17 4 (ne) (by decide) rfl rfl rfl (by omega) (hs) dX6_addEffect_131 rfl ?_
                      refine x_aload_n C 133 dX6_addEffect_132 rfl rfl ?_
                      refine xm_get C 136 fg_X6_addEffect_66 rfl dX6_addEffect_133 rfl ?_
                      refine x_aload_n C 137 dX6_addEffect_136 rfl rfl ?_
                      refine xm_get C 140 fg_X6_addEffect_178 rfl dX6_addEffect_137 rfl ?_
                      refine x_top h3 ?_
                      refine x_iload_n C 141 dX6_addEffect_140 rfl rfl ?_
                      refine xm_iast C 142 18 4 (ne) (by decide) rfl rfl rfl (by omega) dX6_addEffect_141 rfl ?_
                      refine x_aload_n C 143 dX6_addEffect_142 rfl rfl ?_
                      refine xm_get C 146 fg_X6_addEffect_69 rfl dX6_addEffect_143 rfl ?_
                      refine x_aload_n C 147 dX6_addEffect_146 rfl rfl ?_
                      refine xm_get C 150 fg_X6_addEffect_178 rfl dX6_addEffect_147 rfl ?_
                      refine x_top h3 ?_
                      refine x_iload C 152 dX6_addEffect_150 rfl rfl ?_
                      refine xm_iast C 153 19 4 (ne) (by decide) rfl rfl rfl (by omega) dX6_addEffect_152 rfl ?_
                      refine x_aload_n C 154 dX6_addEffect_153 rfl rfl ?_
                      refine xm_get C 157 fg_X6_addEffect_72 rfl dX6_addEffect_154 rfl ?_
                      refine x_aload_n C 158 dX6_addEffect_157 rfl rfl ?_
                      refine xm_get C 161 fg_X6_addEffect_178 rfl dX6_addEffect_158 rfl ?_
                      refine x_top h3 ?_
                      refine x_iload C 163 dX6_addEffect_161 rfl rfl ?_
                      refine xm_iast C 164 20 4 (ne) (by decide) rfl rfl rfl (by omega) dX6_addEffect_163 rfl ?_
                      refine x_aload_n C 165 dX6_addEffect_164 rfl rfl ?_
                      refine xm_get C 168 fg_X6_addEffect_78 rfl dX6_addEffect_165 rfl ?_
                      refine x_aload_n C 169 dX6_addEffect_168 rfl rfl ?_
                      refine xm_get C 172 fg_X6_addEffect_178 rfl dX6_addEffect_169 rfl ?_
                      refine x_top h3 ?_
                      refine x_iconst (v := (0)) C 173 dX6_addEffect_172 (by decide) rfl ?_
                      refine xm_zast C 174 22 4 (ne) (by decide) rfl rfl rfl (by omega) (rfl) dX6_addEffect_173 rfl ?_
                      refine x_aload_n C 175 dX6_addEffect_174 rfl rfl ?_
                      refine x_dup C 176 dX6_addEffect_175 rfl rfl ?_
                      refine xm_get C 179 fg_X6_addEffect_178 rfl dX6_addEffect_176 rfl ?_
                      refine x_top h3 ?_
                      refine x_iconst (v := (1)) C 180 dX6_addEffect_179 (by decide) rfl ?_
                      refine x_iadd C 181 dX6_addEffect_180 rfl ?_
                      refine x_top (show _ = nI (ne + 1) from nI_add _ _) ?_
                      refine xm_put C 184 3 (by decide) fp_X6_addEffect_178 rfl rfl dX6_addEffect_181 rfl ?_
                      refine x_aload_n C 185 dX6_addEffect_184 rfl rfl ?_
                      refine xm_get C 188 fg_X6_addEffect_178 rfl dX6_addEffect_185 rfl ?_
                      refine x_top (show _ = (nI (ne + 1)) from rfl) ?_
                      refine x_iconst (v := (1)) C 189 dX6_addEffect_188 (by decide) rfl ?_
                      refine x_isub C 190 dX6_addEffect_189 rfl ?_
                      refine x_top (nI_pred _) ?_
                      exact x_zret C0 dX6_addEffect_190 (Nat.le_of_ble_eq_true rfl) (Nat.le_of_ble_eq_true rfl) ⟨_, rfl, ⟨rfl, rfl⟩⟩
                    · exact absurd zk107 (by decide)
                  · have zk92 := (nI_eq (a := ne) (b := 4) (by omega) (by omega)).mp zk92
                    exfalso; omega
                · exact absurd zk80 (by decide)
              · exact absurd zk71 (by decide)
theorem fp_X6_startEffect_98 : pF RX6 wsX6_startEffect 98 10 35 false (.int) := ⟨RX6, TX6, 36, "StageConsoleModel", tyX6, rfl, fun w h => (List.mem_cons_of_mem _ (List.mem_append_left _ (List.mem_append_right _ h))), by decide, (List.mem_cons_of_mem _ (List.mem_append_left _ (List.mem_append_left _ (List.mem_of_getElem? (i := 1) rfl)))), Or.inl rfl, tyX6_ok, nmX6, rfl, rfl, fun h => absurd h (by decide)⟩
theorem fg_X6_startEffect_98 : gF RX6 wsX6_startEffect 98 10 35 := ⟨RX6, TX6, 36, "StageConsoleModel", rfl, fun w h => (List.mem_cons_of_mem _ (List.mem_append_left _ (List.mem_append_right _ h))), by decide, (List.mem_cons_of_mem _ (List.mem_append_left _ (List.mem_append_left _ (List.mem_of_getElem? (i := 1) rfl)))), Or.inl rfl⟩
set_option maxRecDepth 100000 in
set_option maxHeartbeats 4000000 in
theorem cM_startEffect_1 (hl : l.stackTraces = false) {I : Nat → Nat → Int32} {ne : Nat} (h3 : I 30 3 = nI ne) (he : ne ≤ 4) {e : Int32} (hx : upB ne e = false) : Ct (gm D a E0) l yX6_startEffect wsX6_startEffect { frames := 12, cells := 0, slots := 0, locals := 300 } [.ref m, .int e] (wM m am a I en) (qI fun v w => v = -1 ∧ w = wM m am a (uI I 30 8 1) en) noX := by
  refine Ct.of [some (.ref m), some (.int e), none, none] rfl hl (by decide) (Nat.le_of_ble_eq_true rfl) rfl (fun φ C0 => ?_)
  have C := C0.1
  refine x_aload_n C 1 dX6_startEffect_0 rfl rfl ?_
  refine x_aload_n C 2 dX6_startEffect_1 rfl rfl ?_
  refine x_iload_n C 3 dX6_startEffect_2 rfl rfl ?_
  refine x_callV0_i C 6 0 0 0 10 1 (cM_isEffect hl h3 _) rfl gX6_startEffect_X6_isEffect ⟨rfl, by decide, by decide, rfl⟩ ⟨Nat.le_of_ble_eq_true rfl, Nat.le_of_ble_eq_true rfl⟩ rfl rfl rfl rfl (Nat.le_of_ble_eq_true rfl) ⟨Nat.le_of_ble_eq_true rfl, Nat.le_of_ble_eq_true rfl⟩ dX6_startEffect_3 rfl rfl rfl (fun r1 w1 h1 => ?_)
  obtain ⟨rfl, rfl⟩ := h1
  refine x_top (show _ = (0 : Int32) from by rw [hx]; rfl) ?_
  refine x_if_ne C 13 9 dX6_startEffect_6 (by decide) rfl (fun zk6 => ?_) (fun zk6 => ?_)
  · exact absurd zk6 (by decide)
  · refine x_iconst (v := (1)) C 10 dX6_startEffect_9 (by decide) rfl ?_
    refine x_goto C 27 dX6_startEffect_10 (by decide) ?_
    refine xm_put C 30 8 (by decide) fp_X6_startEffect_98 rfl rfl dX6_startEffect_27 rfl ?_
    refine x_aload_n C 31 dX6_startEffect_30 rfl rfl ?_
    refine xm_get C 34 fg_X6_startEffect_98 rfl dX6_startEffect_31 rfl ?_
    refine x_top (show _ = (1) from rfl) ?_
    refine x_if_le C 39 37 dX6_startEffect_34 (by decide) rfl (fun zk34 => ?_) (fun zk34 => ?_)
    · exact absurd zk34 (by decide)
    · refine x_iconst (v := (-1)) C 38 dX6_startEffect_37 (by decide) rfl ?_
      exact x_zret C0 dX6_startEffect_38 (Nat.le_of_ble_eq_true rfl) (Nat.le_of_ble_eq_true rfl) ⟨_, rfl, ⟨rfl, rfl⟩⟩
theorem fg_X6_startEffect_78 : gF RX6 wsX6_startEffect 78 10 25 := ⟨RX6, TX6, 36, "StageConsoleModel", rfl, fun w h => (List.mem_cons_of_mem _ (List.mem_append_left _ (List.mem_append_right _ h))), by decide, (List.mem_cons_of_mem _ (List.mem_append_left _ (List.mem_append_left _ (List.mem_of_getElem? (i := 0) rfl)))), Or.inl rfl⟩
set_option maxRecDepth 100000 in
set_option maxHeartbeats 4000000 in
theorem cM_startEffect_2 (hl : l.stackTraces = false) {I : Nat → Nat → Int32} {ne : Nat} (h3 : I 30 3 = nI ne) (he : ne ≤ 4) {e : Nat} (hx : e < ne) (hr : ¬ I 22 e = 0) : Ct (gm D a E0) l yX6_startEffect wsX6_startEffect { frames := 12, cells := 0, slots := 0, locals := 300 } [.ref m, .int (nI e)] (wM m am a I en) (qI fun v w => v = -1 ∧ w = wM m am a (uI I 30 8 2) en) noX := by
  refine Ct.of [some (.ref m), some (.int (nI e)), none, none] rfl hl (by decide) (Nat.le_of_ble_eq_true rfl) rfl (fun φ C0 => ?_)
  have C := C0.1
  refine x_aload_n C 1 dX6_startEffect_0 rfl rfl ?_
  refine x_aload_n C 2 dX6_startEffect_1 rfl rfl ?_
  refine x_iload_n C 3 dX6_startEffect_2 rfl rfl ?_
  refine x_callV0_i C 6 0 0 0 10 1 (cM_isEffect hl h3 _) rfl gX6_startEffect_X6_isEffect ⟨rfl, by decide, by decide, rfl⟩ ⟨Nat.le_of_ble_eq_true rfl, Nat.le_of_ble_eq_true rfl⟩ rfl rfl rfl rfl (Nat.le_of_ble_eq_true rfl) ⟨Nat.le_of_ble_eq_true rfl, Nat.le_of_ble_eq_true rfl⟩ dX6_startEffect_3 rfl rfl rfl (fun r1 w1 h1 => ?_)
  obtain ⟨rfl, rfl⟩ := h1
  refine x_top (show _ = (1 : Int32) from by rw [upB_nI (by omega) hx]; rfl) ?_
  refine x_if_ne C 13 9 dX6_startEffect_6 (by decide) rfl (fun zk6 => ?_) (fun zk6 => ?_)
  · refine x_aload_n C 14 dX6_startEffect_13 rfl rfl ?_
    refine xm_get C 17 fg_X6_startEffect_78 rfl dX6_startEffect_14 rfl ?_
    refine x_iload_n C 18 dX6_startEffect_17 rfl rfl ?_
    refine xm_zald C 19 22 4 (e) (by decide) rfl rfl rfl (by omega) dX6_startEffect_18 rfl ?_
    refine x_if_eq C 26 22 dX6_startEffect_19 (by decide) rfl (fun zk19 => ?_) (fun zk19 => ?_)
    · exact absurd zk19 hr
    · refine x_iconst (v := (2)) C 23 dX6_startEffect_22 (by decide) rfl ?_
      refine x_goto C 27 dX6_startEffect_23 (by decide) ?_
      refine xm_put C 30 8 (by decide) fp_X6_startEffect_98 rfl rfl dX6_startEffect_27 rfl ?_
      refine x_aload_n C 31 dX6_startEffect_30 rfl rfl ?_
      refine xm_get C 34 fg_X6_startEffect_98 rfl dX6_startEffect_31 rfl ?_
      refine x_top (show _ = (2) from rfl) ?_
      refine x_if_le C 39 37 dX6_startEffect_34 (by decide) rfl (fun zk34 => ?_) (fun zk34 => ?_)
      · exact absurd zk34 (by decide)
      · refine x_iconst (v := (-1)) C 38 dX6_startEffect_37 (by decide) rfl ?_
        exact x_zret C0 dX6_startEffect_38 (Nat.le_of_ble_eq_true rfl) (Nat.le_of_ble_eq_true rfl) ⟨_, rfl, ⟨rfl, rfl⟩⟩
  · exact absurd zk6 (by decide)
theorem fg_X6_startEffect_75 : gF RX6 wsX6_startEffect 75 10 24 := ⟨RX6, TX6, 36, "StageConsoleModel", rfl, fun w h => (List.mem_cons_of_mem _ (List.mem_append_left _ (List.mem_append_right _ h))), by decide, (List.mem_cons_of_mem _ (List.mem_append_left _ (List.mem_append_left _ (List.mem_of_getElem? (i := 2) rfl)))), Or.inl rfl⟩
theorem fg_X6_startEffect_140 : gF RX6 wsX6_startEffect 140 10 32 := ⟨RX6, TX6, 36, "StageConsoleModel", rfl, fun w h => (List.mem_cons_of_mem _ (List.mem_append_left _ (List.mem_append_right _ h))), by decide, (List.mem_cons_of_mem _ (List.mem_append_left _ (List.mem_append_left _ (List.mem_of_getElem? (i := 3) rfl)))), Or.inl rfl⟩
theorem fg_X6_startEffect_178 : gF RX6 wsX6_startEffect 178 10 26 := ⟨RX6, TX6, 36, "StageConsoleModel", rfl, fun w h => (List.mem_cons_of_mem _ (List.mem_append_left _ (List.mem_append_right _ h))), by decide, (List.mem_cons_of_mem _ (List.mem_append_left _ (List.mem_append_left _ (List.mem_of_getElem? (i := 4) rfl)))), Or.inl rfl⟩
set_option maxRecDepth 100000 in
set_option maxHeartbeats 4000000 in
theorem cM_startEffect_0 (hl : l.stackTraces = false) {I : Nat → Nat → Int32} {ne : Nat} (h3 : I 30 3 = nI ne) (he : ne ≤ 4) {e : Nat} (hx : e < ne) (hr0 : I 22 e = 0) : Ct (gm D a E0) l yX6_startEffect wsX6_startEffect { frames := 12, cells := 0, slots := 0, locals := 300 } [.ref m, .int (nI e)] (wM m am a I en) (qI fun v w => v = nI (ctL (upd (I 22) e 1) ne 0 0) ∧ w = wM m am a (uI (uI (uI I 30 8 0) 22 e 1) 21 e (I 30 6)) en) noX := by
  refine Ct.of [some (.ref m), some (.int (nI e)), none, none] rfl hl (by decide) (Nat.le_of_ble_eq_true rfl) rfl (fun φ C0 => ?_)
  have C := C0.1
  refine x_aload_n C 1 dX6_startEffect_0 rfl rfl ?_
  refine x_aload_n C 2 dX6_startEffect_1 rfl rfl ?_
  refine x_iload_n C 3 dX6_startEffect_2 rfl rfl ?_
  refine x_callV0_i C 6 0 0 0 10 1 (cM_isEffect hl h3 _) rfl gX6_startEffect_X6_isEffect ⟨rfl, by decide, by decide, rfl⟩ ⟨Nat.le_of_ble_eq_true rfl, Nat.le_of_ble_eq_true rfl⟩ rfl rfl rfl rfl (Nat.le_of_ble_eq_true rfl) ⟨Nat.le_of_ble_eq_true rfl, Nat.le_of_ble_eq_true rfl⟩ dX6_startEffect_3 rfl rfl rfl (fun r1 w1 h1 => ?_)
  obtain ⟨rfl, rfl⟩ := h1
  refine x_top (show _ = (1 : Int32) from by rw [upB_nI (by omega) hx]; rfl) ?_
  refine x_if_ne C 13 9 dX6_startEffect_6 (by decide) rfl (fun zk6 => ?_) (fun zk6 => ?_)
  · refine x_aload_n C 14 dX6_startEffect_13 rfl rfl ?_
    refine xm_get C 17 fg_X6_startEffect_78 rfl dX6_startEffect_14 rfl ?_
    refine x_iload_n C 18 dX6_startEffect_17 rfl rfl ?_
    refine xm_zald C 19 22 4 (e) (by decide) rfl rfl rfl (by omega) dX6_startEffect_18 rfl ?_
    refine x_if_eq C 26 22 dX6_startEffect_19 (by decide) rfl (fun zk19 => ?_) (fun zk19 => ?_)
    · refine x_iconst (v := (0)) C 27 dX6_startEffect_26 (by decide) rfl ?_
      refine xm_put C 30 8 (by decide) fp_X6_startEffect_98 rfl rfl dX6_startEffect_27 rfl ?_
      refine x_aload_n C 31 dX6_startEffect_30 rfl rfl ?_
      refine xm_get C 34 fg_X6_startEffect_98 rfl dX6_startEffect_31 rfl ?_
      refine x_top (show _ = (0) from rfl) ?_
      refine x_if_le C 39 37 dX6_startEffect_34 (by decide) rfl (fun zk34 => ?_) (fun zk34 => ?_)
      · refine x_aload_n C 40 dX6_startEffect_39 rfl rfl ?_
        refine xm_get C 43 fg_X6_startEffect_78 rfl dX6_startEffect_40 rfl ?_
        refine x_iload_n C 44 dX6_startEffect_43 rfl rfl ?_
        refine x_iconst (v := (1)) C 45 dX6_startEffect_44 (by decide) rfl ?_
        refine xm_zast C 46 22 4 (e) (by decide) rfl rfl rfl (by omega) (rfl) dX6_startEffect_45 rfl ?_
        refine x_aload_n C 47 dX6_startEffect_46 rfl rfl ?_
        refine xm_get C 50 fg_X6_startEffect_75 rfl dX6_startEffect_47 rfl ?_
        refine x_iload_n C 51 dX6_startEffect_50 rfl rfl ?_
        refine x_aload_n C 52 dX6_startEffect_51 rfl rfl ?_
        refine xm_get C 55 fg_X6_startEffect_140 rfl dX6_startEffect_52 rfl ?_
        refine xm_iast C 56 21 4 (e) (by decide) rfl rfl rfl (by omega) dX6_startEffect_55 rfl ?_
        refine x_iconst (v := (0)) C 57 dX6_startEffect_56 (by decide) rfl ?_
        refine x_istore_n C 58 dX6_startEffect_57 (by decide) rfl rfl ?_
        refine x_iconst (v := (0)) C 59 dX6_startEffect_58 (by decide) rfl ?_
        refine x_istore_n C 60 dX6_startEffect_59 (by decide) rfl rfl ?_
        have lp60 : ∀ (n i k : Nat), i + n = ne → k ≤ i → ctL (upd (I 22) e 1) ne 0 0 = ctL (upd (I 22) e 1) n i k → X φ 60 [some (.ref m), some (.int (nI e)), some (.int (nI k)), some (.int (nI i))] [] (wM m am a (uI (uI (uI I 30 8 0) 22 e 1) 21 e (I 30 6)) en) 0 0 := by
          intro n
          induction n with
          | zero =>
            intro i k hi hk hr
            refine x_iload_n C 61 dX6_startEffect_60 rfl rfl ?_
            refine x_aload_n C 62 dX6_startEffect_61 rfl rfl ?_
            refine xm_get C 65 fg_X6_startEffect_178 rfl dX6_startEffect_62 rfl ?_
            refine x_top h3 ?_
            refine x_icmp_ge C 91 68 dX6_startEffect_65 (by decide) rfl (fun zk65 => ?_) (fun zk65 => ?_)
            · have zk65 := (nI_leI (a := ne) (b := i) (by omega) (by omega)).mp zk65
              refine x_iload_n C 92 dX6_startEffect_91 rfl rfl ?_
              exact x_zret C0 dX6_startEffect_92 (Nat.le_of_ble_eq_true rfl) (Nat.le_of_ble_eq_true rfl) ⟨_, rfl, ⟨by rw [hr]; rfl, rfl⟩⟩
            · have zk65 := mt (nI_leI (a := ne) (b := i) (by omega) (by omega)).mpr zk65
              exfalso; omega
          | succ n ih =>
            intro i k hi hk hr
            refine x_iload_n C 61 dX6_startEffect_60 rfl rfl ?_
            refine x_aload_n C 62 dX6_startEffect_61 rfl rfl ?_
            refine xm_get C 65 fg_X6_startEffect_178 rfl dX6_startEffect_62 rfl ?_
            refine x_top h3 ?_
            refine x_icmp_ge C 91 68 dX6_startEffect_65 (by decide) rfl (fun zk65 => ?_) (fun zk65 => ?_)
            · have zk65 := (nI_leI (a := ne) (b := i) (by omega) (by omega)).mp zk65
              exfalso; omega
            · have zk65 := mt (nI_leI (a := ne) (b := i) (by omega) (by omega)).mpr zk65
              refine x_iload_n C 69 dX6_startEffect_68 rfl rfl ?_
              refine x_aload_n C 70 dX6_startEffect_69 rfl rfl ?_
              refine xm_get C 73 fg_X6_startEffect_78 rfl dX6_startEffect_70 rfl ?_
              refine x_iload_n C 74 dX6_startEffect_73 rfl rfl ?_
              refine xm_zald C 75 22 4 (i) (by decide) rfl rfl rfl (by omega) dX6_startEffect_74 rfl ?_
              refine x_if_eq C 82 78 dX6_startEffect_75 (by decide) rfl (fun zk75 => ?_) (fun zk75 => ?_)
              · refine x_iconst (v := (0)) C 83 dX6_startEffect_82 (by decide) rfl ?_
                refine x_iadd C 84 dX6_startEffect_83 rfl ?_
                refine x_top (show _ = nI (k + 0) from nI_add _ _) ?_
                refine x_istore_n C 85 dX6_startEffect_84 (by decide) rfl rfl ?_
                refine x_iinc (v := nI (i + 1)) C 88 rfl dX6_startEffect_85 (iinc1 _) (by decide) rfl rfl ?_
                refine x_goto C 60 dX6_startEffect_88 (by decide) ?_
                exact ih (i + 1) _ (by omega) (by omega) (by rw [hr, ctL]; first | rw [if_pos (show upd (I 22) e 1 i = 0 from zk75)]; rfl | rw [if_pos (show upd (I 22) e 1 i = 0 from zk75)] | rw [if_neg (show ¬ upd (I 22) e 1 i = 0 from zk75)])
              · refine x_iconst (v := (1)) C 79 dX6_startEffect_78 (by decide) rfl ?_
                refine x_goto C 83 dX6_startEffect_79 (by decide) ?_
                refine x_iadd C 84 dX6_startEffect_83 rfl ?_
                refine x_top (show _ = nI (k + 1) from nI_add _ _) ?_
                refine x_istore_n C 85 dX6_startEffect_84 (by decide) rfl rfl ?_
                refine x_iinc (v := nI (i + 1)) C 88 rfl dX6_startEffect_85 (iinc1 _) (by decide) rfl rfl ?_
                refine x_goto C 60 dX6_startEffect_88 (by decide) ?_
                exact ih (i + 1) _ (by omega) (by omega) (by rw [hr, ctL]; first | rw [if_pos (show upd (I 22) e 1 i = 0 from zk75)]; rfl | rw [if_pos (show upd (I 22) e 1 i = 0 from zk75)] | rw [if_neg (show ¬ upd (I 22) e 1 i = 0 from zk75)])
        exact lp60 ne 0 0 (by omega) (by omega) rfl
      · exact absurd zk34 (by decide)
    · exact absurd hr0 zk19
  · exact absurd zk6 (by decide)
theorem fp_X6_stopEffect_98 : pF RX6 wsX6_stopEffect 98 10 35 false (.int) := ⟨RX6, TX6, 36, "StageConsoleModel", tyX6, rfl, fun w h => (List.mem_cons_of_mem _ (List.mem_append_left _ (List.mem_append_right _ h))), by decide, (List.mem_cons_of_mem _ (List.mem_append_left _ (List.mem_append_left _ (List.mem_of_getElem? (i := 1) rfl)))), Or.inl rfl, tyX6_ok, nmX6, rfl, rfl, fun h => absurd h (by decide)⟩
theorem fg_X6_stopEffect_98 : gF RX6 wsX6_stopEffect 98 10 35 := ⟨RX6, TX6, 36, "StageConsoleModel", rfl, fun w h => (List.mem_cons_of_mem _ (List.mem_append_left _ (List.mem_append_right _ h))), by decide, (List.mem_cons_of_mem _ (List.mem_append_left _ (List.mem_append_left _ (List.mem_of_getElem? (i := 1) rfl)))), Or.inl rfl⟩
set_option maxRecDepth 100000 in
set_option maxHeartbeats 4000000 in
theorem cM_stopEffect_1 (hl : l.stackTraces = false) {I : Nat → Nat → Int32} {ne : Nat} (h3 : I 30 3 = nI ne) (he : ne ≤ 4) {e : Int32} (hx : upB ne e = false) : Ct (gm D a E0) l yX6_stopEffect wsX6_stopEffect { frames := 12, cells := 0, slots := 0, locals := 300 } [.ref m, .int e] (wM m am a I en) (qI fun v w => v = -1 ∧ w = wM m am a (uI I 30 8 1) en) noX := by
  refine Ct.of [some (.ref m), some (.int e)] rfl hl (by decide) (Nat.le_of_ble_eq_true rfl) rfl (fun φ C0 => ?_)
  have C := C0.1
  refine x_aload_n C 1 dX6_stopEffect_0 rfl rfl ?_
  refine x_aload_n C 2 dX6_stopEffect_1 rfl rfl ?_
  refine x_iload_n C 3 dX6_stopEffect_2 rfl rfl ?_
  refine x_callV0_i C 6 0 0 0 10 1 (cM_isEffect hl h3 _) rfl gX6_stopEffect_X6_isEffect ⟨rfl, by decide, by decide, rfl⟩ ⟨Nat.le_of_ble_eq_true rfl, Nat.le_of_ble_eq_true rfl⟩ rfl rfl rfl rfl (Nat.le_of_ble_eq_true rfl) ⟨Nat.le_of_ble_eq_true rfl, Nat.le_of_ble_eq_true rfl⟩ dX6_stopEffect_3 rfl rfl rfl (fun r1 w1 h1 => ?_)
  obtain ⟨rfl, rfl⟩ := h1
  refine x_top (show _ = (0 : Int32) from by rw [hx]; rfl) ?_
  refine x_if_ne C 13 9 dX6_stopEffect_6 (by decide) rfl (fun zk6 => ?_) (fun zk6 => ?_)
  · exact absurd zk6 (by decide)
  · refine x_iconst (v := (1)) C 10 dX6_stopEffect_9 (by decide) rfl ?_
    refine x_goto C 27 dX6_stopEffect_10 (by decide) ?_
    refine xm_put C 30 8 (by decide) fp_X6_stopEffect_98 rfl rfl dX6_stopEffect_27 rfl ?_
    refine x_aload_n C 31 dX6_stopEffect_30 rfl rfl ?_
    refine xm_get C 34 fg_X6_stopEffect_98 rfl dX6_stopEffect_31 rfl ?_
    refine x_top (show _ = (1) from rfl) ?_
    refine x_if_le C 39 37 dX6_stopEffect_34 (by decide) rfl (fun zk34 => ?_) (fun zk34 => ?_)
    · exact absurd zk34 (by decide)
    · refine x_iconst (v := (-1)) C 38 dX6_stopEffect_37 (by decide) rfl ?_
      exact x_zret C0 dX6_stopEffect_38 (Nat.le_of_ble_eq_true rfl) (Nat.le_of_ble_eq_true rfl) ⟨_, rfl, ⟨rfl, rfl⟩⟩
theorem fg_X6_stopEffect_78 : gF RX6 wsX6_stopEffect 78 10 25 := ⟨RX6, TX6, 36, "StageConsoleModel", rfl, fun w h => (List.mem_cons_of_mem _ (List.mem_append_left _ (List.mem_append_right _ h))), by decide, (List.mem_cons_of_mem _ (List.mem_append_left _ (List.mem_append_left _ (List.mem_of_getElem? (i := 0) rfl)))), Or.inl rfl⟩
set_option maxRecDepth 100000 in
set_option maxHeartbeats 4000000 in
theorem cM_stopEffect_2 (hl : l.stackTraces = false) {I : Nat → Nat → Int32} {ne : Nat} (h3 : I 30 3 = nI ne) (he : ne ≤ 4) {e : Nat} (hx : e < ne) (hr : I 22 e = 0) : Ct (gm D a E0) l yX6_stopEffect wsX6_stopEffect { frames := 12, cells := 0, slots := 0, locals := 300 } [.ref m, .int (nI e)] (wM m am a I en) (qI fun v w => v = -1 ∧ w = wM m am a (uI I 30 8 2) en) noX := by
  refine Ct.of [some (.ref m), some (.int (nI e))] rfl hl (by decide) (Nat.le_of_ble_eq_true rfl) rfl (fun φ C0 => ?_)
  have C := C0.1
  refine x_aload_n C 1 dX6_stopEffect_0 rfl rfl ?_
  refine x_aload_n C 2 dX6_stopEffect_1 rfl rfl ?_
  refine x_iload_n C 3 dX6_stopEffect_2 rfl rfl ?_
  refine x_callV0_i C 6 0 0 0 10 1 (cM_isEffect hl h3 _) rfl gX6_stopEffect_X6_isEffect ⟨rfl, by decide, by decide, rfl⟩ ⟨Nat.le_of_ble_eq_true rfl, Nat.le_of_ble_eq_true rfl⟩ rfl rfl rfl rfl (Nat.le_of_ble_eq_true rfl) ⟨Nat.le_of_ble_eq_true rfl, Nat.le_of_ble_eq_true rfl⟩ dX6_stopEffect_3 rfl rfl rfl (fun r1 w1 h1 => ?_)
  obtain ⟨rfl, rfl⟩ := h1
  refine x_top (show _ = (1 : Int32) from by rw [upB_nI (by omega) hx]; rfl) ?_
  refine x_if_ne C 13 9 dX6_stopEffect_6 (by decide) rfl (fun zk6 => ?_) (fun zk6 => ?_)
  · refine x_aload_n C 14 dX6_stopEffect_13 rfl rfl ?_
    refine xm_get C 17 fg_X6_stopEffect_78 rfl dX6_stopEffect_14 rfl ?_
    refine x_iload_n C 18 dX6_stopEffect_17 rfl rfl ?_
    refine xm_zald C 19 22 4 (e) (by decide) rfl rfl rfl (by omega) dX6_stopEffect_18 rfl ?_
    refine x_if_ne C 26 22 dX6_stopEffect_19 (by decide) rfl (fun zk19 => ?_) (fun zk19 => ?_)
    · exact absurd hr zk19
    · refine x_iconst (v := (2)) C 23 dX6_stopEffect_22 (by decide) rfl ?_
      refine x_goto C 27 dX6_stopEffect_23 (by decide) ?_
      refine xm_put C 30 8 (by decide) fp_X6_stopEffect_98 rfl rfl dX6_stopEffect_27 rfl ?_
      refine x_aload_n C 31 dX6_stopEffect_30 rfl rfl ?_
      refine xm_get C 34 fg_X6_stopEffect_98 rfl dX6_stopEffect_31 rfl ?_
      refine x_top (show _ = (2) from rfl) ?_
      refine x_if_le C 39 37 dX6_stopEffect_34 (by decide) rfl (fun zk34 => ?_) (fun zk34 => ?_)
      · exact absurd zk34 (by decide)
      · refine x_iconst (v := (-1)) C 38 dX6_stopEffect_37 (by decide) rfl ?_
        exact x_zret C0 dX6_stopEffect_38 (Nat.le_of_ble_eq_true rfl) (Nat.le_of_ble_eq_true rfl) ⟨_, rfl, ⟨rfl, rfl⟩⟩
  · exact absurd zk6 (by decide)
theorem fg_X6_stopEffect_140 : gF RX6 wsX6_stopEffect 140 10 32 := ⟨RX6, TX6, 36, "StageConsoleModel", rfl, fun w h => (List.mem_cons_of_mem _ (List.mem_append_left _ (List.mem_append_right _ h))), by decide, (List.mem_cons_of_mem _ (List.mem_append_left _ (List.mem_append_left _ (List.mem_of_getElem? (i := 2) rfl)))), Or.inl rfl⟩
theorem fg_X6_stopEffect_75 : gF RX6 wsX6_stopEffect 75 10 24 := ⟨RX6, TX6, 36, "StageConsoleModel", rfl, fun w h => (List.mem_cons_of_mem _ (List.mem_append_left _ (List.mem_append_right _ h))), by decide, (List.mem_cons_of_mem _ (List.mem_append_left _ (List.mem_append_left _ (List.mem_of_getElem? (i := 3) rfl)))), Or.inl rfl⟩
set_option maxRecDepth 100000 in
set_option maxHeartbeats 4000000 in
theorem cM_stopEffect_0 (hl : l.stackTraces = false) {I : Nat → Nat → Int32} {ne : Nat} (h3 : I 30 3 = nI ne) (he : ne ≤ 4) {e : Nat} (hx : e < ne) (hr0 : ¬ I 22 e = 0) : Ct (gm D a E0) l yX6_stopEffect wsX6_stopEffect { frames := 12, cells := 0, slots := 0, locals := 300 } [.ref m, .int (nI e)] (wM m am a I en) (qI fun v w => v = I 30 6 - I 21 e ∧ w = wM m am a (uI (uI I 30 8 0) 22 e 0) en) noX := by
  refine Ct.of [some (.ref m), some (.int (nI e))] rfl hl (by decide) (Nat.le_of_ble_eq_true rfl) rfl (fun φ C0 => ?_)
  have C := C0.1
  refine x_aload_n C 1 dX6_stopEffect_0 rfl rfl ?_
  refine x_aload_n C 2 dX6_stopEffect_1 rfl rfl ?_
  refine x_iload_n C 3 dX6_stopEffect_2 rfl rfl ?_
  refine x_callV0_i C 6 0 0 0 10 1 (cM_isEffect hl h3 _) rfl gX6_stopEffect_X6_isEffect ⟨rfl, by decide, by decide, rfl⟩ ⟨Nat.le_of_ble_eq_true rfl, Nat.le_of_ble_eq_true rfl⟩ rfl rfl rfl rfl (Nat.le_of_ble_eq_true rfl) ⟨Nat.le_of_ble_eq_true rfl, Nat.le_of_ble_eq_true rfl⟩ dX6_stopEffect_3 rfl rfl rfl (fun r1 w1 h1 => ?_)
  obtain ⟨rfl, rfl⟩ := h1
  refine x_top (show _ = (1 : Int32) from by rw [upB_nI (by omega) hx]; rfl) ?_
  refine x_if_ne C 13 9 dX6_stopEffect_6 (by decide) rfl (fun zk6 => ?_) (fun zk6 => ?_)
  · refine x_aload_n C 14 dX6_stopEffect_13 rfl rfl ?_
    refine xm_get C 17 fg_X6_stopEffect_78 rfl dX6_stopEffect_14 rfl ?_
    refine x_iload_n C 18 dX6_stopEffect_17 rfl rfl ?_
    refine xm_zald C 19 22 4 (e) (by decide) rfl rfl rfl (by omega) dX6_stopEffect_18 rfl ?_
    refine x_if_ne C 26 22 dX6_stopEffect_19 (by decide) rfl (fun zk19 => ?_) (fun zk19 => ?_)
    · refine x_iconst (v := (0)) C 27 dX6_stopEffect_26 (by decide) rfl ?_
      refine xm_put C 30 8 (by decide) fp_X6_stopEffect_98 rfl rfl dX6_stopEffect_27 rfl ?_
      refine x_aload_n C 31 dX6_stopEffect_30 rfl rfl ?_
      refine xm_get C 34 fg_X6_stopEffect_98 rfl dX6_stopEffect_31 rfl ?_
      refine x_top (show _ = (0) from rfl) ?_
      refine x_if_le C 39 37 dX6_stopEffect_34 (by decide) rfl (fun zk34 => ?_) (fun zk34 => ?_)
      · refine x_aload_n C 40 dX6_stopEffect_39 rfl rfl ?_
        refine xm_get C 43 fg_X6_stopEffect_78 rfl dX6_stopEffect_40 rfl ?_
        refine x_iload_n C 44 dX6_stopEffect_43 rfl rfl ?_
        refine x_iconst (v := (0)) C 45 dX6_stopEffect_44 (by decide) rfl ?_
        refine xm_zast C 46 22 4 (e) (by decide) rfl rfl rfl (by omega) (rfl) dX6_stopEffect_45 rfl ?_
        refine x_aload_n C 47 dX6_stopEffect_46 rfl rfl ?_
        refine xm_get C 50 fg_X6_stopEffect_140 rfl dX6_stopEffect_47 rfl ?_
        refine x_aload_n C 51 dX6_stopEffect_50 rfl rfl ?_
        refine xm_get C 54 fg_X6_stopEffect_75 rfl dX6_stopEffect_51 rfl ?_
        refine x_iload_n C 55 dX6_stopEffect_54 rfl rfl ?_
        refine xm_iald C 56 21 4 (e) (by decide) rfl rfl rfl (by omega) dX6_stopEffect_55 rfl ?_
        refine x_isub C 57 dX6_stopEffect_56 rfl ?_
        exact x_zret C0 dX6_stopEffect_57 (Nat.le_of_ble_eq_true rfl) (Nat.le_of_ble_eq_true rfl) ⟨_, rfl, ⟨rfl, rfl⟩⟩
      · exact absurd zk34 (by decide)
    · exact absurd zk19 hr0
  · exact absurd zk6 (by decide)
theorem fp_X6_effectOn_98 : pF RX6 wsX6_effectOn 98 10 35 false (.int) := ⟨RX6, TX6, 36, "StageConsoleModel", tyX6, rfl, fun w h => (List.mem_cons_of_mem _ (List.mem_append_left _ (List.mem_append_left _ (List.mem_append_right _ h)))), by decide, (List.mem_cons_of_mem _ (List.mem_append_left _ (List.mem_append_left _ (List.mem_append_left _ (List.mem_append_left _ (List.mem_of_getElem? (i := 0) rfl)))))), Or.inl rfl, tyX6_ok, nmX6, rfl, rfl, fun h => absurd h (by decide)⟩
theorem fg_X6_effectOn_98 : gF RX6 wsX6_effectOn 98 10 35 := ⟨RX6, TX6, 36, "StageConsoleModel", rfl, fun w h => (List.mem_cons_of_mem _ (List.mem_append_left _ (List.mem_append_left _ (List.mem_append_right _ h)))), by decide, (List.mem_cons_of_mem _ (List.mem_append_left _ (List.mem_append_left _ (List.mem_append_left _ (List.mem_append_left _ (List.mem_of_getElem? (i := 0) rfl)))))), Or.inl rfl⟩
set_option maxRecDepth 100000 in
set_option maxHeartbeats 4000000 in
theorem cM_effectOn_1 (hl : l.stackTraces = false) {I : Nat → Nat → Int32} {ne : Nat} (h3 : I 30 3 = nI ne) (he : ne ≤ 4) {e ch : Int32} (hx : upB ne e = false) : Ct (gm D a E0) l yX6_effectOn wsX6_effectOn { frames := 12, cells := 0, slots := 0, locals := 300 } [.ref m, .int e, .int ch] (wM m am a I en) (qI fun v w => v = -1 ∧ w = wM m am a (uI I 30 8 1) en) noX := by
  refine Ct.of [some (.ref m), some (.int e), some (.int ch)] rfl hl (by decide) (Nat.le_of_ble_eq_true rfl) rfl (fun φ C0 => ?_)
  have C := C0.1
  refine x_aload_n C 1 dX6_effectOn_0 rfl rfl ?_
  refine x_aload_n C 2 dX6_effectOn_1 rfl rfl ?_
  refine x_iload_n C 3 dX6_effectOn_2 rfl rfl ?_
  refine x_callV0_i C 6 0 0 0 10 1 (cM_isEffect hl h3 _) rfl gX6_effectOn_X6_isEffect ⟨rfl, by decide, by decide, rfl⟩ ⟨Nat.le_of_ble_eq_true rfl, Nat.le_of_ble_eq_true rfl⟩ rfl rfl rfl rfl (Nat.le_of_ble_eq_true rfl) ⟨Nat.le_of_ble_eq_true rfl, Nat.le_of_ble_eq_true rfl⟩ dX6_effectOn_3 rfl rfl rfl (fun r1 w1 h1 => ?_)
  obtain ⟨rfl, rfl⟩ := h1
  refine x_top (show _ = (0 : Int32) from by rw [hx]; rfl) ?_
  refine x_if_eq C 20 9 dX6_effectOn_6 (by decide) rfl (fun zk6 => ?_) (fun zk6 => ?_)
  · refine x_iconst (v := (1)) C 21 dX6_effectOn_20 (by decide) rfl ?_
    refine xm_put C 24 8 (by decide) fp_X6_effectOn_98 rfl rfl dX6_effectOn_21 rfl ?_
    refine x_aload_n C 25 dX6_effectOn_24 rfl rfl ?_
    refine xm_get C 28 fg_X6_effectOn_98 rfl dX6_effectOn_25 rfl ?_
    refine x_top (show _ = (1) from rfl) ?_
    refine x_if_ne C 40 31 dX6_effectOn_28 (by decide) rfl (fun zk28 => ?_) (fun zk28 => ?_)
    · refine x_iconst (v := (-1)) C 41 dX6_effectOn_40 (by decide) rfl ?_
      exact x_zret C0 dX6_effectOn_41 (Nat.le_of_ble_eq_true rfl) (Nat.le_of_ble_eq_true rfl) ⟨_, rfl, ⟨rfl, rfl⟩⟩
    · exact absurd zk28 (by decide)
  · exact absurd zk6 (by decide)
set_option maxRecDepth 100000 in
set_option maxHeartbeats 4000000 in
theorem cM_effectOn_1b (hl : l.stackTraces = false) {I : Nat → Nat → Int32} {ne : Nat} (h3 : I 30 3 = nI ne) (he : ne ≤ 4) {e : Nat} {ch : Int32} (hx : e < ne) (hc : chB ch = false) : Ct (gm D a E0) l yX6_effectOn wsX6_effectOn { frames := 12, cells := 0, slots := 0, locals := 300 } [.ref m, .int (nI e), .int ch] (wM m am a I en) (qI fun v w => v = -1 ∧ w = wM m am a (uI I 30 8 1) en) noX := by
  refine Ct.of [some (.ref m), some (.int (nI e)), some (.int ch)] rfl hl (by decide) (Nat.le_of_ble_eq_true rfl) rfl (fun φ C0 => ?_)
  have C := C0.1
  refine x_aload_n C 1 dX6_effectOn_0 rfl rfl ?_
  refine x_aload_n C 2 dX6_effectOn_1 rfl rfl ?_
  refine x_iload_n C 3 dX6_effectOn_2 rfl rfl ?_
  refine x_callV0_i C 6 0 0 0 10 1 (cM_isEffect hl h3 _) rfl gX6_effectOn_X6_isEffect ⟨rfl, by decide, by decide, rfl⟩ ⟨Nat.le_of_ble_eq_true rfl, Nat.le_of_ble_eq_true rfl⟩ rfl rfl rfl rfl (Nat.le_of_ble_eq_true rfl) ⟨Nat.le_of_ble_eq_true rfl, Nat.le_of_ble_eq_true rfl⟩ dX6_effectOn_3 rfl rfl rfl (fun r1 w1 h1 => ?_)
  obtain ⟨rfl, rfl⟩ := h1
  refine x_top (show _ = (1 : Int32) from by rw [upB_nI (by omega) hx]; rfl) ?_
  refine x_if_eq C 20 9 dX6_effectOn_6 (by decide) rfl (fun zk6 => ?_) (fun zk6 => ?_)
  · exact absurd zk6 (by decide)
  · refine x_iload_n C 10 dX6_effectOn_9 rfl rfl ?_
    refine x_callS0_i C 13 0 0 1 (cM_isChannel hl _ _) rfl gX6_effectOn_X6_isChannel ⟨by decide, by decide, rfl⟩ ⟨Nat.le_of_ble_eq_true rfl, Nat.le_of_ble_eq_true rfl⟩ rfl rfl (Nat.le_of_ble_eq_true rfl) ⟨Nat.le_of_ble_eq_true rfl, Nat.le_of_ble_eq_true rfl⟩ dX6_effectOn_10 rfl rfl rfl (fun r2 w2 h2 => ?_)
    obtain ⟨rfl, rfl⟩ := h2
    refine x_top (show _ = (0 : Int32) from by rw [hc]; rfl) ?_
    refine x_if_eq C 20 16 dX6_effectOn_13 (by decide) rfl (fun zk13 => ?_) (fun zk13 => ?_)
    · refine x_iconst (v := (1)) C 21 dX6_effectOn_20 (by decide) rfl ?_
      refine xm_put C 24 8 (by decide) fp_X6_effectOn_98 rfl rfl dX6_effectOn_21 rfl ?_
      refine x_aload_n C 25 dX6_effectOn_24 rfl rfl ?_
      refine xm_get C 28 fg_X6_effectOn_98 rfl dX6_effectOn_25 rfl ?_
      refine x_top (show _ = (1) from rfl) ?_
      refine x_if_ne C 40 31 dX6_effectOn_28 (by decide) rfl (fun zk28 => ?_) (fun zk28 => ?_)
      · refine x_iconst (v := (-1)) C 41 dX6_effectOn_40 (by decide) rfl ?_
        exact x_zret C0 dX6_effectOn_41 (Nat.le_of_ble_eq_true rfl) (Nat.le_of_ble_eq_true rfl) ⟨_, rfl, ⟨rfl, rfl⟩⟩
      · exact absurd zk28 (by decide)
    · exact absurd zk13 (by decide)
set_option maxRecDepth 100000 in
set_option maxHeartbeats 4000000 in
theorem cM_effectOn_0 (hl : l.stackTraces = false) {I : Nat → Nat → Int32} {eg : Nat → Nat} {nq ng ne nt : Nat} (hM : MI I eg nq ng ne nt) {e c : Nat} (hx : e < ne) (hc : c < 12) : Ct (gm D a E0) l yX6_effectOn wsX6_effectOn { frames := 12, cells := 0, slots := 0, locals := 300 } [.ref m, .int (nI e), .int (nI c)] (wM m am a I en) (qI fun v w => v = gvF (uI I 30 8 0) eg e c ∧ w = wM m am a (uI I 30 8 0) en) noX := by
  refine Ct.of [some (.ref m), some (.int (nI e)), some (.int (nI c))] rfl hl (by decide) (Nat.le_of_ble_eq_true rfl) rfl (fun φ C0 => ?_)
  have C := C0.1
  have h3 := hM.2.2.1.1
  have he := hM.2.2.1.2
  have hg := hM.2.1.2
  have hee := hM.2.2.2.2.2.2.1 e hx
  refine x_aload_n C 1 dX6_effectOn_0 rfl rfl ?_
  refine x_aload_n C 2 dX6_effectOn_1 rfl rfl ?_
  refine x_iload_n C 3 dX6_effectOn_2 rfl rfl ?_
  refine x_callV0_i C 6 0 0 0 10 1 (cM_isEffect hl h3 _) rfl gX6_effectOn_X6_isEffect ⟨rfl, by decide, by decide, rfl⟩ ⟨Nat.le_of_ble_eq_true rfl, Nat.le_of_ble_eq_true rfl⟩ rfl rfl rfl rfl (Nat.le_of_ble_eq_true rfl) ⟨Nat.le_of_ble_eq_true rfl, Nat.le_of_ble_eq_true rfl⟩ dX6_effectOn_3 rfl rfl rfl (fun r1 w1 h1 => ?_)
  obtain ⟨rfl, rfl⟩ := h1
  refine x_top (show _ = (1 : Int32) from by rw [upB_nI (by omega) hx]; rfl) ?_
  refine x_if_eq C 20 9 dX6_effectOn_6 (by decide) rfl (fun zk6 => ?_) (fun zk6 => ?_)
  · exact absurd zk6 (by decide)
  · refine x_iload_n C 10 dX6_effectOn_9 rfl rfl ?_
    refine x_callS0_i C 13 0 0 1 (cM_isChannel hl _ _) rfl gX6_effectOn_X6_isChannel ⟨by decide, by decide, rfl⟩ ⟨Nat.le_of_ble_eq_true rfl, Nat.le_of_ble_eq_true rfl⟩ rfl rfl (Nat.le_of_ble_eq_true rfl) ⟨Nat.le_of_ble_eq_true rfl, Nat.le_of_ble_eq_true rfl⟩ dX6_effectOn_10 rfl rfl rfl (fun r2 w2 h2 => ?_)
    obtain ⟨rfl, rfl⟩ := h2
    refine x_top (show _ = (1 : Int32) from by rw [chB_nI hc]; rfl) ?_
    refine x_if_eq C 20 16 dX6_effectOn_13 (by decide) rfl (fun zk13 => ?_) (fun zk13 => ?_)
    · exact absurd zk13 (by decide)
    · refine x_iconst (v := (0)) C 17 dX6_effectOn_16 (by decide) rfl ?_
      refine x_goto C 21 dX6_effectOn_17 (by decide) ?_
      refine xm_put C 24 8 (by decide) fp_X6_effectOn_98 rfl rfl dX6_effectOn_21 rfl ?_
      refine x_aload_n C 25 dX6_effectOn_24 rfl rfl ?_
      refine xm_get C 28 fg_X6_effectOn_98 rfl dX6_effectOn_25 rfl ?_
      refine x_top (show _ = (0) from rfl) ?_
      refine x_if_ne C 40 31 dX6_effectOn_28 (by decide) rfl (fun zk28 => ?_) (fun zk28 => ?_)
      · exact absurd zk28 (by decide)
      · refine x_aload_n C 32 dX6_effectOn_31 rfl rfl ?_
        refine x_iload_n C 33 dX6_effectOn_32 rfl rfl ?_
        refine x_iload_n C 34 dX6_effectOn_33 rfl rfl ?_
        refine x_callV0_i C 37 0 0 0 10 2 (cM_gives hl _ _ (by omega) hc hee.1 (by omega) (hM.2.2.2.2.2.2.2 e hx)) rfl gX6_effectOn_X6_gives ⟨rfl, by decide, by decide, rfl⟩ ⟨Nat.le_of_ble_eq_true rfl, Nat.le_of_ble_eq_true rfl⟩ rfl rfl rfl rfl (Nat.le_of_ble_eq_true rfl) ⟨Nat.le_of_ble_eq_true rfl, Nat.le_of_ble_eq_true rfl⟩ dX6_effectOn_34 rfl rfl rfl (fun r3 w3 h3 => ?_)
        obtain ⟨rfl, rfl⟩ := h3
        refine x_goto C 41 dX6_effectOn_37 (by decide) ?_
        exact x_zret C0 dX6_effectOn_41 (Nat.le_of_ble_eq_true rfl) (Nat.le_of_ble_eq_true rfl) ⟨_, rfl, ⟨rfl, rfl⟩⟩
theorem fp_X6_park_98 : pF RX6 wsX6_park 98 10 35 false (.int) := ⟨RX6, TX6, 36, "StageConsoleModel", tyX6, rfl, fun w h => (List.mem_cons_of_mem _ (List.mem_append_left _ (List.mem_append_right _ h))), by decide, (List.mem_cons_of_mem _ (List.mem_append_left _ (List.mem_append_left _ (List.mem_of_getElem? (i := 0) rfl)))), Or.inl rfl, tyX6_ok, nmX6, rfl, rfl, fun h => absurd h (by decide)⟩
theorem fg_X6_park_98 : gF RX6 wsX6_park 98 10 35 := ⟨RX6, TX6, 36, "StageConsoleModel", rfl, fun w h => (List.mem_cons_of_mem _ (List.mem_append_left _ (List.mem_append_right _ h))), by decide, (List.mem_cons_of_mem _ (List.mem_append_left _ (List.mem_append_left _ (List.mem_of_getElem? (i := 0) rfl)))), Or.inl rfl⟩
set_option maxRecDepth 100000 in
set_option maxHeartbeats 4000000 in
theorem cM_park_1 (hl : l.stackTraces = false) {I : Nat → Nat → Int32} {ch lv : Int32} (hc : chB ch = false) : Ct (gm D a E0) l yX6_park wsX6_park { frames := 12, cells := 0, slots := 0, locals := 300 } [.ref m, .int ch, .int lv] (wM m am a I en) (qI fun v w => v = -1 ∧ w = wM m am a (uI I 30 8 1) en) noX := by
  refine Ct.of [some (.ref m), some (.int ch), some (.int lv), none] rfl hl (by decide) (Nat.le_of_ble_eq_true rfl) rfl (fun φ C0 => ?_)
  have C := C0.1
  refine x_aload_n C 1 dX6_park_0 rfl rfl ?_
  refine x_iload_n C 2 dX6_park_1 rfl rfl ?_
  refine x_callS0_i C 5 0 0 1 (cM_isChannel hl _ _) rfl gX6_park_X6_isChannel ⟨by decide, by decide, rfl⟩ ⟨Nat.le_of_ble_eq_true rfl, Nat.le_of_ble_eq_true rfl⟩ rfl rfl (Nat.le_of_ble_eq_true rfl) ⟨Nat.le_of_ble_eq_true rfl, Nat.le_of_ble_eq_true rfl⟩ dX6_park_2 rfl rfl rfl (fun r1 w1 h1 => ?_)
  obtain ⟨rfl, rfl⟩ := h1
  refine x_top (show _ = (0 : Int32) from by rw [hc]; rfl) ?_
  refine x_if_ne C 12 8 dX6_park_5 (by decide) rfl (fun zk5 => ?_) (fun zk5 => ?_)
  · exact absurd zk5 (by decide)
  · refine x_iconst (v := (1)) C 9 dX6_park_8 (by decide) rfl ?_
    refine x_goto C 24 dX6_park_9 (by decide) ?_
    refine xm_put C 27 8 (by decide) fp_X6_park_98 rfl rfl dX6_park_24 rfl ?_
    refine x_aload_n C 28 dX6_park_27 rfl rfl ?_
    refine xm_get C 31 fg_X6_park_98 rfl dX6_park_28 rfl ?_
    refine x_top (show _ = (1) from rfl) ?_
    refine x_if_le C 36 34 dX6_park_31 (by decide) rfl (fun zk31 => ?_) (fun zk31 => ?_)
    · exact absurd zk31 (by decide)
    · refine x_iconst (v := (-1)) C 35 dX6_park_34 (by decide) rfl ?_
      exact x_zret C0 dX6_park_35 (Nat.le_of_ble_eq_true rfl) (Nat.le_of_ble_eq_true rfl) ⟨_, rfl, ⟨rfl, rfl⟩⟩
set_option maxRecDepth 100000 in
set_option maxHeartbeats 4000000 in
theorem cM_park_2 (hl : l.stackTraces = false) {I : Nat → Nat → Int32} {c : Nat} {lv : Int32} (hc : c < 12) (hv : lvB lv = false) : Ct (gm D a E0) l yX6_park wsX6_park { frames := 12, cells := 0, slots := 0, locals := 300 } [.ref m, .int (nI c), .int lv] (wM m am a I en) (qI fun v w => v = -1 ∧ w = wM m am a (uI I 30 8 2) en) noX := by
  refine Ct.of [some (.ref m), some (.int (nI c)), some (.int lv), none] rfl hl (by decide) (Nat.le_of_ble_eq_true rfl) rfl (fun φ C0 => ?_)
  have C := C0.1
  refine x_aload_n C 1 dX6_park_0 rfl rfl ?_
  refine x_iload_n C 2 dX6_park_1 rfl rfl ?_
  refine x_callS0_i C 5 0 0 1 (cM_isChannel hl _ _) rfl gX6_park_X6_isChannel ⟨by decide, by decide, rfl⟩ ⟨Nat.le_of_ble_eq_true rfl, Nat.le_of_ble_eq_true rfl⟩ rfl rfl (Nat.le_of_ble_eq_true rfl) ⟨Nat.le_of_ble_eq_true rfl, Nat.le_of_ble_eq_true rfl⟩ dX6_park_2 rfl rfl rfl (fun r1 w1 h1 => ?_)
  obtain ⟨rfl, rfl⟩ := h1
  refine x_top (show _ = (1 : Int32) from by rw [chB_nI hc]; rfl) ?_
  refine x_if_ne C 12 8 dX6_park_5 (by decide) rfl (fun zk5 => ?_) (fun zk5 => ?_)
  · refine x_iload_n C 13 dX6_park_12 rfl rfl ?_
    refine x_callS0_i C 16 0 0 1 (cM_isLevel hl _ _) rfl gX6_park_X6_isLevel ⟨by decide, by decide, rfl⟩ ⟨Nat.le_of_ble_eq_true rfl, Nat.le_of_ble_eq_true rfl⟩ rfl rfl (Nat.le_of_ble_eq_true rfl) ⟨Nat.le_of_ble_eq_true rfl, Nat.le_of_ble_eq_true rfl⟩ dX6_park_13 rfl rfl rfl (fun r2 w2 h2 => ?_)
    obtain ⟨rfl, rfl⟩ := h2
    refine x_top (show _ = (0 : Int32) from by rw [hv]; rfl) ?_
    refine x_if_ne C 23 19 dX6_park_16 (by decide) rfl (fun zk16 => ?_) (fun zk16 => ?_)
    · exact absurd zk16 (by decide)
    · refine x_iconst (v := (2)) C 20 dX6_park_19 (by decide) rfl ?_
      refine x_goto C 24 dX6_park_20 (by decide) ?_
      refine xm_put C 27 8 (by decide) fp_X6_park_98 rfl rfl dX6_park_24 rfl ?_
      refine x_aload_n C 28 dX6_park_27 rfl rfl ?_
      refine xm_get C 31 fg_X6_park_98 rfl dX6_park_28 rfl ?_
      refine x_top (show _ = (2) from rfl) ?_
      refine x_if_le C 36 34 dX6_park_31 (by decide) rfl (fun zk31 => ?_) (fun zk31 => ?_)
      · exact absurd zk31 (by decide)
      · refine x_iconst (v := (-1)) C 35 dX6_park_34 (by decide) rfl ?_
        exact x_zret C0 dX6_park_35 (Nat.le_of_ble_eq_true rfl) (Nat.le_of_ble_eq_true rfl) ⟨_, rfl, ⟨rfl, rfl⟩⟩
  · exact absurd zk5 (by decide)
theorem fg_X6_park_51 : gF RX6 wsX6_park 51 10 15 := ⟨RX6, TX6, 36, "StageConsoleModel", rfl, fun w h => (List.mem_cons_of_mem _ (List.mem_append_left _ (List.mem_append_right _ h))), by decide, (List.mem_cons_of_mem _ (List.mem_append_left _ (List.mem_append_left _ (List.mem_of_getElem? (i := 1) rfl)))), Or.inl rfl⟩
set_option maxRecDepth 100000 in
set_option maxHeartbeats 4000000 in
theorem cM_park_0 (hl : l.stackTraces = false) {I : Nat → Nat → Int32} {c lv : Nat} (hc : c < 12) (hv : lv < 256) : Ct (gm D a E0) l yX6_park wsX6_park { frames := 12, cells := 0, slots := 0, locals := 300 } [.ref m, .int (nI c), .int (nI lv)] (wM m am a I en) (qI fun v w => v = I 13 c ∧ w = wM m am a (uI (uI I 30 8 0) 13 c (nI lv)) en) noX := by
  refine Ct.of [some (.ref m), some (.int (nI c)), some (.int (nI lv)), none] rfl hl (by decide) (Nat.le_of_ble_eq_true rfl) rfl (fun φ C0 => ?_)
  have C := C0.1
  refine x_aload_n C 1 dX6_park_0 rfl rfl ?_
  refine x_iload_n C 2 dX6_park_1 rfl rfl ?_
  refine x_callS0_i C 5 0 0 1 (cM_isChannel hl _ _) rfl gX6_park_X6_isChannel ⟨by decide, by decide, rfl⟩ ⟨Nat.le_of_ble_eq_true rfl, Nat.le_of_ble_eq_true rfl⟩ rfl rfl (Nat.le_of_ble_eq_true rfl) ⟨Nat.le_of_ble_eq_true rfl, Nat.le_of_ble_eq_true rfl⟩ dX6_park_2 rfl rfl rfl (fun r1 w1 h1 => ?_)
  obtain ⟨rfl, rfl⟩ := h1
  refine x_top (show _ = (1 : Int32) from by rw [chB_nI hc]; rfl) ?_
  refine x_if_ne C 12 8 dX6_park_5 (by decide) rfl (fun zk5 => ?_) (fun zk5 => ?_)
  · refine x_iload_n C 13 dX6_park_12 rfl rfl ?_
    refine x_callS0_i C 16 0 0 1 (cM_isLevel hl _ _) rfl gX6_park_X6_isLevel ⟨by decide, by decide, rfl⟩ ⟨Nat.le_of_ble_eq_true rfl, Nat.le_of_ble_eq_true rfl⟩ rfl rfl (Nat.le_of_ble_eq_true rfl) ⟨Nat.le_of_ble_eq_true rfl, Nat.le_of_ble_eq_true rfl⟩ dX6_park_13 rfl rfl rfl (fun r2 w2 h2 => ?_)
    obtain ⟨rfl, rfl⟩ := h2
    refine x_top (show _ = (1 : Int32) from by rw [lvB_nI hv]; rfl) ?_
    refine x_if_ne C 23 19 dX6_park_16 (by decide) rfl (fun zk16 => ?_) (fun zk16 => ?_)
    · refine x_iconst (v := (0)) C 24 dX6_park_23 (by decide) rfl ?_
      refine xm_put C 27 8 (by decide) fp_X6_park_98 rfl rfl dX6_park_24 rfl ?_
      refine x_aload_n C 28 dX6_park_27 rfl rfl ?_
      refine xm_get C 31 fg_X6_park_98 rfl dX6_park_28 rfl ?_
      refine x_top (show _ = (0) from rfl) ?_
      refine x_if_le C 36 34 dX6_park_31 (by decide) rfl (fun zk31 => ?_) (fun zk31 => ?_)
      · refine x_aload_n C 37 dX6_park_36 rfl rfl ?_
        refine xm_get C 40 fg_X6_park_51 rfl dX6_park_37 rfl ?_
        refine x_iload_n C 41 dX6_park_40 rfl rfl ?_
        refine xm_iald C 42 13 12 (c) (by decide) rfl rfl rfl (by omega) dX6_park_41 rfl ?_
        refine x_nm (fun v ev => ?_)
        refine x_istore_n C 43 dX6_park_42 (by decide) rfl rfl ?_
        refine x_aload_n C 44 dX6_park_43 rfl rfl ?_
        refine xm_get C 47 fg_X6_park_51 rfl dX6_park_44 rfl ?_
        refine x_iload_n C 48 dX6_park_47 rfl rfl ?_
        refine x_iload_n C 49 dX6_park_48 rfl rfl ?_
        refine xm_iast C 50 13 12 (c) (by decide) rfl rfl rfl (by omega) dX6_park_49 rfl ?_
        refine x_iload_n C 51 dX6_park_50 rfl rfl ?_
        exact x_zret C0 dX6_park_51 (Nat.le_of_ble_eq_true rfl) (Nat.le_of_ble_eq_true rfl) ⟨_, rfl, ⟨ev, rfl⟩⟩
      · exact absurd zk31 (by decide)
    · exact absurd zk16 (by decide)
  · exact absurd zk5 (by decide)
theorem fp_X6_unpark_98 : pF RX6 wsX6_unpark 98 10 35 false (.int) := ⟨RX6, TX6, 36, "StageConsoleModel", tyX6, rfl, fun w h => (List.mem_cons_of_mem _ (List.mem_append_left _ (List.mem_append_right _ h))), by decide, (List.mem_cons_of_mem _ (List.mem_append_left _ (List.mem_append_left _ (List.mem_of_getElem? (i := 1) rfl)))), Or.inl rfl, tyX6_ok, nmX6, rfl, rfl, fun h => absurd h (by decide)⟩
theorem fg_X6_unpark_98 : gF RX6 wsX6_unpark 98 10 35 := ⟨RX6, TX6, 36, "StageConsoleModel", rfl, fun w h => (List.mem_cons_of_mem _ (List.mem_append_left _ (List.mem_append_right _ h))), by decide, (List.mem_cons_of_mem _ (List.mem_append_left _ (List.mem_append_left _ (List.mem_of_getElem? (i := 1) rfl)))), Or.inl rfl⟩
set_option maxRecDepth 100000 in
set_option maxHeartbeats 4000000 in
theorem cM_unpark_1 (hl : l.stackTraces = false) {I : Nat → Nat → Int32} {ch : Int32} (hc : chB ch = false) : Ct (gm D a E0) l yX6_unpark wsX6_unpark { frames := 12, cells := 0, slots := 0, locals := 300 } [.ref m, .int ch] (wM m am a I en) (qI fun v w => v = -1 ∧ w = wM m am a (uI I 30 8 1) en) noX := by
  refine Ct.of [some (.ref m), some (.int ch), none] rfl hl (by decide) (Nat.le_of_ble_eq_true rfl) rfl (fun φ C0 => ?_)
  have C := C0.1
  refine x_aload_n C 1 dX6_unpark_0 rfl rfl ?_
  refine x_iload_n C 2 dX6_unpark_1 rfl rfl ?_
  refine x_callS0_i C 5 0 0 1 (cM_isChannel hl _ _) rfl gX6_unpark_X6_isChannel ⟨by decide, by decide, rfl⟩ ⟨Nat.le_of_ble_eq_true rfl, Nat.le_of_ble_eq_true rfl⟩ rfl rfl (Nat.le_of_ble_eq_true rfl) ⟨Nat.le_of_ble_eq_true rfl, Nat.le_of_ble_eq_true rfl⟩ dX6_unpark_2 rfl rfl rfl (fun r1 w1 h1 => ?_)
  obtain ⟨rfl, rfl⟩ := h1
  refine x_top (show _ = (0 : Int32) from by rw [hc]; rfl) ?_
  refine x_if_ne C 12 8 dX6_unpark_5 (by decide) rfl (fun zk5 => ?_) (fun zk5 => ?_)
  · exact absurd zk5 (by decide)
  · refine x_iconst (v := (1)) C 9 dX6_unpark_8 (by decide) rfl ?_
    refine x_goto C 27 dX6_unpark_9 (by decide) ?_
    refine xm_put C 30 8 (by decide) fp_X6_unpark_98 rfl rfl dX6_unpark_27 rfl ?_
    refine x_aload_n C 31 dX6_unpark_30 rfl rfl ?_
    refine xm_get C 34 fg_X6_unpark_98 rfl dX6_unpark_31 rfl ?_
    refine x_top (show _ = (1) from rfl) ?_
    refine x_if_le C 39 37 dX6_unpark_34 (by decide) rfl (fun zk34 => ?_) (fun zk34 => ?_)
    · exact absurd zk34 (by decide)
    · refine x_iconst (v := (-1)) C 38 dX6_unpark_37 (by decide) rfl ?_
      exact x_zret C0 dX6_unpark_38 (Nat.le_of_ble_eq_true rfl) (Nat.le_of_ble_eq_true rfl) ⟨_, rfl, ⟨rfl, rfl⟩⟩
theorem fg_X6_unpark_51 : gF RX6 wsX6_unpark 51 10 15 := ⟨RX6, TX6, 36, "StageConsoleModel", rfl, fun w h => (List.mem_cons_of_mem _ (List.mem_append_left _ (List.mem_append_right _ h))), by decide, (List.mem_cons_of_mem _ (List.mem_append_left _ (List.mem_append_left _ (List.mem_of_getElem? (i := 0) rfl)))), Or.inl rfl⟩
set_option maxRecDepth 100000 in
set_option maxHeartbeats 4000000 in
theorem cM_unpark_2 (hl : l.stackTraces = false) {I : Nat → Nat → Int32} {c : Nat} (hc : c < 12) (hv : I 13 c = -1) : Ct (gm D a E0) l yX6_unpark wsX6_unpark { frames := 12, cells := 0, slots := 0, locals := 300 } [.ref m, .int (nI c)] (wM m am a I en) (qI fun v w => v = -1 ∧ w = wM m am a (uI I 30 8 2) en) noX := by
  refine Ct.of [some (.ref m), some (.int (nI c)), none] rfl hl (by decide) (Nat.le_of_ble_eq_true rfl) rfl (fun φ C0 => ?_)
  have C := C0.1
  refine x_aload_n C 1 dX6_unpark_0 rfl rfl ?_
  refine x_iload_n C 2 dX6_unpark_1 rfl rfl ?_
  refine x_callS0_i C 5 0 0 1 (cM_isChannel hl _ _) rfl gX6_unpark_X6_isChannel ⟨by decide, by decide, rfl⟩ ⟨Nat.le_of_ble_eq_true rfl, Nat.le_of_ble_eq_true rfl⟩ rfl rfl (Nat.le_of_ble_eq_true rfl) ⟨Nat.le_of_ble_eq_true rfl, Nat.le_of_ble_eq_true rfl⟩ dX6_unpark_2 rfl rfl rfl (fun r1 w1 h1 => ?_)
  obtain ⟨rfl, rfl⟩ := h1
  refine x_top (show _ = (1 : Int32) from by rw [chB_nI hc]; rfl) ?_
  refine x_if_ne C 12 8 dX6_unpark_5 (by decide) rfl (fun zk5 => ?_) (fun zk5 => ?_)
  · refine x_aload_n C 13 dX6_unpark_12 rfl rfl ?_
    refine xm_get C 16 fg_X6_unpark_51 rfl dX6_unpark_13 rfl ?_
    refine x_iload_n C 17 dX6_unpark_16 rfl rfl ?_
    refine xm_iald C 18 13 12 (c) (by decide) rfl rfl rfl (by omega) dX6_unpark_17 rfl ?_
    refine x_iconst (v := (-1)) C 19 dX6_unpark_18 (by decide) rfl ?_
    refine x_icmp_ne C 26 22 dX6_unpark_19 (by decide) rfl (fun zk19 => ?_) (fun zk19 => ?_)
    · exact absurd hv zk19
    · refine x_iconst (v := (2)) C 23 dX6_unpark_22 (by decide) rfl ?_
      refine x_goto C 27 dX6_unpark_23 (by decide) ?_
      refine xm_put C 30 8 (by decide) fp_X6_unpark_98 rfl rfl dX6_unpark_27 rfl ?_
      refine x_aload_n C 31 dX6_unpark_30 rfl rfl ?_
      refine xm_get C 34 fg_X6_unpark_98 rfl dX6_unpark_31 rfl ?_
      refine x_top (show _ = (2) from rfl) ?_
      refine x_if_le C 39 37 dX6_unpark_34 (by decide) rfl (fun zk34 => ?_) (fun zk34 => ?_)
      · exact absurd zk34 (by decide)
      · refine x_iconst (v := (-1)) C 38 dX6_unpark_37 (by decide) rfl ?_
        exact x_zret C0 dX6_unpark_38 (Nat.le_of_ble_eq_true rfl) (Nat.le_of_ble_eq_true rfl) ⟨_, rfl, ⟨rfl, rfl⟩⟩
  · exact absurd zk5 (by decide)
set_option maxRecDepth 100000 in
set_option maxHeartbeats 4000000 in
theorem cM_unpark_0 (hl : l.stackTraces = false) {I : Nat → Nat → Int32} {c : Nat} (hc : c < 12) (hv : ¬ I 13 c = -1) : Ct (gm D a E0) l yX6_unpark wsX6_unpark { frames := 12, cells := 0, slots := 0, locals := 300 } [.ref m, .int (nI c)] (wM m am a I en) (qI fun v w => v = I 13 c ∧ w = wM m am a (uI (uI I 30 8 0) 13 c (-1)) en) noX := by
  refine Ct.of [some (.ref m), some (.int (nI c)), none] rfl hl (by decide) (Nat.le_of_ble_eq_true rfl) rfl (fun φ C0 => ?_)
  have C := C0.1
  refine x_aload_n C 1 dX6_unpark_0 rfl rfl ?_
  refine x_iload_n C 2 dX6_unpark_1 rfl rfl ?_
  refine x_callS0_i C 5 0 0 1 (cM_isChannel hl _ _) rfl gX6_unpark_X6_isChannel ⟨by decide, by decide, rfl⟩ ⟨Nat.le_of_ble_eq_true rfl, Nat.le_of_ble_eq_true rfl⟩ rfl rfl (Nat.le_of_ble_eq_true rfl) ⟨Nat.le_of_ble_eq_true rfl, Nat.le_of_ble_eq_true rfl⟩ dX6_unpark_2 rfl rfl rfl (fun r1 w1 h1 => ?_)
  obtain ⟨rfl, rfl⟩ := h1
  refine x_top (show _ = (1 : Int32) from by rw [chB_nI hc]; rfl) ?_
  refine x_if_ne C 12 8 dX6_unpark_5 (by decide) rfl (fun zk5 => ?_) (fun zk5 => ?_)
  · refine x_aload_n C 13 dX6_unpark_12 rfl rfl ?_
    refine xm_get C 16 fg_X6_unpark_51 rfl dX6_unpark_13 rfl ?_
    refine x_iload_n C 17 dX6_unpark_16 rfl rfl ?_
    refine xm_iald C 18 13 12 (c) (by decide) rfl rfl rfl (by omega) dX6_unpark_17 rfl ?_
    refine x_iconst (v := (-1)) C 19 dX6_unpark_18 (by decide) rfl ?_
    refine x_icmp_ne C 26 22 dX6_unpark_19 (by decide) rfl (fun zk19 => ?_) (fun zk19 => ?_)
    · refine x_iconst (v := (0)) C 27 dX6_unpark_26 (by decide) rfl ?_
      refine xm_put C 30 8 (by decide) fp_X6_unpark_98 rfl rfl dX6_unpark_27 rfl ?_
      refine x_aload_n C 31 dX6_unpark_30 rfl rfl ?_
      refine xm_get C 34 fg_X6_unpark_98 rfl dX6_unpark_31 rfl ?_
      refine x_top (show _ = (0) from rfl) ?_
      refine x_if_le C 39 37 dX6_unpark_34 (by decide) rfl (fun zk34 => ?_) (fun zk34 => ?_)
      · refine x_aload_n C 40 dX6_unpark_39 rfl rfl ?_
        refine xm_get C 43 fg_X6_unpark_51 rfl dX6_unpark_40 rfl ?_
        refine x_iload_n C 44 dX6_unpark_43 rfl rfl ?_
        refine xm_iald C 45 13 12 (c) (by decide) rfl rfl rfl (by omega) dX6_unpark_44 rfl ?_
        refine x_nm (fun v ev => ?_)
        refine x_istore_n C 46 dX6_unpark_45 (by decide) rfl rfl ?_
        refine x_aload_n C 47 dX6_unpark_46 rfl rfl ?_
        refine xm_get C 50 fg_X6_unpark_51 rfl dX6_unpark_47 rfl ?_
        refine x_iload_n C 51 dX6_unpark_50 rfl rfl ?_
        refine x_iconst (v := (-1)) C 52 dX6_unpark_51 (by decide) rfl ?_
        refine xm_iast C 53 13 12 (c) (by decide) rfl rfl rfl (by omega) dX6_unpark_52 rfl ?_
        refine x_iload_n C 54 dX6_unpark_53 rfl rfl ?_
        exact x_zret C0 dX6_unpark_54 (Nat.le_of_ble_eq_true rfl) (Nat.le_of_ble_eq_true rfl) ⟨_, rfl, ⟨ev, rfl⟩⟩
      · exact absurd zk34 (by decide)
    · exact absurd zk19 hv
  · exact absurd zk5 (by decide)
theorem fp_X6_setMaster_98 : pF RX6 wsX6_setMaster 98 10 35 false (.int) := ⟨RX6, TX6, 36, "StageConsoleModel", tyX6, rfl, fun w h => (List.mem_cons_of_mem _ (List.mem_append_right _ h)), by decide, (List.mem_cons_of_mem _ (List.mem_append_left _ (List.mem_of_getElem? (i := 0) rfl))), Or.inl rfl, tyX6_ok, nmX6, rfl, rfl, fun h => absurd h (by decide)⟩
theorem fg_X6_setMaster_98 : gF RX6 wsX6_setMaster 98 10 35 := ⟨RX6, TX6, 36, "StageConsoleModel", rfl, fun w h => (List.mem_cons_of_mem _ (List.mem_append_right _ h)), by decide, (List.mem_cons_of_mem _ (List.mem_append_left _ (List.mem_of_getElem? (i := 0) rfl))), Or.inl rfl⟩
set_option maxRecDepth 100000 in
set_option maxHeartbeats 4000000 in
theorem cM_setMaster_1 (hl : l.stackTraces = false) {I : Nat → Nat → Int32} {lv : Int32} (hv : lvB lv = false) : Ct (gm D a E0) l yX6_setMaster wsX6_setMaster { frames := 12, cells := 0, slots := 0, locals := 300 } [.ref m, .int lv] (wM m am a I en) (qI fun v w => v = -1 ∧ w = wM m am a (uI I 30 8 1) en) noX := by
  refine Ct.of [some (.ref m), some (.int lv), none] rfl hl (by decide) (Nat.le_of_ble_eq_true rfl) rfl (fun φ C0 => ?_)
  have C := C0.1
  refine x_aload_n C 1 dX6_setMaster_0 rfl rfl ?_
  refine x_iload_n C 2 dX6_setMaster_1 rfl rfl ?_
  refine x_callS0_i C 5 0 0 1 (cM_isLevel hl _ _) rfl gX6_setMaster_X6_isLevel ⟨by decide, by decide, rfl⟩ ⟨Nat.le_of_ble_eq_true rfl, Nat.le_of_ble_eq_true rfl⟩ rfl rfl (Nat.le_of_ble_eq_true rfl) ⟨Nat.le_of_ble_eq_true rfl, Nat.le_of_ble_eq_true rfl⟩ dX6_setMaster_2 rfl rfl rfl (fun r1 w1 h1 => ?_)
  obtain ⟨rfl, rfl⟩ := h1
  refine x_top (show _ = (0 : Int32) from by rw [hv]; rfl) ?_
  refine x_if_eq C 12 8 dX6_setMaster_5 (by decide) rfl (fun zk5 => ?_) (fun zk5 => ?_)
  · refine x_iconst (v := (1)) C 13 dX6_setMaster_12 (by decide) rfl ?_
    refine xm_put C 16 8 (by decide) fp_X6_setMaster_98 rfl rfl dX6_setMaster_13 rfl ?_
    refine x_aload_n C 17 dX6_setMaster_16 rfl rfl ?_
    refine xm_get C 20 fg_X6_setMaster_98 rfl dX6_setMaster_17 rfl ?_
    refine x_top (show _ = (1) from rfl) ?_
    refine x_if_le C 25 23 dX6_setMaster_20 (by decide) rfl (fun zk20 => ?_) (fun zk20 => ?_)
    · exact absurd zk20 (by decide)
    · refine x_iconst (v := (-1)) C 24 dX6_setMaster_23 (by decide) rfl ?_
      exact x_zret C0 dX6_setMaster_24 (Nat.le_of_ble_eq_true rfl) (Nat.le_of_ble_eq_true rfl) ⟨_, rfl, ⟨rfl, rfl⟩⟩
  · exact absurd zk5 (by decide)
theorem fg_X6_setMaster_94 : gF RX6 wsX6_setMaster 94 10 33 := ⟨RX6, TX6, 36, "StageConsoleModel", rfl, fun w h => (List.mem_cons_of_mem _ (List.mem_append_right _ h)), by decide, (List.mem_cons_of_mem _ (List.mem_append_left _ (List.mem_of_getElem? (i := 1) rfl))), Or.inl rfl⟩
theorem fp_X6_setMaster_94 : pF RX6 wsX6_setMaster 94 10 33 false (.int) := ⟨RX6, TX6, 36, "StageConsoleModel", tyX6, rfl, fun w h => (List.mem_cons_of_mem _ (List.mem_append_right _ h)), by decide, (List.mem_cons_of_mem _ (List.mem_append_left _ (List.mem_of_getElem? (i := 1) rfl))), Or.inl rfl, tyX6_ok, nmX6, rfl, rfl, fun h => absurd h (by decide)⟩
set_option maxRecDepth 100000 in
set_option maxHeartbeats 4000000 in
theorem cM_setMaster_0 (hl : l.stackTraces = false) {I : Nat → Nat → Int32} {lv : Nat} (hv : lv < 256) : Ct (gm D a E0) l yX6_setMaster wsX6_setMaster { frames := 12, cells := 0, slots := 0, locals := 300 } [.ref m, .int (nI lv)] (wM m am a I en) (qI fun v w => v = I 30 7 ∧ w = wM m am a (uI (uI I 30 8 0) 30 7 (nI lv)) en) noX := by
  refine Ct.of [some (.ref m), some (.int (nI lv)), none] rfl hl (by decide) (Nat.le_of_ble_eq_true rfl) rfl (fun φ C0 => ?_)
  have C := C0.1
  refine x_aload_n C 1 dX6_setMaster_0 rfl rfl ?_
  refine x_iload_n C 2 dX6_setMaster_1 rfl rfl ?_
  refine x_callS0_i C 5 0 0 1 (cM_isLevel hl _ _) rfl gX6_setMaster_X6_isLevel ⟨by decide, by decide, rfl⟩ ⟨Nat.le_of_ble_eq_true rfl, Nat.le_of_ble_eq_true rfl⟩ rfl rfl (Nat.le_of_ble_eq_true rfl) ⟨Nat.le_of_ble_eq_true rfl, Nat.le_of_ble_eq_true rfl⟩ dX6_setMaster_2 rfl rfl rfl (fun r1 w1 h1 => ?_)
  obtain ⟨rfl, rfl⟩ := h1
  refine x_top (show _ = (1 : Int32) from by rw [lvB_nI hv]; rfl) ?_
  refine x_if_eq C 12 8 dX6_setMaster_5 (by decide) rfl (fun zk5 => ?_) (fun zk5 => ?_)
  · exact absurd zk5 (by decide)
  · refine x_iconst (v := (0)) C 9 dX6_setMaster_8 (by decide) rfl ?_
    refine x_goto C 13 dX6_setMaster_9 (by decide) ?_
    refine xm_put C 16 8 (by decide) fp_X6_setMaster_98 rfl rfl dX6_setMaster_13 rfl ?_
    refine x_aload_n C 17 dX6_setMaster_16 rfl rfl ?_
    refine xm_get C 20 fg_X6_setMaster_98 rfl dX6_setMaster_17 rfl ?_
    refine x_top (show _ = (0) from rfl) ?_
    refine x_if_le C 25 23 dX6_setMaster_20 (by decide) rfl (fun zk20 => ?_) (fun zk20 => ?_)
    · refine x_aload_n C 26 dX6_setMaster_25 rfl rfl ?_
      refine xm_get C 29 fg_X6_setMaster_94 rfl dX6_setMaster_26 rfl ?_
      refine x_nm (fun v ev => ?_)
      refine x_istore_n C 30 dX6_setMaster_29 (by decide) rfl rfl ?_
      refine x_aload_n C 31 dX6_setMaster_30 rfl rfl ?_
      refine x_iload_n C 32 dX6_setMaster_31 rfl rfl ?_
      refine xm_put C 35 7 (by decide) fp_X6_setMaster_94 rfl rfl dX6_setMaster_32 rfl ?_
      refine x_iload_n C 36 dX6_setMaster_35 rfl rfl ?_
      exact x_zret C0 dX6_setMaster_36 (Nat.le_of_ble_eq_true rfl) (Nat.le_of_ble_eq_true rfl) ⟨_, rfl, ⟨ev, rfl⟩⟩
    · exact absurd zk20 (by decide)
set_option maxRecDepth 100000 in
set_option maxHeartbeats 4000000 in
theorem cM_isCall (hl : l.stackTraces = false) (x : Int32) (ws : va_W) : Ct Γ l yX6_isCall wsX6_isCall { frames := 4, cells := 0, slots := 0, locals := 100 } [.int x] (ws) (qI fun v w => v = bI (caB x) ∧ w = ws) noX := by
  refine Ct.of [some (.int x)] rfl hl (by decide) (Nat.le_of_ble_eq_true rfl) rfl (fun φ C0 => ?_)
  have C := C0.1
  refine x_iload_n C 1 dX6_isCall_0 rfl rfl ?_
  refine x_bipush (v := (103)) C 3 dX6_isCall_1 (by decide) rfl ?_
  refine x_icmp_eq C 42 6 dX6_isCall_3 (by decide) rfl (fun zk3 => ?_) (fun zk3 => ?_)
  · refine x_iconst (v := (1)) C 43 dX6_isCall_42 (by decide) rfl ?_
    refine x_goto C 47 dX6_isCall_43 (by decide) ?_
    exact x_nret C0 rfl (rfl) dX6_isCall_47 (Nat.le_of_ble_eq_true rfl) (Nat.le_of_ble_eq_true rfl) ⟨_, rfl, ⟨by simp_all [caB, bI], rfl⟩⟩
  · refine x_iload_n C 7 dX6_isCall_6 rfl rfl ?_
    refine x_bipush (v := (98)) C 9 dX6_isCall_7 (by decide) rfl ?_
    refine x_icmp_eq C 42 12 dX6_isCall_9 (by decide) rfl (fun zk9 => ?_) (fun zk9 => ?_)
    · refine x_iconst (v := (1)) C 43 dX6_isCall_42 (by decide) rfl ?_
      refine x_goto C 47 dX6_isCall_43 (by decide) ?_
      exact x_nret C0 rfl (rfl) dX6_isCall_47 (Nat.le_of_ble_eq_true rfl) (Nat.le_of_ble_eq_true rfl) ⟨_, rfl, ⟨by simp_all [caB, bI], rfl⟩⟩
    · refine x_iload_n C 13 dX6_isCall_12 rfl rfl ?_
      refine x_bipush (v := (116)) C 15 dX6_isCall_13 (by decide) rfl ?_
      refine x_icmp_eq C 42 18 dX6_isCall_15 (by decide) rfl (fun zk15 => ?_) (fun zk15 => ?_)
      · refine x_iconst (v := (1)) C 43 dX6_isCall_42 (by decide) rfl ?_
        refine x_goto C 47 dX6_isCall_43 (by decide) ?_
        exact x_nret C0 rfl (rfl) dX6_isCall_47 (Nat.le_of_ble_eq_true rfl) (Nat.le_of_ble_eq_true rfl) ⟨_, rfl, ⟨by simp_all [caB, bI], rfl⟩⟩
      · refine x_iload_n C 19 dX6_isCall_18 rfl rfl ?_
        refine x_bipush (v := (102)) C 21 dX6_isCall_19 (by decide) rfl ?_
        refine x_icmp_eq C 42 24 dX6_isCall_21 (by decide) rfl (fun zk21 => ?_) (fun zk21 => ?_)
        · refine x_iconst (v := (1)) C 43 dX6_isCall_42 (by decide) rfl ?_
          refine x_goto C 47 dX6_isCall_43 (by decide) ?_
          exact x_nret C0 rfl (rfl) dX6_isCall_47 (Nat.le_of_ble_eq_true rfl) (Nat.le_of_ble_eq_true rfl) ⟨_, rfl, ⟨by simp_all [caB, bI], rfl⟩⟩
        · refine x_iload_n C 25 dX6_isCall_24 rfl rfl ?_
          refine x_bipush (v := (109)) C 27 dX6_isCall_25 (by decide) rfl ?_
          refine x_icmp_eq C 42 30 dX6_isCall_27 (by decide) rfl (fun zk27 => ?_) (fun zk27 => ?_)
          · refine x_iconst (v := (1)) C 43 dX6_isCall_42 (by decide) rfl ?_
            refine x_goto C 47 dX6_isCall_43 (by decide) ?_
            exact x_nret C0 rfl (rfl) dX6_isCall_47 (Nat.le_of_ble_eq_true rfl) (Nat.le_of_ble_eq_true rfl) ⟨_, rfl, ⟨by simp_all [caB, bI], rfl⟩⟩
          · refine x_iload_n C 31 dX6_isCall_30 rfl rfl ?_
            refine x_bipush (v := (112)) C 33 dX6_isCall_31 (by decide) rfl ?_
            refine x_icmp_eq C 42 36 dX6_isCall_33 (by decide) rfl (fun zk33 => ?_) (fun zk33 => ?_)
            · refine x_iconst (v := (1)) C 43 dX6_isCall_42 (by decide) rfl ?_
              refine x_goto C 47 dX6_isCall_43 (by decide) ?_
              exact x_nret C0 rfl (rfl) dX6_isCall_47 (Nat.le_of_ble_eq_true rfl) (Nat.le_of_ble_eq_true rfl) ⟨_, rfl, ⟨by simp_all [caB, bI], rfl⟩⟩
            · refine x_iload_n C 37 dX6_isCall_36 rfl rfl ?_
              refine x_bipush (v := (119)) C 39 dX6_isCall_37 (by decide) rfl ?_
              refine x_icmp_ne C 46 42 dX6_isCall_39 (by decide) rfl (fun zk39 => ?_) (fun zk39 => ?_)
              · refine x_iconst (v := (0)) C 47 dX6_isCall_46 (by decide) rfl ?_
                exact x_nret C0 rfl (rfl) dX6_isCall_47 (Nat.le_of_ble_eq_true rfl) (Nat.le_of_ble_eq_true rfl) ⟨_, rfl, ⟨by simp_all [caB, bI], rfl⟩⟩
              · refine x_iconst (v := (1)) C 43 dX6_isCall_42 (by decide) rfl ?_
                refine x_goto C 47 dX6_isCall_43 (by decide) ?_
                exact x_nret C0 rfl (rfl) dX6_isCall_47 (Nat.le_of_ble_eq_true rfl) (Nat.le_of_ble_eq_true rfl) ⟨_, rfl, ⟨by simp_all [caB, bI], rfl⟩⟩
theorem fp_X6_addStep_98 : pF RX6 wsX6_addStep 98 10 35 false (.int) := ⟨RX6, TX6, 36, "StageConsoleModel", tyX6, rfl, fun w h => (List.mem_cons_of_mem _ (List.mem_append_left _ (List.mem_append_right _ h))), by decide, (List.mem_cons_of_mem _ (List.mem_append_left _ (List.mem_append_left _ (List.mem_of_getElem? (i := 1) rfl)))), Or.inl rfl, tyX6_ok, nmX6, rfl, rfl, fun h => absurd h (by decide)⟩
theorem fg_X6_addStep_98 : gF RX6 wsX6_addStep 98 10 35 := ⟨RX6, TX6, 36, "StageConsoleModel", rfl, fun w h => (List.mem_cons_of_mem _ (List.mem_append_left _ (List.mem_append_right _ h))), by decide, (List.mem_cons_of_mem _ (List.mem_append_left _ (List.mem_append_left _ (List.mem_of_getElem? (i := 1) rfl)))), Or.inl rfl⟩
set_option maxRecDepth 100000 in
set_option maxHeartbeats 4000000 in
theorem cM_addStep_1 (hl : l.stackTraces = false) {I : Nat → Nat → Int32} {nt : Nat} (h4 : I 30 4 = nI nt) (hn : nt ≤ 8) {cl p1 p2 : Int32} (hc : caB cl = false) : Ct (gm D a E0) l yX6_addStep wsX6_addStep { frames := 12, cells := 0, slots := 0, locals := 300 } [.ref m, .int cl, .int p1, .int p2] (wM m am a I en) (qI fun v w => v = -1 ∧ w = wM m am a (uI I 30 8 1) en) noX := by
  refine Ct.of [some (.ref m), some (.int cl), some (.int p1), some (.int p2)] rfl hl (by decide) (Nat.le_of_ble_eq_true rfl) rfl (fun φ C0 => ?_)
  have C := C0.1
  refine x_aload_n C 1 dX6_addStep_0 rfl rfl ?_
  refine x_iload_n C 2 dX6_addStep_1 rfl rfl ?_
  refine x_callS0_i C 5 0 0 1 (cM_isCall hl _ _) rfl gX6_addStep_X6_isCall ⟨by decide, by decide, rfl⟩ ⟨Nat.le_of_ble_eq_true rfl, Nat.le_of_ble_eq_true rfl⟩ rfl rfl (Nat.le_of_ble_eq_true rfl) ⟨Nat.le_of_ble_eq_true rfl, Nat.le_of_ble_eq_true rfl⟩ dX6_addStep_2 rfl rfl rfl (fun r1 w1 h1 => ?_)
  obtain ⟨rfl, rfl⟩ := h1
  refine x_top (show _ = (0 : Int32) from by rw [hc]; rfl) ?_
  refine x_if_ne C 12 8 dX6_addStep_5 (by decide) rfl (fun zk5 => ?_) (fun zk5 => ?_)
  · exact absurd zk5 (by decide)
  · refine x_iconst (v := (1)) C 9 dX6_addStep_8 (by decide) rfl ?_
    refine x_goto C 26 dX6_addStep_9 (by decide) ?_
    refine xm_put C 29 8 (by decide) fp_X6_addStep_98 rfl rfl dX6_addStep_26 rfl ?_
    refine x_aload_n C 30 dX6_addStep_29 rfl rfl ?_
    refine xm_get C 33 fg_X6_addStep_98 rfl dX6_addStep_30 rfl ?_
    refine x_top (show _ = (1) from rfl) ?_
    refine x_if_le C 38 36 dX6_addStep_33 (by decide) rfl (fun zk33 => ?_) (fun zk33 => ?_)
    · exact absurd zk33 (by decide)
    · refine x_iconst (v := (-1)) C 37 dX6_addStep_36 (by decide) rfl ?_
      exact x_zret C0 dX6_addStep_37 (Nat.le_of_ble_eq_true rfl) (Nat.le_of_ble_eq_true rfl) ⟨_, rfl, ⟨rfl, rfl⟩⟩
theorem fg_X6_addStep_202 : gF RX6 wsX6_addStep 202 10 30 := ⟨RX6, TX6, 36, "StageConsoleModel", rfl, fun w h => (List.mem_cons_of_mem _ (List.mem_append_left _ (List.mem_append_right _ h))), by decide, (List.mem_cons_of_mem _ (List.mem_append_left _ (List.mem_append_left _ (List.mem_of_getElem? (i := 0) rfl)))), Or.inl rfl⟩
set_option maxRecDepth 100000 in
set_option maxHeartbeats 4000000 in
theorem cM_addStep_2 (hl : l.stackTraces = false) {I : Nat → Nat → Int32} {nt : Nat} (h4 : I 30 4 = nI nt) (hn : nt ≤ 8) {cl p1 p2 : Int32} (hc : caB cl = true) (hf : nt = 8) : Ct (gm D a E0) l yX6_addStep wsX6_addStep { frames := 12, cells := 0, slots := 0, locals := 300 } [.ref m, .int cl, .int p1, .int p2] (wM m am a I en) (qI fun v w => v = -1 ∧ w = wM m am a (uI I 30 8 2) en) noX := by
  refine Ct.of [some (.ref m), some (.int cl), some (.int p1), some (.int p2)] rfl hl (by decide) (Nat.le_of_ble_eq_true rfl) rfl (fun φ C0 => ?_)
  have C := C0.1
  refine x_aload_n C 1 dX6_addStep_0 rfl rfl ?_
  refine x_iload_n C 2 dX6_addStep_1 rfl rfl ?_
  refine x_callS0_i C 5 0 0 1 (cM_isCall hl _ _) rfl gX6_addStep_X6_isCall ⟨by decide, by decide, rfl⟩ ⟨Nat.le_of_ble_eq_true rfl, Nat.le_of_ble_eq_true rfl⟩ rfl rfl (Nat.le_of_ble_eq_true rfl) ⟨Nat.le_of_ble_eq_true rfl, Nat.le_of_ble_eq_true rfl⟩ dX6_addStep_2 rfl rfl rfl (fun r1 w1 h1 => ?_)
  obtain ⟨rfl, rfl⟩ := h1
  refine x_top (show _ = (1 : Int32) from by rw [hc]; rfl) ?_
  refine x_if_ne C 12 8 dX6_addStep_5 (by decide) rfl (fun zk5 => ?_) (fun zk5 => ?_)
  · refine x_aload_n C 13 dX6_addStep_12 rfl rfl ?_
    refine xm_get C 16 fg_X6_addStep_202 rfl dX6_addStep_13 rfl ?_
    refine x_top h4 ?_
    refine x_bipush (v := (8)) C 18 dX6_addStep_16 (by decide) rfl ?_
    refine x_icmp_ne C 25 21 dX6_addStep_18 (by decide) rfl (fun zk18 => ?_) (fun zk18 => ?_)
    · have zk18 := mt (nI_eq (a := nt) (b := 8) (by omega) (by omega)).mpr zk18
      exact absurd hf zk18
    · have zk18 := (nI_eq (a := nt) (b := 8) (by omega) (by omega)).mp zk18
      refine x_iconst (v := (2)) C 22 dX6_addStep_21 (by decide) rfl ?_
      refine x_goto C 26 dX6_addStep_22 (by decide) ?_
      refine xm_put C 29 8 (by decide) fp_X6_addStep_98 rfl rfl dX6_addStep_26 rfl ?_
      refine x_aload_n C 30 dX6_addStep_29 rfl rfl ?_
      refine xm_get C 33 fg_X6_addStep_98 rfl dX6_addStep_30 rfl ?_
      refine x_top (show _ = (2) from rfl) ?_
      refine x_if_le C 38 36 dX6_addStep_33 (by decide) rfl (fun zk33 => ?_) (fun zk33 => ?_)
      · exact absurd zk33 (by decide)
      · refine x_iconst (v := (-1)) C 37 dX6_addStep_36 (by decide) rfl ?_
        exact x_zret C0 dX6_addStep_37 (Nat.le_of_ble_eq_true rfl) (Nat.le_of_ble_eq_true rfl) ⟨_, rfl, ⟨rfl, rfl⟩⟩
  · exact absurd zk5 (by decide)
theorem fg_X6_addStep_81 : gF RX6 wsX6_addStep 81 10 27 := ⟨RX6, TX6, 36, "StageConsoleModel", rfl, fun w h => (List.mem_cons_of_mem _ (List.mem_append_left _ (List.mem_append_right _ h))), by decide, (List.mem_cons_of_mem _ (List.mem_append_left _ (List.mem_append_left _ (List.mem_of_getElem? (i := 2) rfl)))), Or.inl rfl⟩
theorem fg_X6_addStep_84 : gF RX6 wsX6_addStep 84 10 28 := ⟨RX6, TX6, 36, "StageConsoleModel", rfl, fun w h => (List.mem_cons_of_mem _ (List.mem_append_left _ (List.mem_append_right _ h))), by decide, (List.mem_cons_of_mem _ (List.mem_append_left _ (List.mem_append_left _ (List.mem_of_getElem? (i := 3) rfl)))), Or.inl rfl⟩
theorem fg_X6_addStep_87 : gF RX6 wsX6_addStep 87 10 29 := ⟨RX6, TX6, 36, "StageConsoleModel", rfl, fun w h => (List.mem_cons_of_mem _ (List.mem_append_left _ (List.mem_append_right _ h))), by decide, (List.mem_cons_of_mem _ (List.mem_append_left _ (List.mem_append_left _ (List.mem_of_getElem? (i := 4) rfl)))), Or.inl rfl⟩
theorem fp_X6_addStep_202 : pF RX6 wsX6_addStep 202 10 30 false (.int) := ⟨RX6, TX6, 36, "StageConsoleModel", tyX6, rfl, fun w h => (List.mem_cons_of_mem _ (List.mem_append_left _ (List.mem_append_right _ h))), by decide, (List.mem_cons_of_mem _ (List.mem_append_left _ (List.mem_append_left _ (List.mem_of_getElem? (i := 0) rfl)))), Or.inl rfl, tyX6_ok, nmX6, rfl, rfl, fun h => absurd h (by decide)⟩
set_option maxRecDepth 100000 in
set_option maxHeartbeats 4000000 in
theorem cM_addStep_0 (hl : l.stackTraces = false) {I : Nat → Nat → Int32} {nt : Nat} (h4 : I 30 4 = nI nt) (hn : nt ≤ 8) {cl p1 p2 : Int32} (hc : caB cl = true) (hf : nt < 8) (hs : vp_nar .char cl = cl) : Ct (gm D a E0) l yX6_addStep wsX6_addStep { frames := 12, cells := 0, slots := 0, locals := 300 } [.ref m, .int cl, .int p1, .int p2] (wM m am a I en) (qI fun v w => v = nI (nt + 1) ∧ w = wM m am a (uI (uI (uI (uI (uI I 30 8 0) 23 nt cl) 24 nt p1) 25 nt p2) 30 4 (nI (nt + 1))) en) noX := by
  refine Ct.of [some (.ref m), some (.int cl), some (.int p1), some (.int p2)] rfl hl (by decide) (Nat.le_of_ble_eq_true rfl) rfl (fun φ C0 => ?_)
  have C := C0.1
  refine x_aload_n C 1 dX6_addStep_0 rfl rfl ?_
  refine x_iload_n C 2 dX6_addStep_1 rfl rfl ?_
  refine x_callS0_i C 5 0 0 1 (cM_isCall hl _ _) rfl gX6_addStep_X6_isCall ⟨by decide, by decide, rfl⟩ ⟨Nat.le_of_ble_eq_true rfl, Nat.le_of_ble_eq_true rfl⟩ rfl rfl (Nat.le_of_ble_eq_true rfl) ⟨Nat.le_of_ble_eq_true rfl, Nat.le_of_ble_eq_true rfl⟩ dX6_addStep_2 rfl rfl rfl (fun r1 w1 h1 => ?_)
  obtain ⟨rfl, rfl⟩ := h1
  refine x_top (show _ = (1 : Int32) from by rw [hc]; rfl) ?_
  refine x_if_ne C 12 8 dX6_addStep_5 (by decide) rfl (fun zk5 => ?_) (fun zk5 => ?_)
  · refine x_aload_n C 13 dX6_addStep_12 rfl rfl ?_
    refine xm_get C 16 fg_X6_addStep_202 rfl dX6_addStep_13 rfl ?_
    refine x_top h4 ?_
    refine x_bipush (v := (8)) C 18 dX6_addStep_16 (by decide) rfl ?_
    refine x_icmp_ne C 25 21 dX6_addStep_18 (by decide) rfl (fun zk18 => ?_) (fun zk18 => ?_)
    · have zk18 := mt (nI_eq (a := nt) (b := 8) (by omega) (by omega)).mpr zk18
      refine x_iconst (v := (0)) C 26 dX6_addStep_25 (by decide) rfl ?_
      refine xm_put C 29 8 (by decide) fp_X6_addStep_98 rfl rfl dX6_addStep_26 rfl ?_
      refine x_aload_n C 30 dX6_addStep_29 rfl rfl ?_
      refine xm_get C 33 fg_X6_addStep_98 rfl dX6_addStep_30 rfl ?_
      refine x_top (show _ = (0) from rfl) ?_
      refine x_if_le C 38 36 dX6_addStep_33 (by decide) rfl (fun zk33 => ?_) (fun zk33 => ?_)
      · refine x_aload_n C 39 dX6_addStep_38 rfl rfl ?_
        refine xm_get C 42 fg_X6_addStep_81 rfl dX6_addStep_39 rfl ?_
        refine x_aload_n C 43 dX6_addStep_42 rfl rfl ?_
        refine xm_get C 46 fg_X6_addStep_202 rfl dX6_addStep_43 rfl ?_
        refine x_top h4 ?_
        refine x_iload_n C 47 dX6_addStep_46 rfl rfl ?_
        refine xm_cast C 48 23 8 (nt) (by decide) rfl rfl rfl (by omega) (hs) dX6_addStep_47 rfl ?_
        refine x_aload_n C 49 dX6_addStep_48 rfl rfl ?_
        refine xm_get C 52 fg_X6_addStep_84 rfl dX6_addStep_49 rfl ?_
        refine x_aload_n C 53 dX6_addStep_52 rfl rfl ?_
        refine xm_get C 56 fg_X6_addStep_202 rfl dX6_addStep_53 rfl ?_
        refine x_top h4 ?_
        refine x_iload_n C 57 dX6_addStep_56 rfl rfl ?_
        refine xm_iast C 58 24 8 (nt) (by decide) rfl rfl rfl (by omega) dX6_addStep_57 rfl ?_
        refine x_aload_n C 59 dX6_addStep_58 rfl rfl ?_
        refine xm_get C 62 fg_X6_addStep_87 rfl dX6_addStep_59 rfl ?_
        refine x_aload_n C 63 dX6_addStep_62 rfl rfl ?_
        refine xm_get C 66 fg_X6_addStep_202 rfl dX6_addStep_63 rfl ?_
        refine x_top h4 ?_
        refine x_iload_n C 67 dX6_addStep_66 rfl rfl ?_
        refine xm_iast C 68 25 8 (nt) (by decide) rfl rfl rfl (by omega) dX6_addStep_67 rfl ?_
        refine x_aload_n C 69 dX6_addStep_68 rfl rfl ?_
        refine x_dup C 70 dX6_addStep_69 rfl rfl ?_
        refine xm_get C 73 fg_X6_addStep_202 rfl dX6_addStep_70 rfl ?_
        refine x_top h4 ?_
        refine x_iconst (v := (1)) C 74 dX6_addStep_73 (by decide) rfl ?_
        refine x_iadd C 75 dX6_addStep_74 rfl ?_
        refine x_top (show _ = nI (nt + 1) from nI_add _ _) ?_
        refine xm_put C 78 4 (by decide) fp_X6_addStep_202 rfl rfl dX6_addStep_75 rfl ?_
        refine x_aload_n C 79 dX6_addStep_78 rfl rfl ?_
        refine xm_get C 82 fg_X6_addStep_202 rfl dX6_addStep_79 rfl ?_
        refine x_top (show _ = (nI (nt + 1)) from rfl) ?_
        exact x_zret C0 dX6_addStep_82 (Nat.le_of_ble_eq_true rfl) (Nat.le_of_ble_eq_true rfl) ⟨_, rfl, ⟨rfl, rfl⟩⟩
      · exact absurd zk33 (by decide)
    · have zk18 := (nI_eq (a := nt) (b := 8) (by omega) (by omega)).mp zk18
      exfalso; omega
  · exact absurd zk5 (by decide)
theorem fp_X6_clearMacro_98 : pF RX6 wsX6_clearMacro 98 10 35 false (.int) := ⟨RX6, TX6, 36, "StageConsoleModel", tyX6, rfl, fun w h => (List.mem_cons_of_mem _ (List.mem_append_right _ h)), by decide, (List.mem_cons_of_mem _ (List.mem_append_left _ (List.mem_of_getElem? (i := 0) rfl))), Or.inl rfl, tyX6_ok, nmX6, rfl, rfl, fun h => absurd h (by decide)⟩
theorem fg_X6_clearMacro_202 : gF RX6 wsX6_clearMacro 202 10 30 := ⟨RX6, TX6, 36, "StageConsoleModel", rfl, fun w h => (List.mem_cons_of_mem _ (List.mem_append_right _ h)), by decide, (List.mem_cons_of_mem _ (List.mem_append_left _ (List.mem_of_getElem? (i := 1) rfl))), Or.inl rfl⟩
theorem fp_X6_clearMacro_202 : pF RX6 wsX6_clearMacro 202 10 30 false (.int) := ⟨RX6, TX6, 36, "StageConsoleModel", tyX6, rfl, fun w h => (List.mem_cons_of_mem _ (List.mem_append_right _ h)), by decide, (List.mem_cons_of_mem _ (List.mem_append_left _ (List.mem_of_getElem? (i := 1) rfl))), Or.inl rfl, tyX6_ok, nmX6, rfl, rfl, fun h => absurd h (by decide)⟩
set_option maxRecDepth 100000 in
set_option maxHeartbeats 4000000 in
theorem cM_clearMacro (hl : l.stackTraces = false) {I : Nat → Nat → Int32}  : Ct (gm D a E0) l yX6_clearMacro wsX6_clearMacro { frames := 4, cells := 0, slots := 0, locals := 100 } [.ref m] (wM m am a I en) (qI fun v w => v = I 30 4 ∧ w = wM m am a (uI (uI I 30 8 0) 30 4 0) en) noX := by
  refine Ct.of [some (.ref m), none] rfl hl (by decide) (Nat.le_of_ble_eq_true rfl) rfl (fun φ C0 => ?_)
  have C := C0.1
  refine x_aload_n C 1 dX6_clearMacro_0 rfl rfl ?_
  refine x_iconst (v := (0)) C 2 dX6_clearMacro_1 (by decide) rfl ?_
  refine xm_put C 5 8 (by decide) fp_X6_clearMacro_98 rfl rfl dX6_clearMacro_2 rfl ?_
  refine x_aload_n C 6 dX6_clearMacro_5 rfl rfl ?_
  refine xm_get C 9 fg_X6_clearMacro_202 rfl dX6_clearMacro_6 rfl ?_
  refine x_nm (fun v ev => ?_)
  refine x_istore_n C 10 dX6_clearMacro_9 (by decide) rfl rfl ?_
  refine x_aload_n C 11 dX6_clearMacro_10 rfl rfl ?_
  refine x_iconst (v := (0)) C 12 dX6_clearMacro_11 (by decide) rfl ?_
  refine xm_put C 15 4 (by decide) fp_X6_clearMacro_202 rfl rfl dX6_clearMacro_12 rfl ?_
  refine x_iload_n C 16 dX6_clearMacro_15 rfl rfl ?_
  exact x_zret C0 dX6_clearMacro_16 (Nat.le_of_ble_eq_true rfl) (Nat.le_of_ble_eq_true rfl) ⟨_, rfl, ⟨ev, rfl⟩⟩
theorem fg_X6_macroFault_90 : gF RX6 wsX6_macroFault 90 10 31 := ⟨RX6, TX6, 36, "StageConsoleModel", rfl, fun w h => (List.mem_cons_of_mem _ (List.mem_append_right _ h)), by decide, (List.mem_cons_of_mem _ (List.mem_append_left _ (List.mem_of_getElem? (i := 0) rfl))), Or.inl rfl⟩
theorem fp_X6_macroFault_98 : pF RX6 wsX6_macroFault 98 10 35 false (.int) := ⟨RX6, TX6, 36, "StageConsoleModel", tyX6, rfl, fun w h => (List.mem_cons_of_mem _ (List.mem_append_right _ h)), by decide, (List.mem_cons_of_mem _ (List.mem_append_left _ (List.mem_of_getElem? (i := 1) rfl))), Or.inl rfl, tyX6_ok, nmX6, rfl, rfl, fun h => absurd h (by decide)⟩
set_option maxRecDepth 100000 in
set_option maxHeartbeats 4000000 in
theorem cM_macroFault_1 (hl : l.stackTraces = false) {I : Nat → Nat → Int32} (hv : I 30 5 = 32) : Ct (gm D a E0) l yX6_macroFault wsX6_macroFault { frames := 4, cells := 0, slots := 0, locals := 100 } [.ref m] (wM m am a I en) (qI fun v w => v = I 30 5 ∧ w = wM m am a (uI I 30 8 1) en) noX := by
  refine Ct.of [some (.ref m)] rfl hl (by decide) (Nat.le_of_ble_eq_true rfl) rfl (fun φ C0 => ?_)
  have C := C0.1
  refine x_aload_n C 1 dX6_macroFault_0 rfl rfl ?_
  refine x_aload_n C 2 dX6_macroFault_1 rfl rfl ?_
  refine xm_get C 5 fg_X6_macroFault_90 rfl dX6_macroFault_2 rfl ?_
  refine x_bipush (v := (32)) C 7 dX6_macroFault_5 (by decide) rfl ?_
  refine x_icmp_ne C 14 10 dX6_macroFault_7 (by decide) rfl (fun zk7 => ?_) (fun zk7 => ?_)
  · exact absurd hv zk7
  · refine x_iconst (v := (1)) C 11 dX6_macroFault_10 (by decide) rfl ?_
    refine x_goto C 15 dX6_macroFault_11 (by decide) ?_
    refine xm_put C 18 8 (by decide) fp_X6_macroFault_98 rfl rfl dX6_macroFault_15 rfl ?_
    refine x_aload_n C 19 dX6_macroFault_18 rfl rfl ?_
    refine xm_get C 22 fg_X6_macroFault_90 rfl dX6_macroFault_19 rfl ?_
    exact x_nret C0 rfl (by first | exact hn | (show narrow .char (.int (I 30 5)) = .int (I 30 5); rw [hv]; rfl)) dX6_macroFault_22 (Nat.le_of_ble_eq_true rfl) (Nat.le_of_ble_eq_true rfl) ⟨_, rfl, ⟨rfl, rfl⟩⟩
set_option maxRecDepth 100000 in
set_option maxHeartbeats 4000000 in
theorem cM_macroFault_0 (hl : l.stackTraces = false) {I : Nat → Nat → Int32} (hv : ¬ I 30 5 = 32) (hn : narrow .char (.int (I 30 5)) = .int (I 30 5)) : Ct (gm D a E0) l yX6_macroFault wsX6_macroFault { frames := 4, cells := 0, slots := 0, locals := 100 } [.ref m] (wM m am a I en) (qI fun v w => v = I 30 5 ∧ w = wM m am a (uI I 30 8 0) en) noX := by
  refine Ct.of [some (.ref m)] rfl hl (by decide) (Nat.le_of_ble_eq_true rfl) rfl (fun φ C0 => ?_)
  have C := C0.1
  refine x_aload_n C 1 dX6_macroFault_0 rfl rfl ?_
  refine x_aload_n C 2 dX6_macroFault_1 rfl rfl ?_
  refine xm_get C 5 fg_X6_macroFault_90 rfl dX6_macroFault_2 rfl ?_
  refine x_bipush (v := (32)) C 7 dX6_macroFault_5 (by decide) rfl ?_
  refine x_icmp_ne C 14 10 dX6_macroFault_7 (by decide) rfl (fun zk7 => ?_) (fun zk7 => ?_)
  · refine x_iconst (v := (0)) C 15 dX6_macroFault_14 (by decide) rfl ?_
    refine xm_put C 18 8 (by decide) fp_X6_macroFault_98 rfl rfl dX6_macroFault_15 rfl ?_
    refine x_aload_n C 19 dX6_macroFault_18 rfl rfl ?_
    refine xm_get C 22 fg_X6_macroFault_90 rfl dX6_macroFault_19 rfl ?_
    exact x_nret C0 rfl (hn) dX6_macroFault_22 (Nat.le_of_ble_eq_true rfl) (Nat.le_of_ble_eq_true rfl) ⟨_, rfl, ⟨rfl, rfl⟩⟩
  · exact absurd zk7 hv
end MM
