section MM
variable {l : Launch} {Γ : Gm} {D : va_G} {a : Nat → ClassId} {E0 m : Nat} {am : Nat → Nat} {I : Nat → Nat → Int32} {en : Int64}
theorem fp_X6_runMacro_90 : pF RX6 wsX6_runMacro 90 10 31 false (.char) := ⟨RX6, TX6, 36, "StageConsoleModel", tyX6, rfl, fun w h => (List.mem_cons_of_mem _ (List.mem_append_left _ (List.mem_append_left _ (List.mem_append_right _ h)))), by decide, (List.mem_cons_of_mem _ (List.mem_append_left _ (List.mem_append_left _ (List.mem_append_left _ (List.mem_append_left _ (List.mem_of_getElem? (i := 0) rfl)))))), Or.inl rfl, tyX6_ok, nmX6, rfl, rfl, fun h => absurd h (by decide)⟩
theorem fg_X6_runMacro_202 : gF RX6 wsX6_runMacro 202 10 30 := ⟨RX6, TX6, 36, "StageConsoleModel", rfl, fun w h => (List.mem_cons_of_mem _ (List.mem_append_left _ (List.mem_append_left _ (List.mem_append_right _ h)))), by decide, (List.mem_cons_of_mem _ (List.mem_append_left _ (List.mem_append_left _ (List.mem_append_left _ (List.mem_append_left _ (List.mem_of_getElem? (i := 1) rfl)))))), Or.inl rfl⟩
theorem fp_X6_runMacro_98 : pF RX6 wsX6_runMacro 98 10 35 false (.int) := ⟨RX6, TX6, 36, "StageConsoleModel", tyX6, rfl, fun w h => (List.mem_cons_of_mem _ (List.mem_append_left _ (List.mem_append_left _ (List.mem_append_right _ h)))), by decide, (List.mem_cons_of_mem _ (List.mem_append_left _ (List.mem_append_left _ (List.mem_append_left _ (List.mem_append_left _ (List.mem_of_getElem? (i := 2) rfl)))))), Or.inl rfl, tyX6_ok, nmX6, rfl, rfl, fun h => absurd h (by decide)⟩
theorem fg_X6_runMacro_90 : gF RX6 wsX6_runMacro 90 10 31 := ⟨RX6, TX6, 36, "StageConsoleModel", rfl, fun w h => (List.mem_cons_of_mem _ (List.mem_append_left _ (List.mem_append_left _ (List.mem_append_right _ h)))), by decide, (List.mem_cons_of_mem _ (List.mem_append_left _ (List.mem_append_left _ (List.mem_append_left _ (List.mem_append_left _ (List.mem_of_getElem? (i := 0) rfl)))))), Or.inl rfl⟩
set_option maxRecDepth 100000 in
set_option maxHeartbeats 4000000 in
theorem cM_runMacro (hl : l.stackTraces = false) {I : Nat → Nat → Int32} {eg : Nat → Nat} {nq ng ne nt : Nat} {P : (Nat → Nat → Int32) → Prop} (hP : ∀ J, P J → BI J eg nq ng ne nt ∧ ∀ k, k < nt → caB (J 23 k) = true) (hS : ∀ J e i, P J → J 30 5 = 110 → i < nt → P (uI (doM eg nq ng ne J e i).2.1 30 5 (doM eg nq ng ne J e i).1)) (h0 : P (uI I 30 5 110)) (hnt : nt ≤ 8) : Ct (gm D a E0) l yX6_runMacro wsX6_runMacro { frames := 24, cells := 0, slots := 0, locals := 600 } [.ref m] (wM m am a I en) (qI fun v w => v = nI (rnL eg nq ng ne nt 0 (uI I 30 5 110) en).1 ∧ w = wM m am a (uI (rnL eg nq ng ne nt 0 (uI I 30 5 110) en).2.1 30 8 0) (rnL eg nq ng ne nt 0 (uI I 30 5 110) en).2.2) noX := by
  refine Ct.of [some (.ref m), none] rfl hl (by decide) (Nat.le_of_ble_eq_true rfl) rfl (fun φ C0 => ?_)
  have C := C0.1
  refine x_aload_n C 1 dX6_runMacro_0 rfl rfl ?_
  refine x_bipush (v := (110)) C 3 dX6_runMacro_1 (by decide) rfl ?_
  refine xm_put C 6 5 (by decide) fp_X6_runMacro_90 rfl rfl dX6_runMacro_3 rfl ?_
  refine x_iconst (v := (0)) C 7 dX6_runMacro_6 (by decide) rfl ?_
  refine x_istore_n C 8 dX6_runMacro_7 (by decide) rfl rfl ?_
  have lp8 : ∀ (n i : Nat) (J : Nat → Nat → Int32) (e2 : Int64), i + n = nt → P J → J 30 5 = 110 → (rnL eg nq ng ne nt 0 (uI I 30 5 110) en) = rnL eg nq ng ne n i J e2 → X φ 8 [some (.ref m), some (.int (nI i))] [] (wM m am a J e2) 0 0 := by
    intro n
    induction n with
    | zero =>
      intro i J e2 hi hJ hJ5 hr
      refine x_iload_n C 9 dX6_runMacro_8 rfl rfl ?_
      refine x_aload_n C 10 dX6_runMacro_9 rfl rfl ?_
      refine xm_get C 13 fg_X6_runMacro_202 rfl dX6_runMacro_10 rfl ?_
      refine x_top ((hP J hJ).1).1.2.2.2.1.1 ?_
      refine x_icmp_ge C 54 16 dX6_runMacro_13 (by decide) rfl (fun zk13 => ?_) (fun zk13 => ?_)
      · have zk13 := (nI_leI (a := nt) (b := i) (by omega) (by omega)).mp zk13
        refine x_aload_n C 55 dX6_runMacro_54 rfl rfl ?_
        refine x_iconst (v := (0)) C 56 dX6_runMacro_55 (by decide) rfl ?_
        refine xm_put C 59 8 (by decide) fp_X6_runMacro_98 rfl rfl dX6_runMacro_56 rfl ?_
        refine x_iload_n C 60 dX6_runMacro_59 rfl rfl ?_
        exact x_zret C0 dX6_runMacro_60 (Nat.le_of_ble_eq_true rfl) (Nat.le_of_ble_eq_true rfl) ⟨_, rfl, ⟨by rw [hr]; rfl, by rw [hr]; rfl⟩⟩
      · have zk13 := mt (nI_leI (a := nt) (b := i) (by omega) (by omega)).mpr zk13
        exfalso; omega
    | succ n ih =>
      intro i J e2 hi hJ hJ5 hr
      refine x_iload_n C 9 dX6_runMacro_8 rfl rfl ?_
      refine x_aload_n C 10 dX6_runMacro_9 rfl rfl ?_
      refine xm_get C 13 fg_X6_runMacro_202 rfl dX6_runMacro_10 rfl ?_
      refine x_top ((hP J hJ).1).1.2.2.2.1.1 ?_
      refine x_icmp_ge C 54 16 dX6_runMacro_13 (by decide) rfl (fun zk13 => ?_) (fun zk13 => ?_)
      · have zk13 := (nI_leI (a := nt) (b := i) (by omega) (by omega)).mp zk13
        exfalso; omega
      · have zk13 := mt (nI_leI (a := nt) (b := i) (by omega) (by omega)).mpr zk13
        refine x_aload_n C 17 dX6_runMacro_16 rfl rfl ?_
        refine xm_get C 20 fg_X6_runMacro_90 rfl dX6_runMacro_17 rfl ?_
        refine x_top hJ5 ?_
        refine x_bipush (v := (110)) C 22 dX6_runMacro_20 (by decide) rfl ?_
        refine x_icmp_ne C 54 25 dX6_runMacro_22 (by decide) rfl (fun zk22 => ?_) (fun zk22 => ?_)
        · exact absurd zk22 (by decide)
        · refine x_aload_n C 26 dX6_runMacro_25 rfl rfl ?_
          refine x_aload_n C 27 dX6_runMacro_26 rfl rfl ?_
          refine x_iload_n C 28 dX6_runMacro_27 rfl rfl ?_
          refine x_callV0_i C 31 0 0 0 10 1 (cM_does hl (hP J hJ).1 (by omega) ((hP J hJ).2 i (by omega))) rfl gX6_runMacro_X6_does ⟨rfl, by decide, by decide, rfl⟩ ⟨Nat.le_of_ble_eq_true rfl, Nat.le_of_ble_eq_true rfl⟩ rfl rfl rfl rfl (Nat.le_of_ble_eq_true rfl) ⟨Nat.le_of_ble_eq_true rfl, Nat.le_of_ble_eq_true rfl⟩ dX6_runMacro_28 rfl rfl rfl (fun r1 w1 h1 => ?_)
          obtain ⟨hf1, hw1⟩ := h1
          obtain ⟨J2, e4, hd⟩ : ∃ J2 e4, doM eg nq ng ne J e2 i = (r1, J2, e4) := ⟨_, _, by rw [hf1]⟩
          rw [hd] at hw1
          dsimp only at hw1
          subst hw1
          obtain ⟨fc, hfc, hfe⟩ := doM_f eg nq ng ne J e2 i
          rw [hd] at hfe
          dsimp only at hfe
          clear hf1
          subst hfe
          refine xm_put C 34 5 (by decide) fp_X6_runMacro_90 (nI_char hfc).1 (nI_char hfc).2 dX6_runMacro_31 rfl ?_
          refine x_iload_n C 35 dX6_runMacro_34 rfl rfl ?_
          refine x_aload_n C 36 dX6_runMacro_35 rfl rfl ?_
          refine xm_get C 39 fg_X6_runMacro_90 rfl dX6_runMacro_36 rfl ?_
          refine x_top (show _ = (nI fc) from rfl) ?_
          refine x_bipush (v := (110)) C 41 dX6_runMacro_39 (by decide) rfl ?_
          refine x_icmp_ne C 48 44 dX6_runMacro_41 (by decide) rfl (fun zk41 => ?_) (fun zk41 => ?_)
          · refine x_iconst (v := (0)) C 49 dX6_runMacro_48 (by decide) rfl ?_
            refine x_iadd C 50 dX6_runMacro_49 rfl ?_
            refine x_top (show _ = nI (i + 0) from nI_add _ _) ?_
            refine x_istore_n C 51 dX6_runMacro_50 (by decide) rfl rfl ?_
            refine x_goto C 8 dX6_runMacro_51 (by decide) ?_
            have hJn : P (uI J2 30 5 (nI fc)) := by have := hS J e2 i hJ hJ5 (by omega); rw [hd] at this; exact this
            refine x_iload_n C 9 dX6_runMacro_8 rfl rfl ?_
            refine x_aload_n C 10 dX6_runMacro_9 rfl rfl ?_
            refine xm_get C 13 fg_X6_runMacro_202 rfl dX6_runMacro_10 rfl ?_
            refine x_top ((hP _ hJn).1).1.2.2.2.1.1 ?_
            refine x_icmp_ge C 54 16 dX6_runMacro_13 (by decide) rfl (fun zk13 => ?_) (fun zk13 => ?_)
            · have zk13 := (nI_leI (a := nt) (b := (i + 0)) (by omega) (by omega)).mp zk13
              exfalso; omega
            · have zk13 := mt (nI_leI (a := nt) (b := (i + 0)) (by omega) (by omega)).mpr zk13
              refine x_aload_n C 17 dX6_runMacro_16 rfl rfl ?_
              refine xm_get C 20 fg_X6_runMacro_90 rfl dX6_runMacro_17 rfl ?_
              refine x_top (show _ = (nI fc) from rfl) ?_
              refine x_bipush (v := (110)) C 22 dX6_runMacro_20 (by decide) rfl ?_
              refine x_icmp_ne C 54 25 dX6_runMacro_22 (by decide) rfl (fun zk22 => ?_) (fun zk22 => ?_)
              · refine x_aload_n C 55 dX6_runMacro_54 rfl rfl ?_
                refine x_iconst (v := (0)) C 56 dX6_runMacro_55 (by decide) rfl ?_
                refine xm_put C 59 8 (by decide) fp_X6_runMacro_98 rfl rfl dX6_runMacro_56 rfl ?_
                refine x_iload_n C 60 dX6_runMacro_59 rfl rfl ?_
                exact x_zret C0 dX6_runMacro_60 (Nat.le_of_ble_eq_true rfl) (Nat.le_of_ble_eq_true rfl) ⟨_, rfl, ⟨by rw [hr, rnL, if_neg (by rw [hd]; exact zk41)]; try rfl, by rw [hr, rnL, if_neg (by rw [hd]; exact zk41), hd]; try rfl⟩⟩
              · exact absurd zk22 zk41
          · refine x_iconst (v := (1)) C 45 dX6_runMacro_44 (by decide) rfl ?_
            refine x_goto C 49 dX6_runMacro_45 (by decide) ?_
            refine x_iadd C 50 dX6_runMacro_49 rfl ?_
            refine x_top (show _ = nI (i + 1) from nI_add _ _) ?_
            refine x_istore_n C 51 dX6_runMacro_50 (by decide) rfl rfl ?_
            refine x_goto C 8 dX6_runMacro_51 (by decide) ?_
            have hJn : P (uI J2 30 5 (nI fc)) := by have := hS J e2 i hJ hJ5 (by omega); rw [hd] at this; exact this
            exact ih (i + 1) _ _ (by omega) hJn zk41 (by rw [hr, rnL, if_pos (by rw [hd]; exact zk41), hd])
  exact lp8 nt 0 _ _ (by omega) h0 rfl rfl
end MM
