section CC
variable {l : Launch} {Γ : Gm} {D : va_G} {a : Nat → ClassId} {E0 : Nat} {n cap : Nat → Nat} {A : Nat → Nat → Nat} {g : Nat → Nat} {en : Int64} {S : Nat → Nat → Nat → Int32}
theorem fg_X5_meanLevel_25 : gF RX5 wsX5_meanLevel 25 9 3 := ⟨RX5, TX5, 11, "StageConsole", rfl, fun w h => (List.mem_cons_of_mem _ (List.mem_append_left _ (List.mem_append_left _ (List.mem_append_left _ (List.mem_append_left _ (List.mem_append_left _ (List.mem_append_left _ (List.mem_append_left _ (List.mem_append_right _ h))))))))), by decide, (List.mem_cons_of_mem _ (List.mem_append_left _ (List.mem_append_left _ (List.mem_append_left _ (List.mem_append_left _ (List.mem_append_left _ (List.mem_append_left _ (List.mem_append_left _ (List.mem_append_left _ (List.mem_append_left _ (List.mem_of_getElem? (i := 2) rfl))))))))))), Or.inl rfl⟩
theorem fg_X5_meanLevel_239 : gF RX5 wsX5_meanLevel 239 4 8 := ⟨RX0, TX0, 9, "StageConsole$Channel", rfl, fun w h => (List.mem_cons_of_mem _ (List.mem_append_left _ (List.mem_append_left _ (List.mem_append_left _ (List.mem_append_left _ (List.mem_append_left _ (List.mem_append_left _ (List.mem_append_right _ h)))))))), by decide, (List.mem_cons_of_mem _ (List.mem_append_left _ (List.mem_append_left _ (List.mem_append_left _ (List.mem_append_left _ (List.mem_append_left _ (List.mem_append_left _ (List.mem_append_left _ (List.mem_append_left _ (List.mem_append_left _ (List.mem_of_getElem? (i := 3) rfl))))))))))), Or.inl rfl⟩
theorem fg_X5_meanLevel_38 : gF RX5 wsX5_meanLevel 38 9 7 := ⟨RX5, TX5, 11, "StageConsole", rfl, fun w h => (List.mem_cons_of_mem _ (List.mem_append_left _ (List.mem_append_left _ (List.mem_append_left _ (List.mem_append_left _ (List.mem_append_left _ (List.mem_append_left _ (List.mem_append_left _ (List.mem_append_right _ h))))))))), by decide, (List.mem_cons_of_mem _ (List.mem_append_left _ (List.mem_append_left _ (List.mem_append_left _ (List.mem_append_left _ (List.mem_append_left _ (List.mem_append_left _ (List.mem_append_left _ (List.mem_append_left _ (List.mem_append_left _ (List.mem_of_getElem? (i := 4) rfl))))))))))), Or.inl rfl⟩
set_option maxRecDepth 100000 in
set_option maxHeartbeats 4000000 in
theorem cC_meanLevel_1 (hl : l.stackTraces = false) (hN : CN n cap) (hE : CE n g S) (hz : npL (fun i => (flv g (n 1) (n 2) S) 4 i 8) 12 0 0 = 0)  : Ct (gm D a E0) l yX5_meanLevel wsX5_meanLevel { frames := 28, cells := 1, slots := 6, locals := 700 } [.ref (A 0 0)] (wC a E0 n cap A g en S) (qD fun _ _ => False) (fun E w => E = "java/lang/ArithmeticException" ∧ w = wC a E0 n cap A g en (flv g (n 1) (n 2) S)) := by
  refine Ct.of [some (.ref (A 0 0)), none, none, none] rfl hl (by decide) (Nat.le_of_ble_eq_true rfl) rfl (fun φ C0 => ?_)
  have C := C0.1
  refine x_aload_n C 1 dX5_meanLevel_0 rfl rfl ?_
  refine xc_callV_v C 4 0 0 0 0 9 0 (cC_fillLevelRow hl hN hE) rfl gX5_meanLevel_X5_fillLevelRow ⟨rfl, by decide, by decide, rfl⟩ ⟨Nat.le_of_ble_eq_true rfl, Nat.le_of_ble_eq_true rfl⟩ rfl (by decide) (show 0 < 1 by decide) rfl rfl rfl (Nat.le_of_ble_eq_true rfl) ⟨Nat.le_of_ble_eq_true rfl, Nat.le_of_ble_eq_true rfl⟩ dX5_meanLevel_1 rfl rfl rfl (fun w1 h1 => ?_)
  subst h1
  refine x_iconst (v := (0)) C 5 dX5_meanLevel_4 (by decide) rfl ?_
  refine x_istore_n C 6 dX5_meanLevel_5 (by decide) rfl rfl ?_
  refine x_iconst (v := (0)) C 7 dX5_meanLevel_6 (by decide) rfl ?_
  refine x_istore_n C 8 dX5_meanLevel_7 (by decide) rfl rfl ?_
  refine x_iconst (v := (0)) C 9 dX5_meanLevel_8 (by decide) rfl ?_
  refine x_istore_n C 10 dX5_meanLevel_9 (by decide) rfl rfl ?_
  have lp10 : ∀ (m i k : Nat) (u : Int32), i + m = 12 → k ≤ i → npL (fun i => (flv g (n 1) (n 2) S) 4 i 8) 12 0 0 = npL (fun i => (flv g (n 1) (n 2) S) 4 i 8) m i k → spL (fun i => (flv g (n 1) (n 2) S) 4 i 8) ((flv g (n 1) (n 2) S) 2 0) 12 0 0 = spL (fun i => (flv g (n 1) (n 2) S) 4 i 8) ((flv g (n 1) (n 2) S) 2 0) m i u → X φ 10 [some (.ref (A 0 0)), some (.int u), some (.int (nI k)), some (.int (nI i))] [] (wC a E0 n cap A g en (flv g (n 1) (n 2) S)) 0 0 := by
    intro m
    induction m with
    | zero =>
      intro i k u hi hk hr hr2
      refine x_iload_n C 11 dX5_meanLevel_10 rfl rfl ?_
      refine x_bipush (v := (12)) C 13 dX5_meanLevel_11 (by decide) rfl ?_
      refine x_icmp_ge C 47 16 dX5_meanLevel_13 (by decide) rfl (fun zk13 => ?_) (fun zk13 => ?_)
      · have zk13 := (nI_leI (a := 12) (b := i) (by omega) (by omega)).mp zk13
        refine x_iload_n C 48 dX5_meanLevel_47 rfl rfl ?_
        refine x_if_ne C 62 51 dX5_meanLevel_48 (by decide) rfl (fun zk48 => ?_) (fun zk48 => ?_)
        · have zk48 := mt (nI_eq (a := k) (b := 0) (by omega) (by omega)).mpr zk48
          exact absurd (hr.symm.trans hz) zk48
        · have zk48 := (nI_eq (a := k) (b := 0) (by omega) (by omega)).mp zk48
          exact x_throwSW C0 (cls := "java/lang/ArithmeticException") (text := "all channels are parked") (names := ["java/lang/RuntimeException", "java/lang/Exception"]) (List.mem_of_getElem? (i := 21) rfl) (by decide) (by decide) (List.mem_cons_of_mem _ (List.mem_append_left _ (List.mem_append_left _ (List.mem_append_left _ (List.mem_append_left _ (List.mem_append_left _ (List.mem_append_left _ (List.mem_append_left _ (List.mem_append_left _ (List.mem_append_left _ (List.mem_of_getElem? (i := 0) rfl))))))))))) (List.mem_cons_of_mem _ (List.mem_append_left _ (List.mem_append_left _ (List.mem_append_left _ (List.mem_append_left _ (List.mem_append_left _ (List.mem_append_left _ (List.mem_append_left _ (List.mem_append_left _ (List.mem_append_left _ (List.mem_of_getElem? (i := 1) rfl))))))))))) (fun w h => (List.mem_cons_of_mem _ (List.mem_append_left _ (List.mem_append_right _ h)))) (by decide) (by decide +kernel) (by decide +kernel) dX5_meanLevel_51 dX5_meanLevel_54 dX5_meanLevel_55 dX5_meanLevel_58 dX5_meanLevel_61 (Nat.le_of_ble_eq_true rfl) (Nat.le_of_ble_eq_true rfl) (Nat.le_of_ble_eq_true rfl) (Nat.le_of_ble_eq_true rfl) ⟨rfl, rfl⟩   
      · have zk13 := mt (nI_leI (a := 12) (b := i) (by omega) (by omega)).mpr zk13
        exfalso; omega
    | succ m ih =>
      intro i k u hi hk hr hr2
      refine x_iload_n C 11 dX5_meanLevel_10 rfl rfl ?_
      refine x_bipush (v := (12)) C 13 dX5_meanLevel_11 (by decide) rfl ?_
      refine x_icmp_ge C 47 16 dX5_meanLevel_13 (by decide) rfl (fun zk13 => ?_) (fun zk13 => ?_)
      · have zk13 := (nI_leI (a := 12) (b := i) (by omega) (by omega)).mp zk13
        exfalso; omega
      · have zk13 := mt (nI_leI (a := 12) (b := i) (by omega) (by omega)).mpr zk13
        refine x_aload_n C 17 dX5_meanLevel_16 rfl rfl ?_
        refine xc_get C 20 0 0 (by decide) (show 0 < 1 by decide) rfl fg_X5_meanLevel_25 rfl dX5_meanLevel_17 rfl ?_
        refine x_iload_n C 21 dX5_meanLevel_20 rfl rfl ?_
        refine xc_chan C 22 i rfl (by omega) dX5_meanLevel_21 rfl ?_
        refine xc_get C 25 4 i (by decide) (show i < 12 from by omega) rfl fg_X5_meanLevel_239 rfl dX5_meanLevel_22 rfl ?_
        refine x_iconst (v := (-1)) C 26 dX5_meanLevel_25 (by decide) rfl ?_
        refine x_icmp_ne C 41 29 dX5_meanLevel_26 (by decide) rfl (fun zk26 => ?_) (fun zk26 => ?_)
        · refine x_iinc (v := nI (i + 1)) C 44 rfl dX5_meanLevel_41 (iinc1 _) (by decide) rfl rfl ?_
          refine x_goto C 10 dX5_meanLevel_44 (by decide) ?_
          exact ih (i + 1) _ _ (by omega) (by omega) (by rw [hr]; first | exact npL_y zk26 | exact npL_n zk26) (by rw [hr2]; first | (subst es2; exact spL_y zk26) | exact spL_n zk26)
        · refine x_iload_n C 30 dX5_meanLevel_29 rfl rfl ?_
          refine x_aload_n C 31 dX5_meanLevel_30 rfl rfl ?_
          refine xc_get C 34 0 0 (by decide) (show 0 < 1 by decide) rfl fg_X5_meanLevel_38 rfl dX5_meanLevel_31 rfl ?_
          refine x_iload_n C 35 dX5_meanLevel_34 rfl rfl ?_
          refine xc_iald C 36 2 0 i (by decide) (show 0 < 1 by decide) rfl rfl (by omega) dX5_meanLevel_35 rfl ?_
          refine x_iadd C 37 dX5_meanLevel_36 rfl ?_
          refine x_nm (fun s2 es2 => ?_)
          refine x_istore_n C 38 dX5_meanLevel_37 (by decide) rfl rfl ?_
          refine x_iinc (v := nI (k + 1)) C 41 rfl dX5_meanLevel_38 (iinc1 _) (by decide) rfl rfl ?_
          refine x_iinc (v := nI (i + 1)) C 44 rfl dX5_meanLevel_41 (iinc1 _) (by decide) rfl rfl ?_
          refine x_goto C 10 dX5_meanLevel_44 (by decide) ?_
          exact ih (i + 1) _ _ (by omega) (by omega) (by rw [hr]; first | exact npL_y zk26 | exact npL_n zk26) (by rw [hr2]; first | (subst es2; exact spL_y zk26) | exact spL_n zk26)
  exact lp10 12 0 0 _ rfl (by omega) rfl rfl
set_option maxRecDepth 100000 in
set_option maxHeartbeats 4000000 in
theorem cC_meanLevel_0 (hl : l.stackTraces = false) (hN : CN n cap) (hE : CE n g S) (hz : ¬ npL (fun i => (flv g (n 1) (n 2) S) 4 i 8) 12 0 0 = 0) (hNN : vf_n64 (FP.ddiv (FP.i2d (spL (fun i => (flv g (n 1) (n 2) S) 4 i 8) ((flv g (n 1) (n 2) S) 2 0) 12 0 0)) (FP.i2d (nI (npL (fun i => (flv g (n 1) (n 2) S) 4 i 8) 12 0 0)))))  : Ct (gm D a E0) l yX5_meanLevel wsX5_meanLevel { frames := 28, cells := 0, slots := 0, locals := 700 } [.ref (A 0 0)] (wC a E0 n cap A g en S) (qD fun v w => v = FP.ddiv (FP.i2d (spL (fun i => (flv g (n 1) (n 2) S) 4 i 8) ((flv g (n 1) (n 2) S) 2 0) 12 0 0)) (FP.i2d (nI (npL (fun i => (flv g (n 1) (n 2) S) 4 i 8) 12 0 0))) ∧ w = wC a E0 n cap A g en (flv g (n 1) (n 2) S)) noX := by
  refine Ct.of [some (.ref (A 0 0)), none, none, none] rfl hl (by decide) (Nat.le_of_ble_eq_true rfl) rfl (fun φ C0 => ?_)
  have C := C0.1
  refine x_aload_n C 1 dX5_meanLevel_0 rfl rfl ?_
  refine xc_callV_v C 4 0 0 0 0 9 0 (cC_fillLevelRow hl hN hE) rfl gX5_meanLevel_X5_fillLevelRow ⟨rfl, by decide, by decide, rfl⟩ ⟨Nat.le_of_ble_eq_true rfl, Nat.le_of_ble_eq_true rfl⟩ rfl (by decide) (show 0 < 1 by decide) rfl rfl rfl (Nat.le_of_ble_eq_true rfl) ⟨Nat.le_of_ble_eq_true rfl, Nat.le_of_ble_eq_true rfl⟩ dX5_meanLevel_1 rfl rfl rfl (fun w1 h1 => ?_)
  subst h1
  refine x_iconst (v := (0)) C 5 dX5_meanLevel_4 (by decide) rfl ?_
  refine x_istore_n C 6 dX5_meanLevel_5 (by decide) rfl rfl ?_
  refine x_iconst (v := (0)) C 7 dX5_meanLevel_6 (by decide) rfl ?_
  refine x_istore_n C 8 dX5_meanLevel_7 (by decide) rfl rfl ?_
  refine x_iconst (v := (0)) C 9 dX5_meanLevel_8 (by decide) rfl ?_
  refine x_istore_n C 10 dX5_meanLevel_9 (by decide) rfl rfl ?_
  have lp10 : ∀ (m i k : Nat) (u : Int32), i + m = 12 → k ≤ i → npL (fun i => (flv g (n 1) (n 2) S) 4 i 8) 12 0 0 = npL (fun i => (flv g (n 1) (n 2) S) 4 i 8) m i k → spL (fun i => (flv g (n 1) (n 2) S) 4 i 8) ((flv g (n 1) (n 2) S) 2 0) 12 0 0 = spL (fun i => (flv g (n 1) (n 2) S) 4 i 8) ((flv g (n 1) (n 2) S) 2 0) m i u → X φ 10 [some (.ref (A 0 0)), some (.int u), some (.int (nI k)), some (.int (nI i))] [] (wC a E0 n cap A g en (flv g (n 1) (n 2) S)) 0 0 := by
    intro m
    induction m with
    | zero =>
      intro i k u hi hk hr hr2
      refine x_iload_n C 11 dX5_meanLevel_10 rfl rfl ?_
      refine x_bipush (v := (12)) C 13 dX5_meanLevel_11 (by decide) rfl ?_
      refine x_icmp_ge C 47 16 dX5_meanLevel_13 (by decide) rfl (fun zk13 => ?_) (fun zk13 => ?_)
      · have zk13 := (nI_leI (a := 12) (b := i) (by omega) (by omega)).mp zk13
        refine x_iload_n C 48 dX5_meanLevel_47 rfl rfl ?_
        refine x_if_ne C 62 51 dX5_meanLevel_48 (by decide) rfl (fun zk48 => ?_) (fun zk48 => ?_)
        · have zk48 := mt (nI_eq (a := k) (b := 0) (by omega) (by omega)).mpr zk48
          refine x_iload_n C 63 dX5_meanLevel_62 rfl rfl ?_
          refine x_i2d C 64 dX5_meanLevel_63 rfl ?_
          refine x_iload_n C 65 dX5_meanLevel_64 rfl rfl ?_
          refine x_i2d C 66 dX5_meanLevel_65 rfl ?_
          refine x_ddiv C 67 dX5_meanLevel_66 (by rw [hr, hr2] at hNN; exact hNN) rfl ?_
          exact x_dret C0 dX5_meanLevel_67 (Nat.le_of_ble_eq_true rfl) (Nat.le_of_ble_eq_true rfl) ⟨_, rfl, ⟨by rw [hr, hr2]; rfl, rfl⟩⟩
        · have zk48 := (nI_eq (a := k) (b := 0) (by omega) (by omega)).mp zk48
          exact absurd (hr.trans zk48) hz
      · have zk13 := mt (nI_leI (a := 12) (b := i) (by omega) (by omega)).mpr zk13
        exfalso; omega
    | succ m ih =>
      intro i k u hi hk hr hr2
      refine x_iload_n C 11 dX5_meanLevel_10 rfl rfl ?_
      refine x_bipush (v := (12)) C 13 dX5_meanLevel_11 (by decide) rfl ?_
      refine x_icmp_ge C 47 16 dX5_meanLevel_13 (by decide) rfl (fun zk13 => ?_) (fun zk13 => ?_)
      · have zk13 := (nI_leI (a := 12) (b := i) (by omega) (by omega)).mp zk13
        exfalso; omega
      · have zk13 := mt (nI_leI (a := 12) (b := i) (by omega) (by omega)).mpr zk13
        refine x_aload_n C 17 dX5_meanLevel_16 rfl rfl ?_
        refine xc_get C 20 0 0 (by decide) (show 0 < 1 by decide) rfl fg_X5_meanLevel_25 rfl dX5_meanLevel_17 rfl ?_
        refine x_iload_n C 21 dX5_meanLevel_20 rfl rfl ?_
        refine xc_chan C 22 i rfl (by omega) dX5_meanLevel_21 rfl ?_
        refine xc_get C 25 4 i (by decide) (show i < 12 from by omega) rfl fg_X5_meanLevel_239 rfl dX5_meanLevel_22 rfl ?_
        refine x_iconst (v := (-1)) C 26 dX5_meanLevel_25 (by decide) rfl ?_
        refine x_icmp_ne C 41 29 dX5_meanLevel_26 (by decide) rfl (fun zk26 => ?_) (fun zk26 => ?_)
        · refine x_iinc (v := nI (i + 1)) C 44 rfl dX5_meanLevel_41 (iinc1 _) (by decide) rfl rfl ?_
          refine x_goto C 10 dX5_meanLevel_44 (by decide) ?_
          exact ih (i + 1) _ _ (by omega) (by omega) (by rw [hr]; first | exact npL_y zk26 | exact npL_n zk26) (by rw [hr2]; first | (subst es2; exact spL_y zk26) | exact spL_n zk26)
        · refine x_iload_n C 30 dX5_meanLevel_29 rfl rfl ?_
          refine x_aload_n C 31 dX5_meanLevel_30 rfl rfl ?_
          refine xc_get C 34 0 0 (by decide) (show 0 < 1 by decide) rfl fg_X5_meanLevel_38 rfl dX5_meanLevel_31 rfl ?_
          refine x_iload_n C 35 dX5_meanLevel_34 rfl rfl ?_
          refine xc_iald C 36 2 0 i (by decide) (show 0 < 1 by decide) rfl rfl (by omega) dX5_meanLevel_35 rfl ?_
          refine x_iadd C 37 dX5_meanLevel_36 rfl ?_
          refine x_nm (fun s2 es2 => ?_)
          refine x_istore_n C 38 dX5_meanLevel_37 (by decide) rfl rfl ?_
          refine x_iinc (v := nI (k + 1)) C 41 rfl dX5_meanLevel_38 (iinc1 _) (by decide) rfl rfl ?_
          refine x_iinc (v := nI (i + 1)) C 44 rfl dX5_meanLevel_41 (iinc1 _) (by decide) rfl rfl ?_
          refine x_goto C 10 dX5_meanLevel_44 (by decide) ?_
          exact ih (i + 1) _ _ (by omega) (by omega) (by rw [hr]; first | exact npL_y zk26 | exact npL_n zk26) (by rw [hr2]; first | (subst es2; exact spL_y zk26) | exact spL_n zk26)
  exact lp10 12 0 0 _ rfl (by omega) rfl rfl
set_option maxRecDepth 100000 in
set_option maxHeartbeats 4000000 in
theorem cC_addStep_1 (hl : l.stackTraces = false) {s0 s1 s2 : Int32} (hN : CN n cap) (hb : caB s0 = false)  : Ct (gm D a E0) l yX5_addStep wsX5_addStep { frames := 28, cells := 1, slots := 6, locals := 700 } [.ref (A 0 0), .int s0, .int s1, .int s2] (wC a E0 n cap A g en S) (qI fun _ _ => False) (fun E w => E = "java/lang/IllegalArgumentException" ∧ w = wC a E0 n cap A g en S) := by
  refine Ct.of [some (.ref (A 0 0)), some (.int s0), some (.int s1), some (.int s2)] rfl hl (by decide) (Nat.le_of_ble_eq_true rfl) rfl (fun φ C0 => ?_)
  have C := C0.1
  refine x_iload_n C 1 dX5_addStep_0 rfl rfl ?_
  refine x_callS0_i C 4 0 0 1 (cC_isStepCall hl) rfl gX5_addStep_X5_isStepCall ⟨by decide, by decide, rfl⟩ ⟨Nat.le_of_ble_eq_true rfl, Nat.le_of_ble_eq_true rfl⟩ rfl rfl (Nat.le_of_ble_eq_true rfl) ⟨Nat.le_of_ble_eq_true rfl, Nat.le_of_ble_eq_true rfl⟩ dX5_addStep_1 rfl rfl rfl (fun r1 w1 h1 => ?_)
  obtain ⟨rfl, rfl⟩ := h1
  refine x_top (show _ = (0 : Int32) from (congrArg bI (show caB s0 = false from hb)).trans rfl) ?_
  refine x_if_ne C 18 7 dX5_addStep_4 (by decide) rfl (fun zk4 => ?_) (fun zk4 => ?_)
  · exact absurd zk4 (by decide)
  · exact x_throwSW C0 (cls := "java/lang/IllegalArgumentException") (text := "no such letter") (names := ["java/lang/RuntimeException", "java/lang/Exception"]) (List.mem_of_getElem? (i := 3) rfl) (by decide) (by decide) (List.mem_cons_of_mem _ (List.mem_append_left _ (List.mem_append_left _ (List.mem_append_left _ (List.mem_append_left _ (List.mem_append_left _ (List.mem_append_left _ (List.mem_of_getElem? (i := 0) rfl)))))))) (List.mem_cons_of_mem _ (List.mem_append_left _ (List.mem_append_left _ (List.mem_append_left _ (List.mem_append_left _ (List.mem_append_left _ (List.mem_append_left _ (List.mem_of_getElem? (i := 1) rfl)))))))) (fun w h => (List.mem_cons_of_mem _ (List.mem_append_left _ (List.mem_append_right _ h)))) (by decide) (by decide +kernel) (by decide +kernel) dX5_addStep_7 dX5_addStep_10 dX5_addStep_11 dX5_addStep_14 dX5_addStep_17 (Nat.le_of_ble_eq_true rfl) (Nat.le_of_ble_eq_true rfl) (Nat.le_of_ble_eq_true rfl) (Nat.le_of_ble_eq_true rfl) ⟨rfl, rfl⟩   
set_option maxRecDepth 100000 in
set_option maxHeartbeats 4000000 in
theorem cC_addStep_2 (hl : l.stackTraces = false) {s0 s1 s2 : Int32} (hN : CN n cap) (hb : caB s0 = true) (hn : ¬ n 3 < 8)  : Ct (gm D a E0) l yX5_addStep wsX5_addStep { frames := 28, cells := 1, slots := 6, locals := 700 } [.ref (A 0 0), .int s0, .int s1, .int s2] (wC a E0 n cap A g en S) (qI fun _ _ => False) (fun E w => E = "java/lang/IllegalStateException" ∧ w = wC a E0 n cap A g en S) := by
  refine Ct.of [some (.ref (A 0 0)), some (.int s0), some (.int s1), some (.int s2)] rfl hl (by decide) (Nat.le_of_ble_eq_true rfl) rfl (fun φ C0 => ?_)
  have C := C0.1
  refine x_iload_n C 1 dX5_addStep_0 rfl rfl ?_
  refine x_callS0_i C 4 0 0 1 (cC_isStepCall hl) rfl gX5_addStep_X5_isStepCall ⟨by decide, by decide, rfl⟩ ⟨Nat.le_of_ble_eq_true rfl, Nat.le_of_ble_eq_true rfl⟩ rfl rfl (Nat.le_of_ble_eq_true rfl) ⟨Nat.le_of_ble_eq_true rfl, Nat.le_of_ble_eq_true rfl⟩ dX5_addStep_1 rfl rfl rfl (fun r1 w1 h1 => ?_)
  obtain ⟨rfl, rfl⟩ := h1
  refine x_top (show _ = (1 : Int32) from (congrArg bI (show caB s0 = true from hb)).trans rfl) ?_
  refine x_if_ne C 18 7 dX5_addStep_4 (by decide) rfl (fun zk4 => ?_) (fun zk4 => ?_)
  · refine x_aload_n C 19 dX5_addStep_18 rfl rfl ?_
    refine xc_get C 22 0 0 (by decide) (show 0 < 1 by decide) rfl fg_X5_addStep_46 rfl dX5_addStep_19 rfl ?_
    refine xc_callV_i C 25 0 0 3 3 3 0 (cC_size hl (j := 3) (by decide)) rfl gX5_addStep_Jx4a65c_size_8abf5 ⟨rfl, by decide, by decide, rfl⟩ ⟨Nat.le_of_ble_eq_true rfl, Nat.le_of_ble_eq_true rfl⟩ rfl (by decide) (show 3 < 4 by decide) rfl rfl rfl (Nat.le_of_ble_eq_true rfl) ⟨Nat.le_of_ble_eq_true rfl, Nat.le_of_ble_eq_true rfl⟩ dX5_addStep_22 rfl rfl rfl (fun r2 w2 h2 => ?_)
    obtain ⟨rfl, rfl⟩ := h2
    refine x_bipush (v := (8)) C 27 dX5_addStep_25 (by decide) rfl ?_
    have h8 := hN.2.2.2.2
    refine x_icmp_lt C 41 30 dX5_addStep_27 (by decide) rfl (fun zk27 => ?_) (fun zk27 => ?_)
    · have zk27 := (nI_ltI (a := (n 3)) (b := 8) (by omega) (by omega)).mp zk27
      exfalso; omega
    · have zk27 := mt (nI_ltI (a := (n 3)) (b := 8) (by omega) (by omega)).mpr zk27
      exact x_throwSW C0 (cls := "java/lang/IllegalStateException") (text := "no room for another step") (names := ["java/lang/RuntimeException", "java/lang/Exception"]) (List.mem_of_getElem? (i := 17) rfl) (by decide) (by decide) (List.mem_cons_of_mem _ (List.mem_append_left _ (List.mem_append_left _ (List.mem_append_left _ (List.mem_append_left _ (List.mem_append_left _ (List.mem_append_left _ (List.mem_of_getElem? (i := 2) rfl)))))))) (List.mem_cons_of_mem _ (List.mem_append_left _ (List.mem_append_left _ (List.mem_append_left _ (List.mem_append_left _ (List.mem_append_left _ (List.mem_append_left _ (List.mem_of_getElem? (i := 3) rfl)))))))) (fun w h => (List.mem_cons_of_mem _ (List.mem_append_right _ h))) (by decide) (by decide +kernel) (by decide +kernel) dX5_addStep_30 dX5_addStep_33 dX5_addStep_34 dX5_addStep_37 dX5_addStep_40 (Nat.le_of_ble_eq_true rfl) (Nat.le_of_ble_eq_true rfl) (Nat.le_of_ble_eq_true rfl) (Nat.le_of_ble_eq_true rfl) ⟨rfl, rfl⟩   
  · exact absurd zk4 (by decide)
theorem fg_X5_clearMacro_46 : gF RX5 wsX5_clearMacro 46 9 9 := ⟨RX5, TX5, 11, "StageConsole", rfl, fun w h => (List.mem_cons_of_mem _ (List.mem_append_left _ (List.mem_append_right _ h))), by decide, (List.mem_cons_of_mem _ (List.mem_append_left _ (List.mem_append_left _ (List.mem_of_getElem? (i := 0) rfl)))), Or.inl rfl⟩
set_option maxRecDepth 100000 in
set_option maxHeartbeats 4000000 in
theorem cC_clearMacro (hl : l.stackTraces = false) (hN : CN n cap)  : Ct (gm D a E0) l yX5_clearMacro wsX5_clearMacro { frames := 8, cells := 0, slots := 0, locals := 200 } [.ref (A 0 0)] (wC a E0 n cap A g en S) (qI fun v w => v = nI (n 3) ∧ w = wC a E0 (updN n 3 0) cap A g en (uS S 3 3 0 (S 3 3 0 + 1))) noX := by
  refine Ct.of [some (.ref (A 0 0)), none] rfl hl (by decide) (Nat.le_of_ble_eq_true rfl) rfl (fun φ C0 => ?_)
  have C := C0.1
  refine x_aload_n C 1 dX5_clearMacro_0 rfl rfl ?_
  refine xc_get C 4 0 0 (by decide) (show 0 < 1 by decide) rfl fg_X5_clearMacro_46 rfl dX5_clearMacro_1 rfl ?_
  refine xc_callV_i C 7 0 0 3 3 3 0 (cC_size hl (j := 3) (by decide)) rfl gX5_clearMacro_Jx4a65c_size_8abf5 ⟨rfl, by decide, by decide, rfl⟩ ⟨Nat.le_of_ble_eq_true rfl, Nat.le_of_ble_eq_true rfl⟩ rfl (by decide) (show 3 < 4 by decide) rfl rfl rfl (Nat.le_of_ble_eq_true rfl) ⟨Nat.le_of_ble_eq_true rfl, Nat.le_of_ble_eq_true rfl⟩ dX5_clearMacro_4 rfl rfl rfl (fun r1 w1 h1 => ?_)
  obtain ⟨rfl, rfl⟩ := h1
  refine x_istore_n C 8 dX5_clearMacro_7 (by decide) rfl rfl ?_
  refine x_aload_n C 9 dX5_clearMacro_8 rfl rfl ?_
  refine xc_get C 12 0 0 (by decide) (show 0 < 1 by decide) rfl fg_X5_clearMacro_46 rfl dX5_clearMacro_9 rfl ?_
  refine xc_callV_v C 15 0 0 3 3 3 0 (cC_clear3 hl (hN.1 3 (by decide)).1 (hN.1 3 (by decide)).2) rfl gX5_clearMacro_Jx4a65c_clear_da8c8 ⟨rfl, by decide, by decide, rfl⟩ ⟨Nat.le_of_ble_eq_true rfl, Nat.le_of_ble_eq_true rfl⟩ rfl (by decide) (show 3 < 4 by decide) rfl rfl rfl (Nat.le_of_ble_eq_true rfl) ⟨Nat.le_of_ble_eq_true rfl, Nat.le_of_ble_eq_true rfl⟩ dX5_clearMacro_12 rfl rfl rfl (fun w2 h2 => ?_)
  subst h2
  refine x_iload_n C 16 dX5_clearMacro_15 rfl rfl ?_
  exact x_zret C0 dX5_clearMacro_16 (Nat.le_of_ble_eq_true rfl) (Nat.le_of_ble_eq_true rfl) ⟨_, rfl, ⟨rfl, rfl⟩⟩
theorem fg_X5_macroFault_49 : gF RX5 wsX5_macroFault 49 9 10 := ⟨RX5, TX5, 11, "StageConsole", rfl, fun w h => (List.mem_cons_of_mem _ (List.mem_append_left _ (List.mem_append_right _ h))), by decide, (List.mem_cons_of_mem _ (List.mem_append_left _ (List.mem_append_left _ (List.mem_of_getElem? (i := 2) rfl)))), Or.inl rfl⟩
set_option maxRecDepth 100000 in
set_option maxHeartbeats 4000000 in
theorem cC_macroFault_0 (hl : l.stackTraces = false) (hv : ¬ S 0 0 3 = 32) (hn : chK (S 0 0 3))  : Ct (gm D a E0) l yX5_macroFault wsX5_macroFault { frames := 4, cells := 0, slots := 0, locals := 100 } [.ref (A 0 0)] (wC a E0 n cap A g en S) (qI fun v w => v = S 0 0 3 ∧ w = wC a E0 n cap A g en S) noX := by
  refine Ct.of [some (.ref (A 0 0))] rfl hl (by decide) (Nat.le_of_ble_eq_true rfl) rfl (fun φ C0 => ?_)
  have C := C0.1
  refine x_aload_n C 1 dX5_macroFault_0 rfl rfl ?_
  refine xc_get C 4 0 0 (by decide) (show 0 < 1 by decide) rfl fg_X5_macroFault_49 rfl dX5_macroFault_1 rfl ?_
  refine x_bipush (v := (32)) C 6 dX5_macroFault_4 (by decide) rfl ?_
  refine x_icmp_ne C 20 9 dX5_macroFault_6 (by decide) rfl (fun zk6 => ?_) (fun zk6 => ?_)
  · refine x_aload_n C 21 dX5_macroFault_20 rfl rfl ?_
    refine xc_get C 24 0 0 (by decide) (show 0 < 1 by decide) rfl fg_X5_macroFault_49 rfl dX5_macroFault_21 rfl ?_
    exact x_nret C0 rfl (hn.1) dX5_macroFault_24 (Nat.le_of_ble_eq_true rfl) (Nat.le_of_ble_eq_true rfl) ⟨_, rfl, ⟨rfl, rfl⟩⟩
  · exact absurd zk6 hv
set_option maxRecDepth 100000 in
set_option maxHeartbeats 4000000 in
theorem cC_macroFault_1 (hl : l.stackTraces = false) (hv : S 0 0 3 = 32)  : Ct (gm D a E0) l yX5_macroFault wsX5_macroFault { frames := 8, cells := 1, slots := 6, locals := 200 } [.ref (A 0 0)] (wC a E0 n cap A g en S) (qI fun _ _ => False) (fun E w => E = "java/util/NoSuchElementException" ∧ w = wC a E0 n cap A g en S) := by
  refine Ct.of [some (.ref (A 0 0))] rfl hl (by decide) (Nat.le_of_ble_eq_true rfl) rfl (fun φ C0 => ?_)
  have C := C0.1
  refine x_aload_n C 1 dX5_macroFault_0 rfl rfl ?_
  refine xc_get C 4 0 0 (by decide) (show 0 < 1 by decide) rfl fg_X5_macroFault_49 rfl dX5_macroFault_1 rfl ?_
  refine x_bipush (v := (32)) C 6 dX5_macroFault_4 (by decide) rfl ?_
  refine x_icmp_ne C 20 9 dX5_macroFault_6 (by decide) rfl (fun zk6 => ?_) (fun zk6 => ?_)
  · exact absurd hv zk6
  · exact x_throwSW C0 (cls := "java/util/NoSuchElementException") (text := "the macro was never run") (names := ["java/lang/RuntimeException", "java/lang/Exception"]) (List.mem_of_getElem? (i := 8) rfl) (by decide) (by decide) (List.mem_cons_of_mem _ (List.mem_append_left _ (List.mem_append_left _ (List.mem_of_getElem? (i := 0) rfl)))) (List.mem_cons_of_mem _ (List.mem_append_left _ (List.mem_append_left _ (List.mem_of_getElem? (i := 1) rfl)))) (fun w h => (List.mem_cons_of_mem _ (List.mem_append_right _ h))) (by decide) (by decide +kernel) (by decide +kernel) dX5_macroFault_9 dX5_macroFault_12 dX5_macroFault_13 dX5_macroFault_16 dX5_macroFault_19 (Nat.le_of_ble_eq_true rfl) (Nat.le_of_ble_eq_true rfl) (Nat.le_of_ble_eq_true rfl) (Nat.le_of_ble_eq_true rfl) ⟨rfl, rfl⟩   
end CC
