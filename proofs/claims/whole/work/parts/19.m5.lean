section MM
variable {l : Launch} {Γ : Gm} {D : va_G} {a : Nat → ClassId} {E0 m : Nat} {am : Nat → Nat} {I : Nat → Nat → Int32} {en : Int64}
theorem fp_X6_pass_98 : pF RX6 wsX6_pass 98 10 35 false (.int) := ⟨RX6, TX6, 36, "StageConsoleModel", tyX6, rfl, fun w h => (List.mem_cons_of_mem _ (List.mem_append_left _ (List.mem_append_left _ (List.mem_append_right _ h)))), by decide, (List.mem_cons_of_mem _ (List.mem_append_left _ (List.mem_append_left _ (List.mem_append_left _ (List.mem_append_left _ (List.mem_of_getElem? (i := 1) rfl)))))), Or.inl rfl, tyX6_ok, nmX6, rfl, rfl, fun h => absurd h (by decide)⟩
theorem fg_X6_pass_98 : gF RX6 wsX6_pass 98 10 35 := ⟨RX6, TX6, 36, "StageConsoleModel", rfl, fun w h => (List.mem_cons_of_mem _ (List.mem_append_left _ (List.mem_append_left _ (List.mem_append_right _ h)))), by decide, (List.mem_cons_of_mem _ (List.mem_append_left _ (List.mem_append_left _ (List.mem_append_left _ (List.mem_append_left _ (List.mem_of_getElem? (i := 1) rfl)))))), Or.inl rfl⟩
set_option maxRecDepth 100000 in
set_option maxHeartbeats 4000000 in
theorem cM_pass_1 (hl : l.stackTraces = false) {I : Nat → Nat → Int32} {t : Int32} (ht : inB t.toInt64 1 100 = false) : Ct (gm D a E0) l yX6_pass wsX6_pass { frames := 16, cells := 0, slots := 0, locals := 400 } [.ref m, .int t] (wM m am a I en) (qI fun v w => v = -1 ∧ w = wM m am a (uI I 30 8 1) en) noX := by
  refine Ct.of [some (.ref m), some (.int t), none, none] rfl hl (by decide) (Nat.le_of_ble_eq_true rfl) rfl (fun φ C0 => ?_)
  have C := C0.1
  refine x_aload_n C 1 dX6_pass_0 rfl rfl ?_
  refine x_iload_n C 2 dX6_pass_1 rfl rfl ?_
  refine x_i2l C 3 dX6_pass_2 rfl rfl ?_
  refine x_lconst (v := 1) C 4 dX6_pass_3 (by decide) rfl ?_
  refine x_ldc2 (v := 100) C 7 (List.mem_cons_of_mem _ (List.mem_append_left _ (List.mem_append_left _ (List.mem_append_left _ (List.mem_append_left _ (List.mem_of_getElem? (i := 0) rfl)))))) dX6_pass_4 rfl ?_
  refine x_callS0_i C 10 0 0 3 (cM_in hl _ _ _ _) rfl gX6_pass_X6_in ⟨by decide, by decide, rfl⟩ ⟨Nat.le_of_ble_eq_true rfl, Nat.le_of_ble_eq_true rfl⟩ rfl rfl (Nat.le_of_ble_eq_true rfl) ⟨Nat.le_of_ble_eq_true rfl, Nat.le_of_ble_eq_true rfl⟩ dX6_pass_7 rfl rfl rfl (fun r1 w1 h1 => ?_)
  obtain ⟨rfl, rfl⟩ := h1
  refine x_top (show _ = (0 : Int32) from by rw [ht]; rfl) ?_
  refine x_if_eq C 17 13 dX6_pass_10 (by decide) rfl (fun zk10 => ?_) (fun zk10 => ?_)
  · refine x_iconst (v := (1)) C 18 dX6_pass_17 (by decide) rfl ?_
    refine xm_put C 21 8 (by decide) fp_X6_pass_98 rfl rfl dX6_pass_18 rfl ?_
    refine x_aload_n C 22 dX6_pass_21 rfl rfl ?_
    refine xm_get C 25 fg_X6_pass_98 rfl dX6_pass_22 rfl ?_
    refine x_top (show _ = (1) from rfl) ?_
    refine x_if_le C 30 28 dX6_pass_25 (by decide) rfl (fun zk25 => ?_) (fun zk25 => ?_)
    · exact absurd zk25 (by decide)
    · refine x_iconst (v := (-1)) C 29 dX6_pass_28 (by decide) rfl ?_
      exact x_zret C0 dX6_pass_29 (Nat.le_of_ble_eq_true rfl) (Nat.le_of_ble_eq_true rfl) ⟨_, rfl, ⟨rfl, rfl⟩⟩
  · exact absurd zk10 (by decide)
theorem fg_X6_pass_140 : gF RX6 wsX6_pass 140 10 32 := ⟨RX6, TX6, 36, "StageConsoleModel", rfl, fun w h => (List.mem_cons_of_mem _ (List.mem_append_left _ (List.mem_append_left _ (List.mem_append_right _ h)))), by decide, (List.mem_cons_of_mem _ (List.mem_append_left _ (List.mem_append_left _ (List.mem_append_left _ (List.mem_append_left _ (List.mem_of_getElem? (i := 2) rfl)))))), Or.inl rfl⟩
theorem fp_X6_pass_140 : pF RX6 wsX6_pass 140 10 32 false (.int) := ⟨RX6, TX6, 36, "StageConsoleModel", tyX6, rfl, fun w h => (List.mem_cons_of_mem _ (List.mem_append_left _ (List.mem_append_left _ (List.mem_append_right _ h)))), by decide, (List.mem_cons_of_mem _ (List.mem_append_left _ (List.mem_append_left _ (List.mem_append_left _ (List.mem_append_left _ (List.mem_of_getElem? (i := 2) rfl)))))), Or.inl rfl, tyX6_ok, nmX6, rfl, rfl, fun h => absurd h (by decide)⟩
theorem fg_X6_pass_158 : gF RX6 wsX6_pass 158 10 34 := ⟨RX6, TX6, 36, "StageConsoleModel", rfl, fun w h => (List.mem_cons_of_mem _ (List.mem_append_left _ (List.mem_append_left _ (List.mem_append_right _ h)))), by decide, (List.mem_cons_of_mem _ (List.mem_append_left _ (List.mem_append_left _ (List.mem_append_left _ (List.mem_append_left _ (List.mem_of_getElem? (i := 8) rfl)))))), Or.inl rfl⟩
theorem fp_X6_pass_158 : pF RX6 wsX6_pass 158 10 34 false (.long) := ⟨RX6, TX6, 36, "StageConsoleModel", tyX6, rfl, fun w h => (List.mem_cons_of_mem _ (List.mem_append_left _ (List.mem_append_left _ (List.mem_append_right _ h)))), by decide, (List.mem_cons_of_mem _ (List.mem_append_left _ (List.mem_append_left _ (List.mem_append_left _ (List.mem_append_left _ (List.mem_of_getElem? (i := 8) rfl)))))), Or.inl rfl, tyX6_ok, nmX6, rfl, rfl, fun h => absurd h (by decide)⟩
theorem fg_X6_pass_42 : gF RX6 wsX6_pass 42 10 12 := ⟨RX6, TX6, 36, "StageConsoleModel", rfl, fun w h => (List.mem_cons_of_mem _ (List.mem_append_left _ (List.mem_append_left _ (List.mem_append_right _ h)))), by decide, (List.mem_cons_of_mem _ (List.mem_append_left _ (List.mem_append_left _ (List.mem_append_left _ (List.mem_append_left _ (List.mem_of_getElem? (i := 3) rfl)))))), Or.inl rfl⟩
theorem fg_X6_pass_33 : gF RX6 wsX6_pass 33 10 9 := ⟨RX6, TX6, 36, "StageConsoleModel", rfl, fun w h => (List.mem_cons_of_mem _ (List.mem_append_left _ (List.mem_append_left _ (List.mem_append_right _ h)))), by decide, (List.mem_cons_of_mem _ (List.mem_append_left _ (List.mem_append_left _ (List.mem_append_left _ (List.mem_append_left _ (List.mem_of_getElem? (i := 4) rfl)))))), Or.inl rfl⟩
theorem fg_X6_pass_36 : gF RX6 wsX6_pass 36 10 10 := ⟨RX6, TX6, 36, "StageConsoleModel", rfl, fun w h => (List.mem_cons_of_mem _ (List.mem_append_left _ (List.mem_append_left _ (List.mem_append_right _ h)))), by decide, (List.mem_cons_of_mem _ (List.mem_append_left _ (List.mem_append_left _ (List.mem_append_left _ (List.mem_append_left _ (List.mem_of_getElem? (i := 5) rfl)))))), Or.inl rfl⟩
theorem fg_X6_pass_27 : gF RX6 wsX6_pass 27 10 7 := ⟨RX6, TX6, 36, "StageConsoleModel", rfl, fun w h => (List.mem_cons_of_mem _ (List.mem_append_left _ (List.mem_append_left _ (List.mem_append_right _ h)))), by decide, (List.mem_cons_of_mem _ (List.mem_append_left _ (List.mem_append_left _ (List.mem_append_left _ (List.mem_append_left _ (List.mem_of_getElem? (i := 6) rfl)))))), Or.inl rfl⟩
theorem fg_X6_pass_30 : gF RX6 wsX6_pass 30 10 8 := ⟨RX6, TX6, 36, "StageConsoleModel", rfl, fun w h => (List.mem_cons_of_mem _ (List.mem_append_left _ (List.mem_append_left _ (List.mem_append_right _ h)))), by decide, (List.mem_cons_of_mem _ (List.mem_append_left _ (List.mem_append_left _ (List.mem_append_left _ (List.mem_append_left _ (List.mem_of_getElem? (i := 7) rfl)))))), Or.inl rfl⟩
set_option maxRecDepth 100000 in
set_option maxHeartbeats 4000000 in
theorem cM_pass_0 (hl : l.stackTraces = false) {I : Nat → Nat → Int32} {eg : Nat → Nat} {nq ng ne nt : Nat} (hM : MI I eg nq ng ne nt) {t : Nat} (ht : inB (nI t).toInt64 1 100 = true) (ht2 : t ≤ 100) : Ct (gm D a E0) l yX6_pass wsX6_pass { frames := 16, cells := 0, slots := 0, locals := 400 } [.ref m, .int (nI t)] (wM m am a I en) (qI fun v w => v = (tkL eg ng ne t (uI I 30 8 0) en).1 30 6 ∧ w = wM m am a (tkL eg ng ne t (uI I 30 8 0) en).1 (tkL eg ng ne t (uI I 30 8 0) en).2) noX := by
  refine Ct.of [some (.ref m), some (.int (nI t)), none, none] rfl hl (by decide) (Nat.le_of_ble_eq_true rfl) rfl (fun φ C0 => ?_)
  have C := C0.1
  refine x_aload_n C 1 dX6_pass_0 rfl rfl ?_
  refine x_iload_n C 2 dX6_pass_1 rfl rfl ?_
  refine x_i2l C 3 dX6_pass_2 rfl rfl ?_
  refine x_lconst (v := 1) C 4 dX6_pass_3 (by decide) rfl ?_
  refine x_ldc2 (v := 100) C 7 (List.mem_cons_of_mem _ (List.mem_append_left _ (List.mem_append_left _ (List.mem_append_left _ (List.mem_append_left _ (List.mem_of_getElem? (i := 0) rfl)))))) dX6_pass_4 rfl ?_
  refine x_callS0_i C 10 0 0 3 (cM_in hl _ _ _ _) rfl gX6_pass_X6_in ⟨by decide, by decide, rfl⟩ ⟨Nat.le_of_ble_eq_true rfl, Nat.le_of_ble_eq_true rfl⟩ rfl rfl (Nat.le_of_ble_eq_true rfl) ⟨Nat.le_of_ble_eq_true rfl, Nat.le_of_ble_eq_true rfl⟩ dX6_pass_7 rfl rfl rfl (fun r1 w1 h1 => ?_)
  obtain ⟨rfl, rfl⟩ := h1
  refine x_top (show _ = (1 : Int32) from by rw [ht]; rfl) ?_
  refine x_if_eq C 17 13 dX6_pass_10 (by decide) rfl (fun zk10 => ?_) (fun zk10 => ?_)
  · exact absurd zk10 (by decide)
  · refine x_iconst (v := (0)) C 14 dX6_pass_13 (by decide) rfl ?_
    refine x_goto C 18 dX6_pass_14 (by decide) ?_
    refine xm_put C 21 8 (by decide) fp_X6_pass_98 rfl rfl dX6_pass_18 rfl ?_
    refine x_aload_n C 22 dX6_pass_21 rfl rfl ?_
    refine xm_get C 25 fg_X6_pass_98 rfl dX6_pass_22 rfl ?_
    refine x_top (show _ = (0) from rfl) ?_
    refine x_if_le C 30 28 dX6_pass_25 (by decide) rfl (fun zk25 => ?_) (fun zk25 => ?_)
    · refine x_iconst (v := (0)) C 31 dX6_pass_30 (by decide) rfl ?_
      refine x_istore_n C 32 dX6_pass_31 (by decide) rfl rfl ?_
      have lp32 : ∀ (n i : Nat) (J : Nat → Nat → Int32) (e2 : Int64), i + n = t → MI J eg nq ng ne nt → (tkL eg ng ne t (uI I 30 8 0) en) = tkL eg ng ne n J e2 → X φ 32 [some (.ref m), some (.int (nI t)), some (.int (nI i)), none] [] (wM m am a J e2) 0 0 := by
        intro n
        induction n with
        | zero =>
          intro i J e2 hi hMJ hr
          refine x_iload_n C 33 dX6_pass_32 rfl rfl ?_
          refine x_iload_n C 34 dX6_pass_33 rfl rfl ?_
          refine x_icmp_ge C 144 37 dX6_pass_34 (by decide) rfl (fun zk34 => ?_) (fun zk34 => ?_)
          · have zk34 := (nI_leI (a := t) (b := i) (by omega) (by omega)).mp zk34
            refine x_aload_n C 145 dX6_pass_144 rfl rfl ?_
            refine xm_get C 148 fg_X6_pass_140 rfl dX6_pass_145 rfl ?_
            exact x_zret C0 dX6_pass_148 (Nat.le_of_ble_eq_true rfl) (Nat.le_of_ble_eq_true rfl) ⟨_, rfl, ⟨by rw [hr]; rfl, by rw [hr]; rfl⟩⟩
          · have zk34 := mt (nI_leI (a := t) (b := i) (by omega) (by omega)).mpr zk34
            exfalso; omega
        | succ n ih =>
          intro i J e2 hi hMJ hr
          refine x_iload_n C 33 dX6_pass_32 rfl rfl ?_
          refine x_iload_n C 34 dX6_pass_33 rfl rfl ?_
          refine x_icmp_ge C 144 37 dX6_pass_34 (by decide) rfl (fun zk34 => ?_) (fun zk34 => ?_)
          · have zk34 := (nI_leI (a := t) (b := i) (by omega) (by omega)).mp zk34
            exfalso; omega
          · have zk34 := mt (nI_leI (a := t) (b := i) (by omega) (by omega)).mpr zk34
            refine x_aload_n C 38 dX6_pass_37 rfl rfl ?_
            refine x_dup C 39 dX6_pass_38 rfl rfl ?_
            refine xm_get C 42 fg_X6_pass_140 rfl dX6_pass_39 rfl ?_
            refine x_iconst (v := (1)) C 43 dX6_pass_42 (by decide) rfl ?_
            refine x_iadd C 44 dX6_pass_43 rfl ?_
            refine xm_put C 47 6 (by decide) fp_X6_pass_140 rfl rfl dX6_pass_44 rfl ?_
            refine x_iconst (v := (0)) C 48 dX6_pass_47 (by decide) rfl ?_
            refine x_istore_n C 49 dX6_pass_48 (by decide) rfl rfl ?_
            have lp49 : ∀ (n2 c : Nat) (K : Nat → Nat → Int32), c + n2 = 12 → tkI J = ptL n2 c K → X φ 49 [some (.ref m), some (.int (nI t)), some (.int (nI i)), some (.int (nI c))] [] (wM m am a K e2) 0 0 := by
              intro n2
              induction n2 with
              | zero =>
                intro c K hc hr2
                refine x_iload_n C 50 dX6_pass_49 rfl rfl ?_
                refine x_bipush (v := (12)) C 52 dX6_pass_50 (by decide) rfl ?_
                refine x_icmp_ge C 109 55 dX6_pass_52 (by decide) rfl (fun zk52 => ?_) (fun zk52 => ?_)
                · have zk52 := (nI_leI (a := 12) (b := c) (by omega) (by omega)).mp zk52
                  have hK : K = tkI J := hr2.symm
                  refine x_iconst (v := (0)) C 110 dX6_pass_109 (by decide) rfl ?_
                  refine x_istore_n C 111 dX6_pass_110 (by decide) rfl rfl ?_
                  have lp111 : ∀ (n3 d : Nat) (e3 : Int64), d + n3 = 12 → enL K eg ng ne 12 0 e2 = enL K eg ng ne n3 d e3 → X φ 111 [some (.ref m), some (.int (nI t)), some (.int (nI i)), some (.int (nI d))] [] (wM m am a K e3) 0 0 := by
                    intro n3
                    induction n3 with
                    | zero =>
                      intro d e3 hd hr3
                      refine x_iload_n C 112 dX6_pass_111 rfl rfl ?_
                      refine x_bipush (v := (12)) C 114 dX6_pass_112 (by decide) rfl ?_
                      refine x_icmp_ge C 138 117 dX6_pass_114 (by decide) rfl (fun zk114 => ?_) (fun zk114 => ?_)
                      · have zk114 := (nI_leI (a := 12) (b := d) (by omega) (by omega)).mp zk114
                        refine x_iinc (v := nI (i + 1)) C 141 rfl dX6_pass_138 (iinc1 _) (by decide) rfl rfl ?_
                        refine x_goto C 32 dX6_pass_141 (by decide) ?_
                        refine x_dropn 3 ?_
                        exact ih (i + 1) _ _ (by omega) (by rw [hK]; exact MI_tk hMJ) (by rw [hr, tkL, ← hK, hr3]; rfl)
                      · have zk114 := mt (nI_leI (a := 12) (b := d) (by omega) (by omega)).mpr zk114
                        exfalso; omega
                    | succ n3 ih3 =>
                      intro d e3 hd hr3
                      refine x_iload_n C 112 dX6_pass_111 rfl rfl ?_
                      refine x_bipush (v := (12)) C 114 dX6_pass_112 (by decide) rfl ?_
                      refine x_icmp_ge C 138 117 dX6_pass_114 (by decide) rfl (fun zk114 => ?_) (fun zk114 => ?_)
                      · have zk114 := (nI_leI (a := 12) (b := d) (by omega) (by omega)).mp zk114
                        exfalso; omega
                      · have zk114 := mt (nI_leI (a := 12) (b := d) (by omega) (by omega)).mpr zk114
                        refine x_aload_n C 118 dX6_pass_117 rfl rfl ?_
                        refine x_dup C 119 dX6_pass_118 rfl rfl ?_
                        refine xm_get C 122 fg_X6_pass_158 rfl dX6_pass_119 rfl ?_
                        refine x_aload_n C 123 dX6_pass_122 rfl rfl ?_
                        refine x_iload_n C 124 dX6_pass_123 rfl rfl ?_
                        refine x_callV0_i C 127 0 0 0 10 1 (cM_levelOf hl (I := K) (eg := eg) (nq := nq) (ng := ng) (ne := ne) (nt := nt) (by rw [hK]; exact MI_tk hMJ) _ (by omega)) rfl gX6_pass_X6_levelOf ⟨rfl, by decide, by decide, rfl⟩ ⟨Nat.le_of_ble_eq_true rfl, Nat.le_of_ble_eq_true rfl⟩ rfl rfl rfl rfl (Nat.le_of_ble_eq_true rfl) ⟨Nat.le_of_ble_eq_true rfl, Nat.le_of_ble_eq_true rfl⟩ dX6_pass_124 rfl rfl rfl (fun r2 w2 h2 => ?_)
                        obtain ⟨rfl, rfl⟩ := h2
                        refine x_i2l C 128 dX6_pass_127 rfl rfl ?_
                        refine x_ladd C 129 dX6_pass_128 rfl ?_
                        refine xm_putJ C 132 fp_X6_pass_158 dX6_pass_129 rfl ?_
                        refine x_iinc (v := nI (d + 1)) C 135 rfl dX6_pass_132 (iinc1 _) (by decide) rfl rfl ?_
                        refine x_goto C 111 dX6_pass_135 (by decide) ?_
                        exact ih3 (d + 1) _ (by omega) (by rw [hr3, enL])
                  exact lp111 12 0 _ rfl rfl
                · have zk52 := mt (nI_leI (a := 12) (b := c) (by omega) (by omega)).mpr zk52
                  exfalso; omega
              | succ n2 ih2 =>
                intro c K hc hr2
                refine x_iload_n C 50 dX6_pass_49 rfl rfl ?_
                refine x_bipush (v := (12)) C 52 dX6_pass_50 (by decide) rfl ?_
                refine x_icmp_ge C 109 55 dX6_pass_52 (by decide) rfl (fun zk52 => ?_) (fun zk52 => ?_)
                · have zk52 := (nI_leI (a := 12) (b := c) (by omega) (by omega)).mp zk52
                  exfalso; omega
                · have zk52 := mt (nI_leI (a := 12) (b := c) (by omega) (by omega)).mpr zk52
                  refine x_aload_n C 56 dX6_pass_55 rfl rfl ?_
                  refine xm_get C 59 fg_X6_pass_42 rfl dX6_pass_56 rfl ?_
                  refine x_iload_n C 60 dX6_pass_59 rfl rfl ?_
                  refine xm_zald C 61 10 12 (c) (by decide) rfl rfl rfl (by omega) dX6_pass_60 rfl ?_
                  refine x_if_eq C 103 64 dX6_pass_61 (by decide) rfl (fun zk61 => ?_) (fun zk61 => ?_)
                  · refine x_iinc (v := nI (c + 1)) C 106 rfl dX6_pass_103 (iinc1 _) (by decide) rfl rfl ?_
                    refine x_goto C 49 dX6_pass_106 (by decide) ?_
                    exact ih2 (c + 1) _ (by omega) (by rw [hr2, ptL]; (first | rw [if_pos zk61] | rw [if_neg zk61, if_pos zk81] | rw [if_neg zk61, if_neg zk81]); try rfl)
                  · refine x_aload_n C 65 dX6_pass_64 rfl rfl ?_
                    refine xm_get C 68 fg_X6_pass_140 rfl dX6_pass_65 rfl ?_
                    refine x_aload_n C 69 dX6_pass_68 rfl rfl ?_
                    refine xm_get C 72 fg_X6_pass_33 rfl dX6_pass_69 rfl ?_
                    refine x_iload_n C 73 dX6_pass_72 rfl rfl ?_
                    refine xm_iald C 74 7 12 (c) (by decide) rfl rfl rfl (by omega) dX6_pass_73 rfl ?_
                    refine x_isub C 75 dX6_pass_74 rfl ?_
                    refine x_aload_n C 76 dX6_pass_75 rfl rfl ?_
                    refine xm_get C 79 fg_X6_pass_36 rfl dX6_pass_76 rfl ?_
                    refine x_iload_n C 80 dX6_pass_79 rfl rfl ?_
                    refine xm_iald C 81 8 12 (c) (by decide) rfl rfl rfl (by omega) dX6_pass_80 rfl ?_
                    refine x_icmp_ne C 103 84 dX6_pass_81 (by decide) rfl (fun zk81 => ?_) (fun zk81 => ?_)
                    · refine x_iinc (v := nI (c + 1)) C 106 rfl dX6_pass_103 (iinc1 _) (by decide) rfl rfl ?_
                      refine x_goto C 49 dX6_pass_106 (by decide) ?_
                      exact ih2 (c + 1) _ (by omega) (by rw [hr2, ptL]; (first | rw [if_pos zk61] | rw [if_neg zk61, if_pos zk81] | rw [if_neg zk61, if_neg zk81]); try rfl)
                    · refine x_aload_n C 85 dX6_pass_84 rfl rfl ?_
                      refine xm_get C 88 fg_X6_pass_42 rfl dX6_pass_85 rfl ?_
                      refine x_iload_n C 89 dX6_pass_88 rfl rfl ?_
                      refine x_iconst (v := (0)) C 90 dX6_pass_89 (by decide) rfl ?_
                      refine xm_zast C 91 10 12 (c) (by decide) rfl rfl rfl (by omega) (rfl) dX6_pass_90 rfl ?_
                      refine x_aload_n C 92 dX6_pass_91 rfl rfl ?_
                      refine xm_get C 95 fg_X6_pass_27 rfl dX6_pass_92 rfl ?_
                      refine x_iload_n C 96 dX6_pass_95 rfl rfl ?_
                      refine x_aload_n C 97 dX6_pass_96 rfl rfl ?_
                      refine xm_get C 100 fg_X6_pass_30 rfl dX6_pass_97 rfl ?_
                      refine x_iload_n C 101 dX6_pass_100 rfl rfl ?_
                      refine xm_iald C 102 6 12 (c) (by decide) rfl rfl rfl (by omega) dX6_pass_101 rfl ?_
                      refine xm_iast C 103 5 12 (c) (by decide) rfl rfl rfl (by omega) dX6_pass_102 rfl ?_
                      refine x_iinc (v := nI (c + 1)) C 106 rfl dX6_pass_103 (iinc1 _) (by decide) rfl rfl ?_
                      refine x_goto C 49 dX6_pass_106 (by decide) ?_
                      exact ih2 (c + 1) _ (by omega) (by rw [hr2, ptL]; (first | rw [if_pos zk61] | rw [if_neg zk61, if_pos zk81] | rw [if_neg zk61, if_neg zk81]); try rfl)
            exact lp49 12 0 _ rfl rfl
      exact lp32 t 0 _ _ (by omega) hM rfl
    · exact absurd zk25 (by decide)
theorem fp_X6_channelByLevel_98 : pF RX6 wsX6_channelByLevel 98 10 35 false (.int) := ⟨RX6, TX6, 36, "StageConsoleModel", tyX6, rfl, fun w h => (List.mem_cons_of_mem _ (List.mem_append_left _ (List.mem_append_left _ (List.mem_append_right _ h)))), by decide, (List.mem_cons_of_mem _ (List.mem_append_left _ (List.mem_append_left _ (List.mem_append_left _ (List.mem_append_left _ (List.mem_of_getElem? (i := 0) rfl)))))), Or.inl rfl, tyX6_ok, nmX6, rfl, rfl, fun h => absurd h (by decide)⟩
theorem fg_X6_channelByLevel_98 : gF RX6 wsX6_channelByLevel 98 10 35 := ⟨RX6, TX6, 36, "StageConsoleModel", rfl, fun w h => (List.mem_cons_of_mem _ (List.mem_append_left _ (List.mem_append_left _ (List.mem_append_right _ h)))), by decide, (List.mem_cons_of_mem _ (List.mem_append_left _ (List.mem_append_left _ (List.mem_append_left _ (List.mem_append_left _ (List.mem_of_getElem? (i := 0) rfl)))))), Or.inl rfl⟩
set_option maxRecDepth 100000 in
set_option maxHeartbeats 4000000 in
theorem cM_channelByLevel_1 (hl : l.stackTraces = false) {I : Nat → Nat → Int32} {r : Int32} (hc : chB r = false) : Ct (gm D a E0) l yX6_channelByLevel wsX6_channelByLevel { frames := 16, cells := 0, slots := 0, locals := 400 } [.ref m, .int r] (wM m am a I en) (qI fun v w => v = -1 ∧ w = wM m am a (uI I 30 8 1) en) noX := by
  refine Ct.of [some (.ref m), some (.int r), none, none, none, none] rfl hl (by decide) (Nat.le_of_ble_eq_true rfl) rfl (fun φ C0 => ?_)
  have C := C0.1
  refine x_aload_n C 1 dX6_channelByLevel_0 rfl rfl ?_
  refine x_iload_n C 2 dX6_channelByLevel_1 rfl rfl ?_
  refine x_callS0_i C 5 0 0 1 (cM_isChannel hl _ _) rfl gX6_channelByLevel_X6_isChannel ⟨by decide, by decide, rfl⟩ ⟨Nat.le_of_ble_eq_true rfl, Nat.le_of_ble_eq_true rfl⟩ rfl rfl (Nat.le_of_ble_eq_true rfl) ⟨Nat.le_of_ble_eq_true rfl, Nat.le_of_ble_eq_true rfl⟩ dX6_channelByLevel_2 rfl rfl rfl (fun r1 w1 h1 => ?_)
  obtain ⟨rfl, rfl⟩ := h1
  refine x_top (show _ = (0 : Int32) from by rw [hc]; rfl) ?_
  refine x_if_eq C 12 8 dX6_channelByLevel_5 (by decide) rfl (fun zk5 => ?_) (fun zk5 => ?_)
  · refine x_iconst (v := (1)) C 13 dX6_channelByLevel_12 (by decide) rfl ?_
    refine xm_put C 16 8 (by decide) fp_X6_channelByLevel_98 rfl rfl dX6_channelByLevel_13 rfl ?_
    refine x_iconst (v := (-1)) C 17 dX6_channelByLevel_16 (by decide) rfl ?_
    refine x_istore_n C 18 dX6_channelByLevel_17 (by decide) rfl rfl ?_
    refine x_iconst (v := (0)) C 19 dX6_channelByLevel_18 (by decide) rfl ?_
    refine x_istore_n C 20 dX6_channelByLevel_19 (by decide) rfl rfl ?_
    refine x_iload_n C 21 dX6_channelByLevel_20 rfl rfl ?_
    refine x_bipush (v := (12)) C 23 dX6_channelByLevel_21 (by decide) rfl ?_
    refine x_icmp_ge C 114 26 dX6_channelByLevel_23 (by decide) rfl (fun zk23 => ?_) (fun zk23 => ?_)
    · exact absurd zk23 (by decide)
    · refine x_aload_n C 27 dX6_channelByLevel_26 rfl rfl ?_
      refine xm_get C 30 fg_X6_channelByLevel_98 rfl dX6_channelByLevel_27 rfl ?_
      refine x_top (show _ = (1) from rfl) ?_
      refine x_if_ne C 114 33 dX6_channelByLevel_30 (by decide) rfl (fun zk30 => ?_) (fun zk30 => ?_)
      · refine x_iload_n C 115 dX6_channelByLevel_114 rfl rfl ?_
        exact x_zret C0 dX6_channelByLevel_115 (Nat.le_of_ble_eq_true rfl) (Nat.le_of_ble_eq_true rfl) ⟨_, rfl, ⟨rfl, rfl⟩⟩
      · exact absurd zk30 (by decide)
  · exact absurd zk5 (by decide)
set_option maxRecDepth 100000 in
set_option maxHeartbeats 4000000 in
theorem cM_channelByLevel_0 (hl : l.stackTraces = false) {I : Nat → Nat → Int32} {eg : Nat → Nat} {nq ng ne nt : Nat} (hM : MI I eg nq ng ne nt) {r : Nat} (hc : r < 12) : Ct (gm D a E0) l yX6_channelByLevel wsX6_channelByLevel { frames := 16, cells := 0, slots := 0, locals := 400 } [.ref m, .int (nI r)] (wM m am a I en) (qI fun v w => v = cbL (lvF (uI I 30 8 0) eg ng ne) r 12 0 (-1) ∧ w = wM m am a (uI I 30 8 0) en) noX := by
  refine Ct.of [some (.ref m), some (.int (nI r)), none, none, none, none] rfl hl (by decide) (Nat.le_of_ble_eq_true rfl) rfl (fun φ C0 => ?_)
  have C := C0.1
  refine x_aload_n C 1 dX6_channelByLevel_0 rfl rfl ?_
  refine x_iload_n C 2 dX6_channelByLevel_1 rfl rfl ?_
  refine x_callS0_i C 5 0 0 1 (cM_isChannel hl _ _) rfl gX6_channelByLevel_X6_isChannel ⟨by decide, by decide, rfl⟩ ⟨Nat.le_of_ble_eq_true rfl, Nat.le_of_ble_eq_true rfl⟩ rfl rfl (Nat.le_of_ble_eq_true rfl) ⟨Nat.le_of_ble_eq_true rfl, Nat.le_of_ble_eq_true rfl⟩ dX6_channelByLevel_2 rfl rfl rfl (fun r1 w1 h1 => ?_)
  obtain ⟨rfl, rfl⟩ := h1
  refine x_top (show _ = (1 : Int32) from by rw [chB_nI hc]; rfl) ?_
  refine x_if_eq C 12 8 dX6_channelByLevel_5 (by decide) rfl (fun zk5 => ?_) (fun zk5 => ?_)
  · exact absurd zk5 (by decide)
  · refine x_iconst (v := (0)) C 9 dX6_channelByLevel_8 (by decide) rfl ?_
    refine x_goto C 13 dX6_channelByLevel_9 (by decide) ?_
    refine xm_put C 16 8 (by decide) fp_X6_channelByLevel_98 rfl rfl dX6_channelByLevel_13 rfl ?_
    refine x_iconst (v := (-1)) C 17 dX6_channelByLevel_16 (by decide) rfl ?_
    refine x_istore_n C 18 dX6_channelByLevel_17 (by decide) rfl rfl ?_
    refine x_iconst (v := (0)) C 19 dX6_channelByLevel_18 (by decide) rfl ?_
    refine x_istore_n C 20 dX6_channelByLevel_19 (by decide) rfl rfl ?_
    have lp20 : ∀ (n i : Nat) (v : Int32), i + n = 12 → cbL (lvF (uI I 30 8 0) eg ng ne) r 12 0 (-1) = cbL (lvF (uI I 30 8 0) eg ng ne) r n i v → X φ 20 [some (.ref m), some (.int (nI r)), some (.int v), some (.int (nI i)), none, none] [] (wM m am a (uI I 30 8 0) en) 0 0 := by
      intro n
      induction n with
      | zero =>
        intro i v hi hr
        refine x_iload_n C 21 dX6_channelByLevel_20 rfl rfl ?_
        refine x_bipush (v := (12)) C 23 dX6_channelByLevel_21 (by decide) rfl ?_
        refine x_icmp_ge C 114 26 dX6_channelByLevel_23 (by decide) rfl (fun zk23 => ?_) (fun zk23 => ?_)
        · have zk23 := (nI_leI (a := 12) (b := i) (by omega) (by omega)).mp zk23
          refine x_iload_n C 115 dX6_channelByLevel_114 rfl rfl ?_
          exact x_zret C0 dX6_channelByLevel_115 (Nat.le_of_ble_eq_true rfl) (Nat.le_of_ble_eq_true rfl) ⟨_, rfl, ⟨by rw [hr]; rfl, rfl⟩⟩
        · have zk23 := mt (nI_leI (a := 12) (b := i) (by omega) (by omega)).mpr zk23
          exfalso; omega
      | succ n ih =>
        intro i v hi hr
        refine x_iload_n C 21 dX6_channelByLevel_20 rfl rfl ?_
        refine x_bipush (v := (12)) C 23 dX6_channelByLevel_21 (by decide) rfl ?_
        refine x_icmp_ge C 114 26 dX6_channelByLevel_23 (by decide) rfl (fun zk23 => ?_) (fun zk23 => ?_)
        · have zk23 := (nI_leI (a := 12) (b := i) (by omega) (by omega)).mp zk23
          exfalso; omega
        · have zk23 := mt (nI_leI (a := 12) (b := i) (by omega) (by omega)).mpr zk23
          refine x_aload_n C 27 dX6_channelByLevel_26 rfl rfl ?_
          refine xm_get C 30 fg_X6_channelByLevel_98 rfl dX6_channelByLevel_27 rfl ?_
          refine x_top (show _ = (0) from rfl) ?_
          refine x_if_ne C 114 33 dX6_channelByLevel_30 (by decide) rfl (fun zk30 => ?_) (fun zk30 => ?_)
          · exact absurd zk30 (by decide)
          · refine x_iconst (v := (0)) C 34 dX6_channelByLevel_33 (by decide) rfl ?_
            refine x_istore C 36 dX6_channelByLevel_34 (by decide) rfl rfl ?_
            refine x_iconst (v := (0)) C 37 dX6_channelByLevel_36 (by decide) rfl ?_
            refine x_istore C 39 dX6_channelByLevel_37 (by decide) rfl rfl ?_
            have lp39 : ∀ (n2 j k : Nat), j + n2 = 12 → k ≤ j → rkL (lvF (uI I 30 8 0) eg ng ne) i 12 0 0 = rkL (lvF (uI I 30 8 0) eg ng ne) i n2 j k → X φ 39 [some (.ref m), some (.int (nI r)), some (.int v), some (.int (nI i)), some (.int (nI k)), some (.int (nI j))] [] (wM m am a (uI I 30 8 0) en) 0 0 := by
              intro n2
              induction n2 with
              | zero =>
                intro j k hj hk hr2
                refine x_iload C 41 dX6_channelByLevel_39 rfl rfl ?_
                refine x_bipush (v := (12)) C 43 dX6_channelByLevel_41 (by decide) rfl ?_
                refine x_icmp_ge C 96 46 dX6_channelByLevel_43 (by decide) rfl (fun zk43 => ?_) (fun zk43 => ?_)
                · have zk43 := (nI_leI (a := 12) (b := j) (by omega) (by omega)).mp zk43
                  refine x_iload C 98 dX6_channelByLevel_96 rfl rfl ?_
                  refine x_iload_n C 99 dX6_channelByLevel_98 rfl rfl ?_
                  refine x_icmp_ne C 106 102 dX6_channelByLevel_99 (by decide) rfl (fun zk99 => ?_) (fun zk99 => ?_)
                  · have zk99 := mt (nI_eq (a := k) (b := r) (by omega) (by omega)).mpr zk99
                    refine x_iload_n C 107 dX6_channelByLevel_106 rfl rfl ?_
                    refine x_istore_n C 108 dX6_channelByLevel_107 (by decide) rfl rfl ?_
                    refine x_iinc (v := nI (i + 1)) C 111 rfl dX6_channelByLevel_108 (iinc1 _) (by decide) rfl rfl ?_
                    refine x_goto C 20 dX6_channelByLevel_111 (by decide) ?_
                    refine x_dropn 4 ?_
                    refine x_dropn 5 ?_
                    exact ih (i + 1) _ (by omega) (by rw [hr, cbL]; first | rw [if_pos (by rw [hr2]; exact zk99)] | rw [if_neg (by rw [hr2]; exact zk99)])
                  · have zk99 := (nI_eq (a := k) (b := r) (by omega) (by omega)).mp zk99
                    refine x_iload_n C 103 dX6_channelByLevel_102 rfl rfl ?_
                    refine x_goto C 107 dX6_channelByLevel_103 (by decide) ?_
                    refine x_istore_n C 108 dX6_channelByLevel_107 (by decide) rfl rfl ?_
                    refine x_iinc (v := nI (i + 1)) C 111 rfl dX6_channelByLevel_108 (iinc1 _) (by decide) rfl rfl ?_
                    refine x_goto C 20 dX6_channelByLevel_111 (by decide) ?_
                    refine x_dropn 4 ?_
                    refine x_dropn 5 ?_
                    exact ih (i + 1) _ (by omega) (by rw [hr, cbL]; first | rw [if_pos (by rw [hr2]; exact zk99)] | rw [if_neg (by rw [hr2]; exact zk99)])
                · have zk43 := mt (nI_leI (a := 12) (b := j) (by omega) (by omega)).mpr zk43
                  exfalso; omega
              | succ n2 ih2 =>
                intro j k hj hk hr2
                refine x_iload C 41 dX6_channelByLevel_39 rfl rfl ?_
                refine x_bipush (v := (12)) C 43 dX6_channelByLevel_41 (by decide) rfl ?_
                refine x_icmp_ge C 96 46 dX6_channelByLevel_43 (by decide) rfl (fun zk43 => ?_) (fun zk43 => ?_)
                · have zk43 := (nI_leI (a := 12) (b := j) (by omega) (by omega)).mp zk43
                  exfalso; omega
                · have zk43 := mt (nI_leI (a := 12) (b := j) (by omega) (by omega)).mpr zk43
                  refine x_iload C 48 dX6_channelByLevel_46 rfl rfl ?_
                  refine x_aload_n C 49 dX6_channelByLevel_48 rfl rfl ?_
                  refine x_iload C 51 dX6_channelByLevel_49 rfl rfl ?_
                  refine x_callV0_i C 54 0 0 0 10 1 (cM_levelOf hl (I := uI I 30 8 0) (show MI (uI I 30 8 0) eg nq ng ne nt from hM) j (by omega)) rfl gX6_channelByLevel_X6_levelOf ⟨rfl, by decide, by decide, rfl⟩ ⟨Nat.le_of_ble_eq_true rfl, Nat.le_of_ble_eq_true rfl⟩ rfl rfl rfl rfl (Nat.le_of_ble_eq_true rfl) ⟨Nat.le_of_ble_eq_true rfl, Nat.le_of_ble_eq_true rfl⟩ dX6_channelByLevel_51 rfl rfl rfl (fun r2 w2 h2 => ?_)
                  obtain ⟨rfl, rfl⟩ := h2
                  refine x_aload_n C 55 dX6_channelByLevel_54 rfl rfl ?_
                  refine x_iload_n C 56 dX6_channelByLevel_55 rfl rfl ?_
                  refine x_callV0_i C 59 0 0 0 10 1 (cM_levelOf hl (I := uI I 30 8 0) (show MI (uI I 30 8 0) eg nq ng ne nt from hM) i (by omega)) rfl gX6_channelByLevel_X6_levelOf ⟨rfl, by decide, by decide, rfl⟩ ⟨Nat.le_of_ble_eq_true rfl, Nat.le_of_ble_eq_true rfl⟩ rfl rfl rfl rfl (Nat.le_of_ble_eq_true rfl) ⟨Nat.le_of_ble_eq_true rfl, Nat.le_of_ble_eq_true rfl⟩ dX6_channelByLevel_56 rfl rfl rfl (fun r3 w3 h3 => ?_)
                  obtain ⟨rfl, rfl⟩ := h3
                  refine x_icmp_gt C 82 62 dX6_channelByLevel_59 (by decide) rfl (fun zk59 => ?_) (fun zk59 => ?_)
                  · refine x_iconst (v := (1)) C 83 dX6_channelByLevel_82 (by decide) rfl ?_
                    refine x_goto C 87 dX6_channelByLevel_83 (by decide) ?_
                    refine x_iadd C 88 dX6_channelByLevel_87 rfl ?_
                    refine x_top (show _ = nI (k + 1) from nI_add _ _) ?_
                    refine x_istore C 90 dX6_channelByLevel_88 (by decide) rfl rfl ?_
                    refine x_iinc (v := nI (j + 1)) C 93 rfl dX6_channelByLevel_90 (iinc1 _) (by decide) rfl rfl ?_
                    refine x_goto C 39 dX6_channelByLevel_93 (by decide) ?_
                    exact ih2 (j + 1) _ (by omega) (by omega) (by rw [hr2, rkL, if_pos (Or.inl zk59)]; try rfl)
                  · refine x_aload_n C 63 dX6_channelByLevel_62 rfl rfl ?_
                    refine x_iload C 65 dX6_channelByLevel_63 rfl rfl ?_
                    refine x_callV0_i C 68 0 0 0 10 1 (cM_levelOf hl (I := uI I 30 8 0) (show MI (uI I 30 8 0) eg nq ng ne nt from hM) j (by omega)) rfl gX6_channelByLevel_X6_levelOf ⟨rfl, by decide, by decide, rfl⟩ ⟨Nat.le_of_ble_eq_true rfl, Nat.le_of_ble_eq_true rfl⟩ rfl rfl rfl rfl (Nat.le_of_ble_eq_true rfl) ⟨Nat.le_of_ble_eq_true rfl, Nat.le_of_ble_eq_true rfl⟩ dX6_channelByLevel_65 rfl rfl rfl (fun r4 w4 h4 => ?_)
                    obtain ⟨rfl, rfl⟩ := h4
                    refine x_aload_n C 69 dX6_channelByLevel_68 rfl rfl ?_
                    refine x_iload_n C 70 dX6_channelByLevel_69 rfl rfl ?_
                    refine x_callV0_i C 73 0 0 0 10 1 (cM_levelOf hl (I := uI I 30 8 0) (show MI (uI I 30 8 0) eg nq ng ne nt from hM) i (by omega)) rfl gX6_channelByLevel_X6_levelOf ⟨rfl, by decide, by decide, rfl⟩ ⟨Nat.le_of_ble_eq_true rfl, Nat.le_of_ble_eq_true rfl⟩ rfl rfl rfl rfl (Nat.le_of_ble_eq_true rfl) ⟨Nat.le_of_ble_eq_true rfl, Nat.le_of_ble_eq_true rfl⟩ dX6_channelByLevel_70 rfl rfl rfl (fun r5 w5 h5 => ?_)
                    obtain ⟨rfl, rfl⟩ := h5
                    refine x_icmp_ne C 86 76 dX6_channelByLevel_73 (by decide) rfl (fun zk73 => ?_) (fun zk73 => ?_)
                    · refine x_iconst (v := (0)) C 87 dX6_channelByLevel_86 (by decide) rfl ?_
                      refine x_iadd C 88 dX6_channelByLevel_87 rfl ?_
                      refine x_top (show _ = nI (k + 0) from nI_add _ _) ?_
                      refine x_istore C 90 dX6_channelByLevel_88 (by decide) rfl rfl ?_
                      refine x_iinc (v := nI (j + 1)) C 93 rfl dX6_channelByLevel_90 (iinc1 _) (by decide) rfl rfl ?_
                      refine x_goto C 39 dX6_channelByLevel_93 (by decide) ?_
                      exact ih2 (j + 1) _ (by omega) (by omega) (by rw [hr2, rkL, if_neg (fun q => q.elim zk59 (fun q => zk73 q.1))]; try rfl)
                    · refine x_iload C 78 dX6_channelByLevel_76 rfl rfl ?_
                      refine x_iload_n C 79 dX6_channelByLevel_78 rfl rfl ?_
                      refine x_icmp_ge C 86 82 dX6_channelByLevel_79 (by decide) rfl (fun zk79 => ?_) (fun zk79 => ?_)
                      · have zk79 := (nI_leI (a := i) (b := j) (by omega) (by omega)).mp zk79
                        refine x_iconst (v := (0)) C 87 dX6_channelByLevel_86 (by decide) rfl ?_
                        refine x_iadd C 88 dX6_channelByLevel_87 rfl ?_
                        refine x_top (show _ = nI (k + 0) from nI_add _ _) ?_
                        refine x_istore C 90 dX6_channelByLevel_88 (by decide) rfl rfl ?_
                        refine x_iinc (v := nI (j + 1)) C 93 rfl dX6_channelByLevel_90 (iinc1 _) (by decide) rfl rfl ?_
                        refine x_goto C 39 dX6_channelByLevel_93 (by decide) ?_
                        exact ih2 (j + 1) _ (by omega) (by omega) (by rw [hr2, rkL, if_neg (fun q => q.elim zk59 (fun q => absurd q.2 (by omega)))]; try rfl)
                      · have zk79 := mt (nI_leI (a := i) (b := j) (by omega) (by omega)).mpr zk79
                        refine x_iconst (v := (1)) C 83 dX6_channelByLevel_82 (by decide) rfl ?_
                        refine x_goto C 87 dX6_channelByLevel_83 (by decide) ?_
                        refine x_iadd C 88 dX6_channelByLevel_87 rfl ?_
                        refine x_top (show _ = nI (k + 1) from nI_add _ _) ?_
                        refine x_istore C 90 dX6_channelByLevel_88 (by decide) rfl rfl ?_
                        refine x_iinc (v := nI (j + 1)) C 93 rfl dX6_channelByLevel_90 (iinc1 _) (by decide) rfl rfl ?_
                        refine x_goto C 39 dX6_channelByLevel_93 (by decide) ?_
                        exact ih2 (j + 1) _ (by omega) (by omega) (by rw [hr2, rkL, if_pos (Or.inr ⟨zk73, by omega⟩)]; try rfl)
            exact lp39 12 0 0 rfl (by omega) rfl
    exact lp20 12 0 _ rfl rfl
theorem fp_X6_litShare_98 : pF RX6 wsX6_litShare 98 10 35 false (.int) := ⟨RX6, TX6, 36, "StageConsoleModel", tyX6, rfl, fun w h => (List.mem_cons_of_mem _ (List.mem_append_left _ (List.mem_append_left _ (List.mem_append_right _ h)))), by decide, (List.mem_cons_of_mem _ (List.mem_append_left _ (List.mem_append_left _ (List.mem_append_left _ (List.mem_append_left _ (List.mem_of_getElem? (i := 0) rfl)))))), Or.inl rfl, tyX6_ok, nmX6, rfl, rfl, fun h => absurd h (by decide)⟩
set_option maxRecDepth 100000 in
set_option maxHeartbeats 4000000 in
theorem cM_litShare (hl : l.stackTraces = false) {I : Nat → Nat → Int32} {eg : Nat → Nat} {nq ng ne nt : Nat} (hM : MI I eg nq ng ne nt)  : Ct (gm D a E0) l yX6_litShare wsX6_litShare { frames := 16, cells := 0, slots := 0, locals := 400 } [.ref m] (wM m am a I en) (qF fun v w => v = FP.fdiv (FP.i2f (nI (ltL (lvF (uI I 30 8 0) eg ng ne) 12 0 0))) 1094713344 ∧ w = wM m am a (uI I 30 8 0) en) noX := by
  refine Ct.of [some (.ref m), none, none] rfl hl (by decide) (Nat.le_of_ble_eq_true rfl) rfl (fun φ C0 => ?_)
  have C := C0.1
  refine x_aload_n C 1 dX6_litShare_0 rfl rfl ?_
  refine x_iconst (v := (0)) C 2 dX6_litShare_1 (by decide) rfl ?_
  refine xm_put C 5 8 (by decide) fp_X6_litShare_98 rfl rfl dX6_litShare_2 rfl ?_
  refine x_iconst (v := (0)) C 6 dX6_litShare_5 (by decide) rfl ?_
  refine x_istore_n C 7 dX6_litShare_6 (by decide) rfl rfl ?_
  refine x_iconst (v := (0)) C 8 dX6_litShare_7 (by decide) rfl ?_
  refine x_istore_n C 9 dX6_litShare_8 (by decide) rfl rfl ?_
  have lp9 : ∀ (n i k : Nat), i + n = 12 → k ≤ i → ltL (lvF (uI I 30 8 0) eg ng ne) 12 0 0 = ltL (lvF (uI I 30 8 0) eg ng ne) n i k → X φ 9 [some (.ref m), some (.int (nI k)), some (.int (nI i))] [] (wM m am a (uI I 30 8 0) en) 0 0 := by
    intro n
    induction n with
    | zero =>
      intro i k hi hk hr
      refine x_iload_n C 10 dX6_litShare_9 rfl rfl ?_
      refine x_bipush (v := (12)) C 12 dX6_litShare_10 (by decide) rfl ?_
      refine x_icmp_ge C 37 15 dX6_litShare_12 (by decide) rfl (fun zk12 => ?_) (fun zk12 => ?_)
      · have zk12 := (nI_leI (a := 12) (b := i) (by omega) (by omega)).mp zk12
        refine x_iload_n C 38 dX6_litShare_37 rfl rfl ?_
        refine x_i2f C 39 dX6_litShare_38 rfl ?_
        refine x_ldcf C 41 (List.mem_cons_of_mem _ (List.mem_append_left _ (List.mem_append_left _ (List.mem_append_left _ (List.mem_append_left _ (List.mem_of_getElem? (i := 1) rfl)))))) dX6_litShare_39 rfl ?_
        refine x_fdiv C 42 dX6_litShare_41 (litNN k (by omega)) rfl ?_
        exact x_fret C0 dX6_litShare_42 (Nat.le_of_ble_eq_true rfl) (Nat.le_of_ble_eq_true rfl) ⟨_, rfl, ⟨by rw [hr]; rfl, rfl⟩⟩
      · have zk12 := mt (nI_leI (a := 12) (b := i) (by omega) (by omega)).mpr zk12
        exfalso; omega
    | succ n ih =>
      intro i k hi hk hr
      refine x_iload_n C 10 dX6_litShare_9 rfl rfl ?_
      refine x_bipush (v := (12)) C 12 dX6_litShare_10 (by decide) rfl ?_
      refine x_icmp_ge C 37 15 dX6_litShare_12 (by decide) rfl (fun zk12 => ?_) (fun zk12 => ?_)
      · have zk12 := (nI_leI (a := 12) (b := i) (by omega) (by omega)).mp zk12
        exfalso; omega
      · have zk12 := mt (nI_leI (a := 12) (b := i) (by omega) (by omega)).mpr zk12
        refine x_iload_n C 16 dX6_litShare_15 rfl rfl ?_
        refine x_aload_n C 17 dX6_litShare_16 rfl rfl ?_
        refine x_iload_n C 18 dX6_litShare_17 rfl rfl ?_
        refine x_callV0_i C 21 0 0 0 10 1 (cM_levelOf hl (I := uI I 30 8 0) (show MI (uI I 30 8 0) eg nq ng ne nt from hM) i (by omega)) rfl gX6_litShare_X6_levelOf ⟨rfl, by decide, by decide, rfl⟩ ⟨Nat.le_of_ble_eq_true rfl, Nat.le_of_ble_eq_true rfl⟩ rfl rfl rfl rfl (Nat.le_of_ble_eq_true rfl) ⟨Nat.le_of_ble_eq_true rfl, Nat.le_of_ble_eq_true rfl⟩ dX6_litShare_18 rfl rfl rfl (fun r1 w1 h1 => ?_)
        obtain ⟨rfl, rfl⟩ := h1
        refine x_if_le C 28 24 dX6_litShare_21 (by decide) rfl (fun zk21 => ?_) (fun zk21 => ?_)
        · refine x_iconst (v := (0)) C 29 dX6_litShare_28 (by decide) rfl ?_
          refine x_iadd C 30 dX6_litShare_29 rfl ?_
          refine x_top (show _ = nI (k + 0) from nI_add _ _) ?_
          refine x_istore_n C 31 dX6_litShare_30 (by decide) rfl rfl ?_
          refine x_iinc (v := nI (i + 1)) C 34 rfl dX6_litShare_31 (iinc1 _) (by decide) rfl rfl ?_
          refine x_goto C 9 dX6_litShare_34 (by decide) ?_
          exact ih (i + 1) _ (by omega) (by omega) (by rw [hr, ltL]; first | rw [if_pos zk21]; rfl | rw [if_pos zk21] | rw [if_neg zk21])
        · refine x_iconst (v := (1)) C 25 dX6_litShare_24 (by decide) rfl ?_
          refine x_goto C 29 dX6_litShare_25 (by decide) ?_
          refine x_iadd C 30 dX6_litShare_29 rfl ?_
          refine x_top (show _ = nI (k + 1) from nI_add _ _) ?_
          refine x_istore_n C 31 dX6_litShare_30 (by decide) rfl rfl ?_
          refine x_iinc (v := nI (i + 1)) C 34 rfl dX6_litShare_31 (iinc1 _) (by decide) rfl rfl ?_
          refine x_goto C 9 dX6_litShare_34 (by decide) ?_
          exact ih (i + 1) _ (by omega) (by omega) (by rw [hr, ltL]; first | rw [if_pos zk21]; rfl | rw [if_pos zk21] | rw [if_neg zk21])
  exact lp9 12 0 0 rfl (by omega) rfl
theorem fp_X6_meanLevel_98 : pF RX6 wsX6_meanLevel 98 10 35 false (.int) := ⟨RX6, TX6, 36, "StageConsoleModel", tyX6, rfl, fun w h => (List.mem_cons_of_mem _ (List.mem_append_left _ (List.mem_append_left _ (List.mem_append_right _ h)))), by decide, (List.mem_cons_of_mem _ (List.mem_append_left _ (List.mem_append_left _ (List.mem_append_left _ (List.mem_append_left _ (List.mem_of_getElem? (i := 1) rfl)))))), Or.inl rfl, tyX6_ok, nmX6, rfl, rfl, fun h => absurd h (by decide)⟩
theorem fg_X6_meanLevel_98 : gF RX6 wsX6_meanLevel 98 10 35 := ⟨RX6, TX6, 36, "StageConsoleModel", rfl, fun w h => (List.mem_cons_of_mem _ (List.mem_append_left _ (List.mem_append_left _ (List.mem_append_right _ h)))), by decide, (List.mem_cons_of_mem _ (List.mem_append_left _ (List.mem_append_left _ (List.mem_append_left _ (List.mem_append_left _ (List.mem_of_getElem? (i := 1) rfl)))))), Or.inl rfl⟩
theorem fg_X6_meanLevel_51 : gF RX6 wsX6_meanLevel 51 10 15 := ⟨RX6, TX6, 36, "StageConsoleModel", rfl, fun w h => (List.mem_cons_of_mem _ (List.mem_append_left _ (List.mem_append_left _ (List.mem_append_right _ h)))), by decide, (List.mem_cons_of_mem _ (List.mem_append_left _ (List.mem_append_left _ (List.mem_append_left _ (List.mem_append_left _ (List.mem_of_getElem? (i := 0) rfl)))))), Or.inl rfl⟩
set_option maxRecDepth 100000 in
set_option maxHeartbeats 4000000 in
theorem cM_meanLevel_1 (hl : l.stackTraces = false) {I : Nat → Nat → Int32} {eg : Nat → Nat} {nq ng ne nt : Nat} (hM : MI I eg nq ng ne nt) (hz : (npL (I 13) 12 0 0) = 0) : Ct (gm D a E0) l yX6_meanLevel wsX6_meanLevel { frames := 16, cells := 0, slots := 0, locals := 400 } [.ref m] (wM m am a I en) (qD fun v w => v = FP.dconst0 ∧ w = wM m am a (uI I 30 8 1) en) noX := by
  refine Ct.of [some (.ref m), none, none, none] rfl hl (by decide) (Nat.le_of_ble_eq_true rfl) rfl (fun φ C0 => ?_)
  have C := C0.1
  refine x_iconst (v := (0)) C 1 dX6_meanLevel_0 (by decide) rfl ?_
  refine x_istore_n C 2 dX6_meanLevel_1 (by decide) rfl rfl ?_
  refine x_iconst (v := (0)) C 3 dX6_meanLevel_2 (by decide) rfl ?_
  refine x_istore_n C 4 dX6_meanLevel_3 (by decide) rfl rfl ?_
  refine x_iconst (v := (0)) C 5 dX6_meanLevel_4 (by decide) rfl ?_
  refine x_istore_n C 6 dX6_meanLevel_5 (by decide) rfl rfl ?_
  have lp6 : ∀ (n i k : Nat) (u : Int32), i + n = 12 → k ≤ i → (npL (I 13) 12 0 0) = npL (I 13) n i k → (spL (I 13) (lvF I eg ng ne) 12 0 0) = spL (I 13) (lvF I eg ng ne) n i u → X φ 6 [some (.ref m), some (.int (nI k)), some (.int u), some (.int (nI i))] [] (wM m am a I en) 0 0 := by
    intro n
    induction n with
    | zero =>
      intro i k u hi hk hr hr2
      refine x_iload_n C 7 dX6_meanLevel_6 rfl rfl ?_
      refine x_bipush (v := (12)) C 9 dX6_meanLevel_7 (by decide) rfl ?_
      refine x_icmp_ge C 58 12 dX6_meanLevel_9 (by decide) rfl (fun zk9 => ?_) (fun zk9 => ?_)
      · have zk9 := (nI_leI (a := 12) (b := i) (by omega) (by omega)).mp zk9
        refine x_aload_n C 59 dX6_meanLevel_58 rfl rfl ?_
        refine x_iload_n C 60 dX6_meanLevel_59 rfl rfl ?_
        refine x_if_ne C 67 63 dX6_meanLevel_60 (by decide) rfl (fun zk60 => ?_) (fun zk60 => ?_)
        · have zk60 := mt (nI_eq (a := k) (b := 0) (by omega) (by omega)).mpr zk60
          exact absurd (hr.symm.trans hz) zk60
        · have zk60 := (nI_eq (a := k) (b := 0) (by omega) (by omega)).mp zk60
          refine x_iconst (v := (1)) C 64 dX6_meanLevel_63 (by decide) rfl ?_
          refine x_goto C 68 dX6_meanLevel_64 (by decide) ?_
          refine xm_put C 71 8 (by decide) fp_X6_meanLevel_98 rfl rfl dX6_meanLevel_68 rfl ?_
          refine x_aload_n C 72 dX6_meanLevel_71 rfl rfl ?_
          refine xm_get C 75 fg_X6_meanLevel_98 rfl dX6_meanLevel_72 rfl ?_
          refine x_top (show _ = (1) from rfl) ?_
          refine x_if_ne C 86 78 dX6_meanLevel_75 (by decide) rfl (fun zk75 => ?_) (fun zk75 => ?_)
          · refine x_dconst0 C 87 dX6_meanLevel_86 rfl ?_
            exact x_dret C0 dX6_meanLevel_87 (Nat.le_of_ble_eq_true rfl) (Nat.le_of_ble_eq_true rfl) ⟨_, rfl, ⟨rfl, rfl⟩⟩
          · exact absurd zk75 (by decide)
      · have zk9 := mt (nI_leI (a := 12) (b := i) (by omega) (by omega)).mpr zk9
        exfalso; omega
    | succ n ih =>
      intro i k u hi hk hr hr2
      refine x_iload_n C 7 dX6_meanLevel_6 rfl rfl ?_
      refine x_bipush (v := (12)) C 9 dX6_meanLevel_7 (by decide) rfl ?_
      refine x_icmp_ge C 58 12 dX6_meanLevel_9 (by decide) rfl (fun zk9 => ?_) (fun zk9 => ?_)
      · have zk9 := (nI_leI (a := 12) (b := i) (by omega) (by omega)).mp zk9
        exfalso; omega
      · have zk9 := mt (nI_leI (a := 12) (b := i) (by omega) (by omega)).mpr zk9
        refine x_iload_n C 13 dX6_meanLevel_12 rfl rfl ?_
        refine x_aload_n C 14 dX6_meanLevel_13 rfl rfl ?_
        refine xm_get C 17 fg_X6_meanLevel_51 rfl dX6_meanLevel_14 rfl ?_
        refine x_iload_n C 18 dX6_meanLevel_17 rfl rfl ?_
        refine xm_iald C 19 13 12 (i) (by decide) rfl rfl rfl (by omega) dX6_meanLevel_18 rfl ?_
        refine x_iconst (v := (-1)) C 20 dX6_meanLevel_19 (by decide) rfl ?_
        refine x_icmp_ne C 27 23 dX6_meanLevel_20 (by decide) rfl (fun zk20 => ?_) (fun zk20 => ?_)
        · refine x_iconst (v := (0)) C 28 dX6_meanLevel_27 (by decide) rfl ?_
          refine x_iadd C 29 dX6_meanLevel_28 rfl ?_
          refine x_top (show _ = nI (k + 0) from nI_add _ _) ?_
          refine x_istore_n C 30 dX6_meanLevel_29 (by decide) rfl rfl ?_
          refine x_iload_n C 31 dX6_meanLevel_30 rfl rfl ?_
          refine x_aload_n C 32 dX6_meanLevel_31 rfl rfl ?_
          refine xm_get C 35 fg_X6_meanLevel_51 rfl dX6_meanLevel_32 rfl ?_
          refine x_iload_n C 36 dX6_meanLevel_35 rfl rfl ?_
          refine xm_iald C 37 13 12 (i) (by decide) rfl rfl rfl (by omega) dX6_meanLevel_36 rfl ?_
          refine x_iconst (v := (-1)) C 38 dX6_meanLevel_37 (by decide) rfl ?_
          refine x_icmp_ne C 49 41 dX6_meanLevel_38 (by decide) rfl (fun zk38 => ?_) (fun zk38 => ?_)
          · refine x_iconst (v := (0)) C 50 dX6_meanLevel_49 (by decide) rfl ?_
            refine x_iadd C 51 dX6_meanLevel_50 rfl ?_
            refine x_nm (fun s2 es2 => ?_)
            refine x_istore_n C 52 dX6_meanLevel_51 (by decide) rfl rfl ?_
            refine x_iinc (v := nI (i + 1)) C 55 rfl dX6_meanLevel_52 (iinc1 _) (by decide) rfl rfl ?_
            refine x_goto C 6 dX6_meanLevel_55 (by decide) ?_
            exact ih (i + 1) _ _ (by omega) (by omega) (by rw [hr, npL]; first | rw [if_pos zk20]; rfl | rw [if_pos zk20] | rw [if_neg zk20]; rfl | rw [if_neg zk20]) (by rw [hr2, spL, es2]; first | rw [if_pos zk20] | rw [if_neg zk20])
          · exact absurd zk38 zk20
        · refine x_iconst (v := (1)) C 24 dX6_meanLevel_23 (by decide) rfl ?_
          refine x_goto C 28 dX6_meanLevel_24 (by decide) ?_
          refine x_iadd C 29 dX6_meanLevel_28 rfl ?_
          refine x_top (show _ = nI (k + 1) from nI_add _ _) ?_
          refine x_istore_n C 30 dX6_meanLevel_29 (by decide) rfl rfl ?_
          refine x_iload_n C 31 dX6_meanLevel_30 rfl rfl ?_
          refine x_aload_n C 32 dX6_meanLevel_31 rfl rfl ?_
          refine xm_get C 35 fg_X6_meanLevel_51 rfl dX6_meanLevel_32 rfl ?_
          refine x_iload_n C 36 dX6_meanLevel_35 rfl rfl ?_
          refine xm_iald C 37 13 12 (i) (by decide) rfl rfl rfl (by omega) dX6_meanLevel_36 rfl ?_
          refine x_iconst (v := (-1)) C 38 dX6_meanLevel_37 (by decide) rfl ?_
          refine x_icmp_ne C 49 41 dX6_meanLevel_38 (by decide) rfl (fun zk38 => ?_) (fun zk38 => ?_)
          · exact absurd zk20 zk38
          · refine x_aload_n C 42 dX6_meanLevel_41 rfl rfl ?_
            refine x_iload_n C 43 dX6_meanLevel_42 rfl rfl ?_
            refine x_callV0_i C 46 0 0 0 10 1 (cM_levelOf hl hM i (by omega)) rfl gX6_meanLevel_X6_levelOf ⟨rfl, by decide, by decide, rfl⟩ ⟨Nat.le_of_ble_eq_true rfl, Nat.le_of_ble_eq_true rfl⟩ rfl rfl rfl rfl (Nat.le_of_ble_eq_true rfl) ⟨Nat.le_of_ble_eq_true rfl, Nat.le_of_ble_eq_true rfl⟩ dX6_meanLevel_43 rfl rfl rfl (fun r2 w2 h2 => ?_)
            obtain ⟨rfl, rfl⟩ := h2
            refine x_goto C 50 dX6_meanLevel_46 (by decide) ?_
            refine x_iadd C 51 dX6_meanLevel_50 rfl ?_
            refine x_nm (fun s2 es2 => ?_)
            refine x_istore_n C 52 dX6_meanLevel_51 (by decide) rfl rfl ?_
            refine x_iinc (v := nI (i + 1)) C 55 rfl dX6_meanLevel_52 (iinc1 _) (by decide) rfl rfl ?_
            refine x_goto C 6 dX6_meanLevel_55 (by decide) ?_
            exact ih (i + 1) _ _ (by omega) (by omega) (by rw [hr, npL]; first | rw [if_pos zk20]; rfl | rw [if_pos zk20] | rw [if_neg zk20]; rfl | rw [if_neg zk20]) (by rw [hr2, spL, es2]; first | rw [if_pos zk20] | rw [if_neg zk20])
  exact lp6 12 0 0 _ rfl (by omega) rfl rfl
set_option maxRecDepth 100000 in
set_option maxHeartbeats 4000000 in
theorem cM_meanLevel_0 (hl : l.stackTraces = false) {I : Nat → Nat → Int32} {eg : Nat → Nat} {nq ng ne nt : Nat} (hM : MI I eg nq ng ne nt) (hz : ¬ (npL (I 13) 12 0 0) = 0) (hN : vf_n64 (FP.ddiv (FP.i2d (spL (I 13) (lvF I eg ng ne) 12 0 0)) (FP.i2d (nI (npL (I 13) 12 0 0))))) : Ct (gm D a E0) l yX6_meanLevel wsX6_meanLevel { frames := 16, cells := 0, slots := 0, locals := 400 } [.ref m] (wM m am a I en) (qD fun v w => v = FP.ddiv (FP.i2d (spL (I 13) (lvF I eg ng ne) 12 0 0)) (FP.i2d (nI (npL (I 13) 12 0 0))) ∧ w = wM m am a (uI I 30 8 0) en) noX := by
  refine Ct.of [some (.ref m), none, none, none] rfl hl (by decide) (Nat.le_of_ble_eq_true rfl) rfl (fun φ C0 => ?_)
  have C := C0.1
  refine x_iconst (v := (0)) C 1 dX6_meanLevel_0 (by decide) rfl ?_
  refine x_istore_n C 2 dX6_meanLevel_1 (by decide) rfl rfl ?_
  refine x_iconst (v := (0)) C 3 dX6_meanLevel_2 (by decide) rfl ?_
  refine x_istore_n C 4 dX6_meanLevel_3 (by decide) rfl rfl ?_
  refine x_iconst (v := (0)) C 5 dX6_meanLevel_4 (by decide) rfl ?_
  refine x_istore_n C 6 dX6_meanLevel_5 (by decide) rfl rfl ?_
  have lp6 : ∀ (n i k : Nat) (u : Int32), i + n = 12 → k ≤ i → (npL (I 13) 12 0 0) = npL (I 13) n i k → (spL (I 13) (lvF I eg ng ne) 12 0 0) = spL (I 13) (lvF I eg ng ne) n i u → X φ 6 [some (.ref m), some (.int (nI k)), some (.int u), some (.int (nI i))] [] (wM m am a I en) 0 0 := by
    intro n
    induction n with
    | zero =>
      intro i k u hi hk hr hr2
      refine x_iload_n C 7 dX6_meanLevel_6 rfl rfl ?_
      refine x_bipush (v := (12)) C 9 dX6_meanLevel_7 (by decide) rfl ?_
      refine x_icmp_ge C 58 12 dX6_meanLevel_9 (by decide) rfl (fun zk9 => ?_) (fun zk9 => ?_)
      · have zk9 := (nI_leI (a := 12) (b := i) (by omega) (by omega)).mp zk9
        refine x_aload_n C 59 dX6_meanLevel_58 rfl rfl ?_
        refine x_iload_n C 60 dX6_meanLevel_59 rfl rfl ?_
        refine x_if_ne C 67 63 dX6_meanLevel_60 (by decide) rfl (fun zk60 => ?_) (fun zk60 => ?_)
        · have zk60 := mt (nI_eq (a := k) (b := 0) (by omega) (by omega)).mpr zk60
          refine x_iconst (v := (0)) C 68 dX6_meanLevel_67 (by decide) rfl ?_
          refine xm_put C 71 8 (by decide) fp_X6_meanLevel_98 rfl rfl dX6_meanLevel_68 rfl ?_
          refine x_aload_n C 72 dX6_meanLevel_71 rfl rfl ?_
          refine xm_get C 75 fg_X6_meanLevel_98 rfl dX6_meanLevel_72 rfl ?_
          refine x_top (show _ = (0) from rfl) ?_
          refine x_if_ne C 86 78 dX6_meanLevel_75 (by decide) rfl (fun zk75 => ?_) (fun zk75 => ?_)
          · exact absurd zk75 (by decide)
          · refine x_iload_n C 79 dX6_meanLevel_78 rfl rfl ?_
            refine x_i2d C 80 dX6_meanLevel_79 rfl ?_
            refine x_iload_n C 81 dX6_meanLevel_80 rfl rfl ?_
            refine x_i2d C 82 dX6_meanLevel_81 rfl ?_
            refine x_ddiv C 83 dX6_meanLevel_82 (by rw [hr, hr2] at hN; exact hN) rfl ?_
            refine x_goto C 87 dX6_meanLevel_83 (by decide) ?_
            exact x_dret C0 dX6_meanLevel_87 (Nat.le_of_ble_eq_true rfl) (Nat.le_of_ble_eq_true rfl) ⟨_, rfl, ⟨by rw [hr, hr2]; rfl, rfl⟩⟩
        · have zk60 := (nI_eq (a := k) (b := 0) (by omega) (by omega)).mp zk60
          exact absurd (hr.trans zk60) hz
      · have zk9 := mt (nI_leI (a := 12) (b := i) (by omega) (by omega)).mpr zk9
        exfalso; omega
    | succ n ih =>
      intro i k u hi hk hr hr2
      refine x_iload_n C 7 dX6_meanLevel_6 rfl rfl ?_
      refine x_bipush (v := (12)) C 9 dX6_meanLevel_7 (by decide) rfl ?_
      refine x_icmp_ge C 58 12 dX6_meanLevel_9 (by decide) rfl (fun zk9 => ?_) (fun zk9 => ?_)
      · have zk9 := (nI_leI (a := 12) (b := i) (by omega) (by omega)).mp zk9
        exfalso; omega
      · have zk9 := mt (nI_leI (a := 12) (b := i) (by omega) (by omega)).mpr zk9
        refine x_iload_n C 13 dX6_meanLevel_12 rfl rfl ?_
        refine x_aload_n C 14 dX6_meanLevel_13 rfl rfl ?_
        refine xm_get C 17 fg_X6_meanLevel_51 rfl dX6_meanLevel_14 rfl ?_
        refine x_iload_n C 18 dX6_meanLevel_17 rfl rfl ?_
        refine xm_iald C 19 13 12 (i) (by decide) rfl rfl rfl (by omega) dX6_meanLevel_18 rfl ?_
        refine x_iconst (v := (-1)) C 20 dX6_meanLevel_19 (by decide) rfl ?_
        refine x_icmp_ne C 27 23 dX6_meanLevel_20 (by decide) rfl (fun zk20 => ?_) (fun zk20 => ?_)
        · refine x_iconst (v := (0)) C 28 dX6_meanLevel_27 (by decide) rfl ?_
          refine x_iadd C 29 dX6_meanLevel_28 rfl ?_
          refine x_top (show _ = nI (k + 0) from nI_add _ _) ?_
          refine x_istore_n C 30 dX6_meanLevel_29 (by decide) rfl rfl ?_
          refine x_iload_n C 31 dX6_meanLevel_30 rfl rfl ?_
          refine x_aload_n C 32 dX6_meanLevel_31 rfl rfl ?_
          refine xm_get C 35 fg_X6_meanLevel_51 rfl dX6_meanLevel_32 rfl ?_
          refine x_iload_n C 36 dX6_meanLevel_35 rfl rfl ?_
          refine xm_iald C 37 13 12 (i) (by decide) rfl rfl rfl (by omega) dX6_meanLevel_36 rfl ?_
          refine x_iconst (v := (-1)) C 38 dX6_meanLevel_37 (by decide) rfl ?_
          refine x_icmp_ne C 49 41 dX6_meanLevel_38 (by decide) rfl (fun zk38 => ?_) (fun zk38 => ?_)
          · refine x_iconst (v := (0)) C 50 dX6_meanLevel_49 (by decide) rfl ?_
            refine x_iadd C 51 dX6_meanLevel_50 rfl ?_
            refine x_nm (fun s2 es2 => ?_)
            refine x_istore_n C 52 dX6_meanLevel_51 (by decide) rfl rfl ?_
            refine x_iinc (v := nI (i + 1)) C 55 rfl dX6_meanLevel_52 (iinc1 _) (by decide) rfl rfl ?_
            refine x_goto C 6 dX6_meanLevel_55 (by decide) ?_
            exact ih (i + 1) _ _ (by omega) (by omega) (by rw [hr, npL]; first | rw [if_pos zk20]; rfl | rw [if_pos zk20] | rw [if_neg zk20]; rfl | rw [if_neg zk20]) (by rw [hr2, spL, es2]; first | rw [if_pos zk20] | rw [if_neg zk20])
          · exact absurd zk38 zk20
        · refine x_iconst (v := (1)) C 24 dX6_meanLevel_23 (by decide) rfl ?_
          refine x_goto C 28 dX6_meanLevel_24 (by decide) ?_
          refine x_iadd C 29 dX6_meanLevel_28 rfl ?_
          refine x_top (show _ = nI (k + 1) from nI_add _ _) ?_
          refine x_istore_n C 30 dX6_meanLevel_29 (by decide) rfl rfl ?_
          refine x_iload_n C 31 dX6_meanLevel_30 rfl rfl ?_
          refine x_aload_n C 32 dX6_meanLevel_31 rfl rfl ?_
          refine xm_get C 35 fg_X6_meanLevel_51 rfl dX6_meanLevel_32 rfl ?_
          refine x_iload_n C 36 dX6_meanLevel_35 rfl rfl ?_
          refine xm_iald C 37 13 12 (i) (by decide) rfl rfl rfl (by omega) dX6_meanLevel_36 rfl ?_
          refine x_iconst (v := (-1)) C 38 dX6_meanLevel_37 (by decide) rfl ?_
          refine x_icmp_ne C 49 41 dX6_meanLevel_38 (by decide) rfl (fun zk38 => ?_) (fun zk38 => ?_)
          · exact absurd zk20 zk38
          · refine x_aload_n C 42 dX6_meanLevel_41 rfl rfl ?_
            refine x_iload_n C 43 dX6_meanLevel_42 rfl rfl ?_
            refine x_callV0_i C 46 0 0 0 10 1 (cM_levelOf hl hM i (by omega)) rfl gX6_meanLevel_X6_levelOf ⟨rfl, by decide, by decide, rfl⟩ ⟨Nat.le_of_ble_eq_true rfl, Nat.le_of_ble_eq_true rfl⟩ rfl rfl rfl rfl (Nat.le_of_ble_eq_true rfl) ⟨Nat.le_of_ble_eq_true rfl, Nat.le_of_ble_eq_true rfl⟩ dX6_meanLevel_43 rfl rfl rfl (fun r2 w2 h2 => ?_)
            obtain ⟨rfl, rfl⟩ := h2
            refine x_goto C 50 dX6_meanLevel_46 (by decide) ?_
            refine x_iadd C 51 dX6_meanLevel_50 rfl ?_
            refine x_nm (fun s2 es2 => ?_)
            refine x_istore_n C 52 dX6_meanLevel_51 (by decide) rfl rfl ?_
            refine x_iinc (v := nI (i + 1)) C 55 rfl dX6_meanLevel_52 (iinc1 _) (by decide) rfl rfl ?_
            refine x_goto C 6 dX6_meanLevel_55 (by decide) ?_
            exact ih (i + 1) _ _ (by omega) (by omega) (by rw [hr, npL]; first | rw [if_pos zk20]; rfl | rw [if_pos zk20] | rw [if_neg zk20]; rfl | rw [if_neg zk20]) (by rw [hr2, spL, es2]; first | rw [if_pos zk20] | rw [if_neg zk20])
  exact lp6 12 0 0 _ rfl (by omega) rfl rfl
end MM
