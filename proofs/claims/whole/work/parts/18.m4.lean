section MM
variable {l : Launch} {Γ : Gm} {D : va_G} {a : Nat → ClassId} {E0 m : Nat} {am : Nat → Nat} {I : Nat → Nat → Int32} {en : Int64}
theorem fg_X6_plays_9 : gF RX6 wsX6_plays 9 10 0 := ⟨RX6, TX6, 36, "StageConsoleModel", rfl, fun w h => (List.mem_cons_of_mem _ (List.mem_append_left _ (List.mem_append_left _ (List.mem_append_right _ h)))), by decide, (List.mem_cons_of_mem _ (List.mem_append_left _ (List.mem_append_left _ (List.mem_append_left _ (List.mem_append_left _ (List.mem_of_getElem? (i := 0) rfl)))))), Or.inl rfl⟩
theorem fp_X6_plays_143 : pF RX6 wsX6_plays 143 10 6 false (.int) := ⟨RX6, TX6, 36, "StageConsoleModel", tyX6, rfl, fun w h => (List.mem_cons_of_mem _ (List.mem_append_left _ (List.mem_append_left _ (List.mem_append_right _ h)))), by decide, (List.mem_cons_of_mem _ (List.mem_append_left _ (List.mem_append_left _ (List.mem_append_left _ (List.mem_append_left _ (List.mem_of_getElem? (i := 1) rfl)))))), Or.inl rfl, tyX6_ok, nmX6, rfl, rfl, fun h => absurd h (by decide)⟩
theorem fg_X6_plays_27 : gF RX6 wsX6_plays 27 10 7 := ⟨RX6, TX6, 36, "StageConsoleModel", rfl, fun w h => (List.mem_cons_of_mem _ (List.mem_append_left _ (List.mem_append_left _ (List.mem_append_right _ h)))), by decide, (List.mem_cons_of_mem _ (List.mem_append_left _ (List.mem_append_left _ (List.mem_append_left _ (List.mem_append_left _ (List.mem_of_getElem? (i := 2) rfl)))))), Or.inl rfl⟩
theorem fg_X6_plays_42 : gF RX6 wsX6_plays 42 10 12 := ⟨RX6, TX6, 36, "StageConsoleModel", rfl, fun w h => (List.mem_cons_of_mem _ (List.mem_append_left _ (List.mem_append_left _ (List.mem_append_right _ h)))), by decide, (List.mem_cons_of_mem _ (List.mem_append_left _ (List.mem_append_left _ (List.mem_append_left _ (List.mem_append_left _ (List.mem_of_getElem? (i := 3) rfl)))))), Or.inl rfl⟩
theorem fg_X6_plays_48 : gF RX6 wsX6_plays 48 10 14 := ⟨RX6, TX6, 36, "StageConsoleModel", rfl, fun w h => (List.mem_cons_of_mem _ (List.mem_append_left _ (List.mem_append_left _ (List.mem_append_right _ h)))), by decide, (List.mem_cons_of_mem _ (List.mem_append_left _ (List.mem_append_left _ (List.mem_append_left _ (List.mem_append_left _ (List.mem_of_getElem? (i := 4) rfl)))))), Or.inl rfl⟩
theorem fg_X6_plays_13 : gF RX6 wsX6_plays 13 10 1 := ⟨RX6, TX6, 36, "StageConsoleModel", rfl, fun w h => (List.mem_cons_of_mem _ (List.mem_append_left _ (List.mem_append_left _ (List.mem_append_right _ h)))), by decide, (List.mem_cons_of_mem _ (List.mem_append_left _ (List.mem_append_left _ (List.mem_append_left _ (List.mem_append_left _ (List.mem_of_getElem? (i := 5) rfl)))))), Or.inl rfl⟩
theorem fg_X6_plays_30 : gF RX6 wsX6_plays 30 10 8 := ⟨RX6, TX6, 36, "StageConsoleModel", rfl, fun w h => (List.mem_cons_of_mem _ (List.mem_append_left _ (List.mem_append_left _ (List.mem_append_right _ h)))), by decide, (List.mem_cons_of_mem _ (List.mem_append_left _ (List.mem_append_left _ (List.mem_append_left _ (List.mem_append_left _ (List.mem_of_getElem? (i := 6) rfl)))))), Or.inl rfl⟩
theorem fg_X6_plays_33 : gF RX6 wsX6_plays 33 10 9 := ⟨RX6, TX6, 36, "StageConsoleModel", rfl, fun w h => (List.mem_cons_of_mem _ (List.mem_append_left _ (List.mem_append_left _ (List.mem_append_right _ h)))), by decide, (List.mem_cons_of_mem _ (List.mem_append_left _ (List.mem_append_left _ (List.mem_append_left _ (List.mem_append_left _ (List.mem_of_getElem? (i := 7) rfl)))))), Or.inl rfl⟩
theorem fg_X6_plays_140 : gF RX6 wsX6_plays 140 10 32 := ⟨RX6, TX6, 36, "StageConsoleModel", rfl, fun w h => (List.mem_cons_of_mem _ (List.mem_append_left _ (List.mem_append_left _ (List.mem_append_right _ h)))), by decide, (List.mem_cons_of_mem _ (List.mem_append_left _ (List.mem_append_left _ (List.mem_append_left _ (List.mem_append_left _ (List.mem_of_getElem? (i := 8) rfl)))))), Or.inl rfl⟩
theorem fg_X6_plays_36 : gF RX6 wsX6_plays 36 10 10 := ⟨RX6, TX6, 36, "StageConsoleModel", rfl, fun w h => (List.mem_cons_of_mem _ (List.mem_append_left _ (List.mem_append_left _ (List.mem_append_right _ h)))), by decide, (List.mem_cons_of_mem _ (List.mem_append_left _ (List.mem_append_left _ (List.mem_append_left _ (List.mem_append_left _ (List.mem_of_getElem? (i := 9) rfl)))))), Or.inl rfl⟩
theorem fg_X6_plays_39 : gF RX6 wsX6_plays 39 10 11 := ⟨RX6, TX6, 36, "StageConsoleModel", rfl, fun w h => (List.mem_cons_of_mem _ (List.mem_append_left _ (List.mem_append_left _ (List.mem_append_right _ h)))), by decide, (List.mem_cons_of_mem _ (List.mem_append_left _ (List.mem_append_left _ (List.mem_append_left _ (List.mem_append_left _ (List.mem_of_getElem? (i := 10) rfl)))))), Or.inl rfl⟩
theorem fg_X6_plays_16 : gF RX6 wsX6_plays 16 10 2 := ⟨RX6, TX6, 36, "StageConsoleModel", rfl, fun w h => (List.mem_cons_of_mem _ (List.mem_append_left _ (List.mem_append_left _ (List.mem_append_right _ h)))), by decide, (List.mem_cons_of_mem _ (List.mem_append_left _ (List.mem_append_left _ (List.mem_append_left _ (List.mem_append_left _ (List.mem_of_getElem? (i := 11) rfl)))))), Or.inl rfl⟩
set_option maxRecDepth 100000 in
set_option maxHeartbeats 4000000 in
theorem cM_plays (hl : l.stackTraces = false) {I : Nat → Nat → Int32} {k : Nat} (hk : k < 16) (hT : ∃ t, t ≤ 40 ∧ I 1 k = nI t) (hC : vp_nar .char (I 2 k) = I 2 k) (ht : HT I)  : Ct (gm D a E0) l yX6_plays wsX6_plays { frames := 8, cells := 0, slots := 0, locals := 200 } [.ref m, .int (nI k)] (wM m am a I en) (qV fun w => w = wM m am a (plS k I) en) noX := by
  refine Ct.of [some (.ref m), some (.int (nI k)), none, none] rfl hl (by decide) (Nat.le_of_ble_eq_true rfl) rfl (fun φ C0 => ?_)
  have C := C0.1
  refine x_aload_n C 1 dX6_plays_0 rfl rfl ?_
  refine x_aload_n C 2 dX6_plays_1 rfl rfl ?_
  refine xm_get C 5 fg_X6_plays_9 rfl dX6_plays_2 rfl ?_
  refine x_iload_n C 6 dX6_plays_5 rfl rfl ?_
  refine xm_iald C 7 0 16 (k) (by decide) rfl rfl rfl (by omega) dX6_plays_6 rfl ?_
  refine xm_put C 10 1 (by decide) fp_X6_plays_143 rfl rfl dX6_plays_7 rfl ?_
  refine x_iconst (v := (0)) C 11 dX6_plays_10 (by decide) rfl ?_
  refine x_istore_n C 12 dX6_plays_11 (by decide) rfl rfl ?_
  have lp12 : ∀ (n i : Nat) (J : Nat → Nat → Int32), i + n = 12 → HT J → (∃ t, t ≤ 40 ∧ J 1 k = nI t) → vp_nar .char (J 2 k) = J 2 k → plS k I = plL k n i J → X φ 12 [some (.ref m), some (.int (nI k)), some (.int (nI i)), none] [] (wM m am a J en) 0 0 := by
    intro n
    induction n with
    | zero =>
      intro i J hi htJ hTJ hCJ hr
      refine x_iload_n C 13 dX6_plays_12 rfl rfl ?_
      refine x_bipush (v := (12)) C 15 dX6_plays_13 (by decide) rfl ?_
      refine x_icmp_ge C 152 18 dX6_plays_15 (by decide) rfl (fun zk15 => ?_) (fun zk15 => ?_)
      · have zk15 := (nI_leI (a := 12) (b := i) (by omega) (by omega)).mp zk15
        exact x_vret C0 dX6_plays_152 (Nat.le_of_ble_eq_true rfl) (Nat.le_of_ble_eq_true rfl) ⟨rfl, (by rw [hr]; rfl)⟩
      · have zk15 := mt (nI_leI (a := 12) (b := i) (by omega) (by omega)).mpr zk15
        exfalso; omega
    | succ n ih =>
      intro i J hi htJ hTJ hCJ hr
      refine x_iload_n C 13 dX6_plays_12 rfl rfl ?_
      refine x_bipush (v := (12)) C 15 dX6_plays_13 (by decide) rfl ?_
      refine x_icmp_ge C 152 18 dX6_plays_15 (by decide) rfl (fun zk15 => ?_) (fun zk15 => ?_)
      · have zk15 := (nI_leI (a := 12) (b := i) (by omega) (by omega)).mp zk15
        exfalso; omega
      · have zk15 := mt (nI_leI (a := 12) (b := i) (by omega) (by omega)).mpr zk15
        refine x_aload_n C 19 dX6_plays_18 rfl rfl ?_
        refine xm_get C 22 fg_X6_plays_27 rfl dX6_plays_19 rfl ?_
        refine x_iload_n C 23 dX6_plays_22 rfl rfl ?_
        refine x_aload_n C 24 dX6_plays_23 rfl rfl ?_
        refine x_iload_n C 25 dX6_plays_24 rfl rfl ?_
        refine x_callV0_i C 28 0 0 0 10 1 (cM_faded hl _ (by omega) (htJ i (by omega))) rfl gX6_plays_X6_faded ⟨rfl, by decide, by decide, rfl⟩ ⟨Nat.le_of_ble_eq_true rfl, Nat.le_of_ble_eq_true rfl⟩ rfl rfl rfl rfl (Nat.le_of_ble_eq_true rfl) ⟨Nat.le_of_ble_eq_true rfl, Nat.le_of_ble_eq_true rfl⟩ dX6_plays_25 rfl rfl rfl (fun r1 w1 h1 => ?_)
        obtain ⟨rfl, rfl⟩ := h1
        refine xm_iast C 29 5 12 (i) (by decide) rfl rfl rfl (by omega) dX6_plays_28 rfl ?_
        refine x_aload_n C 30 dX6_plays_29 rfl rfl ?_
        refine xm_get C 33 fg_X6_plays_42 rfl dX6_plays_30 rfl ?_
        refine x_iload_n C 34 dX6_plays_33 rfl rfl ?_
        refine x_iconst (v := (0)) C 35 dX6_plays_34 (by decide) rfl ?_
        refine xm_zast C 36 10 12 (i) (by decide) rfl rfl rfl (by omega) (rfl) dX6_plays_35 rfl ?_
        refine x_aload_n C 37 dX6_plays_36 rfl rfl ?_
        refine x_iload_n C 38 dX6_plays_37 rfl rfl ?_
        refine x_iload_n C 39 dX6_plays_38 rfl rfl ?_
        refine x_callV0_i C 42 0 0 0 10 2 (cM_tracked hl k i hk (by omega)) rfl gX6_plays_X6_tracked ⟨rfl, by decide, by decide, rfl⟩ ⟨Nat.le_of_ble_eq_true rfl, Nat.le_of_ble_eq_true rfl⟩ rfl rfl rfl rfl (Nat.le_of_ble_eq_true rfl) ⟨Nat.le_of_ble_eq_true rfl, Nat.le_of_ble_eq_true rfl⟩ dX6_plays_39 rfl rfl rfl (fun r2 w2 h2 => ?_)
        obtain ⟨rfl, rfl⟩ := h2
        refine x_nm (fun g eg => ?_)
        refine x_istore_n C 43 dX6_plays_42 (by decide) rfl rfl ?_
        refine x_iload_n C 44 dX6_plays_43 rfl rfl ?_
        refine x_aload_n C 45 dX6_plays_44 rfl rfl ?_
        refine xm_get C 48 fg_X6_plays_27 rfl dX6_plays_45 rfl ?_
        refine x_iload_n C 49 dX6_plays_48 rfl rfl ?_
        refine xm_iald C 50 5 12 (i) (by decide) rfl rfl rfl (by omega) dX6_plays_49 rfl ?_
        refine x_top (show _ = fadF J i from by simp [uI, upd]) ?_
        refine x_icmp_eq C 146 53 dX6_plays_50 (by decide) rfl (fun zk50 => ?_) (fun zk50 => ?_)
        · refine x_iinc (v := nI (i + 1)) C 149 rfl dX6_plays_146 (iinc1 _) (by decide) rfl rfl ?_
          refine x_goto C 12 dX6_plays_149 (by decide) ?_
          refine x_dropn 3 ?_
          refine x_ws (show _ = wM m am a (plB k i J) en from by subst eg; rw [plB, if_pos (show trk (J 4) (J 3) i (k + 1) = fadF J i from zk50)]) ?_
          exact ih (i + 1) _ (by omega) (plB_ht htJ hTJ) (by rw [plB_row k i J (by decide) (by decide) (by decide) (by decide) (by decide) (by decide) (by decide)]; exact hTJ) (by rw [plB_row k i J (by decide) (by decide) (by decide) (by decide) (by decide) (by decide) (by decide)]; exact hCJ) hr
        · refine x_aload_n C 54 dX6_plays_53 rfl rfl ?_
          refine xm_get C 57 fg_X6_plays_48 rfl dX6_plays_54 rfl ?_
          refine x_iload_n C 58 dX6_plays_57 rfl rfl ?_
          refine x_iconst (v := (-1)) C 59 dX6_plays_58 (by decide) rfl ?_
          refine xm_iast C 60 12 12 (i) (by decide) rfl rfl rfl (by omega) dX6_plays_59 rfl ?_
          refine x_aload_n C 61 dX6_plays_60 rfl rfl ?_
          refine xm_get C 64 fg_X6_plays_42 rfl dX6_plays_61 rfl ?_
          refine x_iload_n C 65 dX6_plays_64 rfl rfl ?_
          refine x_aload_n C 66 dX6_plays_65 rfl rfl ?_
          refine xm_get C 69 fg_X6_plays_13 rfl dX6_plays_66 rfl ?_
          refine x_iload_n C 70 dX6_plays_69 rfl rfl ?_
          refine xm_iald C 71 1 16 (k) (by decide) rfl rfl rfl (by omega) dX6_plays_70 rfl ?_
          refine x_top (show _ = J 1 k from rfl) ?_
          refine x_if_le C 78 74 dX6_plays_71 (by decide) rfl (fun zk71 => ?_) (fun zk71 => ?_)
          · refine x_iconst (v := (0)) C 79 dX6_plays_78 (by decide) rfl ?_
            refine xm_zast C 80 10 12 (i) (by decide) rfl rfl rfl (by omega) (rfl) dX6_plays_79 rfl ?_
            refine x_aload_n C 81 dX6_plays_80 rfl rfl ?_
            refine xm_get C 84 fg_X6_plays_30 rfl dX6_plays_81 rfl ?_
            refine x_iload_n C 85 dX6_plays_84 rfl rfl ?_
            refine x_iload_n C 86 dX6_plays_85 rfl rfl ?_
            refine xm_iast C 87 6 12 (i) (by decide) rfl rfl rfl (by omega) dX6_plays_86 rfl ?_
            refine x_aload_n C 88 dX6_plays_87 rfl rfl ?_
            refine xm_get C 91 fg_X6_plays_33 rfl dX6_plays_88 rfl ?_
            refine x_iload_n C 92 dX6_plays_91 rfl rfl ?_
            refine x_aload_n C 93 dX6_plays_92 rfl rfl ?_
            refine xm_get C 96 fg_X6_plays_140 rfl dX6_plays_93 rfl ?_
            refine xm_iast C 97 7 12 (i) (by decide) rfl rfl rfl (by omega) dX6_plays_96 rfl ?_
            refine x_aload_n C 98 dX6_plays_97 rfl rfl ?_
            refine xm_get C 101 fg_X6_plays_36 rfl dX6_plays_98 rfl ?_
            refine x_iload_n C 102 dX6_plays_101 rfl rfl ?_
            refine x_aload_n C 103 dX6_plays_102 rfl rfl ?_
            refine xm_get C 106 fg_X6_plays_13 rfl dX6_plays_103 rfl ?_
            refine x_iload_n C 107 dX6_plays_106 rfl rfl ?_
            refine xm_iald C 108 1 16 (k) (by decide) rfl rfl rfl (by omega) dX6_plays_107 rfl ?_
            refine x_top (show _ = J 1 k from rfl) ?_
            refine xm_iast C 109 8 12 (i) (by decide) rfl rfl rfl (by omega) dX6_plays_108 rfl ?_
            refine x_aload_n C 110 dX6_plays_109 rfl rfl ?_
            refine xm_get C 113 fg_X6_plays_39 rfl dX6_plays_110 rfl ?_
            refine x_iload_n C 114 dX6_plays_113 rfl rfl ?_
            refine x_aload_n C 115 dX6_plays_114 rfl rfl ?_
            refine xm_get C 118 fg_X6_plays_16 rfl dX6_plays_115 rfl ?_
            refine x_iload_n C 119 dX6_plays_118 rfl rfl ?_
            refine xm_cald C 120 2 16 (k) (by decide) rfl rfl rfl (by omega) dX6_plays_119 rfl ?_
            refine x_top (show _ = J 2 k from rfl) ?_
            refine xm_cast C 121 9 12 (i) (by decide) rfl rfl rfl (by omega) (show vp_nar .char (J 2 k) = J 2 k from hCJ) dX6_plays_120 rfl ?_
            refine x_aload_n C 122 dX6_plays_121 rfl rfl ?_
            refine xm_get C 125 fg_X6_plays_27 rfl dX6_plays_122 rfl ?_
            refine x_iload_n C 126 dX6_plays_125 rfl rfl ?_
            refine x_aload_n C 127 dX6_plays_126 rfl rfl ?_
            refine xm_get C 130 fg_X6_plays_42 rfl dX6_plays_127 rfl ?_
            refine x_iload_n C 131 dX6_plays_130 rfl rfl ?_
            refine xm_zald C 132 10 12 (i) (by decide) rfl rfl rfl (by omega) dX6_plays_131 rfl ?_
            refine x_top (show _ = (0) from by simp [uI, upd]) ?_
            refine x_if_eq C 144 135 dX6_plays_132 (by decide) rfl (fun zk132 => ?_) (fun zk132 => ?_)
            · refine x_iload_n C 145 dX6_plays_144 rfl rfl ?_
              refine xm_iast C 146 5 12 (i) (by decide) rfl rfl rfl (by omega) dX6_plays_145 rfl ?_
              refine x_iinc (v := nI (i + 1)) C 149 rfl dX6_plays_146 (iinc1 _) (by decide) rfl rfl ?_
              refine x_goto C 12 dX6_plays_149 (by decide) ?_
              refine x_dropn 3 ?_
              refine x_ws (show _ = wM m am a (plB k i J) en from by subst eg; rw [plB, if_neg (show ¬ trk (J 4) (J 3) i (k + 1) = fadF J i from zk50), if_pos (show J 1 k ≤ 0 from zk71)]; rfl) ?_
              exact ih (i + 1) _ (by omega) (plB_ht htJ hTJ) (by rw [plB_row k i J (by decide) (by decide) (by decide) (by decide) (by decide) (by decide) (by decide)]; exact hTJ) (by rw [plB_row k i J (by decide) (by decide) (by decide) (by decide) (by decide) (by decide) (by decide)]; exact hCJ) hr
            · exact absurd zk132 (by decide)
          · refine x_iconst (v := (1)) C 75 dX6_plays_74 (by decide) rfl ?_
            refine x_goto C 79 dX6_plays_75 (by decide) ?_
            refine xm_zast C 80 10 12 (i) (by decide) rfl rfl rfl (by omega) (rfl) dX6_plays_79 rfl ?_
            refine x_aload_n C 81 dX6_plays_80 rfl rfl ?_
            refine xm_get C 84 fg_X6_plays_30 rfl dX6_plays_81 rfl ?_
            refine x_iload_n C 85 dX6_plays_84 rfl rfl ?_
            refine x_iload_n C 86 dX6_plays_85 rfl rfl ?_
            refine xm_iast C 87 6 12 (i) (by decide) rfl rfl rfl (by omega) dX6_plays_86 rfl ?_
            refine x_aload_n C 88 dX6_plays_87 rfl rfl ?_
            refine xm_get C 91 fg_X6_plays_33 rfl dX6_plays_88 rfl ?_
            refine x_iload_n C 92 dX6_plays_91 rfl rfl ?_
            refine x_aload_n C 93 dX6_plays_92 rfl rfl ?_
            refine xm_get C 96 fg_X6_plays_140 rfl dX6_plays_93 rfl ?_
            refine xm_iast C 97 7 12 (i) (by decide) rfl rfl rfl (by omega) dX6_plays_96 rfl ?_
            refine x_aload_n C 98 dX6_plays_97 rfl rfl ?_
            refine xm_get C 101 fg_X6_plays_36 rfl dX6_plays_98 rfl ?_
            refine x_iload_n C 102 dX6_plays_101 rfl rfl ?_
            refine x_aload_n C 103 dX6_plays_102 rfl rfl ?_
            refine xm_get C 106 fg_X6_plays_13 rfl dX6_plays_103 rfl ?_
            refine x_iload_n C 107 dX6_plays_106 rfl rfl ?_
            refine xm_iald C 108 1 16 (k) (by decide) rfl rfl rfl (by omega) dX6_plays_107 rfl ?_
            refine x_top (show _ = J 1 k from rfl) ?_
            refine xm_iast C 109 8 12 (i) (by decide) rfl rfl rfl (by omega) dX6_plays_108 rfl ?_
            refine x_aload_n C 110 dX6_plays_109 rfl rfl ?_
            refine xm_get C 113 fg_X6_plays_39 rfl dX6_plays_110 rfl ?_
            refine x_iload_n C 114 dX6_plays_113 rfl rfl ?_
            refine x_aload_n C 115 dX6_plays_114 rfl rfl ?_
            refine xm_get C 118 fg_X6_plays_16 rfl dX6_plays_115 rfl ?_
            refine x_iload_n C 119 dX6_plays_118 rfl rfl ?_
            refine xm_cald C 120 2 16 (k) (by decide) rfl rfl rfl (by omega) dX6_plays_119 rfl ?_
            refine x_top (show _ = J 2 k from rfl) ?_
            refine xm_cast C 121 9 12 (i) (by decide) rfl rfl rfl (by omega) (show vp_nar .char (J 2 k) = J 2 k from hCJ) dX6_plays_120 rfl ?_
            refine x_aload_n C 122 dX6_plays_121 rfl rfl ?_
            refine xm_get C 125 fg_X6_plays_27 rfl dX6_plays_122 rfl ?_
            refine x_iload_n C 126 dX6_plays_125 rfl rfl ?_
            refine x_aload_n C 127 dX6_plays_126 rfl rfl ?_
            refine xm_get C 130 fg_X6_plays_42 rfl dX6_plays_127 rfl ?_
            refine x_iload_n C 131 dX6_plays_130 rfl rfl ?_
            refine xm_zald C 132 10 12 (i) (by decide) rfl rfl rfl (by omega) dX6_plays_131 rfl ?_
            refine x_top (show _ = (1) from by simp [uI, upd]) ?_
            refine x_if_eq C 144 135 dX6_plays_132 (by decide) rfl (fun zk132 => ?_) (fun zk132 => ?_)
            · exact absurd zk132 (by decide)
            · refine x_aload_n C 136 dX6_plays_135 rfl rfl ?_
              refine xm_get C 139 fg_X6_plays_27 rfl dX6_plays_136 rfl ?_
              refine x_iload_n C 140 dX6_plays_139 rfl rfl ?_
              refine xm_iald C 141 5 12 (i) (by decide) rfl rfl rfl (by omega) dX6_plays_140 rfl ?_
              refine x_top (show _ = fadF J i from by simp [uI, upd]) ?_
              refine x_goto C 145 dX6_plays_141 (by decide) ?_
              refine xm_iast C 146 5 12 (i) (by decide) rfl rfl rfl (by omega) dX6_plays_145 rfl ?_
              refine x_iinc (v := nI (i + 1)) C 149 rfl dX6_plays_146 (iinc1 _) (by decide) rfl rfl ?_
              refine x_goto C 12 dX6_plays_149 (by decide) ?_
              refine x_dropn 3 ?_
              refine x_ws (show _ = wM m am a (plB k i J) en from by subst eg; rw [plB, if_neg (show ¬ trk (J 4) (J 3) i (k + 1) = fadF J i from zk50), if_neg (show ¬ J 1 k ≤ 0 from zk71)]; rfl) ?_
              exact ih (i + 1) _ (by omega) (plB_ht htJ hTJ) (by rw [plB_row k i J (by decide) (by decide) (by decide) (by decide) (by decide) (by decide) (by decide)]; exact hTJ) (by rw [plB_row k i J (by decide) (by decide) (by decide) (by decide) (by decide) (by decide) (by decide)]; exact hCJ) hr
  exact lp12 12 0 _ rfl ht hT hC rfl
theorem fp_X6_playing_98 : pF RX6 wsX6_playing 98 10 35 false (.int) := ⟨RX6, TX6, 36, "StageConsoleModel", tyX6, rfl, fun w h => (List.mem_cons_of_mem _ (List.mem_append_left _ (List.mem_append_left _ (List.mem_append_right _ h)))), by decide, (List.mem_cons_of_mem _ (List.mem_append_left _ (List.mem_append_left _ (List.mem_append_left _ (List.mem_append_left _ (List.mem_of_getElem? (i := 0) rfl)))))), Or.inl rfl, tyX6_ok, nmX6, rfl, rfl, fun h => absurd h (by decide)⟩
theorem fg_X6_playing_98 : gF RX6 wsX6_playing 98 10 35 := ⟨RX6, TX6, 36, "StageConsoleModel", rfl, fun w h => (List.mem_cons_of_mem _ (List.mem_append_left _ (List.mem_append_left _ (List.mem_append_right _ h)))), by decide, (List.mem_cons_of_mem _ (List.mem_append_left _ (List.mem_append_left _ (List.mem_append_left _ (List.mem_append_left _ (List.mem_of_getElem? (i := 0) rfl)))))), Or.inl rfl⟩
set_option maxRecDepth 100000 in
set_option maxHeartbeats 4000000 in
theorem cM_playing_1 (hl : l.stackTraces = false) {I : Nat → Nat → Int32}  : Ct (gm D a E0) l yX6_playing wsX6_playing { frames := 12, cells := 0, slots := 0, locals := 300 } [.ref m, .int (-1)] (wM m am a I en) (qI fun v w => v = -1 ∧ w = wM m am a (uI I 30 8 1) en) noX := by
  refine Ct.of [some (.ref m), some (.int (-1))] rfl hl (by decide) (Nat.le_of_ble_eq_true rfl) rfl (fun φ C0 => ?_)
  have C := C0.1
  refine x_aload_n C 1 dX6_playing_0 rfl rfl ?_
  refine x_iload_n C 2 dX6_playing_1 rfl rfl ?_
  refine x_iconst (v := (-1)) C 3 dX6_playing_2 (by decide) rfl ?_
  refine x_icmp_ne C 10 6 dX6_playing_3 (by decide) rfl (fun zk3 => ?_) (fun zk3 => ?_)
  · exact absurd zk3 (by decide)
  · refine x_iconst (v := (1)) C 7 dX6_playing_6 (by decide) rfl ?_
    refine x_goto C 11 dX6_playing_7 (by decide) ?_
    refine xm_put C 14 8 (by decide) fp_X6_playing_98 rfl rfl dX6_playing_11 rfl ?_
    refine x_aload_n C 15 dX6_playing_14 rfl rfl ?_
    refine xm_get C 18 fg_X6_playing_98 rfl dX6_playing_15 rfl ?_
    refine x_top (show _ = (1) from rfl) ?_
    refine x_if_le C 23 21 dX6_playing_18 (by decide) rfl (fun zk18 => ?_) (fun zk18 => ?_)
    · exact absurd zk18 (by decide)
    · refine x_iconst (v := (-1)) C 22 dX6_playing_21 (by decide) rfl ?_
      exact x_zret C0 dX6_playing_22 (Nat.le_of_ble_eq_true rfl) (Nat.le_of_ble_eq_true rfl) ⟨_, rfl, ⟨rfl, rfl⟩⟩
theorem fg_X6_playing_143 : gF RX6 wsX6_playing 143 10 6 := ⟨RX6, TX6, 36, "StageConsoleModel", rfl, fun w h => (List.mem_cons_of_mem _ (List.mem_append_left _ (List.mem_append_left _ (List.mem_append_right _ h)))), by decide, (List.mem_cons_of_mem _ (List.mem_append_left _ (List.mem_append_left _ (List.mem_append_left _ (List.mem_append_left _ (List.mem_of_getElem? (i := 1) rfl)))))), Or.inl rfl⟩
set_option maxRecDepth 100000 in
set_option maxHeartbeats 4000000 in
theorem cM_playing_0 (hl : l.stackTraces = false) {I : Nat → Nat → Int32} {k : Nat} (hk : k < 16) (hT : ∃ t, t ≤ 40 ∧ I 1 k = nI t) (hC : vp_nar .char (I 2 k) = I 2 k) (ht : HT I)  : Ct (gm D a E0) l yX6_playing wsX6_playing { frames := 12, cells := 0, slots := 0, locals := 300 } [.ref m, .int (nI k)] (wM m am a I en) (qI fun v w => v = I 0 k ∧ w = wM m am a (plS k (uI I 30 8 0)) en) noX := by
  refine Ct.of [some (.ref m), some (.int (nI k))] rfl hl (by decide) (Nat.le_of_ble_eq_true rfl) rfl (fun φ C0 => ?_)
  have C := C0.1
  refine x_aload_n C 1 dX6_playing_0 rfl rfl ?_
  refine x_iload_n C 2 dX6_playing_1 rfl rfl ?_
  refine x_iconst (v := (-1)) C 3 dX6_playing_2 (by decide) rfl ?_
  refine x_icmp_ne C 10 6 dX6_playing_3 (by decide) rfl (fun zk3 => ?_) (fun zk3 => ?_)
  · refine x_iconst (v := (0)) C 11 dX6_playing_10 (by decide) rfl ?_
    refine xm_put C 14 8 (by decide) fp_X6_playing_98 rfl rfl dX6_playing_11 rfl ?_
    refine x_aload_n C 15 dX6_playing_14 rfl rfl ?_
    refine xm_get C 18 fg_X6_playing_98 rfl dX6_playing_15 rfl ?_
    refine x_top (show _ = (0) from rfl) ?_
    refine x_if_le C 23 21 dX6_playing_18 (by decide) rfl (fun zk18 => ?_) (fun zk18 => ?_)
    · refine x_aload_n C 24 dX6_playing_23 rfl rfl ?_
      refine x_iload_n C 25 dX6_playing_24 rfl rfl ?_
      refine x_callV0_v C 28 0 0 0 10 1 (cM_plays hl (I := uI I 30 8 0) hk hT hC ht) rfl gX6_playing_X6_plays ⟨rfl, by decide, by decide, rfl⟩ ⟨Nat.le_of_ble_eq_true rfl, Nat.le_of_ble_eq_true rfl⟩ rfl rfl rfl rfl (Nat.le_of_ble_eq_true rfl) ⟨Nat.le_of_ble_eq_true rfl, Nat.le_of_ble_eq_true rfl⟩ dX6_playing_25 rfl rfl rfl (fun w1 h1 => ?_)
      subst h1
      refine x_aload_n C 29 dX6_playing_28 rfl rfl ?_
      refine xm_get C 32 fg_X6_playing_143 rfl dX6_playing_29 rfl ?_
      refine x_top (show _ = I 0 k from plS_cur k (uI I 30 8 0)) ?_
      exact x_zret C0 dX6_playing_32 (Nat.le_of_ble_eq_true rfl) (Nat.le_of_ble_eq_true rfl) ⟨_, rfl, ⟨rfl, rfl⟩⟩
    · exact absurd zk18 (by decide)
  · exact absurd zk3 (nI_nm1 (by omega))
theorem fg_X6_go_109 : gF RX6 wsX6_go 109 10 5 := ⟨RX6, TX6, 36, "StageConsoleModel", rfl, fun w h => (List.mem_cons_of_mem _ (List.mem_append_left _ (List.mem_append_left _ (List.mem_append_right _ h)))), by decide, (List.mem_cons_of_mem _ (List.mem_append_left _ (List.mem_append_left _ (List.mem_append_left _ (List.mem_append_left _ (List.mem_of_getElem? (i := 0) rfl)))))), Or.inl rfl⟩
theorem fg_X6_go_9 : gF RX6 wsX6_go 9 10 0 := ⟨RX6, TX6, 36, "StageConsoleModel", rfl, fun w h => (List.mem_cons_of_mem _ (List.mem_append_left _ (List.mem_append_left _ (List.mem_append_right _ h)))), by decide, (List.mem_cons_of_mem _ (List.mem_append_left _ (List.mem_append_left _ (List.mem_append_left _ (List.mem_append_left _ (List.mem_of_getElem? (i := 1) rfl)))))), Or.inl rfl⟩
theorem fg_X6_go_143 : gF RX6 wsX6_go 143 10 6 := ⟨RX6, TX6, 36, "StageConsoleModel", rfl, fun w h => (List.mem_cons_of_mem _ (List.mem_append_left _ (List.mem_append_left _ (List.mem_append_right _ h)))), by decide, (List.mem_cons_of_mem _ (List.mem_append_left _ (List.mem_append_left _ (List.mem_append_left _ (List.mem_append_left _ (List.mem_of_getElem? (i := 2) rfl)))))), Or.inl rfl⟩
set_option maxRecDepth 100000 in
set_option maxHeartbeats 4000000 in
theorem cM_go_1 (hl : l.stackTraces = false) {I : Nat → Nat → Int32} {nq : Nat} (h0 : I 30 0 = nI nq) (hq : nq ≤ 16) (hk : fgL (I 0) (I 30 1) nq (-1) = -1) : Ct (gm D a E0) l yX6_go wsX6_go { frames := 16, cells := 0, slots := 0, locals := 400 } [.ref m] (wM m am a I en) (qI fun v w => v = -1 ∧ w = wM m am a (uI I 30 8 1) en) noX := by
  refine Ct.of [some (.ref m), none, none] rfl hl (by decide) (Nat.le_of_ble_eq_true rfl) rfl (fun φ C0 => ?_)
  have C := C0.1
  refine x_iconst (v := (-1)) C 1 dX6_go_0 (by decide) rfl ?_
  refine x_istore_n C 2 dX6_go_1 (by decide) rfl rfl ?_
  refine x_aload_n C 3 dX6_go_2 rfl rfl ?_
  refine xm_get C 6 fg_X6_go_109 rfl dX6_go_3 rfl ?_
  refine x_top h0 ?_
  refine x_iconst (v := (1)) C 7 dX6_go_6 (by decide) rfl ?_
  refine x_isub C 8 dX6_go_7 rfl ?_
  refine x_top (kd_sub nq) ?_
  refine x_istore_n C 9 dX6_go_8 (by decide) rfl rfl ?_
  have lp9 : ∀ (n : Nat) (v : Int32), n ≤ nq → fgL (I 0) (I 30 1) nq (-1) = fgL (I 0) (I 30 1) n v → X φ 9 [some (.ref m), some (.int v), some (.int (kd n))] [] (wM m am a I en) 0 0 := by
    intro n
    induction n with
    | zero =>
      intro v hn hr
      refine x_ls (show _ = [some (.ref m), some (.int v), some (.int (-1))] from rfl) ?_
      refine x_iload_n C 10 dX6_go_9 rfl rfl ?_
      refine x_if_lt C 38 13 dX6_go_10 (by decide) rfl (fun zk10 => ?_) (fun zk10 => ?_)
      · refine x_aload_n C 39 dX6_go_38 rfl rfl ?_
        refine x_iload_n C 40 dX6_go_39 rfl rfl ?_
        refine x_top (show _ = (-1 : Int32) from by rw [← hk, hr]; rfl) ?_
        refine x_callV0_i C 43 0 0 0 10 1 (cM_playing_1 hl) rfl gX6_go_X6_playing ⟨rfl, by decide, by decide, rfl⟩ ⟨Nat.le_of_ble_eq_true rfl, Nat.le_of_ble_eq_true rfl⟩ rfl rfl rfl rfl (Nat.le_of_ble_eq_true rfl) ⟨Nat.le_of_ble_eq_true rfl, Nat.le_of_ble_eq_true rfl⟩ dX6_go_40 rfl rfl rfl (fun r1 w1 h1 => ?_)
        obtain ⟨rfl, rfl⟩ := h1
        exact x_zret C0 dX6_go_43 (Nat.le_of_ble_eq_true rfl) (Nat.le_of_ble_eq_true rfl) ⟨_, rfl, ⟨rfl, rfl⟩⟩
      · exact absurd zk10 (by decide)
    | succ n ih =>
      intro v hn hr
      refine x_ls (show _ = [some (.ref m), some (.int v), some (.int (nI n))] from rfl) ?_
      refine x_iload_n C 10 dX6_go_9 rfl rfl ?_
      refine x_if_lt C 38 13 dX6_go_10 (by decide) rfl (fun zk10 => ?_) (fun zk10 => ?_)
      · have zk10 := (nI_ltI (a := n) (b := 0) (by omega) (by omega)).mp zk10
        exact absurd zk10 (Nat.not_lt_zero _)
      · have zk10 := mt (nI_ltI (a := n) (b := 0) (by omega) (by omega)).mpr zk10
        refine x_aload_n C 14 dX6_go_13 rfl rfl ?_
        refine xm_get C 17 fg_X6_go_9 rfl dX6_go_14 rfl ?_
        refine x_iload_n C 18 dX6_go_17 rfl rfl ?_
        refine xm_iald C 19 0 16 (n) (by decide) rfl rfl rfl (by omega) dX6_go_18 rfl ?_
        refine x_aload_n C 20 dX6_go_19 rfl rfl ?_
        refine xm_get C 23 fg_X6_go_143 rfl dX6_go_20 rfl ?_
        refine x_icmp_le C 30 26 dX6_go_23 (by decide) rfl (fun zk23 => ?_) (fun zk23 => ?_)
        · refine x_iload_n C 31 dX6_go_30 rfl rfl ?_
          refine x_istore_n C 32 dX6_go_31 (by decide) rfl rfl ?_
          refine x_iinc (v := kd n) C 35 rfl dX6_go_32 (kd_dec _) (by decide) rfl rfl ?_
          refine x_goto C 9 dX6_go_35 (by decide) ?_
          exact ih _ (by omega) (by rw [hr, fgL]; first | rw [if_pos zk23] | rw [if_neg zk23])
        · refine x_iload_n C 27 dX6_go_26 rfl rfl ?_
          refine x_goto C 31 dX6_go_27 (by decide) ?_
          refine x_istore_n C 32 dX6_go_31 (by decide) rfl rfl ?_
          refine x_iinc (v := kd n) C 35 rfl dX6_go_32 (kd_dec _) (by decide) rfl rfl ?_
          refine x_goto C 9 dX6_go_35 (by decide) ?_
          exact ih _ (by omega) (by rw [hr, fgL]; first | rw [if_pos zk23] | rw [if_neg zk23])
  exact lp9 nq _ (by omega) rfl
set_option maxRecDepth 100000 in
set_option maxHeartbeats 4000000 in
theorem cM_go_0 (hl : l.stackTraces = false) {I : Nat → Nat → Int32} {nq : Nat} (h0 : I 30 0 = nI nq) (hq : nq ≤ 16) {k : Nat} (hk : fgL (I 0) (I 30 1) nq (-1) = nI k) (hk2 : k < nq) (hT : ∃ t, t ≤ 40 ∧ I 1 k = nI t) (hC : vp_nar .char (I 2 k) = I 2 k) (ht : HT I)  : Ct (gm D a E0) l yX6_go wsX6_go { frames := 16, cells := 0, slots := 0, locals := 400 } [.ref m] (wM m am a I en) (qI fun v w => v = I 0 k ∧ w = wM m am a (plS k (uI I 30 8 0)) en) noX := by
  refine Ct.of [some (.ref m), none, none] rfl hl (by decide) (Nat.le_of_ble_eq_true rfl) rfl (fun φ C0 => ?_)
  have C := C0.1
  refine x_iconst (v := (-1)) C 1 dX6_go_0 (by decide) rfl ?_
  refine x_istore_n C 2 dX6_go_1 (by decide) rfl rfl ?_
  refine x_aload_n C 3 dX6_go_2 rfl rfl ?_
  refine xm_get C 6 fg_X6_go_109 rfl dX6_go_3 rfl ?_
  refine x_top h0 ?_
  refine x_iconst (v := (1)) C 7 dX6_go_6 (by decide) rfl ?_
  refine x_isub C 8 dX6_go_7 rfl ?_
  refine x_top (kd_sub nq) ?_
  refine x_istore_n C 9 dX6_go_8 (by decide) rfl rfl ?_
  have lp9 : ∀ (n : Nat) (v : Int32), n ≤ nq → fgL (I 0) (I 30 1) nq (-1) = fgL (I 0) (I 30 1) n v → X φ 9 [some (.ref m), some (.int v), some (.int (kd n))] [] (wM m am a I en) 0 0 := by
    intro n
    induction n with
    | zero =>
      intro v hn hr
      refine x_ls (show _ = [some (.ref m), some (.int v), some (.int (-1))] from rfl) ?_
      refine x_iload_n C 10 dX6_go_9 rfl rfl ?_
      refine x_if_lt C 38 13 dX6_go_10 (by decide) rfl (fun zk10 => ?_) (fun zk10 => ?_)
      · refine x_aload_n C 39 dX6_go_38 rfl rfl ?_
        refine x_iload_n C 40 dX6_go_39 rfl rfl ?_
        refine x_top (show _ = nI k from by rw [← hk, hr]; rfl) ?_
        refine x_callV0_i C 43 0 0 0 10 1 (cM_playing_0 hl (by omega) hT hC ht) rfl gX6_go_X6_playing ⟨rfl, by decide, by decide, rfl⟩ ⟨Nat.le_of_ble_eq_true rfl, Nat.le_of_ble_eq_true rfl⟩ rfl rfl rfl rfl (Nat.le_of_ble_eq_true rfl) ⟨Nat.le_of_ble_eq_true rfl, Nat.le_of_ble_eq_true rfl⟩ dX6_go_40 rfl rfl rfl (fun r1 w1 h1 => ?_)
        obtain ⟨rfl, rfl⟩ := h1
        exact x_zret C0 dX6_go_43 (Nat.le_of_ble_eq_true rfl) (Nat.le_of_ble_eq_true rfl) ⟨_, rfl, ⟨rfl, rfl⟩⟩
      · exact absurd zk10 (by decide)
    | succ n ih =>
      intro v hn hr
      refine x_ls (show _ = [some (.ref m), some (.int v), some (.int (nI n))] from rfl) ?_
      refine x_iload_n C 10 dX6_go_9 rfl rfl ?_
      refine x_if_lt C 38 13 dX6_go_10 (by decide) rfl (fun zk10 => ?_) (fun zk10 => ?_)
      · have zk10 := (nI_ltI (a := n) (b := 0) (by omega) (by omega)).mp zk10
        exact absurd zk10 (Nat.not_lt_zero _)
      · have zk10 := mt (nI_ltI (a := n) (b := 0) (by omega) (by omega)).mpr zk10
        refine x_aload_n C 14 dX6_go_13 rfl rfl ?_
        refine xm_get C 17 fg_X6_go_9 rfl dX6_go_14 rfl ?_
        refine x_iload_n C 18 dX6_go_17 rfl rfl ?_
        refine xm_iald C 19 0 16 (n) (by decide) rfl rfl rfl (by omega) dX6_go_18 rfl ?_
        refine x_aload_n C 20 dX6_go_19 rfl rfl ?_
        refine xm_get C 23 fg_X6_go_143 rfl dX6_go_20 rfl ?_
        refine x_icmp_le C 30 26 dX6_go_23 (by decide) rfl (fun zk23 => ?_) (fun zk23 => ?_)
        · refine x_iload_n C 31 dX6_go_30 rfl rfl ?_
          refine x_istore_n C 32 dX6_go_31 (by decide) rfl rfl ?_
          refine x_iinc (v := kd n) C 35 rfl dX6_go_32 (kd_dec _) (by decide) rfl rfl ?_
          refine x_goto C 9 dX6_go_35 (by decide) ?_
          exact ih _ (by omega) (by rw [hr, fgL]; first | rw [if_pos zk23] | rw [if_neg zk23])
        · refine x_iload_n C 27 dX6_go_26 rfl rfl ?_
          refine x_goto C 31 dX6_go_27 (by decide) ?_
          refine x_istore_n C 32 dX6_go_31 (by decide) rfl rfl ?_
          refine x_iinc (v := kd n) C 35 rfl dX6_go_32 (kd_dec _) (by decide) rfl rfl ?_
          refine x_goto C 9 dX6_go_35 (by decide) ?_
          exact ih _ (by omega) (by rw [hr, fgL]; first | rw [if_pos zk23] | rw [if_neg zk23])
  exact lp9 nq _ (by omega) rfl
theorem fg_X6_back_109 : gF RX6 wsX6_back 109 10 5 := ⟨RX6, TX6, 36, "StageConsoleModel", rfl, fun w h => (List.mem_cons_of_mem _ (List.mem_append_left _ (List.mem_append_left _ (List.mem_append_right _ h)))), by decide, (List.mem_cons_of_mem _ (List.mem_append_left _ (List.mem_append_left _ (List.mem_append_left _ (List.mem_append_left _ (List.mem_of_getElem? (i := 0) rfl)))))), Or.inl rfl⟩
theorem fg_X6_back_9 : gF RX6 wsX6_back 9 10 0 := ⟨RX6, TX6, 36, "StageConsoleModel", rfl, fun w h => (List.mem_cons_of_mem _ (List.mem_append_left _ (List.mem_append_left _ (List.mem_append_right _ h)))), by decide, (List.mem_cons_of_mem _ (List.mem_append_left _ (List.mem_append_left _ (List.mem_append_left _ (List.mem_append_left _ (List.mem_of_getElem? (i := 1) rfl)))))), Or.inl rfl⟩
theorem fg_X6_back_143 : gF RX6 wsX6_back 143 10 6 := ⟨RX6, TX6, 36, "StageConsoleModel", rfl, fun w h => (List.mem_cons_of_mem _ (List.mem_append_left _ (List.mem_append_left _ (List.mem_append_right _ h)))), by decide, (List.mem_cons_of_mem _ (List.mem_append_left _ (List.mem_append_left _ (List.mem_append_left _ (List.mem_append_left _ (List.mem_of_getElem? (i := 2) rfl)))))), Or.inl rfl⟩
set_option maxRecDepth 100000 in
set_option maxHeartbeats 4000000 in
theorem cM_back_1 (hl : l.stackTraces = false) {I : Nat → Nat → Int32} {nq : Nat} (h0 : I 30 0 = nI nq) (hq : nq ≤ 16) (hk : fbL (I 0) (I 30 1) nq 0 (-1) = -1) : Ct (gm D a E0) l yX6_back wsX6_back { frames := 16, cells := 0, slots := 0, locals := 400 } [.ref m] (wM m am a I en) (qI fun v w => v = -1 ∧ w = wM m am a (uI I 30 8 1) en) noX := by
  refine Ct.of [some (.ref m), none, none] rfl hl (by decide) (Nat.le_of_ble_eq_true rfl) rfl (fun φ C0 => ?_)
  have C := C0.1
  refine x_iconst (v := (-1)) C 1 dX6_back_0 (by decide) rfl ?_
  refine x_istore_n C 2 dX6_back_1 (by decide) rfl rfl ?_
  refine x_iconst (v := (0)) C 3 dX6_back_2 (by decide) rfl ?_
  refine x_istore_n C 4 dX6_back_3 (by decide) rfl rfl ?_
  have lp4 : ∀ (n i : Nat) (v : Int32), i + n = nq → fbL (I 0) (I 30 1) nq 0 (-1) = fbL (I 0) (I 30 1) n i v → X φ 4 [some (.ref m), some (.int v), some (.int (nI i))] [] (wM m am a I en) 0 0 := by
    intro n
    induction n with
    | zero =>
      intro i v hi hr
      refine x_iload_n C 5 dX6_back_4 rfl rfl ?_
      refine x_aload_n C 6 dX6_back_5 rfl rfl ?_
      refine xm_get C 9 fg_X6_back_109 rfl dX6_back_6 rfl ?_
      refine x_top h0 ?_
      refine x_icmp_ge C 37 12 dX6_back_9 (by decide) rfl (fun zk9 => ?_) (fun zk9 => ?_)
      · have zk9 := (nI_leI (a := nq) (b := i) (by omega) (by omega)).mp zk9
        refine x_aload_n C 38 dX6_back_37 rfl rfl ?_
        refine x_iload_n C 39 dX6_back_38 rfl rfl ?_
        refine x_top (show _ = (-1 : Int32) from by rw [← hk, hr]; rfl) ?_
        refine x_callV0_i C 42 0 0 0 10 1 (cM_playing_1 hl) rfl gX6_back_X6_playing ⟨rfl, by decide, by decide, rfl⟩ ⟨Nat.le_of_ble_eq_true rfl, Nat.le_of_ble_eq_true rfl⟩ rfl rfl rfl rfl (Nat.le_of_ble_eq_true rfl) ⟨Nat.le_of_ble_eq_true rfl, Nat.le_of_ble_eq_true rfl⟩ dX6_back_39 rfl rfl rfl (fun r1 w1 h1 => ?_)
        obtain ⟨rfl, rfl⟩ := h1
        exact x_zret C0 dX6_back_42 (Nat.le_of_ble_eq_true rfl) (Nat.le_of_ble_eq_true rfl) ⟨_, rfl, ⟨rfl, rfl⟩⟩
      · have zk9 := mt (nI_leI (a := nq) (b := i) (by omega) (by omega)).mpr zk9
        exfalso; omega
    | succ n ih =>
      intro i v hi hr
      refine x_iload_n C 5 dX6_back_4 rfl rfl ?_
      refine x_aload_n C 6 dX6_back_5 rfl rfl ?_
      refine xm_get C 9 fg_X6_back_109 rfl dX6_back_6 rfl ?_
      refine x_top h0 ?_
      refine x_icmp_ge C 37 12 dX6_back_9 (by decide) rfl (fun zk9 => ?_) (fun zk9 => ?_)
      · have zk9 := (nI_leI (a := nq) (b := i) (by omega) (by omega)).mp zk9
        exfalso; omega
      · have zk9 := mt (nI_leI (a := nq) (b := i) (by omega) (by omega)).mpr zk9
        refine x_aload_n C 13 dX6_back_12 rfl rfl ?_
        refine xm_get C 16 fg_X6_back_9 rfl dX6_back_13 rfl ?_
        refine x_iload_n C 17 dX6_back_16 rfl rfl ?_
        refine xm_iald C 18 0 16 (i) (by decide) rfl rfl rfl (by omega) dX6_back_17 rfl ?_
        refine x_aload_n C 19 dX6_back_18 rfl rfl ?_
        refine xm_get C 22 fg_X6_back_143 rfl dX6_back_19 rfl ?_
        refine x_icmp_ge C 29 25 dX6_back_22 (by decide) rfl (fun zk22 => ?_) (fun zk22 => ?_)
        · refine x_iload_n C 30 dX6_back_29 rfl rfl ?_
          refine x_istore_n C 31 dX6_back_30 (by decide) rfl rfl ?_
          refine x_iinc (v := nI (i + 1)) C 34 rfl dX6_back_31 (iinc1 _) (by decide) rfl rfl ?_
          refine x_goto C 4 dX6_back_34 (by decide) ?_
          exact ih (i + 1) _ (by omega) (by rw [hr, fbL]; first | rw [if_pos zk22] | rw [if_neg zk22])
        · refine x_iload_n C 26 dX6_back_25 rfl rfl ?_
          refine x_goto C 30 dX6_back_26 (by decide) ?_
          refine x_istore_n C 31 dX6_back_30 (by decide) rfl rfl ?_
          refine x_iinc (v := nI (i + 1)) C 34 rfl dX6_back_31 (iinc1 _) (by decide) rfl rfl ?_
          refine x_goto C 4 dX6_back_34 (by decide) ?_
          exact ih (i + 1) _ (by omega) (by rw [hr, fbL]; first | rw [if_pos zk22] | rw [if_neg zk22])
  exact lp4 nq 0 _ (by omega) rfl
set_option maxRecDepth 100000 in
set_option maxHeartbeats 4000000 in
theorem cM_back_0 (hl : l.stackTraces = false) {I : Nat → Nat → Int32} {nq : Nat} (h0 : I 30 0 = nI nq) (hq : nq ≤ 16) {k : Nat} (hk : fbL (I 0) (I 30 1) nq 0 (-1) = nI k) (hk2 : k < nq) (hT : ∃ t, t ≤ 40 ∧ I 1 k = nI t) (hC : vp_nar .char (I 2 k) = I 2 k) (ht : HT I)  : Ct (gm D a E0) l yX6_back wsX6_back { frames := 16, cells := 0, slots := 0, locals := 400 } [.ref m] (wM m am a I en) (qI fun v w => v = I 0 k ∧ w = wM m am a (plS k (uI I 30 8 0)) en) noX := by
  refine Ct.of [some (.ref m), none, none] rfl hl (by decide) (Nat.le_of_ble_eq_true rfl) rfl (fun φ C0 => ?_)
  have C := C0.1
  refine x_iconst (v := (-1)) C 1 dX6_back_0 (by decide) rfl ?_
  refine x_istore_n C 2 dX6_back_1 (by decide) rfl rfl ?_
  refine x_iconst (v := (0)) C 3 dX6_back_2 (by decide) rfl ?_
  refine x_istore_n C 4 dX6_back_3 (by decide) rfl rfl ?_
  have lp4 : ∀ (n i : Nat) (v : Int32), i + n = nq → fbL (I 0) (I 30 1) nq 0 (-1) = fbL (I 0) (I 30 1) n i v → X φ 4 [some (.ref m), some (.int v), some (.int (nI i))] [] (wM m am a I en) 0 0 := by
    intro n
    induction n with
    | zero =>
      intro i v hi hr
      refine x_iload_n C 5 dX6_back_4 rfl rfl ?_
      refine x_aload_n C 6 dX6_back_5 rfl rfl ?_
      refine xm_get C 9 fg_X6_back_109 rfl dX6_back_6 rfl ?_
      refine x_top h0 ?_
      refine x_icmp_ge C 37 12 dX6_back_9 (by decide) rfl (fun zk9 => ?_) (fun zk9 => ?_)
      · have zk9 := (nI_leI (a := nq) (b := i) (by omega) (by omega)).mp zk9
        refine x_aload_n C 38 dX6_back_37 rfl rfl ?_
        refine x_iload_n C 39 dX6_back_38 rfl rfl ?_
        refine x_top (show _ = nI k from by rw [← hk, hr]; rfl) ?_
        refine x_callV0_i C 42 0 0 0 10 1 (cM_playing_0 hl (by omega) hT hC ht) rfl gX6_back_X6_playing ⟨rfl, by decide, by decide, rfl⟩ ⟨Nat.le_of_ble_eq_true rfl, Nat.le_of_ble_eq_true rfl⟩ rfl rfl rfl rfl (Nat.le_of_ble_eq_true rfl) ⟨Nat.le_of_ble_eq_true rfl, Nat.le_of_ble_eq_true rfl⟩ dX6_back_39 rfl rfl rfl (fun r1 w1 h1 => ?_)
        obtain ⟨rfl, rfl⟩ := h1
        exact x_zret C0 dX6_back_42 (Nat.le_of_ble_eq_true rfl) (Nat.le_of_ble_eq_true rfl) ⟨_, rfl, ⟨rfl, rfl⟩⟩
      · have zk9 := mt (nI_leI (a := nq) (b := i) (by omega) (by omega)).mpr zk9
        exfalso; omega
    | succ n ih =>
      intro i v hi hr
      refine x_iload_n C 5 dX6_back_4 rfl rfl ?_
      refine x_aload_n C 6 dX6_back_5 rfl rfl ?_
      refine xm_get C 9 fg_X6_back_109 rfl dX6_back_6 rfl ?_
      refine x_top h0 ?_
      refine x_icmp_ge C 37 12 dX6_back_9 (by decide) rfl (fun zk9 => ?_) (fun zk9 => ?_)
      · have zk9 := (nI_leI (a := nq) (b := i) (by omega) (by omega)).mp zk9
        exfalso; omega
      · have zk9 := mt (nI_leI (a := nq) (b := i) (by omega) (by omega)).mpr zk9
        refine x_aload_n C 13 dX6_back_12 rfl rfl ?_
        refine xm_get C 16 fg_X6_back_9 rfl dX6_back_13 rfl ?_
        refine x_iload_n C 17 dX6_back_16 rfl rfl ?_
        refine xm_iald C 18 0 16 (i) (by decide) rfl rfl rfl (by omega) dX6_back_17 rfl ?_
        refine x_aload_n C 19 dX6_back_18 rfl rfl ?_
        refine xm_get C 22 fg_X6_back_143 rfl dX6_back_19 rfl ?_
        refine x_icmp_ge C 29 25 dX6_back_22 (by decide) rfl (fun zk22 => ?_) (fun zk22 => ?_)
        · refine x_iload_n C 30 dX6_back_29 rfl rfl ?_
          refine x_istore_n C 31 dX6_back_30 (by decide) rfl rfl ?_
          refine x_iinc (v := nI (i + 1)) C 34 rfl dX6_back_31 (iinc1 _) (by decide) rfl rfl ?_
          refine x_goto C 4 dX6_back_34 (by decide) ?_
          exact ih (i + 1) _ (by omega) (by rw [hr, fbL]; first | rw [if_pos zk22] | rw [if_neg zk22])
        · refine x_iload_n C 26 dX6_back_25 rfl rfl ?_
          refine x_goto C 30 dX6_back_26 (by decide) ?_
          refine x_istore_n C 31 dX6_back_30 (by decide) rfl rfl ?_
          refine x_iinc (v := nI (i + 1)) C 34 rfl dX6_back_31 (iinc1 _) (by decide) rfl rfl ?_
          refine x_goto C 4 dX6_back_34 (by decide) ?_
          exact ih (i + 1) _ (by omega) (by rw [hr, fbL]; first | rw [if_pos zk22] | rw [if_neg zk22])
  exact lp4 nq 0 _ (by omega) rfl
set_option maxRecDepth 100000 in
set_option maxHeartbeats 4000000 in
theorem cM_goTo_1 (hl : l.stackTraces = false) {I : Nat → Nat → Int32} {nq : Nat} (h0 : I 30 0 = nI nq) (hq : nq ≤ 16) {x : Int32} (hk : ¬ fnd (I 0) x nq 0 < nq)  : Ct (gm D a E0) l yX6_goTo wsX6_goTo { frames := 16, cells := 0, slots := 0, locals := 400 } [.ref m, .int x] (wM m am a I en) (qI fun v w => v = -1 ∧ w = wM m am a (uI I 30 8 1) en) noX := by
  refine Ct.of [some (.ref m), some (.int x), none, none] rfl hl (by decide) (Nat.le_of_ble_eq_true rfl) rfl (fun φ C0 => ?_)
  have C := C0.1
  refine x_aload_n C 1 dX6_goTo_0 rfl rfl ?_
  refine x_aload_n C 2 dX6_goTo_1 rfl rfl ?_
  refine x_iload_n C 3 dX6_goTo_2 rfl rfl ?_
  refine x_callV0_i C 6 0 0 0 10 1 (cM_cueAt hl h0 hq _) rfl gX6_goTo_X6_cueAt ⟨rfl, by decide, by decide, rfl⟩ ⟨Nat.le_of_ble_eq_true rfl, Nat.le_of_ble_eq_true rfl⟩ rfl rfl rfl rfl (Nat.le_of_ble_eq_true rfl) ⟨Nat.le_of_ble_eq_true rfl, Nat.le_of_ble_eq_true rfl⟩ dX6_goTo_3 rfl rfl rfl (fun r1 w1 h1 => ?_)
  obtain ⟨rfl, rfl⟩ := h1
  refine x_top (show _ = (-1 : Int32) from by rw [atI, if_neg hk]) ?_
  refine x_callV0_i C 9 0 0 0 10 1 (cM_playing_1 hl) rfl gX6_goTo_X6_playing ⟨rfl, by decide, by decide, rfl⟩ ⟨Nat.le_of_ble_eq_true rfl, Nat.le_of_ble_eq_true rfl⟩ rfl rfl rfl rfl (Nat.le_of_ble_eq_true rfl) ⟨Nat.le_of_ble_eq_true rfl, Nat.le_of_ble_eq_true rfl⟩ dX6_goTo_6 rfl rfl rfl (fun r2 w2 h2 => ?_)
  obtain ⟨rfl, rfl⟩ := h2
  refine x_iconst (v := (-1)) C 10 dX6_goTo_9 (by decide) rfl ?_
  refine x_icmp_ne C 15 13 dX6_goTo_10 (by decide) rfl (fun zk10 => ?_) (fun zk10 => ?_)
  · exact absurd zk10 (by decide)
  · refine x_iconst (v := (-1)) C 14 dX6_goTo_13 (by decide) rfl ?_
    exact x_zret C0 dX6_goTo_14 (Nat.le_of_ble_eq_true rfl) (Nat.le_of_ble_eq_true rfl) ⟨_, rfl, ⟨rfl, rfl⟩⟩
theorem fg_X6_goTo_42 : gF RX6 wsX6_goTo 42 10 12 := ⟨RX6, TX6, 36, "StageConsoleModel", rfl, fun w h => (List.mem_cons_of_mem _ (List.mem_append_left _ (List.mem_append_left _ (List.mem_append_right _ h)))), by decide, (List.mem_cons_of_mem _ (List.mem_append_left _ (List.mem_append_left _ (List.mem_append_left _ (List.mem_append_left _ (List.mem_of_getElem? (i := 0) rfl)))))), Or.inl rfl⟩
set_option maxRecDepth 100000 in
set_option maxHeartbeats 4000000 in
theorem cM_goTo_0 (hl : l.stackTraces = false) {I : Nat → Nat → Int32} {nq : Nat} (h0 : I 30 0 = nI nq) (hq : nq ≤ 16) {x : Int32} {k : Nat} (hk : fnd (I 0) x nq 0 = k) (hk2 : k < nq) (hT : ∃ t, t ≤ 40 ∧ I 1 k = nI t) (hC : vp_nar .char (I 2 k) = I 2 k) (ht : HT I) (hn : ¬ I 0 k = -1) : Ct (gm D a E0) l yX6_goTo wsX6_goTo { frames := 16, cells := 0, slots := 0, locals := 400 } [.ref m, .int x] (wM m am a I en) (qI fun v w => v = nI (ctL ((plS k (uI I 30 8 0)) 10) 12 0 0) ∧ w = wM m am a (plS k (uI I 30 8 0)) en) noX := by
  refine Ct.of [some (.ref m), some (.int x), none, none] rfl hl (by decide) (Nat.le_of_ble_eq_true rfl) rfl (fun φ C0 => ?_)
  have C := C0.1
  refine x_aload_n C 1 dX6_goTo_0 rfl rfl ?_
  refine x_aload_n C 2 dX6_goTo_1 rfl rfl ?_
  refine x_iload_n C 3 dX6_goTo_2 rfl rfl ?_
  refine x_callV0_i C 6 0 0 0 10 1 (cM_cueAt hl h0 hq _) rfl gX6_goTo_X6_cueAt ⟨rfl, by decide, by decide, rfl⟩ ⟨Nat.le_of_ble_eq_true rfl, Nat.le_of_ble_eq_true rfl⟩ rfl rfl rfl rfl (Nat.le_of_ble_eq_true rfl) ⟨Nat.le_of_ble_eq_true rfl, Nat.le_of_ble_eq_true rfl⟩ dX6_goTo_3 rfl rfl rfl (fun r1 w1 h1 => ?_)
  obtain ⟨rfl, rfl⟩ := h1
  refine x_top (show _ = nI k from by rw [hk, atI, if_pos hk2]) ?_
  refine x_callV0_i C 9 0 0 0 10 1 (cM_playing_0 hl (by omega) hT hC ht) rfl gX6_goTo_X6_playing ⟨rfl, by decide, by decide, rfl⟩ ⟨Nat.le_of_ble_eq_true rfl, Nat.le_of_ble_eq_true rfl⟩ rfl rfl rfl rfl (Nat.le_of_ble_eq_true rfl) ⟨Nat.le_of_ble_eq_true rfl, Nat.le_of_ble_eq_true rfl⟩ dX6_goTo_6 rfl rfl rfl (fun r2 w2 h2 => ?_)
  obtain ⟨rfl, rfl⟩ := h2
  refine x_iconst (v := (-1)) C 10 dX6_goTo_9 (by decide) rfl ?_
  refine x_icmp_ne C 15 13 dX6_goTo_10 (by decide) rfl (fun zk10 => ?_) (fun zk10 => ?_)
  · refine x_iconst (v := (0)) C 16 dX6_goTo_15 (by decide) rfl ?_
    refine x_istore_n C 17 dX6_goTo_16 (by decide) rfl rfl ?_
    refine x_iconst (v := (0)) C 18 dX6_goTo_17 (by decide) rfl ?_
    refine x_istore_n C 19 dX6_goTo_18 (by decide) rfl rfl ?_
    have lp19 : ∀ (n i k2 : Nat), i + n = 12 → k2 ≤ i → ctL ((plS k (uI I 30 8 0)) 10) 12 0 0 = ctL ((plS k (uI I 30 8 0)) 10) n i k2 → X φ 19 [some (.ref m), some (.int x), some (.int (nI k2)), some (.int (nI i))] [] (wM m am a (plS k (uI I 30 8 0)) en) 0 0 := by
      intro n
      induction n with
      | zero =>
        intro i k2 hi hk3 hr
        refine x_iload_n C 20 dX6_goTo_19 rfl rfl ?_
        refine x_bipush (v := (12)) C 22 dX6_goTo_20 (by decide) rfl ?_
        refine x_icmp_ge C 48 25 dX6_goTo_22 (by decide) rfl (fun zk22 => ?_) (fun zk22 => ?_)
        · have zk22 := (nI_leI (a := 12) (b := i) (by omega) (by omega)).mp zk22
          refine x_iload_n C 49 dX6_goTo_48 rfl rfl ?_
          exact x_zret C0 dX6_goTo_49 (Nat.le_of_ble_eq_true rfl) (Nat.le_of_ble_eq_true rfl) ⟨_, rfl, ⟨by rw [hr]; rfl, rfl⟩⟩
        · have zk22 := mt (nI_leI (a := 12) (b := i) (by omega) (by omega)).mpr zk22
          exfalso; omega
      | succ n ih =>
        intro i k2 hi hk3 hr
        refine x_iload_n C 20 dX6_goTo_19 rfl rfl ?_
        refine x_bipush (v := (12)) C 22 dX6_goTo_20 (by decide) rfl ?_
        refine x_icmp_ge C 48 25 dX6_goTo_22 (by decide) rfl (fun zk22 => ?_) (fun zk22 => ?_)
        · have zk22 := (nI_leI (a := 12) (b := i) (by omega) (by omega)).mp zk22
          exfalso; omega
        · have zk22 := mt (nI_leI (a := 12) (b := i) (by omega) (by omega)).mpr zk22
          refine x_iload_n C 26 dX6_goTo_25 rfl rfl ?_
          refine x_aload_n C 27 dX6_goTo_26 rfl rfl ?_
          refine xm_get C 30 fg_X6_goTo_42 rfl dX6_goTo_27 rfl ?_
          refine x_iload_n C 31 dX6_goTo_30 rfl rfl ?_
          refine xm_zald C 32 10 12 (i) (by decide) rfl rfl rfl (by omega) dX6_goTo_31 rfl ?_
          refine x_if_eq C 39 35 dX6_goTo_32 (by decide) rfl (fun zk32 => ?_) (fun zk32 => ?_)
          · refine x_iconst (v := (0)) C 40 dX6_goTo_39 (by decide) rfl ?_
            refine x_iadd C 41 dX6_goTo_40 rfl ?_
            refine x_top (show _ = nI (k2 + 0) from nI_add _ _) ?_
            refine x_istore_n C 42 dX6_goTo_41 (by decide) rfl rfl ?_
            refine x_iinc (v := nI (i + 1)) C 45 rfl dX6_goTo_42 (iinc1 _) (by decide) rfl rfl ?_
            refine x_goto C 19 dX6_goTo_45 (by decide) ?_
            exact ih (i + 1) _ (by omega) (by omega) (by rw [hr, ctL]; first | rw [if_pos zk32]; rfl | rw [if_pos zk32] | rw [if_neg zk32])
          · refine x_iconst (v := (1)) C 36 dX6_goTo_35 (by decide) rfl ?_
            refine x_goto C 40 dX6_goTo_36 (by decide) ?_
            refine x_iadd C 41 dX6_goTo_40 rfl ?_
            refine x_top (show _ = nI (k2 + 1) from nI_add _ _) ?_
            refine x_istore_n C 42 dX6_goTo_41 (by decide) rfl rfl ?_
            refine x_iinc (v := nI (i + 1)) C 45 rfl dX6_goTo_42 (iinc1 _) (by decide) rfl rfl ?_
            refine x_goto C 19 dX6_goTo_45 (by decide) ?_
            exact ih (i + 1) _ (by omega) (by omega) (by rw [hr, ctL]; first | rw [if_pos zk32]; rfl | rw [if_pos zk32] | rw [if_neg zk32])
    exact lp19 12 0 0 rfl (by omega) rfl
  · exact absurd zk10 hn
theorem fp_X6_removeCue_98 : pF RX6 wsX6_removeCue 98 10 35 false (.int) := ⟨RX6, TX6, 36, "StageConsoleModel", tyX6, rfl, fun w h => (List.mem_cons_of_mem _ (List.mem_append_left _ (List.mem_append_right _ h))), by decide, (List.mem_cons_of_mem _ (List.mem_append_left _ (List.mem_append_left _ (List.mem_of_getElem? (i := 0) rfl)))), Or.inl rfl, tyX6_ok, nmX6, rfl, rfl, fun h => absurd h (by decide)⟩
theorem fg_X6_removeCue_98 : gF RX6 wsX6_removeCue 98 10 35 := ⟨RX6, TX6, 36, "StageConsoleModel", rfl, fun w h => (List.mem_cons_of_mem _ (List.mem_append_left _ (List.mem_append_right _ h))), by decide, (List.mem_cons_of_mem _ (List.mem_append_left _ (List.mem_append_left _ (List.mem_of_getElem? (i := 0) rfl)))), Or.inl rfl⟩
set_option maxRecDepth 100000 in
set_option maxHeartbeats 4000000 in
theorem cM_removeCue_1 (hl : l.stackTraces = false) {I : Nat → Nat → Int32} {nq : Nat} (h0 : I 30 0 = nI nq) (hq : nq ≤ 16) {x : Int32} (hk : ¬ fnd (I 0) x nq 0 < nq)  : Ct (gm D a E0) l yX6_removeCue wsX6_removeCue { frames := 12, cells := 0, slots := 0, locals := 300 } [.ref m, .int x] (wM m am a I en) (qI fun v w => v = -1 ∧ w = wM m am a (uI I 30 8 1) en) noX := by
  refine Ct.of [some (.ref m), some (.int x), none, none] rfl hl (by decide) (Nat.le_of_ble_eq_true rfl) rfl (fun φ C0 => ?_)
  have C := C0.1
  refine x_aload_n C 1 dX6_removeCue_0 rfl rfl ?_
  refine x_iload_n C 2 dX6_removeCue_1 rfl rfl ?_
  refine x_callV0_i C 5 0 0 0 10 1 (cM_cueAt hl h0 hq _) rfl gX6_removeCue_X6_cueAt ⟨rfl, by decide, by decide, rfl⟩ ⟨Nat.le_of_ble_eq_true rfl, Nat.le_of_ble_eq_true rfl⟩ rfl rfl rfl rfl (Nat.le_of_ble_eq_true rfl) ⟨Nat.le_of_ble_eq_true rfl, Nat.le_of_ble_eq_true rfl⟩ dX6_removeCue_2 rfl rfl rfl (fun r1 w1 h1 => ?_)
  obtain ⟨rfl, rfl⟩ := h1
  refine x_top (show _ = (-1 : Int32) from by rw [atI, if_neg hk]) ?_
  refine x_istore_n C 6 dX6_removeCue_5 (by decide) rfl rfl ?_
  refine x_aload_n C 7 dX6_removeCue_6 rfl rfl ?_
  refine x_iload_n C 8 dX6_removeCue_7 rfl rfl ?_
  refine x_iconst (v := (-1)) C 9 dX6_removeCue_8 (by decide) rfl ?_
  refine x_icmp_ne C 16 12 dX6_removeCue_9 (by decide) rfl (fun zk9 => ?_) (fun zk9 => ?_)
  · exact absurd zk9 (by decide)
  · refine x_iconst (v := (1)) C 13 dX6_removeCue_12 (by decide) rfl ?_
    refine x_goto C 17 dX6_removeCue_13 (by decide) ?_
    refine xm_put C 20 8 (by decide) fp_X6_removeCue_98 rfl rfl dX6_removeCue_17 rfl ?_
    refine x_aload_n C 21 dX6_removeCue_20 rfl rfl ?_
    refine xm_get C 24 fg_X6_removeCue_98 rfl dX6_removeCue_21 rfl ?_
    refine x_top (show _ = (1) from rfl) ?_
    refine x_if_le C 29 27 dX6_removeCue_24 (by decide) rfl (fun zk24 => ?_) (fun zk24 => ?_)
    · exact absurd zk24 (by decide)
    · refine x_iconst (v := (-1)) C 28 dX6_removeCue_27 (by decide) rfl ?_
      exact x_zret C0 dX6_removeCue_28 (Nat.le_of_ble_eq_true rfl) (Nat.le_of_ble_eq_true rfl) ⟨_, rfl, ⟨rfl, rfl⟩⟩
theorem fg_X6_removeCue_109 : gF RX6 wsX6_removeCue 109 10 5 := ⟨RX6, TX6, 36, "StageConsoleModel", rfl, fun w h => (List.mem_cons_of_mem _ (List.mem_append_left _ (List.mem_append_right _ h))), by decide, (List.mem_cons_of_mem _ (List.mem_append_left _ (List.mem_append_left _ (List.mem_of_getElem? (i := 1) rfl)))), Or.inl rfl⟩
theorem fp_X6_removeCue_109 : pF RX6 wsX6_removeCue 109 10 5 false (.int) := ⟨RX6, TX6, 36, "StageConsoleModel", tyX6, rfl, fun w h => (List.mem_cons_of_mem _ (List.mem_append_left _ (List.mem_append_right _ h))), by decide, (List.mem_cons_of_mem _ (List.mem_append_left _ (List.mem_append_left _ (List.mem_of_getElem? (i := 1) rfl)))), Or.inl rfl, tyX6_ok, nmX6, rfl, rfl, fun h => absurd h (by decide)⟩
set_option maxRecDepth 100000 in
set_option maxHeartbeats 4000000 in
theorem cM_removeCue_0 (hl : l.stackTraces = false) {I : Nat → Nat → Int32} {nq : Nat} (h0 : I 30 0 = nI nq) (hq : nq ≤ 16) {x : Int32} {k : Nat} (hk : fnd (I 0) x nq 0 = k) (hk2 : k < nq) (hC : HC I) : Ct (gm D a E0) l yX6_removeCue wsX6_removeCue { frames := 12, cells := 0, slots := 0, locals := 300 } [.ref m, .int x] (wM m am a I en) (qI fun v w => v = nI (nq - 1) ∧ w = wM m am a (rmL (nq - 1 - k) k (uI (uI I 30 8 0) 30 0 (nI (nq - 1)))) en) noX := by
  refine Ct.of [some (.ref m), some (.int x), none, none] rfl hl (by decide) (Nat.le_of_ble_eq_true rfl) rfl (fun φ C0 => ?_)
  have C := C0.1
  refine x_aload_n C 1 dX6_removeCue_0 rfl rfl ?_
  refine x_iload_n C 2 dX6_removeCue_1 rfl rfl ?_
  refine x_callV0_i C 5 0 0 0 10 1 (cM_cueAt hl h0 hq _) rfl gX6_removeCue_X6_cueAt ⟨rfl, by decide, by decide, rfl⟩ ⟨Nat.le_of_ble_eq_true rfl, Nat.le_of_ble_eq_true rfl⟩ rfl rfl rfl rfl (Nat.le_of_ble_eq_true rfl) ⟨Nat.le_of_ble_eq_true rfl, Nat.le_of_ble_eq_true rfl⟩ dX6_removeCue_2 rfl rfl rfl (fun r1 w1 h1 => ?_)
  obtain ⟨rfl, rfl⟩ := h1
  refine x_top (show _ = nI k from by rw [hk, atI, if_pos hk2]) ?_
  refine x_istore_n C 6 dX6_removeCue_5 (by decide) rfl rfl ?_
  refine x_aload_n C 7 dX6_removeCue_6 rfl rfl ?_
  refine x_iload_n C 8 dX6_removeCue_7 rfl rfl ?_
  refine x_iconst (v := (-1)) C 9 dX6_removeCue_8 (by decide) rfl ?_
  refine x_icmp_ne C 16 12 dX6_removeCue_9 (by decide) rfl (fun zk9 => ?_) (fun zk9 => ?_)
  · refine x_iconst (v := (0)) C 17 dX6_removeCue_16 (by decide) rfl ?_
    refine xm_put C 20 8 (by decide) fp_X6_removeCue_98 rfl rfl dX6_removeCue_17 rfl ?_
    refine x_aload_n C 21 dX6_removeCue_20 rfl rfl ?_
    refine xm_get C 24 fg_X6_removeCue_98 rfl dX6_removeCue_21 rfl ?_
    refine x_top (show _ = (0) from rfl) ?_
    refine x_if_le C 29 27 dX6_removeCue_24 (by decide) rfl (fun zk24 => ?_) (fun zk24 => ?_)
    · refine x_aload_n C 30 dX6_removeCue_29 rfl rfl ?_
      refine x_dup C 31 dX6_removeCue_30 rfl rfl ?_
      refine xm_get C 34 fg_X6_removeCue_109 rfl dX6_removeCue_31 rfl ?_
      refine x_top h0 ?_
      refine x_iconst (v := (1)) C 35 dX6_removeCue_34 (by decide) rfl ?_
      refine x_isub C 36 dX6_removeCue_35 rfl ?_
      refine x_top (show nI nq - 1 = nI (nq - 1) from pk_sub (a := nq) (b := 1) (by omega)) ?_
      refine xm_put C 39 0 (by decide) fp_X6_removeCue_109 rfl rfl dX6_removeCue_36 rfl ?_
      refine x_iload_n C 40 dX6_removeCue_39 rfl rfl ?_
      refine x_istore_n C 41 dX6_removeCue_40 (by decide) rfl rfl ?_
      have lp41 : ∀ (n i : Nat) (J : Nat → Nat → Int32), i + n = nq - 1 → HC J → J 30 0 = nI (nq - 1) → rmL (nq - 1 - k) k (uI (uI I 30 8 0) 30 0 (nI (nq - 1))) = rmL n i J → X φ 41 [some (.ref m), some (.int x), some (.int (nI k)), some (.int (nI i))] [] (wM m am a J en) 0 0 := by
        intro n
        induction n with
        | zero =>
          intro i J hi hCJ h0J hr
          refine x_iload_n C 42 dX6_removeCue_41 rfl rfl ?_
          refine x_aload_n C 43 dX6_removeCue_42 rfl rfl ?_
          refine xm_get C 46 fg_X6_removeCue_109 rfl dX6_removeCue_43 rfl ?_
          refine x_top h0J ?_
          refine x_icmp_ge C 63 49 dX6_removeCue_46 (by decide) rfl (fun zk46 => ?_) (fun zk46 => ?_)
          · have zk46 := (nI_leI (a := (nq - 1)) (b := i) (by omega) (by omega)).mp zk46
            refine x_aload_n C 64 dX6_removeCue_63 rfl rfl ?_
            refine xm_get C 67 fg_X6_removeCue_109 rfl dX6_removeCue_64 rfl ?_
            refine x_top h0J ?_
            exact x_zret C0 dX6_removeCue_67 (Nat.le_of_ble_eq_true rfl) (Nat.le_of_ble_eq_true rfl) ⟨_, rfl, ⟨rfl, by rw [hr]; rfl⟩⟩
          · have zk46 := mt (nI_leI (a := (nq - 1)) (b := i) (by omega) (by omega)).mpr zk46
            exfalso; omega
        | succ n ih =>
          intro i J hi hCJ h0J hr
          refine x_iload_n C 42 dX6_removeCue_41 rfl rfl ?_
          refine x_aload_n C 43 dX6_removeCue_42 rfl rfl ?_
          refine xm_get C 46 fg_X6_removeCue_109 rfl dX6_removeCue_43 rfl ?_
          refine x_top h0J ?_
          refine x_icmp_ge C 63 49 dX6_removeCue_46 (by decide) rfl (fun zk46 => ?_) (fun zk46 => ?_)
          · have zk46 := (nI_leI (a := (nq - 1)) (b := i) (by omega) (by omega)).mp zk46
            exfalso; omega
          · have zk46 := mt (nI_leI (a := (nq - 1)) (b := i) (by omega) (by omega)).mpr zk46
            refine x_aload_n C 50 dX6_removeCue_49 rfl rfl ?_
            refine x_iload_n C 51 dX6_removeCue_50 rfl rfl ?_
            refine x_iconst (v := (1)) C 52 dX6_removeCue_51 (by decide) rfl ?_
            refine x_iadd C 53 dX6_removeCue_52 rfl ?_
            refine x_top (show _ = nI (i + 1) from nI_add _ _) ?_
            refine x_iload_n C 54 dX6_removeCue_53 rfl rfl ?_
            refine x_callV0_v C 57 0 0 0 10 2 (cM_copies hl (i + 1) i (by omega) (by omega) (hCJ (i + 1) (by omega)).1 (hCJ (i + 1) (by omega)).2) rfl gX6_removeCue_X6_copies ⟨rfl, by decide, by decide, rfl⟩ ⟨Nat.le_of_ble_eq_true rfl, Nat.le_of_ble_eq_true rfl⟩ rfl rfl rfl rfl (Nat.le_of_ble_eq_true rfl) ⟨Nat.le_of_ble_eq_true rfl, Nat.le_of_ble_eq_true rfl⟩ dX6_removeCue_54 rfl rfl rfl (fun w2 h2 => ?_)
            subst h2
            refine x_iinc (v := nI (i + 1)) C 60 rfl dX6_removeCue_57 (iinc1 _) (by decide) rfl rfl ?_
            refine x_goto C 41 dX6_removeCue_60 (by decide) ?_
            exact ih (i + 1) _ (by omega) (cpM_hc (by omega) hCJ) (by rw [cpM_row J (i + 1) i (by decide) (by decide) (by decide) (by decide) (by decide)]; exact h0J) hr
      exact lp41 (nq - 1 - k) k _ (by omega) hC rfl rfl
    · exact absurd zk24 (by decide)
  · exact absurd zk9 (nI_nm1 (by omega))
theorem fp_X6_addCue_98 : pF RX6 wsX6_addCue 98 10 35 false (.int) := ⟨RX6, TX6, 36, "StageConsoleModel", tyX6, rfl, fun w h => (List.mem_cons_of_mem _ (List.mem_append_left _ (List.mem_append_right _ h))), by decide, (List.mem_cons_of_mem _ (List.mem_append_left _ (List.mem_append_left _ (List.mem_of_getElem? (i := 3) rfl)))), Or.inl rfl, tyX6_ok, nmX6, rfl, rfl, fun h => absurd h (by decide)⟩
theorem fg_X6_addCue_98 : gF RX6 wsX6_addCue 98 10 35 := ⟨RX6, TX6, 36, "StageConsoleModel", rfl, fun w h => (List.mem_cons_of_mem _ (List.mem_append_left _ (List.mem_append_right _ h))), by decide, (List.mem_cons_of_mem _ (List.mem_append_left _ (List.mem_append_left _ (List.mem_of_getElem? (i := 3) rfl)))), Or.inl rfl⟩
set_option maxRecDepth 100000 in
set_option maxHeartbeats 4000000 in
theorem cM_addCue_1 (hl : l.stackTraces = false) {I : Nat → Nat → Int32} {x t cv : Int32} (hE : cueB x t cv = false) : Ct (gm D a E0) l yX6_addCue wsX6_addCue { frames := 12, cells := 0, slots := 0, locals := 300 } [.ref m, .int x, .int t, .int cv] (wM m am a I en) (qI fun v w => v = -1 ∧ w = wM m am a (uI I 30 8 1) en) noX := by
  refine Ct.of [some (.ref m), some (.int x), some (.int t), some (.int cv), none, none, none] rfl hl (by decide) (Nat.le_of_ble_eq_true rfl) rfl (fun φ C0 => ?_)
  have C := C0.1
  refine x_iload_n C 1 dX6_addCue_0 rfl rfl ?_
  refine x_i2l C 2 dX6_addCue_1 rfl rfl ?_
  refine x_lconst (v := 1) C 3 dX6_addCue_2 (by decide) rfl ?_
  refine x_ldc2 (v := 99) C 6 (List.mem_cons_of_mem _ (List.mem_append_left _ (List.mem_append_left _ (List.mem_of_getElem? (i := 0) rfl)))) dX6_addCue_3 rfl ?_
  refine x_callS0_i C 9 0 0 3 (cM_in hl _ _ _ _) rfl gX6_addCue_X6_in ⟨by decide, by decide, rfl⟩ ⟨Nat.le_of_ble_eq_true rfl, Nat.le_of_ble_eq_true rfl⟩ rfl rfl (Nat.le_of_ble_eq_true rfl) ⟨Nat.le_of_ble_eq_true rfl, Nat.le_of_ble_eq_true rfl⟩ dX6_addCue_6 rfl rfl rfl (fun r1 w1 h1 => ?_)
  obtain ⟨rfl, rfl⟩ := h1
  refine x_if_eq C 46 12 dX6_addCue_9 (by decide) rfl (fun zk9 => ?_) (fun zk9 => ?_)
  · have zk9 := bI_eq0.mp zk9
    refine x_iconst (v := (0)) C 47 dX6_addCue_46 (by decide) rfl ?_
    refine x_istore C 49 dX6_addCue_47 (by decide) rfl rfl ?_
    refine x_aload_n C 50 dX6_addCue_49 rfl rfl ?_
    refine x_iload C 52 dX6_addCue_50 rfl rfl ?_
    refine x_if_ne C 59 55 dX6_addCue_52 (by decide) rfl (fun zk52 => ?_) (fun zk52 => ?_)
    · exact absurd zk52 (by decide)
    · refine x_iconst (v := (1)) C 56 dX6_addCue_55 (by decide) rfl ?_
      refine x_goto C 86 dX6_addCue_56 (by decide) ?_
      refine xm_put C 89 8 (by decide) fp_X6_addCue_98 rfl rfl dX6_addCue_86 rfl ?_
      refine x_aload_n C 90 dX6_addCue_89 rfl rfl ?_
      refine xm_get C 93 fg_X6_addCue_98 rfl dX6_addCue_90 rfl ?_
      refine x_top (show _ = (1) from rfl) ?_
      refine x_if_le C 98 96 dX6_addCue_93 (by decide) rfl (fun zk93 => ?_) (fun zk93 => ?_)
      · exact absurd zk93 (by decide)
      · refine x_iconst (v := (-1)) C 97 dX6_addCue_96 (by decide) rfl ?_
        exact x_zret C0 dX6_addCue_97 (Nat.le_of_ble_eq_true rfl) (Nat.le_of_ble_eq_true rfl) ⟨_, rfl, ⟨rfl, rfl⟩⟩
  · have zk9 := bI_ne0.mp zk9
    refine x_iload_n C 13 dX6_addCue_12 rfl rfl ?_
    refine x_i2l C 14 dX6_addCue_13 rfl rfl ?_
    refine x_lconst (v := 0) C 15 dX6_addCue_14 (by decide) rfl ?_
    refine x_ldc2 (v := 40) C 18 (List.mem_cons_of_mem _ (List.mem_append_left _ (List.mem_append_left _ (List.mem_of_getElem? (i := 1) rfl)))) dX6_addCue_15 rfl ?_
    refine x_callS0_i C 21 0 0 3 (cM_in hl _ _ _ _) rfl gX6_addCue_X6_in ⟨by decide, by decide, rfl⟩ ⟨Nat.le_of_ble_eq_true rfl, Nat.le_of_ble_eq_true rfl⟩ rfl rfl (Nat.le_of_ble_eq_true rfl) ⟨Nat.le_of_ble_eq_true rfl, Nat.le_of_ble_eq_true rfl⟩ dX6_addCue_18 rfl rfl rfl (fun r2 w2 h2 => ?_)
    obtain ⟨rfl, rfl⟩ := h2
    refine x_if_eq C 46 24 dX6_addCue_21 (by decide) rfl (fun zk21 => ?_) (fun zk21 => ?_)
    · have zk21 := bI_eq0.mp zk21
      refine x_iconst (v := (0)) C 47 dX6_addCue_46 (by decide) rfl ?_
      refine x_istore C 49 dX6_addCue_47 (by decide) rfl rfl ?_
      refine x_aload_n C 50 dX6_addCue_49 rfl rfl ?_
      refine x_iload C 52 dX6_addCue_50 rfl rfl ?_
      refine x_if_ne C 59 55 dX6_addCue_52 (by decide) rfl (fun zk52 => ?_) (fun zk52 => ?_)
      · exact absurd zk52 (by decide)
      · refine x_iconst (v := (1)) C 56 dX6_addCue_55 (by decide) rfl ?_
        refine x_goto C 86 dX6_addCue_56 (by decide) ?_
        refine xm_put C 89 8 (by decide) fp_X6_addCue_98 rfl rfl dX6_addCue_86 rfl ?_
        refine x_aload_n C 90 dX6_addCue_89 rfl rfl ?_
        refine xm_get C 93 fg_X6_addCue_98 rfl dX6_addCue_90 rfl ?_
        refine x_top (show _ = (1) from rfl) ?_
        refine x_if_le C 98 96 dX6_addCue_93 (by decide) rfl (fun zk93 => ?_) (fun zk93 => ?_)
        · exact absurd zk93 (by decide)
        · refine x_iconst (v := (-1)) C 97 dX6_addCue_96 (by decide) rfl ?_
          exact x_zret C0 dX6_addCue_97 (Nat.le_of_ble_eq_true rfl) (Nat.le_of_ble_eq_true rfl) ⟨_, rfl, ⟨rfl, rfl⟩⟩
    · have zk21 := bI_ne0.mp zk21
      refine x_iload_n C 25 dX6_addCue_24 rfl rfl ?_
      refine x_bipush (v := (108)) C 27 dX6_addCue_25 (by decide) rfl ?_
      refine x_icmp_eq C 42 30 dX6_addCue_27 (by decide) rfl (fun zk27 => ?_) (fun zk27 => ?_)
      · refine x_iconst (v := (1)) C 43 dX6_addCue_42 (by decide) rfl ?_
        refine x_goto C 47 dX6_addCue_43 (by decide) ?_
        refine x_istore C 49 dX6_addCue_47 (by decide) rfl rfl ?_
        refine x_aload_n C 50 dX6_addCue_49 rfl rfl ?_
        refine x_iload C 52 dX6_addCue_50 rfl rfl ?_
        refine x_if_ne C 59 55 dX6_addCue_52 (by decide) rfl (fun zk52 => ?_) (fun zk52 => ?_)
        · exfalso; simp_all [cueB, cvB]
        · exact absurd zk52 (by decide)
      · refine x_iload_n C 31 dX6_addCue_30 rfl rfl ?_
        refine x_bipush (v := (113)) C 33 dX6_addCue_31 (by decide) rfl ?_
        refine x_icmp_eq C 42 36 dX6_addCue_33 (by decide) rfl (fun zk33 => ?_) (fun zk33 => ?_)
        · refine x_iconst (v := (1)) C 43 dX6_addCue_42 (by decide) rfl ?_
          refine x_goto C 47 dX6_addCue_43 (by decide) ?_
          refine x_istore C 49 dX6_addCue_47 (by decide) rfl rfl ?_
          refine x_aload_n C 50 dX6_addCue_49 rfl rfl ?_
          refine x_iload C 52 dX6_addCue_50 rfl rfl ?_
          refine x_if_ne C 59 55 dX6_addCue_52 (by decide) rfl (fun zk52 => ?_) (fun zk52 => ?_)
          · exfalso; simp_all [cueB, cvB]
          · exact absurd zk52 (by decide)
        · refine x_iload_n C 37 dX6_addCue_36 rfl rfl ?_
          refine x_bipush (v := (115)) C 39 dX6_addCue_37 (by decide) rfl ?_
          refine x_icmp_ne C 46 42 dX6_addCue_39 (by decide) rfl (fun zk39 => ?_) (fun zk39 => ?_)
          · refine x_iconst (v := (0)) C 47 dX6_addCue_46 (by decide) rfl ?_
            refine x_istore C 49 dX6_addCue_47 (by decide) rfl rfl ?_
            refine x_aload_n C 50 dX6_addCue_49 rfl rfl ?_
            refine x_iload C 52 dX6_addCue_50 rfl rfl ?_
            refine x_if_ne C 59 55 dX6_addCue_52 (by decide) rfl (fun zk52 => ?_) (fun zk52 => ?_)
            · exact absurd zk52 (by decide)
            · refine x_iconst (v := (1)) C 56 dX6_addCue_55 (by decide) rfl ?_
              refine x_goto C 86 dX6_addCue_56 (by decide) ?_
              refine xm_put C 89 8 (by decide) fp_X6_addCue_98 rfl rfl dX6_addCue_86 rfl ?_
              refine x_aload_n C 90 dX6_addCue_89 rfl rfl ?_
              refine xm_get C 93 fg_X6_addCue_98 rfl dX6_addCue_90 rfl ?_
              refine x_top (show _ = (1) from rfl) ?_
              refine x_if_le C 98 96 dX6_addCue_93 (by decide) rfl (fun zk93 => ?_) (fun zk93 => ?_)
              · exact absurd zk93 (by decide)
              · refine x_iconst (v := (-1)) C 97 dX6_addCue_96 (by decide) rfl ?_
                exact x_zret C0 dX6_addCue_97 (Nat.le_of_ble_eq_true rfl) (Nat.le_of_ble_eq_true rfl) ⟨_, rfl, ⟨rfl, rfl⟩⟩
          · refine x_iconst (v := (1)) C 43 dX6_addCue_42 (by decide) rfl ?_
            refine x_goto C 47 dX6_addCue_43 (by decide) ?_
            refine x_istore C 49 dX6_addCue_47 (by decide) rfl rfl ?_
            refine x_aload_n C 50 dX6_addCue_49 rfl rfl ?_
            refine x_iload C 52 dX6_addCue_50 rfl rfl ?_
            refine x_if_ne C 59 55 dX6_addCue_52 (by decide) rfl (fun zk52 => ?_) (fun zk52 => ?_)
            · exfalso; simp_all [cueB, cvB]
            · exact absurd zk52 (by decide)
set_option maxRecDepth 100000 in
set_option maxHeartbeats 4000000 in
theorem cM_addCue_2 (hl : l.stackTraces = false) {I : Nat → Nat → Int32} {nq : Nat} (h0 : I 30 0 = nI nq) (hq : nq ≤ 16) {x t cv : Int32} (hE : cueB x t cv = true) {k : Nat} (hk : fnd (I 0) x nq 0 = k) (hk2 : k < nq) : Ct (gm D a E0) l yX6_addCue wsX6_addCue { frames := 12, cells := 0, slots := 0, locals := 300 } [.ref m, .int x, .int t, .int cv] (wM m am a I en) (qI fun v w => v = -1 ∧ w = wM m am a (uI I 30 8 2) en) noX := by
  refine Ct.of [some (.ref m), some (.int x), some (.int t), some (.int cv), none, none, none] rfl hl (by decide) (Nat.le_of_ble_eq_true rfl) rfl (fun φ C0 => ?_)
  have C := C0.1
  refine x_iload_n C 1 dX6_addCue_0 rfl rfl ?_
  refine x_i2l C 2 dX6_addCue_1 rfl rfl ?_
  refine x_lconst (v := 1) C 3 dX6_addCue_2 (by decide) rfl ?_
  refine x_ldc2 (v := 99) C 6 (List.mem_cons_of_mem _ (List.mem_append_left _ (List.mem_append_left _ (List.mem_of_getElem? (i := 0) rfl)))) dX6_addCue_3 rfl ?_
  refine x_callS0_i C 9 0 0 3 (cM_in hl _ _ _ _) rfl gX6_addCue_X6_in ⟨by decide, by decide, rfl⟩ ⟨Nat.le_of_ble_eq_true rfl, Nat.le_of_ble_eq_true rfl⟩ rfl rfl (Nat.le_of_ble_eq_true rfl) ⟨Nat.le_of_ble_eq_true rfl, Nat.le_of_ble_eq_true rfl⟩ dX6_addCue_6 rfl rfl rfl (fun r1 w1 h1 => ?_)
  obtain ⟨rfl, rfl⟩ := h1
  refine x_if_eq C 46 12 dX6_addCue_9 (by decide) rfl (fun zk9 => ?_) (fun zk9 => ?_)
  · have zk9 := bI_eq0.mp zk9
    refine x_iconst (v := (0)) C 47 dX6_addCue_46 (by decide) rfl ?_
    refine x_istore C 49 dX6_addCue_47 (by decide) rfl rfl ?_
    refine x_aload_n C 50 dX6_addCue_49 rfl rfl ?_
    refine x_iload C 52 dX6_addCue_50 rfl rfl ?_
    refine x_if_ne C 59 55 dX6_addCue_52 (by decide) rfl (fun zk52 => ?_) (fun zk52 => ?_)
    · exact absurd zk52 (by decide)
    · exfalso; simp_all [cueB, cvB]
  · have zk9 := bI_ne0.mp zk9
    refine x_iload_n C 13 dX6_addCue_12 rfl rfl ?_
    refine x_i2l C 14 dX6_addCue_13 rfl rfl ?_
    refine x_lconst (v := 0) C 15 dX6_addCue_14 (by decide) rfl ?_
    refine x_ldc2 (v := 40) C 18 (List.mem_cons_of_mem _ (List.mem_append_left _ (List.mem_append_left _ (List.mem_of_getElem? (i := 1) rfl)))) dX6_addCue_15 rfl ?_
    refine x_callS0_i C 21 0 0 3 (cM_in hl _ _ _ _) rfl gX6_addCue_X6_in ⟨by decide, by decide, rfl⟩ ⟨Nat.le_of_ble_eq_true rfl, Nat.le_of_ble_eq_true rfl⟩ rfl rfl (Nat.le_of_ble_eq_true rfl) ⟨Nat.le_of_ble_eq_true rfl, Nat.le_of_ble_eq_true rfl⟩ dX6_addCue_18 rfl rfl rfl (fun r2 w2 h2 => ?_)
    obtain ⟨rfl, rfl⟩ := h2
    refine x_if_eq C 46 24 dX6_addCue_21 (by decide) rfl (fun zk21 => ?_) (fun zk21 => ?_)
    · have zk21 := bI_eq0.mp zk21
      refine x_iconst (v := (0)) C 47 dX6_addCue_46 (by decide) rfl ?_
      refine x_istore C 49 dX6_addCue_47 (by decide) rfl rfl ?_
      refine x_aload_n C 50 dX6_addCue_49 rfl rfl ?_
      refine x_iload C 52 dX6_addCue_50 rfl rfl ?_
      refine x_if_ne C 59 55 dX6_addCue_52 (by decide) rfl (fun zk52 => ?_) (fun zk52 => ?_)
      · exact absurd zk52 (by decide)
      · exfalso; simp_all [cueB, cvB]
    · have zk21 := bI_ne0.mp zk21
      refine x_iload_n C 25 dX6_addCue_24 rfl rfl ?_
      refine x_bipush (v := (108)) C 27 dX6_addCue_25 (by decide) rfl ?_
      refine x_icmp_eq C 42 30 dX6_addCue_27 (by decide) rfl (fun zk27 => ?_) (fun zk27 => ?_)
      · refine x_iconst (v := (1)) C 43 dX6_addCue_42 (by decide) rfl ?_
        refine x_goto C 47 dX6_addCue_43 (by decide) ?_
        refine x_istore C 49 dX6_addCue_47 (by decide) rfl rfl ?_
        refine x_aload_n C 50 dX6_addCue_49 rfl rfl ?_
        refine x_iload C 52 dX6_addCue_50 rfl rfl ?_
        refine x_if_ne C 59 55 dX6_addCue_52 (by decide) rfl (fun zk52 => ?_) (fun zk52 => ?_)
        · refine x_aload_n C 60 dX6_addCue_59 rfl rfl ?_
          refine x_iload_n C 61 dX6_addCue_60 rfl rfl ?_
          refine x_callV0_i C 64 0 0 0 10 1 (cM_cueAt hl h0 hq _) rfl gX6_addCue_X6_cueAt ⟨rfl, by decide, by decide, rfl⟩ ⟨Nat.le_of_ble_eq_true rfl, Nat.le_of_ble_eq_true rfl⟩ rfl rfl rfl rfl (Nat.le_of_ble_eq_true rfl) ⟨Nat.le_of_ble_eq_true rfl, Nat.le_of_ble_eq_true rfl⟩ dX6_addCue_61 rfl rfl rfl (fun r3 w3 h3 => ?_)
          obtain ⟨rfl, rfl⟩ := h3
          refine x_top (show _ = nI k from by rw [hk, atI, if_pos hk2]) ?_
          refine x_iconst (v := (-1)) C 65 dX6_addCue_64 (by decide) rfl ?_
          refine x_icmp_eq C 72 68 dX6_addCue_65 (by decide) rfl (fun zk65 => ?_) (fun zk65 => ?_)
          · exact absurd zk65 (nI_nm1 (by omega))
          · refine x_iconst (v := (2)) C 69 dX6_addCue_68 (by decide) rfl ?_
            refine x_goto C 86 dX6_addCue_69 (by decide) ?_
            refine xm_put C 89 8 (by decide) fp_X6_addCue_98 rfl rfl dX6_addCue_86 rfl ?_
            refine x_aload_n C 90 dX6_addCue_89 rfl rfl ?_
            refine xm_get C 93 fg_X6_addCue_98 rfl dX6_addCue_90 rfl ?_
            refine x_top (show _ = (2) from rfl) ?_
            refine x_if_le C 98 96 dX6_addCue_93 (by decide) rfl (fun zk93 => ?_) (fun zk93 => ?_)
            · exact absurd zk93 (by decide)
            · refine x_iconst (v := (-1)) C 97 dX6_addCue_96 (by decide) rfl ?_
              exact x_zret C0 dX6_addCue_97 (Nat.le_of_ble_eq_true rfl) (Nat.le_of_ble_eq_true rfl) ⟨_, rfl, ⟨rfl, rfl⟩⟩
        · exact absurd zk52 (by decide)
      · refine x_iload_n C 31 dX6_addCue_30 rfl rfl ?_
        refine x_bipush (v := (113)) C 33 dX6_addCue_31 (by decide) rfl ?_
        refine x_icmp_eq C 42 36 dX6_addCue_33 (by decide) rfl (fun zk33 => ?_) (fun zk33 => ?_)
        · refine x_iconst (v := (1)) C 43 dX6_addCue_42 (by decide) rfl ?_
          refine x_goto C 47 dX6_addCue_43 (by decide) ?_
          refine x_istore C 49 dX6_addCue_47 (by decide) rfl rfl ?_
          refine x_aload_n C 50 dX6_addCue_49 rfl rfl ?_
          refine x_iload C 52 dX6_addCue_50 rfl rfl ?_
          refine x_if_ne C 59 55 dX6_addCue_52 (by decide) rfl (fun zk52 => ?_) (fun zk52 => ?_)
          · refine x_aload_n C 60 dX6_addCue_59 rfl rfl ?_
            refine x_iload_n C 61 dX6_addCue_60 rfl rfl ?_
            refine x_callV0_i C 64 0 0 0 10 1 (cM_cueAt hl h0 hq _) rfl gX6_addCue_X6_cueAt ⟨rfl, by decide, by decide, rfl⟩ ⟨Nat.le_of_ble_eq_true rfl, Nat.le_of_ble_eq_true rfl⟩ rfl rfl rfl rfl (Nat.le_of_ble_eq_true rfl) ⟨Nat.le_of_ble_eq_true rfl, Nat.le_of_ble_eq_true rfl⟩ dX6_addCue_61 rfl rfl rfl (fun r4 w4 h4 => ?_)
            obtain ⟨rfl, rfl⟩ := h4
            refine x_top (show _ = nI k from by rw [hk, atI, if_pos hk2]) ?_
            refine x_iconst (v := (-1)) C 65 dX6_addCue_64 (by decide) rfl ?_
            refine x_icmp_eq C 72 68 dX6_addCue_65 (by decide) rfl (fun zk65 => ?_) (fun zk65 => ?_)
            · exact absurd zk65 (nI_nm1 (by omega))
            · refine x_iconst (v := (2)) C 69 dX6_addCue_68 (by decide) rfl ?_
              refine x_goto C 86 dX6_addCue_69 (by decide) ?_
              refine xm_put C 89 8 (by decide) fp_X6_addCue_98 rfl rfl dX6_addCue_86 rfl ?_
              refine x_aload_n C 90 dX6_addCue_89 rfl rfl ?_
              refine xm_get C 93 fg_X6_addCue_98 rfl dX6_addCue_90 rfl ?_
              refine x_top (show _ = (2) from rfl) ?_
              refine x_if_le C 98 96 dX6_addCue_93 (by decide) rfl (fun zk93 => ?_) (fun zk93 => ?_)
              · exact absurd zk93 (by decide)
              · refine x_iconst (v := (-1)) C 97 dX6_addCue_96 (by decide) rfl ?_
                exact x_zret C0 dX6_addCue_97 (Nat.le_of_ble_eq_true rfl) (Nat.le_of_ble_eq_true rfl) ⟨_, rfl, ⟨rfl, rfl⟩⟩
          · exact absurd zk52 (by decide)
        · refine x_iload_n C 37 dX6_addCue_36 rfl rfl ?_
          refine x_bipush (v := (115)) C 39 dX6_addCue_37 (by decide) rfl ?_
          refine x_icmp_ne C 46 42 dX6_addCue_39 (by decide) rfl (fun zk39 => ?_) (fun zk39 => ?_)
          · refine x_iconst (v := (0)) C 47 dX6_addCue_46 (by decide) rfl ?_
            refine x_istore C 49 dX6_addCue_47 (by decide) rfl rfl ?_
            refine x_aload_n C 50 dX6_addCue_49 rfl rfl ?_
            refine x_iload C 52 dX6_addCue_50 rfl rfl ?_
            refine x_if_ne C 59 55 dX6_addCue_52 (by decide) rfl (fun zk52 => ?_) (fun zk52 => ?_)
            · exact absurd zk52 (by decide)
            · exfalso; simp_all [cueB, cvB]
          · refine x_iconst (v := (1)) C 43 dX6_addCue_42 (by decide) rfl ?_
            refine x_goto C 47 dX6_addCue_43 (by decide) ?_
            refine x_istore C 49 dX6_addCue_47 (by decide) rfl rfl ?_
            refine x_aload_n C 50 dX6_addCue_49 rfl rfl ?_
            refine x_iload C 52 dX6_addCue_50 rfl rfl ?_
            refine x_if_ne C 59 55 dX6_addCue_52 (by decide) rfl (fun zk52 => ?_) (fun zk52 => ?_)
            · refine x_aload_n C 60 dX6_addCue_59 rfl rfl ?_
              refine x_iload_n C 61 dX6_addCue_60 rfl rfl ?_
              refine x_callV0_i C 64 0 0 0 10 1 (cM_cueAt hl h0 hq _) rfl gX6_addCue_X6_cueAt ⟨rfl, by decide, by decide, rfl⟩ ⟨Nat.le_of_ble_eq_true rfl, Nat.le_of_ble_eq_true rfl⟩ rfl rfl rfl rfl (Nat.le_of_ble_eq_true rfl) ⟨Nat.le_of_ble_eq_true rfl, Nat.le_of_ble_eq_true rfl⟩ dX6_addCue_61 rfl rfl rfl (fun r5 w5 h5 => ?_)
              obtain ⟨rfl, rfl⟩ := h5
              refine x_top (show _ = nI k from by rw [hk, atI, if_pos hk2]) ?_
              refine x_iconst (v := (-1)) C 65 dX6_addCue_64 (by decide) rfl ?_
              refine x_icmp_eq C 72 68 dX6_addCue_65 (by decide) rfl (fun zk65 => ?_) (fun zk65 => ?_)
              · exact absurd zk65 (nI_nm1 (by omega))
              · refine x_iconst (v := (2)) C 69 dX6_addCue_68 (by decide) rfl ?_
                refine x_goto C 86 dX6_addCue_69 (by decide) ?_
                refine xm_put C 89 8 (by decide) fp_X6_addCue_98 rfl rfl dX6_addCue_86 rfl ?_
                refine x_aload_n C 90 dX6_addCue_89 rfl rfl ?_
                refine xm_get C 93 fg_X6_addCue_98 rfl dX6_addCue_90 rfl ?_
                refine x_top (show _ = (2) from rfl) ?_
                refine x_if_le C 98 96 dX6_addCue_93 (by decide) rfl (fun zk93 => ?_) (fun zk93 => ?_)
                · exact absurd zk93 (by decide)
                · refine x_iconst (v := (-1)) C 97 dX6_addCue_96 (by decide) rfl ?_
                  exact x_zret C0 dX6_addCue_97 (Nat.le_of_ble_eq_true rfl) (Nat.le_of_ble_eq_true rfl) ⟨_, rfl, ⟨rfl, rfl⟩⟩
            · exact absurd zk52 (by decide)
theorem fg_X6_addCue_109 : gF RX6 wsX6_addCue 109 10 5 := ⟨RX6, TX6, 36, "StageConsoleModel", rfl, fun w h => (List.mem_cons_of_mem _ (List.mem_append_left _ (List.mem_append_right _ h))), by decide, (List.mem_cons_of_mem _ (List.mem_append_left _ (List.mem_append_left _ (List.mem_of_getElem? (i := 2) rfl)))), Or.inl rfl⟩
set_option maxRecDepth 100000 in
set_option maxHeartbeats 4000000 in
theorem cM_addCue_3 (hl : l.stackTraces = false) {I : Nat → Nat → Int32} {nq : Nat} (h0 : I 30 0 = nI nq) (hq : nq ≤ 16) {x t cv : Int32} (hE : cueB x t cv = true) (hk : ¬ fnd (I 0) x nq 0 < nq) (hf : nq = 16) : Ct (gm D a E0) l yX6_addCue wsX6_addCue { frames := 12, cells := 0, slots := 0, locals := 300 } [.ref m, .int x, .int t, .int cv] (wM m am a I en) (qI fun v w => v = -1 ∧ w = wM m am a (uI I 30 8 3) en) noX := by
  refine Ct.of [some (.ref m), some (.int x), some (.int t), some (.int cv), none, none, none] rfl hl (by decide) (Nat.le_of_ble_eq_true rfl) rfl (fun φ C0 => ?_)
  have C := C0.1
  refine x_iload_n C 1 dX6_addCue_0 rfl rfl ?_
  refine x_i2l C 2 dX6_addCue_1 rfl rfl ?_
  refine x_lconst (v := 1) C 3 dX6_addCue_2 (by decide) rfl ?_
  refine x_ldc2 (v := 99) C 6 (List.mem_cons_of_mem _ (List.mem_append_left _ (List.mem_append_left _ (List.mem_of_getElem? (i := 0) rfl)))) dX6_addCue_3 rfl ?_
  refine x_callS0_i C 9 0 0 3 (cM_in hl _ _ _ _) rfl gX6_addCue_X6_in ⟨by decide, by decide, rfl⟩ ⟨Nat.le_of_ble_eq_true rfl, Nat.le_of_ble_eq_true rfl⟩ rfl rfl (Nat.le_of_ble_eq_true rfl) ⟨Nat.le_of_ble_eq_true rfl, Nat.le_of_ble_eq_true rfl⟩ dX6_addCue_6 rfl rfl rfl (fun r1 w1 h1 => ?_)
  obtain ⟨rfl, rfl⟩ := h1
  refine x_if_eq C 46 12 dX6_addCue_9 (by decide) rfl (fun zk9 => ?_) (fun zk9 => ?_)
  · have zk9 := bI_eq0.mp zk9
    refine x_iconst (v := (0)) C 47 dX6_addCue_46 (by decide) rfl ?_
    refine x_istore C 49 dX6_addCue_47 (by decide) rfl rfl ?_
    refine x_aload_n C 50 dX6_addCue_49 rfl rfl ?_
    refine x_iload C 52 dX6_addCue_50 rfl rfl ?_
    refine x_if_ne C 59 55 dX6_addCue_52 (by decide) rfl (fun zk52 => ?_) (fun zk52 => ?_)
    · exact absurd zk52 (by decide)
    · exfalso; simp_all [cueB, cvB]
  · have zk9 := bI_ne0.mp zk9
    refine x_iload_n C 13 dX6_addCue_12 rfl rfl ?_
    refine x_i2l C 14 dX6_addCue_13 rfl rfl ?_
    refine x_lconst (v := 0) C 15 dX6_addCue_14 (by decide) rfl ?_
    refine x_ldc2 (v := 40) C 18 (List.mem_cons_of_mem _ (List.mem_append_left _ (List.mem_append_left _ (List.mem_of_getElem? (i := 1) rfl)))) dX6_addCue_15 rfl ?_
    refine x_callS0_i C 21 0 0 3 (cM_in hl _ _ _ _) rfl gX6_addCue_X6_in ⟨by decide, by decide, rfl⟩ ⟨Nat.le_of_ble_eq_true rfl, Nat.le_of_ble_eq_true rfl⟩ rfl rfl (Nat.le_of_ble_eq_true rfl) ⟨Nat.le_of_ble_eq_true rfl, Nat.le_of_ble_eq_true rfl⟩ dX6_addCue_18 rfl rfl rfl (fun r2 w2 h2 => ?_)
    obtain ⟨rfl, rfl⟩ := h2
    refine x_if_eq C 46 24 dX6_addCue_21 (by decide) rfl (fun zk21 => ?_) (fun zk21 => ?_)
    · have zk21 := bI_eq0.mp zk21
      refine x_iconst (v := (0)) C 47 dX6_addCue_46 (by decide) rfl ?_
      refine x_istore C 49 dX6_addCue_47 (by decide) rfl rfl ?_
      refine x_aload_n C 50 dX6_addCue_49 rfl rfl ?_
      refine x_iload C 52 dX6_addCue_50 rfl rfl ?_
      refine x_if_ne C 59 55 dX6_addCue_52 (by decide) rfl (fun zk52 => ?_) (fun zk52 => ?_)
      · exact absurd zk52 (by decide)
      · exfalso; simp_all [cueB, cvB]
    · have zk21 := bI_ne0.mp zk21
      refine x_iload_n C 25 dX6_addCue_24 rfl rfl ?_
      refine x_bipush (v := (108)) C 27 dX6_addCue_25 (by decide) rfl ?_
      refine x_icmp_eq C 42 30 dX6_addCue_27 (by decide) rfl (fun zk27 => ?_) (fun zk27 => ?_)
      · refine x_iconst (v := (1)) C 43 dX6_addCue_42 (by decide) rfl ?_
        refine x_goto C 47 dX6_addCue_43 (by decide) ?_
        refine x_istore C 49 dX6_addCue_47 (by decide) rfl rfl ?_
        refine x_aload_n C 50 dX6_addCue_49 rfl rfl ?_
        refine x_iload C 52 dX6_addCue_50 rfl rfl ?_
        refine x_if_ne C 59 55 dX6_addCue_52 (by decide) rfl (fun zk52 => ?_) (fun zk52 => ?_)
        · refine x_aload_n C 60 dX6_addCue_59 rfl rfl ?_
          refine x_iload_n C 61 dX6_addCue_60 rfl rfl ?_
          refine x_callV0_i C 64 0 0 0 10 1 (cM_cueAt hl h0 hq _) rfl gX6_addCue_X6_cueAt ⟨rfl, by decide, by decide, rfl⟩ ⟨Nat.le_of_ble_eq_true rfl, Nat.le_of_ble_eq_true rfl⟩ rfl rfl rfl rfl (Nat.le_of_ble_eq_true rfl) ⟨Nat.le_of_ble_eq_true rfl, Nat.le_of_ble_eq_true rfl⟩ dX6_addCue_61 rfl rfl rfl (fun r3 w3 h3 => ?_)
          obtain ⟨rfl, rfl⟩ := h3
          refine x_top (show _ = (-1 : Int32) from by rw [atI, if_neg hk]) ?_
          refine x_iconst (v := (-1)) C 65 dX6_addCue_64 (by decide) rfl ?_
          refine x_icmp_eq C 72 68 dX6_addCue_65 (by decide) rfl (fun zk65 => ?_) (fun zk65 => ?_)
          · refine x_aload_n C 73 dX6_addCue_72 rfl rfl ?_
            refine xm_get C 76 fg_X6_addCue_109 rfl dX6_addCue_73 rfl ?_
            refine x_top h0 ?_
            refine x_bipush (v := (16)) C 78 dX6_addCue_76 (by decide) rfl ?_
            refine x_icmp_ne C 85 81 dX6_addCue_78 (by decide) rfl (fun zk78 => ?_) (fun zk78 => ?_)
            · have zk78 := mt (nI_eq (a := nq) (b := 16) (by omega) (by omega)).mpr zk78
              exact absurd hf zk78
            · have zk78 := (nI_eq (a := nq) (b := 16) (by omega) (by omega)).mp zk78
              refine x_iconst (v := (3)) C 82 dX6_addCue_81 (by decide) rfl ?_
              refine x_goto C 86 dX6_addCue_82 (by decide) ?_
              refine xm_put C 89 8 (by decide) fp_X6_addCue_98 rfl rfl dX6_addCue_86 rfl ?_
              refine x_aload_n C 90 dX6_addCue_89 rfl rfl ?_
              refine xm_get C 93 fg_X6_addCue_98 rfl dX6_addCue_90 rfl ?_
              refine x_top (show _ = (3) from rfl) ?_
              refine x_if_le C 98 96 dX6_addCue_93 (by decide) rfl (fun zk93 => ?_) (fun zk93 => ?_)
              · exact absurd zk93 (by decide)
              · refine x_iconst (v := (-1)) C 97 dX6_addCue_96 (by decide) rfl ?_
                exact x_zret C0 dX6_addCue_97 (Nat.le_of_ble_eq_true rfl) (Nat.le_of_ble_eq_true rfl) ⟨_, rfl, ⟨rfl, rfl⟩⟩
          · exact absurd zk65 (by decide)
        · exact absurd zk52 (by decide)
      · refine x_iload_n C 31 dX6_addCue_30 rfl rfl ?_
        refine x_bipush (v := (113)) C 33 dX6_addCue_31 (by decide) rfl ?_
        refine x_icmp_eq C 42 36 dX6_addCue_33 (by decide) rfl (fun zk33 => ?_) (fun zk33 => ?_)
        · refine x_iconst (v := (1)) C 43 dX6_addCue_42 (by decide) rfl ?_
          refine x_goto C 47 dX6_addCue_43 (by decide) ?_
          refine x_istore C 49 dX6_addCue_47 (by decide) rfl rfl ?_
          refine x_aload_n C 50 dX6_addCue_49 rfl rfl ?_
          refine x_iload C 52 dX6_addCue_50 rfl rfl ?_
          refine x_if_ne C 59 55 dX6_addCue_52 (by decide) rfl (fun zk52 => ?_) (fun zk52 => ?_)
          · refine x_aload_n C 60 dX6_addCue_59 rfl rfl ?_
            refine x_iload_n C 61 dX6_addCue_60 rfl rfl ?_
            refine x_callV0_i C 64 0 0 0 10 1 (cM_cueAt hl h0 hq _) rfl gX6_addCue_X6_cueAt ⟨rfl, by decide, by decide, rfl⟩ ⟨Nat.le_of_ble_eq_true rfl, Nat.le_of_ble_eq_true rfl⟩ rfl rfl rfl rfl (Nat.le_of_ble_eq_true rfl) ⟨Nat.le_of_ble_eq_true rfl, Nat.le_of_ble_eq_true rfl⟩ dX6_addCue_61 rfl rfl rfl (fun r4 w4 h4 => ?_)
            obtain ⟨rfl, rfl⟩ := h4
            refine x_top (show _ = (-1 : Int32) from by rw [atI, if_neg hk]) ?_
            refine x_iconst (v := (-1)) C 65 dX6_addCue_64 (by decide) rfl ?_
            refine x_icmp_eq C 72 68 dX6_addCue_65 (by decide) rfl (fun zk65 => ?_) (fun zk65 => ?_)
            · refine x_aload_n C 73 dX6_addCue_72 rfl rfl ?_
              refine xm_get C 76 fg_X6_addCue_109 rfl dX6_addCue_73 rfl ?_
              refine x_top h0 ?_
              refine x_bipush (v := (16)) C 78 dX6_addCue_76 (by decide) rfl ?_
              refine x_icmp_ne C 85 81 dX6_addCue_78 (by decide) rfl (fun zk78 => ?_) (fun zk78 => ?_)
              · have zk78 := mt (nI_eq (a := nq) (b := 16) (by omega) (by omega)).mpr zk78
                exact absurd hf zk78
              · have zk78 := (nI_eq (a := nq) (b := 16) (by omega) (by omega)).mp zk78
                refine x_iconst (v := (3)) C 82 dX6_addCue_81 (by decide) rfl ?_
                refine x_goto C 86 dX6_addCue_82 (by decide) ?_
                refine xm_put C 89 8 (by decide) fp_X6_addCue_98 rfl rfl dX6_addCue_86 rfl ?_
                refine x_aload_n C 90 dX6_addCue_89 rfl rfl ?_
                refine xm_get C 93 fg_X6_addCue_98 rfl dX6_addCue_90 rfl ?_
                refine x_top (show _ = (3) from rfl) ?_
                refine x_if_le C 98 96 dX6_addCue_93 (by decide) rfl (fun zk93 => ?_) (fun zk93 => ?_)
                · exact absurd zk93 (by decide)
                · refine x_iconst (v := (-1)) C 97 dX6_addCue_96 (by decide) rfl ?_
                  exact x_zret C0 dX6_addCue_97 (Nat.le_of_ble_eq_true rfl) (Nat.le_of_ble_eq_true rfl) ⟨_, rfl, ⟨rfl, rfl⟩⟩
            · exact absurd zk65 (by decide)
          · exact absurd zk52 (by decide)
        · refine x_iload_n C 37 dX6_addCue_36 rfl rfl ?_
          refine x_bipush (v := (115)) C 39 dX6_addCue_37 (by decide) rfl ?_
          refine x_icmp_ne C 46 42 dX6_addCue_39 (by decide) rfl (fun zk39 => ?_) (fun zk39 => ?_)
          · refine x_iconst (v := (0)) C 47 dX6_addCue_46 (by decide) rfl ?_
            refine x_istore C 49 dX6_addCue_47 (by decide) rfl rfl ?_
            refine x_aload_n C 50 dX6_addCue_49 rfl rfl ?_
            refine x_iload C 52 dX6_addCue_50 rfl rfl ?_
            refine x_if_ne C 59 55 dX6_addCue_52 (by decide) rfl (fun zk52 => ?_) (fun zk52 => ?_)
            · exact absurd zk52 (by decide)
            · exfalso; simp_all [cueB, cvB]
          · refine x_iconst (v := (1)) C 43 dX6_addCue_42 (by decide) rfl ?_
            refine x_goto C 47 dX6_addCue_43 (by decide) ?_
            refine x_istore C 49 dX6_addCue_47 (by decide) rfl rfl ?_
            refine x_aload_n C 50 dX6_addCue_49 rfl rfl ?_
            refine x_iload C 52 dX6_addCue_50 rfl rfl ?_
            refine x_if_ne C 59 55 dX6_addCue_52 (by decide) rfl (fun zk52 => ?_) (fun zk52 => ?_)
            · refine x_aload_n C 60 dX6_addCue_59 rfl rfl ?_
              refine x_iload_n C 61 dX6_addCue_60 rfl rfl ?_
              refine x_callV0_i C 64 0 0 0 10 1 (cM_cueAt hl h0 hq _) rfl gX6_addCue_X6_cueAt ⟨rfl, by decide, by decide, rfl⟩ ⟨Nat.le_of_ble_eq_true rfl, Nat.le_of_ble_eq_true rfl⟩ rfl rfl rfl rfl (Nat.le_of_ble_eq_true rfl) ⟨Nat.le_of_ble_eq_true rfl, Nat.le_of_ble_eq_true rfl⟩ dX6_addCue_61 rfl rfl rfl (fun r5 w5 h5 => ?_)
              obtain ⟨rfl, rfl⟩ := h5
              refine x_top (show _ = (-1 : Int32) from by rw [atI, if_neg hk]) ?_
              refine x_iconst (v := (-1)) C 65 dX6_addCue_64 (by decide) rfl ?_
              refine x_icmp_eq C 72 68 dX6_addCue_65 (by decide) rfl (fun zk65 => ?_) (fun zk65 => ?_)
              · refine x_aload_n C 73 dX6_addCue_72 rfl rfl ?_
                refine xm_get C 76 fg_X6_addCue_109 rfl dX6_addCue_73 rfl ?_
                refine x_top h0 ?_
                refine x_bipush (v := (16)) C 78 dX6_addCue_76 (by decide) rfl ?_
                refine x_icmp_ne C 85 81 dX6_addCue_78 (by decide) rfl (fun zk78 => ?_) (fun zk78 => ?_)
                · have zk78 := mt (nI_eq (a := nq) (b := 16) (by omega) (by omega)).mpr zk78
                  exact absurd hf zk78
                · have zk78 := (nI_eq (a := nq) (b := 16) (by omega) (by omega)).mp zk78
                  refine x_iconst (v := (3)) C 82 dX6_addCue_81 (by decide) rfl ?_
                  refine x_goto C 86 dX6_addCue_82 (by decide) ?_
                  refine xm_put C 89 8 (by decide) fp_X6_addCue_98 rfl rfl dX6_addCue_86 rfl ?_
                  refine x_aload_n C 90 dX6_addCue_89 rfl rfl ?_
                  refine xm_get C 93 fg_X6_addCue_98 rfl dX6_addCue_90 rfl ?_
                  refine x_top (show _ = (3) from rfl) ?_
                  refine x_if_le C 98 96 dX6_addCue_93 (by decide) rfl (fun zk93 => ?_) (fun zk93 => ?_)
                  · exact absurd zk93 (by decide)
                  · refine x_iconst (v := (-1)) C 97 dX6_addCue_96 (by decide) rfl ?_
                    exact x_zret C0 dX6_addCue_97 (Nat.le_of_ble_eq_true rfl) (Nat.le_of_ble_eq_true rfl) ⟨_, rfl, ⟨rfl, rfl⟩⟩
              · exact absurd zk65 (by decide)
            · exact absurd zk52 (by decide)
theorem fg_X6_addCue_9 : gF RX6 wsX6_addCue 9 10 0 := ⟨RX6, TX6, 36, "StageConsoleModel", rfl, fun w h => (List.mem_cons_of_mem _ (List.mem_append_left _ (List.mem_append_right _ h))), by decide, (List.mem_cons_of_mem _ (List.mem_append_left _ (List.mem_append_left _ (List.mem_of_getElem? (i := 4) rfl)))), Or.inl rfl⟩
theorem fg_X6_addCue_13 : gF RX6 wsX6_addCue 13 10 1 := ⟨RX6, TX6, 36, "StageConsoleModel", rfl, fun w h => (List.mem_cons_of_mem _ (List.mem_append_left _ (List.mem_append_right _ h))), by decide, (List.mem_cons_of_mem _ (List.mem_append_left _ (List.mem_append_left _ (List.mem_of_getElem? (i := 5) rfl)))), Or.inl rfl⟩
theorem fg_X6_addCue_16 : gF RX6 wsX6_addCue 16 10 2 := ⟨RX6, TX6, 36, "StageConsoleModel", rfl, fun w h => (List.mem_cons_of_mem _ (List.mem_append_left _ (List.mem_append_right _ h))), by decide, (List.mem_cons_of_mem _ (List.mem_append_left _ (List.mem_append_left _ (List.mem_of_getElem? (i := 6) rfl)))), Or.inl rfl⟩
theorem fg_X6_addCue_20 : gF RX6 wsX6_addCue 20 10 3 := ⟨RX6, TX6, 36, "StageConsoleModel", rfl, fun w h => (List.mem_cons_of_mem _ (List.mem_append_left _ (List.mem_append_right _ h))), by decide, (List.mem_cons_of_mem _ (List.mem_append_left _ (List.mem_append_left _ (List.mem_of_getElem? (i := 7) rfl)))), Or.inl rfl⟩
theorem fp_X6_addCue_109 : pF RX6 wsX6_addCue 109 10 5 false (.int) := ⟨RX6, TX6, 36, "StageConsoleModel", tyX6, rfl, fun w h => (List.mem_cons_of_mem _ (List.mem_append_left _ (List.mem_append_right _ h))), by decide, (List.mem_cons_of_mem _ (List.mem_append_left _ (List.mem_append_left _ (List.mem_of_getElem? (i := 2) rfl)))), Or.inl rfl, tyX6_ok, nmX6, rfl, rfl, fun h => absurd h (by decide)⟩
theorem fg_X6_addCue_24 : gF RX6 wsX6_addCue 24 10 4 := ⟨RX6, TX6, 36, "StageConsoleModel", rfl, fun w h => (List.mem_cons_of_mem _ (List.mem_append_left _ (List.mem_append_right _ h))), by decide, (List.mem_cons_of_mem _ (List.mem_append_left _ (List.mem_append_left _ (List.mem_of_getElem? (i := 8) rfl)))), Or.inl rfl⟩
set_option maxRecDepth 100000 in
set_option maxHeartbeats 4000000 in
theorem cM_addCue_0 (hl : l.stackTraces = false) {I : Nat → Nat → Int32} {nq : Nat} (h0 : I 30 0 = nI nq) (hq : nq ≤ 16) {x t cv : Int32} (hE : cueB x t cv = true) (hk : ¬ fnd (I 0) x nq 0 < nq) (hf : nq < 16) (hC : HC I) (hcv : vp_nar .char cv = cv) : Ct (gm D a E0) l yX6_addCue wsX6_addCue { frames := 12, cells := 0, slots := 0, locals := 300 } [.ref m, .int x, .int t, .int cv] (wM m am a I en) (qI fun v w => v = nI (nq + 1) ∧ w = wM m am a (acM I nq x t cv) en) noX := by
  refine Ct.of [some (.ref m), some (.int x), some (.int t), some (.int cv), none, none, none] rfl hl (by decide) (Nat.le_of_ble_eq_true rfl) rfl (fun φ C0 => ?_)
  have C := C0.1
  refine x_iload_n C 1 dX6_addCue_0 rfl rfl ?_
  refine x_i2l C 2 dX6_addCue_1 rfl rfl ?_
  refine x_lconst (v := 1) C 3 dX6_addCue_2 (by decide) rfl ?_
  refine x_ldc2 (v := 99) C 6 (List.mem_cons_of_mem _ (List.mem_append_left _ (List.mem_append_left _ (List.mem_of_getElem? (i := 0) rfl)))) dX6_addCue_3 rfl ?_
  refine x_callS0_i C 9 0 0 3 (cM_in hl _ _ _ _) rfl gX6_addCue_X6_in ⟨by decide, by decide, rfl⟩ ⟨Nat.le_of_ble_eq_true rfl, Nat.le_of_ble_eq_true rfl⟩ rfl rfl (Nat.le_of_ble_eq_true rfl) ⟨Nat.le_of_ble_eq_true rfl, Nat.le_of_ble_eq_true rfl⟩ dX6_addCue_6 rfl rfl rfl (fun r1 w1 h1 => ?_)
  obtain ⟨rfl, rfl⟩ := h1
  refine x_if_eq C 46 12 dX6_addCue_9 (by decide) rfl (fun zk9 => ?_) (fun zk9 => ?_)
  · have zk9 := bI_eq0.mp zk9
    refine x_iconst (v := (0)) C 47 dX6_addCue_46 (by decide) rfl ?_
    refine x_istore C 49 dX6_addCue_47 (by decide) rfl rfl ?_
    refine x_aload_n C 50 dX6_addCue_49 rfl rfl ?_
    refine x_iload C 52 dX6_addCue_50 rfl rfl ?_
    refine x_if_ne C 59 55 dX6_addCue_52 (by decide) rfl (fun zk52 => ?_) (fun zk52 => ?_)
    · exact absurd zk52 (by decide)
    · exfalso; simp_all [cueB, cvB]
  · have zk9 := bI_ne0.mp zk9
    refine x_iload_n C 13 dX6_addCue_12 rfl rfl ?_
    refine x_i2l C 14 dX6_addCue_13 rfl rfl ?_
    refine x_lconst (v := 0) C 15 dX6_addCue_14 (by decide) rfl ?_
    refine x_ldc2 (v := 40) C 18 (List.mem_cons_of_mem _ (List.mem_append_left _ (List.mem_append_left _ (List.mem_of_getElem? (i := 1) rfl)))) dX6_addCue_15 rfl ?_
    refine x_callS0_i C 21 0 0 3 (cM_in hl _ _ _ _) rfl gX6_addCue_X6_in ⟨by decide, by decide, rfl⟩ ⟨Nat.le_of_ble_eq_true rfl, Nat.le_of_ble_eq_true rfl⟩ rfl rfl (Nat.le_of_ble_eq_true rfl) ⟨Nat.le_of_ble_eq_true rfl, Nat.le_of_ble_eq_true rfl⟩ dX6_addCue_18 rfl rfl rfl (fun r2 w2 h2 => ?_)
    obtain ⟨rfl, rfl⟩ := h2
    refine x_if_eq C 46 24 dX6_addCue_21 (by decide) rfl (fun zk21 => ?_) (fun zk21 => ?_)
    · have zk21 := bI_eq0.mp zk21
      refine x_iconst (v := (0)) C 47 dX6_addCue_46 (by decide) rfl ?_
      refine x_istore C 49 dX6_addCue_47 (by decide) rfl rfl ?_
      refine x_aload_n C 50 dX6_addCue_49 rfl rfl ?_
      refine x_iload C 52 dX6_addCue_50 rfl rfl ?_
      refine x_if_ne C 59 55 dX6_addCue_52 (by decide) rfl (fun zk52 => ?_) (fun zk52 => ?_)
      · exact absurd zk52 (by decide)
      · exfalso; simp_all [cueB, cvB]
    · have zk21 := bI_ne0.mp zk21
      refine x_iload_n C 25 dX6_addCue_24 rfl rfl ?_
      refine x_bipush (v := (108)) C 27 dX6_addCue_25 (by decide) rfl ?_
      refine x_icmp_eq C 42 30 dX6_addCue_27 (by decide) rfl (fun zk27 => ?_) (fun zk27 => ?_)
      · refine x_iconst (v := (1)) C 43 dX6_addCue_42 (by decide) rfl ?_
        refine x_goto C 47 dX6_addCue_43 (by decide) ?_
        refine x_istore C 49 dX6_addCue_47 (by decide) rfl rfl ?_
        refine x_aload_n C 50 dX6_addCue_49 rfl rfl ?_
        refine x_iload C 52 dX6_addCue_50 rfl rfl ?_
        refine x_if_ne C 59 55 dX6_addCue_52 (by decide) rfl (fun zk52 => ?_) (fun zk52 => ?_)
        · refine x_aload_n C 60 dX6_addCue_59 rfl rfl ?_
          refine x_iload_n C 61 dX6_addCue_60 rfl rfl ?_
          refine x_callV0_i C 64 0 0 0 10 1 (cM_cueAt hl h0 hq _) rfl gX6_addCue_X6_cueAt ⟨rfl, by decide, by decide, rfl⟩ ⟨Nat.le_of_ble_eq_true rfl, Nat.le_of_ble_eq_true rfl⟩ rfl rfl rfl rfl (Nat.le_of_ble_eq_true rfl) ⟨Nat.le_of_ble_eq_true rfl, Nat.le_of_ble_eq_true rfl⟩ dX6_addCue_61 rfl rfl rfl (fun r3 w3 h3 => ?_)
          obtain ⟨rfl, rfl⟩ := h3
          refine x_top (show _ = (-1 : Int32) from by rw [atI, if_neg hk]) ?_
          refine x_iconst (v := (-1)) C 65 dX6_addCue_64 (by decide) rfl ?_
          refine x_icmp_eq C 72 68 dX6_addCue_65 (by decide) rfl (fun zk65 => ?_) (fun zk65 => ?_)
          · refine x_aload_n C 73 dX6_addCue_72 rfl rfl ?_
            refine xm_get C 76 fg_X6_addCue_109 rfl dX6_addCue_73 rfl ?_
            refine x_top h0 ?_
            refine x_bipush (v := (16)) C 78 dX6_addCue_76 (by decide) rfl ?_
            refine x_icmp_ne C 85 81 dX6_addCue_78 (by decide) rfl (fun zk78 => ?_) (fun zk78 => ?_)
            · have zk78 := mt (nI_eq (a := nq) (b := 16) (by omega) (by omega)).mpr zk78
              refine x_iconst (v := (0)) C 86 dX6_addCue_85 (by decide) rfl ?_
              refine xm_put C 89 8 (by decide) fp_X6_addCue_98 rfl rfl dX6_addCue_86 rfl ?_
              refine x_aload_n C 90 dX6_addCue_89 rfl rfl ?_
              refine xm_get C 93 fg_X6_addCue_98 rfl dX6_addCue_90 rfl ?_
              refine x_top (show _ = (0) from rfl) ?_
              refine x_if_le C 98 96 dX6_addCue_93 (by decide) rfl (fun zk93 => ?_) (fun zk93 => ?_)
              · refine x_aload_n C 99 dX6_addCue_98 rfl rfl ?_
                refine xm_get C 102 fg_X6_addCue_109 rfl dX6_addCue_99 rfl ?_
                refine x_top h0 ?_
                refine x_istore C 104 dX6_addCue_102 (by decide) rfl rfl ?_
                have lp104 : ∀ (n : Nat) (J : Nat → Nat → Int32), n ≤ nq → HC J → J 30 0 = nI nq → (acL x nq (uI I 30 8 0)) = acL x n J → X φ 104 [some (.ref m), some (.int x), some (.int t), some (.int cv), some (.int (1)), some (.int (nI n)), none] [] (wM m am a J en) 0 0 := by
                  intro n
                  induction n with
                  | zero =>
                    intro J hn hCJ h0J hr
                    refine x_ls (show _ = [some (.ref m), some (.int x), some (.int t), some (.int cv), some (.int (1)), some (.int (nI 0)), none] from rfl) ?_
                    refine x_iload C 106 dX6_addCue_104 rfl rfl ?_
                    refine x_if_le C 138 109 dX6_addCue_106 (by decide) rfl (fun zk106 => ?_) (fun zk106 => ?_)
                    · have zk106 := (nI_leI (a := 0) (b := 0) (by omega) (by omega)).mp zk106
                      obtain ⟨ip, hip⟩ : ∃ ip : Nat, ip = 0 := ⟨_, rfl⟩
                      have hfin : (acL x nq (uI I 30 8 0)) = (ip, J) := by subst hip; exact hr
                      have hipl : ip < 16 := by omega
                      refine x_ls (show _ = [some (.ref m), some (.int x), some (.int t), some (.int cv), some (.int (1)), some (.int (nI ip)), none] from by subst hip; rfl) ?_
                      refine x_aload_n C 139 dX6_addCue_138 rfl rfl ?_
                      refine xm_get C 142 fg_X6_addCue_9 rfl dX6_addCue_139 rfl ?_
                      refine x_iload C 144 dX6_addCue_142 rfl rfl ?_
                      refine x_iload_n C 145 dX6_addCue_144 rfl rfl ?_
                      refine xm_iast C 146 0 16 (ip) (by decide) rfl rfl rfl (by omega) dX6_addCue_145 rfl ?_
                      refine x_aload_n C 147 dX6_addCue_146 rfl rfl ?_
                      refine xm_get C 150 fg_X6_addCue_13 rfl dX6_addCue_147 rfl ?_
                      refine x_iload C 152 dX6_addCue_150 rfl rfl ?_
                      refine x_iload_n C 153 dX6_addCue_152 rfl rfl ?_
                      refine xm_iast C 154 1 16 (ip) (by decide) rfl rfl rfl (by omega) dX6_addCue_153 rfl ?_
                      refine x_aload_n C 155 dX6_addCue_154 rfl rfl ?_
                      refine xm_get C 158 fg_X6_addCue_16 rfl dX6_addCue_155 rfl ?_
                      refine x_iload C 160 dX6_addCue_158 rfl rfl ?_
                      refine x_iload_n C 161 dX6_addCue_160 rfl rfl ?_
                      refine xm_cast C 162 2 16 (ip) (by decide) rfl rfl rfl (by omega) (hcv) dX6_addCue_161 rfl ?_
                      refine x_aload_n C 163 dX6_addCue_162 rfl rfl ?_
                      refine xm_get C 166 fg_X6_addCue_20 rfl dX6_addCue_163 rfl ?_
                      refine x_iload C 168 dX6_addCue_166 rfl rfl ?_
                      refine x_iconst (v := (0)) C 169 dX6_addCue_168 (by decide) rfl ?_
                      refine xm_zast C 170 3 16 (ip) (by decide) rfl rfl rfl (by omega) (rfl) dX6_addCue_169 rfl ?_
                      refine x_iconst (v := (0)) C 171 dX6_addCue_170 (by decide) rfl ?_
                      refine x_istore C 173 dX6_addCue_171 (by decide) rfl rfl ?_
                      have lp173 : ∀ (n2 c : Nat) (K : Nat → Nat → Int32), c + n2 = 12 → K 30 = J 30 → acN J ip x t cv = clL ip n2 c K → X φ 173 [some (.ref m), some (.int x), some (.int t), some (.int cv), some (.int (1)), some (.int (nI ip)), some (.int (nI c))] [] (wM m am a K en) 0 0 := by
                        intro n2
                        induction n2 with
                        | zero =>
                          intro c K hc hK30 hr2
                          refine x_iload C 175 dX6_addCue_173 rfl rfl ?_
                          refine x_bipush (v := (12)) C 177 dX6_addCue_175 (by decide) rfl ?_
                          refine x_icmp_ge C 200 180 dX6_addCue_177 (by decide) rfl (fun zk177 => ?_) (fun zk177 => ?_)
                          · have zk177 := (nI_leI (a := 12) (b := c) (by omega) (by omega)).mp zk177
                            refine x_aload_n C 201 dX6_addCue_200 rfl rfl ?_
                            refine x_dup C 202 dX6_addCue_201 rfl rfl ?_
                            refine xm_get C 205 fg_X6_addCue_109 rfl dX6_addCue_202 rfl ?_
                            refine x_top ((congrFun hK30 0).trans h0J) ?_
                            refine x_iconst (v := (1)) C 206 dX6_addCue_205 (by decide) rfl ?_
                            refine x_iadd C 207 dX6_addCue_206 rfl ?_
                            refine x_top (show _ = nI (nq + 1) from nI_add _ _) ?_
                            refine xm_put C 210 0 (by decide) fp_X6_addCue_109 rfl rfl dX6_addCue_207 rfl ?_
                            refine x_aload_n C 211 dX6_addCue_210 rfl rfl ?_
                            refine xm_get C 214 fg_X6_addCue_109 rfl dX6_addCue_211 rfl ?_
                            refine x_top (show _ = (nI (nq + 1)) from rfl) ?_
                            exact x_zret C0 dX6_addCue_214 (Nat.le_of_ble_eq_true rfl) (Nat.le_of_ble_eq_true rfl) ⟨_, rfl, ⟨rfl, by rw [acM, hfin]; show _ = wM m am a (uI (acN J ip x t cv) 30 0 (nI (nq + 1))) en; rw [hr2]; rfl⟩⟩
                          · have zk177 := mt (nI_leI (a := 12) (b := c) (by omega) (by omega)).mpr zk177
                            exfalso; omega
                        | succ n2 ih2 =>
                          intro c K hc hK30 hr2
                          refine x_iload C 175 dX6_addCue_173 rfl rfl ?_
                          refine x_bipush (v := (12)) C 177 dX6_addCue_175 (by decide) rfl ?_
                          refine x_icmp_ge C 200 180 dX6_addCue_177 (by decide) rfl (fun zk177 => ?_) (fun zk177 => ?_)
                          · have zk177 := (nI_leI (a := 12) (b := c) (by omega) (by omega)).mp zk177
                            exfalso; omega
                          · have zk177 := mt (nI_leI (a := 12) (b := c) (by omega) (by omega)).mpr zk177
                            refine x_aload_n C 181 dX6_addCue_180 rfl rfl ?_
                            refine xm_get C 184 fg_X6_addCue_24 rfl dX6_addCue_181 rfl ?_
                            refine x_bipush (v := (12)) C 186 dX6_addCue_184 (by decide) rfl ?_
                            refine x_iload C 188 dX6_addCue_186 rfl rfl ?_
                            refine x_imul C 189 dX6_addCue_188 rfl ?_
                            refine x_top (show _ = nI (12 * ip) from pk_mul _ _) ?_
                            refine x_iload C 191 dX6_addCue_189 rfl rfl ?_
                            refine x_iadd C 192 dX6_addCue_191 rfl ?_
                            refine x_top (show _ = nI ((12 * ip) + c) from nI_add _ _) ?_
                            refine x_iconst (v := (-1)) C 193 dX6_addCue_192 (by decide) rfl ?_
                            refine xm_iast C 194 4 192 (((12 * ip) + c)) (by decide) rfl rfl rfl (by omega) dX6_addCue_193 rfl ?_
                            refine x_iinc (v := nI (c + 1)) C 197 rfl dX6_addCue_194 (iinc1 _) (by decide) rfl rfl ?_
                            refine x_goto C 173 dX6_addCue_197 (by decide) ?_
                            exact ih2 (c + 1) _ (by omega) (by rw [uI_n _ _ _ (by decide)]; exact hK30) hr2
                      exact lp173 12 0 _ rfl rfl rfl
                    · have zk106 := mt (nI_leI (a := 0) (b := 0) (by omega) (by omega)).mpr zk106
                      exfalso; omega
                  | succ n ih =>
                    intro J hn hCJ h0J hr
                    refine x_ls (show _ = [some (.ref m), some (.int x), some (.int t), some (.int cv), some (.int (1)), some (.int (nI (n + 1))), none] from rfl) ?_
                    refine x_iload C 106 dX6_addCue_104 rfl rfl ?_
                    refine x_if_le C 138 109 dX6_addCue_106 (by decide) rfl (fun zk106 => ?_) (fun zk106 => ?_)
                    · have zk106 := (nI_leI (a := (n + 1)) (b := 0) (by omega) (by omega)).mp zk106
                      exfalso; omega
                    · have zk106 := mt (nI_leI (a := (n + 1)) (b := 0) (by omega) (by omega)).mpr zk106
                      refine x_aload_n C 110 dX6_addCue_109 rfl rfl ?_
                      refine xm_get C 113 fg_X6_addCue_9 rfl dX6_addCue_110 rfl ?_
                      refine x_iload C 115 dX6_addCue_113 rfl rfl ?_
                      refine x_iconst (v := (1)) C 116 dX6_addCue_115 (by decide) rfl ?_
                      refine x_isub C 117 dX6_addCue_116 rfl ?_
                      refine x_top (nI_pred _) ?_
                      refine xm_iald C 118 0 16 (n) (by decide) rfl rfl rfl (by omega) dX6_addCue_117 rfl ?_
                      refine x_iload_n C 119 dX6_addCue_118 rfl rfl ?_
                      refine x_icmp_le C 138 122 dX6_addCue_119 (by decide) rfl (fun zk119 => ?_) (fun zk119 => ?_)
                      · obtain ⟨ip, hip⟩ : ∃ ip : Nat, ip = (n + 1) := ⟨_, rfl⟩
                        have hfin : (acL x nq (uI I 30 8 0)) = (ip, J) := by subst hip; exact hr.trans (by rw [acL, if_pos zk119])
                        have hipl : ip < 16 := by omega
                        refine x_ls (show _ = [some (.ref m), some (.int x), some (.int t), some (.int cv), some (.int (1)), some (.int (nI ip)), none] from by subst hip; rfl) ?_
                        refine x_aload_n C 139 dX6_addCue_138 rfl rfl ?_
                        refine xm_get C 142 fg_X6_addCue_9 rfl dX6_addCue_139 rfl ?_
                        refine x_iload C 144 dX6_addCue_142 rfl rfl ?_
                        refine x_iload_n C 145 dX6_addCue_144 rfl rfl ?_
                        refine xm_iast C 146 0 16 (ip) (by decide) rfl rfl rfl (by omega) dX6_addCue_145 rfl ?_
                        refine x_aload_n C 147 dX6_addCue_146 rfl rfl ?_
                        refine xm_get C 150 fg_X6_addCue_13 rfl dX6_addCue_147 rfl ?_
                        refine x_iload C 152 dX6_addCue_150 rfl rfl ?_
                        refine x_iload_n C 153 dX6_addCue_152 rfl rfl ?_
                        refine xm_iast C 154 1 16 (ip) (by decide) rfl rfl rfl (by omega) dX6_addCue_153 rfl ?_
                        refine x_aload_n C 155 dX6_addCue_154 rfl rfl ?_
                        refine xm_get C 158 fg_X6_addCue_16 rfl dX6_addCue_155 rfl ?_
                        refine x_iload C 160 dX6_addCue_158 rfl rfl ?_
                        refine x_iload_n C 161 dX6_addCue_160 rfl rfl ?_
                        refine xm_cast C 162 2 16 (ip) (by decide) rfl rfl rfl (by omega) (hcv) dX6_addCue_161 rfl ?_
                        refine x_aload_n C 163 dX6_addCue_162 rfl rfl ?_
                        refine xm_get C 166 fg_X6_addCue_20 rfl dX6_addCue_163 rfl ?_
                        refine x_iload C 168 dX6_addCue_166 rfl rfl ?_
                        refine x_iconst (v := (0)) C 169 dX6_addCue_168 (by decide) rfl ?_
                        refine xm_zast C 170 3 16 (ip) (by decide) rfl rfl rfl (by omega) (rfl) dX6_addCue_169 rfl ?_
                        refine x_iconst (v := (0)) C 171 dX6_addCue_170 (by decide) rfl ?_
                        refine x_istore C 173 dX6_addCue_171 (by decide) rfl rfl ?_
                        have lp173 : ∀ (n2 c : Nat) (K : Nat → Nat → Int32), c + n2 = 12 → K 30 = J 30 → acN J ip x t cv = clL ip n2 c K → X φ 173 [some (.ref m), some (.int x), some (.int t), some (.int cv), some (.int (1)), some (.int (nI ip)), some (.int (nI c))] [] (wM m am a K en) 0 0 := by
                          intro n2
                          induction n2 with
                          | zero =>
                            intro c K hc hK30 hr2
                            refine x_iload C 175 dX6_addCue_173 rfl rfl ?_
                            refine x_bipush (v := (12)) C 177 dX6_addCue_175 (by decide) rfl ?_
                            refine x_icmp_ge C 200 180 dX6_addCue_177 (by decide) rfl (fun zk177 => ?_) (fun zk177 => ?_)
                            · have zk177 := (nI_leI (a := 12) (b := c) (by omega) (by omega)).mp zk177
                              refine x_aload_n C 201 dX6_addCue_200 rfl rfl ?_
                              refine x_dup C 202 dX6_addCue_201 rfl rfl ?_
                              refine xm_get C 205 fg_X6_addCue_109 rfl dX6_addCue_202 rfl ?_
                              refine x_top ((congrFun hK30 0).trans h0J) ?_
                              refine x_iconst (v := (1)) C 206 dX6_addCue_205 (by decide) rfl ?_
                              refine x_iadd C 207 dX6_addCue_206 rfl ?_
                              refine x_top (show _ = nI (nq + 1) from nI_add _ _) ?_
                              refine xm_put C 210 0 (by decide) fp_X6_addCue_109 rfl rfl dX6_addCue_207 rfl ?_
                              refine x_aload_n C 211 dX6_addCue_210 rfl rfl ?_
                              refine xm_get C 214 fg_X6_addCue_109 rfl dX6_addCue_211 rfl ?_
                              refine x_top (show _ = (nI (nq + 1)) from rfl) ?_
                              exact x_zret C0 dX6_addCue_214 (Nat.le_of_ble_eq_true rfl) (Nat.le_of_ble_eq_true rfl) ⟨_, rfl, ⟨rfl, by rw [acM, hfin]; show _ = wM m am a (uI (acN J ip x t cv) 30 0 (nI (nq + 1))) en; rw [hr2]; rfl⟩⟩
                            · have zk177 := mt (nI_leI (a := 12) (b := c) (by omega) (by omega)).mpr zk177
                              exfalso; omega
                          | succ n2 ih2 =>
                            intro c K hc hK30 hr2
                            refine x_iload C 175 dX6_addCue_173 rfl rfl ?_
                            refine x_bipush (v := (12)) C 177 dX6_addCue_175 (by decide) rfl ?_
                            refine x_icmp_ge C 200 180 dX6_addCue_177 (by decide) rfl (fun zk177 => ?_) (fun zk177 => ?_)
                            · have zk177 := (nI_leI (a := 12) (b := c) (by omega) (by omega)).mp zk177
                              exfalso; omega
                            · have zk177 := mt (nI_leI (a := 12) (b := c) (by omega) (by omega)).mpr zk177
                              refine x_aload_n C 181 dX6_addCue_180 rfl rfl ?_
                              refine xm_get C 184 fg_X6_addCue_24 rfl dX6_addCue_181 rfl ?_
                              refine x_bipush (v := (12)) C 186 dX6_addCue_184 (by decide) rfl ?_
                              refine x_iload C 188 dX6_addCue_186 rfl rfl ?_
                              refine x_imul C 189 dX6_addCue_188 rfl ?_
                              refine x_top (show _ = nI (12 * ip) from pk_mul _ _) ?_
                              refine x_iload C 191 dX6_addCue_189 rfl rfl ?_
                              refine x_iadd C 192 dX6_addCue_191 rfl ?_
                              refine x_top (show _ = nI ((12 * ip) + c) from nI_add _ _) ?_
                              refine x_iconst (v := (-1)) C 193 dX6_addCue_192 (by decide) rfl ?_
                              refine xm_iast C 194 4 192 (((12 * ip) + c)) (by decide) rfl rfl rfl (by omega) dX6_addCue_193 rfl ?_
                              refine x_iinc (v := nI (c + 1)) C 197 rfl dX6_addCue_194 (iinc1 _) (by decide) rfl rfl ?_
                              refine x_goto C 173 dX6_addCue_197 (by decide) ?_
                              exact ih2 (c + 1) _ (by omega) (by rw [uI_n _ _ _ (by decide)]; exact hK30) hr2
                        exact lp173 12 0 _ rfl rfl rfl
                      · refine x_aload_n C 123 dX6_addCue_122 rfl rfl ?_
                        refine x_iload C 125 dX6_addCue_123 rfl rfl ?_
                        refine x_iconst (v := (1)) C 126 dX6_addCue_125 (by decide) rfl ?_
                        refine x_isub C 127 dX6_addCue_126 rfl ?_
                        refine x_top (nI_pred _) ?_
                        refine x_iload C 129 dX6_addCue_127 rfl rfl ?_
                        refine x_callV0_v C 132 0 0 0 10 2 (cM_copies hl n (n + 1) (by omega) (by omega) (hCJ n (by omega)).1 (hCJ n (by omega)).2) rfl gX6_addCue_X6_copies ⟨rfl, by decide, by decide, rfl⟩ ⟨Nat.le_of_ble_eq_true rfl, Nat.le_of_ble_eq_true rfl⟩ rfl rfl rfl rfl (Nat.le_of_ble_eq_true rfl) ⟨Nat.le_of_ble_eq_true rfl, Nat.le_of_ble_eq_true rfl⟩ dX6_addCue_129 rfl rfl rfl (fun w4 h4 => ?_)
                        subst h4
                        refine x_iinc (v := nI n) C 135 rfl dX6_addCue_132 (pk_m1 _) (by decide) rfl rfl ?_
                        refine x_goto C 104 dX6_addCue_135 (by decide) ?_
                        exact ih _ (by omega) (cpM_hc (by omega) hCJ) (by rw [cpM_row J n (n + 1) (by decide) (by decide) (by decide) (by decide) (by decide)]; exact h0J) (by rw [hr, acL, if_neg zk119])
                exact lp104 nq _ (by omega) hC h0 rfl
              · exact absurd zk93 (by decide)
            · have zk78 := (nI_eq (a := nq) (b := 16) (by omega) (by omega)).mp zk78
              exfalso; omega
          · exact absurd zk65 (by decide)
        · exact absurd zk52 (by decide)
      · refine x_iload_n C 31 dX6_addCue_30 rfl rfl ?_
        refine x_bipush (v := (113)) C 33 dX6_addCue_31 (by decide) rfl ?_
        refine x_icmp_eq C 42 36 dX6_addCue_33 (by decide) rfl (fun zk33 => ?_) (fun zk33 => ?_)
        · refine x_iconst (v := (1)) C 43 dX6_addCue_42 (by decide) rfl ?_
          refine x_goto C 47 dX6_addCue_43 (by decide) ?_
          refine x_istore C 49 dX6_addCue_47 (by decide) rfl rfl ?_
          refine x_aload_n C 50 dX6_addCue_49 rfl rfl ?_
          refine x_iload C 52 dX6_addCue_50 rfl rfl ?_
          refine x_if_ne C 59 55 dX6_addCue_52 (by decide) rfl (fun zk52 => ?_) (fun zk52 => ?_)
          · refine x_aload_n C 60 dX6_addCue_59 rfl rfl ?_
            refine x_iload_n C 61 dX6_addCue_60 rfl rfl ?_
            refine x_callV0_i C 64 0 0 0 10 1 (cM_cueAt hl h0 hq _) rfl gX6_addCue_X6_cueAt ⟨rfl, by decide, by decide, rfl⟩ ⟨Nat.le_of_ble_eq_true rfl, Nat.le_of_ble_eq_true rfl⟩ rfl rfl rfl rfl (Nat.le_of_ble_eq_true rfl) ⟨Nat.le_of_ble_eq_true rfl, Nat.le_of_ble_eq_true rfl⟩ dX6_addCue_61 rfl rfl rfl (fun r5 w5 h5 => ?_)
            obtain ⟨rfl, rfl⟩ := h5
            refine x_top (show _ = (-1 : Int32) from by rw [atI, if_neg hk]) ?_
            refine x_iconst (v := (-1)) C 65 dX6_addCue_64 (by decide) rfl ?_
            refine x_icmp_eq C 72 68 dX6_addCue_65 (by decide) rfl (fun zk65 => ?_) (fun zk65 => ?_)
            · refine x_aload_n C 73 dX6_addCue_72 rfl rfl ?_
              refine xm_get C 76 fg_X6_addCue_109 rfl dX6_addCue_73 rfl ?_
              refine x_top h0 ?_
              refine x_bipush (v := (16)) C 78 dX6_addCue_76 (by decide) rfl ?_
              refine x_icmp_ne C 85 81 dX6_addCue_78 (by decide) rfl (fun zk78 => ?_) (fun zk78 => ?_)
              · have zk78 := mt (nI_eq (a := nq) (b := 16) (by omega) (by omega)).mpr zk78
                refine x_iconst (v := (0)) C 86 dX6_addCue_85 (by decide) rfl ?_
                refine xm_put C 89 8 (by decide) fp_X6_addCue_98 rfl rfl dX6_addCue_86 rfl ?_
                refine x_aload_n C 90 dX6_addCue_89 rfl rfl ?_
                refine xm_get C 93 fg_X6_addCue_98 rfl dX6_addCue_90 rfl ?_
                refine x_top (show _ = (0) from rfl) ?_
                refine x_if_le C 98 96 dX6_addCue_93 (by decide) rfl (fun zk93 => ?_) (fun zk93 => ?_)
                · refine x_aload_n C 99 dX6_addCue_98 rfl rfl ?_
                  refine xm_get C 102 fg_X6_addCue_109 rfl dX6_addCue_99 rfl ?_
                  refine x_top h0 ?_
                  refine x_istore C 104 dX6_addCue_102 (by decide) rfl rfl ?_
                  have lp104 : ∀ (n : Nat) (J : Nat → Nat → Int32), n ≤ nq → HC J → J 30 0 = nI nq → (acL x nq (uI I 30 8 0)) = acL x n J → X φ 104 [some (.ref m), some (.int x), some (.int t), some (.int cv), some (.int (1)), some (.int (nI n)), none] [] (wM m am a J en) 0 0 := by
                    intro n
                    induction n with
                    | zero =>
                      intro J hn hCJ h0J hr
                      refine x_ls (show _ = [some (.ref m), some (.int x), some (.int t), some (.int cv), some (.int (1)), some (.int (nI 0)), none] from rfl) ?_
                      refine x_iload C 106 dX6_addCue_104 rfl rfl ?_
                      refine x_if_le C 138 109 dX6_addCue_106 (by decide) rfl (fun zk106 => ?_) (fun zk106 => ?_)
                      · have zk106 := (nI_leI (a := 0) (b := 0) (by omega) (by omega)).mp zk106
                        obtain ⟨ip, hip⟩ : ∃ ip : Nat, ip = 0 := ⟨_, rfl⟩
                        have hfin : (acL x nq (uI I 30 8 0)) = (ip, J) := by subst hip; exact hr
                        have hipl : ip < 16 := by omega
                        refine x_ls (show _ = [some (.ref m), some (.int x), some (.int t), some (.int cv), some (.int (1)), some (.int (nI ip)), none] from by subst hip; rfl) ?_
                        refine x_aload_n C 139 dX6_addCue_138 rfl rfl ?_
                        refine xm_get C 142 fg_X6_addCue_9 rfl dX6_addCue_139 rfl ?_
                        refine x_iload C 144 dX6_addCue_142 rfl rfl ?_
                        refine x_iload_n C 145 dX6_addCue_144 rfl rfl ?_
                        refine xm_iast C 146 0 16 (ip) (by decide) rfl rfl rfl (by omega) dX6_addCue_145 rfl ?_
                        refine x_aload_n C 147 dX6_addCue_146 rfl rfl ?_
                        refine xm_get C 150 fg_X6_addCue_13 rfl dX6_addCue_147 rfl ?_
                        refine x_iload C 152 dX6_addCue_150 rfl rfl ?_
                        refine x_iload_n C 153 dX6_addCue_152 rfl rfl ?_
                        refine xm_iast C 154 1 16 (ip) (by decide) rfl rfl rfl (by omega) dX6_addCue_153 rfl ?_
                        refine x_aload_n C 155 dX6_addCue_154 rfl rfl ?_
                        refine xm_get C 158 fg_X6_addCue_16 rfl dX6_addCue_155 rfl ?_
                        refine x_iload C 160 dX6_addCue_158 rfl rfl ?_
                        refine x_iload_n C 161 dX6_addCue_160 rfl rfl ?_
                        refine xm_cast C 162 2 16 (ip) (by decide) rfl rfl rfl (by omega) (hcv) dX6_addCue_161 rfl ?_
                        refine x_aload_n C 163 dX6_addCue_162 rfl rfl ?_
                        refine xm_get C 166 fg_X6_addCue_20 rfl dX6_addCue_163 rfl ?_
                        refine x_iload C 168 dX6_addCue_166 rfl rfl ?_
                        refine x_iconst (v := (0)) C 169 dX6_addCue_168 (by decide) rfl ?_
                        refine xm_zast C 170 3 16 (ip) (by decide) rfl rfl rfl (by omega) (rfl) dX6_addCue_169 rfl ?_
                        refine x_iconst (v := (0)) C 171 dX6_addCue_170 (by decide) rfl ?_
                        refine x_istore C 173 dX6_addCue_171 (by decide) rfl rfl ?_
                        have lp173 : ∀ (n2 c : Nat) (K : Nat → Nat → Int32), c + n2 = 12 → K 30 = J 30 → acN J ip x t cv = clL ip n2 c K → X φ 173 [some (.ref m), some (.int x), some (.int t), some (.int cv), some (.int (1)), some (.int (nI ip)), some (.int (nI c))] [] (wM m am a K en) 0 0 := by
                          intro n2
                          induction n2 with
                          | zero =>
                            intro c K hc hK30 hr2
                            refine x_iload C 175 dX6_addCue_173 rfl rfl ?_
                            refine x_bipush (v := (12)) C 177 dX6_addCue_175 (by decide) rfl ?_
                            refine x_icmp_ge C 200 180 dX6_addCue_177 (by decide) rfl (fun zk177 => ?_) (fun zk177 => ?_)
                            · have zk177 := (nI_leI (a := 12) (b := c) (by omega) (by omega)).mp zk177
                              refine x_aload_n C 201 dX6_addCue_200 rfl rfl ?_
                              refine x_dup C 202 dX6_addCue_201 rfl rfl ?_
                              refine xm_get C 205 fg_X6_addCue_109 rfl dX6_addCue_202 rfl ?_
                              refine x_top ((congrFun hK30 0).trans h0J) ?_
                              refine x_iconst (v := (1)) C 206 dX6_addCue_205 (by decide) rfl ?_
                              refine x_iadd C 207 dX6_addCue_206 rfl ?_
                              refine x_top (show _ = nI (nq + 1) from nI_add _ _) ?_
                              refine xm_put C 210 0 (by decide) fp_X6_addCue_109 rfl rfl dX6_addCue_207 rfl ?_
                              refine x_aload_n C 211 dX6_addCue_210 rfl rfl ?_
                              refine xm_get C 214 fg_X6_addCue_109 rfl dX6_addCue_211 rfl ?_
                              refine x_top (show _ = (nI (nq + 1)) from rfl) ?_
                              exact x_zret C0 dX6_addCue_214 (Nat.le_of_ble_eq_true rfl) (Nat.le_of_ble_eq_true rfl) ⟨_, rfl, ⟨rfl, by rw [acM, hfin]; show _ = wM m am a (uI (acN J ip x t cv) 30 0 (nI (nq + 1))) en; rw [hr2]; rfl⟩⟩
                            · have zk177 := mt (nI_leI (a := 12) (b := c) (by omega) (by omega)).mpr zk177
                              exfalso; omega
                          | succ n2 ih2 =>
                            intro c K hc hK30 hr2
                            refine x_iload C 175 dX6_addCue_173 rfl rfl ?_
                            refine x_bipush (v := (12)) C 177 dX6_addCue_175 (by decide) rfl ?_
                            refine x_icmp_ge C 200 180 dX6_addCue_177 (by decide) rfl (fun zk177 => ?_) (fun zk177 => ?_)
                            · have zk177 := (nI_leI (a := 12) (b := c) (by omega) (by omega)).mp zk177
                              exfalso; omega
                            · have zk177 := mt (nI_leI (a := 12) (b := c) (by omega) (by omega)).mpr zk177
                              refine x_aload_n C 181 dX6_addCue_180 rfl rfl ?_
                              refine xm_get C 184 fg_X6_addCue_24 rfl dX6_addCue_181 rfl ?_
                              refine x_bipush (v := (12)) C 186 dX6_addCue_184 (by decide) rfl ?_
                              refine x_iload C 188 dX6_addCue_186 rfl rfl ?_
                              refine x_imul C 189 dX6_addCue_188 rfl ?_
                              refine x_top (show _ = nI (12 * ip) from pk_mul _ _) ?_
                              refine x_iload C 191 dX6_addCue_189 rfl rfl ?_
                              refine x_iadd C 192 dX6_addCue_191 rfl ?_
                              refine x_top (show _ = nI ((12 * ip) + c) from nI_add _ _) ?_
                              refine x_iconst (v := (-1)) C 193 dX6_addCue_192 (by decide) rfl ?_
                              refine xm_iast C 194 4 192 (((12 * ip) + c)) (by decide) rfl rfl rfl (by omega) dX6_addCue_193 rfl ?_
                              refine x_iinc (v := nI (c + 1)) C 197 rfl dX6_addCue_194 (iinc1 _) (by decide) rfl rfl ?_
                              refine x_goto C 173 dX6_addCue_197 (by decide) ?_
                              exact ih2 (c + 1) _ (by omega) (by rw [uI_n _ _ _ (by decide)]; exact hK30) hr2
                        exact lp173 12 0 _ rfl rfl rfl
                      · have zk106 := mt (nI_leI (a := 0) (b := 0) (by omega) (by omega)).mpr zk106
                        exfalso; omega
                    | succ n ih =>
                      intro J hn hCJ h0J hr
                      refine x_ls (show _ = [some (.ref m), some (.int x), some (.int t), some (.int cv), some (.int (1)), some (.int (nI (n + 1))), none] from rfl) ?_
                      refine x_iload C 106 dX6_addCue_104 rfl rfl ?_
                      refine x_if_le C 138 109 dX6_addCue_106 (by decide) rfl (fun zk106 => ?_) (fun zk106 => ?_)
                      · have zk106 := (nI_leI (a := (n + 1)) (b := 0) (by omega) (by omega)).mp zk106
                        exfalso; omega
                      · have zk106 := mt (nI_leI (a := (n + 1)) (b := 0) (by omega) (by omega)).mpr zk106
                        refine x_aload_n C 110 dX6_addCue_109 rfl rfl ?_
                        refine xm_get C 113 fg_X6_addCue_9 rfl dX6_addCue_110 rfl ?_
                        refine x_iload C 115 dX6_addCue_113 rfl rfl ?_
                        refine x_iconst (v := (1)) C 116 dX6_addCue_115 (by decide) rfl ?_
                        refine x_isub C 117 dX6_addCue_116 rfl ?_
                        refine x_top (nI_pred _) ?_
                        refine xm_iald C 118 0 16 (n) (by decide) rfl rfl rfl (by omega) dX6_addCue_117 rfl ?_
                        refine x_iload_n C 119 dX6_addCue_118 rfl rfl ?_
                        refine x_icmp_le C 138 122 dX6_addCue_119 (by decide) rfl (fun zk119 => ?_) (fun zk119 => ?_)
                        · obtain ⟨ip, hip⟩ : ∃ ip : Nat, ip = (n + 1) := ⟨_, rfl⟩
                          have hfin : (acL x nq (uI I 30 8 0)) = (ip, J) := by subst hip; exact hr.trans (by rw [acL, if_pos zk119])
                          have hipl : ip < 16 := by omega
                          refine x_ls (show _ = [some (.ref m), some (.int x), some (.int t), some (.int cv), some (.int (1)), some (.int (nI ip)), none] from by subst hip; rfl) ?_
                          refine x_aload_n C 139 dX6_addCue_138 rfl rfl ?_
                          refine xm_get C 142 fg_X6_addCue_9 rfl dX6_addCue_139 rfl ?_
                          refine x_iload C 144 dX6_addCue_142 rfl rfl ?_
                          refine x_iload_n C 145 dX6_addCue_144 rfl rfl ?_
                          refine xm_iast C 146 0 16 (ip) (by decide) rfl rfl rfl (by omega) dX6_addCue_145 rfl ?_
                          refine x_aload_n C 147 dX6_addCue_146 rfl rfl ?_
                          refine xm_get C 150 fg_X6_addCue_13 rfl dX6_addCue_147 rfl ?_
                          refine x_iload C 152 dX6_addCue_150 rfl rfl ?_
                          refine x_iload_n C 153 dX6_addCue_152 rfl rfl ?_
                          refine xm_iast C 154 1 16 (ip) (by decide) rfl rfl rfl (by omega) dX6_addCue_153 rfl ?_
                          refine x_aload_n C 155 dX6_addCue_154 rfl rfl ?_
                          refine xm_get C 158 fg_X6_addCue_16 rfl dX6_addCue_155 rfl ?_
                          refine x_iload C 160 dX6_addCue_158 rfl rfl ?_
                          refine x_iload_n C 161 dX6_addCue_160 rfl rfl ?_
                          refine xm_cast C 162 2 16 (ip) (by decide) rfl rfl rfl (by omega) (hcv) dX6_addCue_161 rfl ?_
                          refine x_aload_n C 163 dX6_addCue_162 rfl rfl ?_
                          refine xm_get C 166 fg_X6_addCue_20 rfl dX6_addCue_163 rfl ?_
                          refine x_iload C 168 dX6_addCue_166 rfl rfl ?_
                          refine x_iconst (v := (0)) C 169 dX6_addCue_168 (by decide) rfl ?_
                          refine xm_zast C 170 3 16 (ip) (by decide) rfl rfl rfl (by omega) (rfl) dX6_addCue_169 rfl ?_
                          refine x_iconst (v := (0)) C 171 dX6_addCue_170 (by decide) rfl ?_
                          refine x_istore C 173 dX6_addCue_171 (by decide) rfl rfl ?_
                          have lp173 : ∀ (n2 c : Nat) (K : Nat → Nat → Int32), c + n2 = 12 → K 30 = J 30 → acN J ip x t cv = clL ip n2 c K → X φ 173 [some (.ref m), some (.int x), some (.int t), some (.int cv), some (.int (1)), some (.int (nI ip)), some (.int (nI c))] [] (wM m am a K en) 0 0 := by
                            intro n2
                            induction n2 with
                            | zero =>
                              intro c K hc hK30 hr2
                              refine x_iload C 175 dX6_addCue_173 rfl rfl ?_
                              refine x_bipush (v := (12)) C 177 dX6_addCue_175 (by decide) rfl ?_
                              refine x_icmp_ge C 200 180 dX6_addCue_177 (by decide) rfl (fun zk177 => ?_) (fun zk177 => ?_)
                              · have zk177 := (nI_leI (a := 12) (b := c) (by omega) (by omega)).mp zk177
                                refine x_aload_n C 201 dX6_addCue_200 rfl rfl ?_
                                refine x_dup C 202 dX6_addCue_201 rfl rfl ?_
                                refine xm_get C 205 fg_X6_addCue_109 rfl dX6_addCue_202 rfl ?_
                                refine x_top ((congrFun hK30 0).trans h0J) ?_
                                refine x_iconst (v := (1)) C 206 dX6_addCue_205 (by decide) rfl ?_
                                refine x_iadd C 207 dX6_addCue_206 rfl ?_
                                refine x_top (show _ = nI (nq + 1) from nI_add _ _) ?_
                                refine xm_put C 210 0 (by decide) fp_X6_addCue_109 rfl rfl dX6_addCue_207 rfl ?_
                                refine x_aload_n C 211 dX6_addCue_210 rfl rfl ?_
                                refine xm_get C 214 fg_X6_addCue_109 rfl dX6_addCue_211 rfl ?_
                                refine x_top (show _ = (nI (nq + 1)) from rfl) ?_
                                exact x_zret C0 dX6_addCue_214 (Nat.le_of_ble_eq_true rfl) (Nat.le_of_ble_eq_true rfl) ⟨_, rfl, ⟨rfl, by rw [acM, hfin]; show _ = wM m am a (uI (acN J ip x t cv) 30 0 (nI (nq + 1))) en; rw [hr2]; rfl⟩⟩
                              · have zk177 := mt (nI_leI (a := 12) (b := c) (by omega) (by omega)).mpr zk177
                                exfalso; omega
                            | succ n2 ih2 =>
                              intro c K hc hK30 hr2
                              refine x_iload C 175 dX6_addCue_173 rfl rfl ?_
                              refine x_bipush (v := (12)) C 177 dX6_addCue_175 (by decide) rfl ?_
                              refine x_icmp_ge C 200 180 dX6_addCue_177 (by decide) rfl (fun zk177 => ?_) (fun zk177 => ?_)
                              · have zk177 := (nI_leI (a := 12) (b := c) (by omega) (by omega)).mp zk177
                                exfalso; omega
                              · have zk177 := mt (nI_leI (a := 12) (b := c) (by omega) (by omega)).mpr zk177
                                refine x_aload_n C 181 dX6_addCue_180 rfl rfl ?_
                                refine xm_get C 184 fg_X6_addCue_24 rfl dX6_addCue_181 rfl ?_
                                refine x_bipush (v := (12)) C 186 dX6_addCue_184 (by decide) rfl ?_
                                refine x_iload C 188 dX6_addCue_186 rfl rfl ?_
                                refine x_imul C 189 dX6_addCue_188 rfl ?_
                                refine x_top (show _ = nI (12 * ip) from pk_mul _ _) ?_
                                refine x_iload C 191 dX6_addCue_189 rfl rfl ?_
                                refine x_iadd C 192 dX6_addCue_191 rfl ?_
                                refine x_top (show _ = nI ((12 * ip) + c) from nI_add _ _) ?_
                                refine x_iconst (v := (-1)) C 193 dX6_addCue_192 (by decide) rfl ?_
                                refine xm_iast C 194 4 192 (((12 * ip) + c)) (by decide) rfl rfl rfl (by omega) dX6_addCue_193 rfl ?_
                                refine x_iinc (v := nI (c + 1)) C 197 rfl dX6_addCue_194 (iinc1 _) (by decide) rfl rfl ?_
                                refine x_goto C 173 dX6_addCue_197 (by decide) ?_
                                exact ih2 (c + 1) _ (by omega) (by rw [uI_n _ _ _ (by decide)]; exact hK30) hr2
                          exact lp173 12 0 _ rfl rfl rfl
                        · refine x_aload_n C 123 dX6_addCue_122 rfl rfl ?_
                          refine x_iload C 125 dX6_addCue_123 rfl rfl ?_
                          refine x_iconst (v := (1)) C 126 dX6_addCue_125 (by decide) rfl ?_
                          refine x_isub C 127 dX6_addCue_126 rfl ?_
                          refine x_top (nI_pred _) ?_
                          refine x_iload C 129 dX6_addCue_127 rfl rfl ?_
                          refine x_callV0_v C 132 0 0 0 10 2 (cM_copies hl n (n + 1) (by omega) (by omega) (hCJ n (by omega)).1 (hCJ n (by omega)).2) rfl gX6_addCue_X6_copies ⟨rfl, by decide, by decide, rfl⟩ ⟨Nat.le_of_ble_eq_true rfl, Nat.le_of_ble_eq_true rfl⟩ rfl rfl rfl rfl (Nat.le_of_ble_eq_true rfl) ⟨Nat.le_of_ble_eq_true rfl, Nat.le_of_ble_eq_true rfl⟩ dX6_addCue_129 rfl rfl rfl (fun w6 h6 => ?_)
                          subst h6
                          refine x_iinc (v := nI n) C 135 rfl dX6_addCue_132 (pk_m1 _) (by decide) rfl rfl ?_
                          refine x_goto C 104 dX6_addCue_135 (by decide) ?_
                          exact ih _ (by omega) (cpM_hc (by omega) hCJ) (by rw [cpM_row J n (n + 1) (by decide) (by decide) (by decide) (by decide) (by decide)]; exact h0J) (by rw [hr, acL, if_neg zk119])
                  exact lp104 nq _ (by omega) hC h0 rfl
                · exact absurd zk93 (by decide)
              · have zk78 := (nI_eq (a := nq) (b := 16) (by omega) (by omega)).mp zk78
                exfalso; omega
            · exact absurd zk65 (by decide)
          · exact absurd zk52 (by decide)
        · refine x_iload_n C 37 dX6_addCue_36 rfl rfl ?_
          refine x_bipush (v := (115)) C 39 dX6_addCue_37 (by decide) rfl ?_
          refine x_icmp_ne C 46 42 dX6_addCue_39 (by decide) rfl (fun zk39 => ?_) (fun zk39 => ?_)
          · refine x_iconst (v := (0)) C 47 dX6_addCue_46 (by decide) rfl ?_
            refine x_istore C 49 dX6_addCue_47 (by decide) rfl rfl ?_
            refine x_aload_n C 50 dX6_addCue_49 rfl rfl ?_
            refine x_iload C 52 dX6_addCue_50 rfl rfl ?_
            refine x_if_ne C 59 55 dX6_addCue_52 (by decide) rfl (fun zk52 => ?_) (fun zk52 => ?_)
            · exact absurd zk52 (by decide)
            · exfalso; simp_all [cueB, cvB]
          · refine x_iconst (v := (1)) C 43 dX6_addCue_42 (by decide) rfl ?_
            refine x_goto C 47 dX6_addCue_43 (by decide) ?_
            refine x_istore C 49 dX6_addCue_47 (by decide) rfl rfl ?_
            refine x_aload_n C 50 dX6_addCue_49 rfl rfl ?_
            refine x_iload C 52 dX6_addCue_50 rfl rfl ?_
            refine x_if_ne C 59 55 dX6_addCue_52 (by decide) rfl (fun zk52 => ?_) (fun zk52 => ?_)
            · refine x_aload_n C 60 dX6_addCue_59 rfl rfl ?_
              refine x_iload_n C 61 dX6_addCue_60 rfl rfl ?_
              refine x_callV0_i C 64 0 0 0 10 1 (cM_cueAt hl h0 hq _) rfl gX6_addCue_X6_cueAt ⟨rfl, by decide, by decide, rfl⟩ ⟨Nat.le_of_ble_eq_true rfl, Nat.le_of_ble_eq_true rfl⟩ rfl rfl rfl rfl (Nat.le_of_ble_eq_true rfl) ⟨Nat.le_of_ble_eq_true rfl, Nat.le_of_ble_eq_true rfl⟩ dX6_addCue_61 rfl rfl rfl (fun r7 w7 h7 => ?_)
              obtain ⟨rfl, rfl⟩ := h7
              refine x_top (show _ = (-1 : Int32) from by rw [atI, if_neg hk]) ?_
              refine x_iconst (v := (-1)) C 65 dX6_addCue_64 (by decide) rfl ?_
              refine x_icmp_eq C 72 68 dX6_addCue_65 (by decide) rfl (fun zk65 => ?_) (fun zk65 => ?_)
              · refine x_aload_n C 73 dX6_addCue_72 rfl rfl ?_
                refine xm_get C 76 fg_X6_addCue_109 rfl dX6_addCue_73 rfl ?_
                refine x_top h0 ?_
                refine x_bipush (v := (16)) C 78 dX6_addCue_76 (by decide) rfl ?_
                refine x_icmp_ne C 85 81 dX6_addCue_78 (by decide) rfl (fun zk78 => ?_) (fun zk78 => ?_)
                · have zk78 := mt (nI_eq (a := nq) (b := 16) (by omega) (by omega)).mpr zk78
                  refine x_iconst (v := (0)) C 86 dX6_addCue_85 (by decide) rfl ?_
                  refine xm_put C 89 8 (by decide) fp_X6_addCue_98 rfl rfl dX6_addCue_86 rfl ?_
                  refine x_aload_n C 90 dX6_addCue_89 rfl rfl ?_
                  refine xm_get C 93 fg_X6_addCue_98 rfl dX6_addCue_90 rfl ?_
                  refine x_top (show _ = (0) from rfl) ?_
                  refine x_if_le C 98 96 dX6_addCue_93 (by decide) rfl (fun zk93 => ?_) (fun zk93 => ?_)
                  · refine x_aload_n C 99 dX6_addCue_98 rfl rfl ?_
                    refine xm_get C 102 fg_X6_addCue_109 rfl dX6_addCue_99 rfl ?_
                    refine x_top h0 ?_
                    refine x_istore C 104 dX6_addCue_102 (by decide) rfl rfl ?_
                    have lp104 : ∀ (n : Nat) (J : Nat → Nat → Int32), n ≤ nq → HC J → J 30 0 = nI nq → (acL x nq (uI I 30 8 0)) = acL x n J → X φ 104 [some (.ref m), some (.int x), some (.int t), some (.int cv), some (.int (1)), some (.int (nI n)), none] [] (wM m am a J en) 0 0 := by
                      intro n
                      induction n with
                      | zero =>
                        intro J hn hCJ h0J hr
                        refine x_ls (show _ = [some (.ref m), some (.int x), some (.int t), some (.int cv), some (.int (1)), some (.int (nI 0)), none] from rfl) ?_
                        refine x_iload C 106 dX6_addCue_104 rfl rfl ?_
                        refine x_if_le C 138 109 dX6_addCue_106 (by decide) rfl (fun zk106 => ?_) (fun zk106 => ?_)
                        · have zk106 := (nI_leI (a := 0) (b := 0) (by omega) (by omega)).mp zk106
                          obtain ⟨ip, hip⟩ : ∃ ip : Nat, ip = 0 := ⟨_, rfl⟩
                          have hfin : (acL x nq (uI I 30 8 0)) = (ip, J) := by subst hip; exact hr
                          have hipl : ip < 16 := by omega
                          refine x_ls (show _ = [some (.ref m), some (.int x), some (.int t), some (.int cv), some (.int (1)), some (.int (nI ip)), none] from by subst hip; rfl) ?_
                          refine x_aload_n C 139 dX6_addCue_138 rfl rfl ?_
                          refine xm_get C 142 fg_X6_addCue_9 rfl dX6_addCue_139 rfl ?_
                          refine x_iload C 144 dX6_addCue_142 rfl rfl ?_
                          refine x_iload_n C 145 dX6_addCue_144 rfl rfl ?_
                          refine xm_iast C 146 0 16 (ip) (by decide) rfl rfl rfl (by omega) dX6_addCue_145 rfl ?_
                          refine x_aload_n C 147 dX6_addCue_146 rfl rfl ?_
                          refine xm_get C 150 fg_X6_addCue_13 rfl dX6_addCue_147 rfl ?_
                          refine x_iload C 152 dX6_addCue_150 rfl rfl ?_
                          refine x_iload_n C 153 dX6_addCue_152 rfl rfl ?_
                          refine xm_iast C 154 1 16 (ip) (by decide) rfl rfl rfl (by omega) dX6_addCue_153 rfl ?_
                          refine x_aload_n C 155 dX6_addCue_154 rfl rfl ?_
                          refine xm_get C 158 fg_X6_addCue_16 rfl dX6_addCue_155 rfl ?_
                          refine x_iload C 160 dX6_addCue_158 rfl rfl ?_
                          refine x_iload_n C 161 dX6_addCue_160 rfl rfl ?_
                          refine xm_cast C 162 2 16 (ip) (by decide) rfl rfl rfl (by omega) (hcv) dX6_addCue_161 rfl ?_
                          refine x_aload_n C 163 dX6_addCue_162 rfl rfl ?_
                          refine xm_get C 166 fg_X6_addCue_20 rfl dX6_addCue_163 rfl ?_
                          refine x_iload C 168 dX6_addCue_166 rfl rfl ?_
                          refine x_iconst (v := (0)) C 169 dX6_addCue_168 (by decide) rfl ?_
                          refine xm_zast C 170 3 16 (ip) (by decide) rfl rfl rfl (by omega) (rfl) dX6_addCue_169 rfl ?_
                          refine x_iconst (v := (0)) C 171 dX6_addCue_170 (by decide) rfl ?_
                          refine x_istore C 173 dX6_addCue_171 (by decide) rfl rfl ?_
                          have lp173 : ∀ (n2 c : Nat) (K : Nat → Nat → Int32), c + n2 = 12 → K 30 = J 30 → acN J ip x t cv = clL ip n2 c K → X φ 173 [some (.ref m), some (.int x), some (.int t), some (.int cv), some (.int (1)), some (.int (nI ip)), some (.int (nI c))] [] (wM m am a K en) 0 0 := by
                            intro n2
                            induction n2 with
                            | zero =>
                              intro c K hc hK30 hr2
                              refine x_iload C 175 dX6_addCue_173 rfl rfl ?_
                              refine x_bipush (v := (12)) C 177 dX6_addCue_175 (by decide) rfl ?_
                              refine x_icmp_ge C 200 180 dX6_addCue_177 (by decide) rfl (fun zk177 => ?_) (fun zk177 => ?_)
                              · have zk177 := (nI_leI (a := 12) (b := c) (by omega) (by omega)).mp zk177
                                refine x_aload_n C 201 dX6_addCue_200 rfl rfl ?_
                                refine x_dup C 202 dX6_addCue_201 rfl rfl ?_
                                refine xm_get C 205 fg_X6_addCue_109 rfl dX6_addCue_202 rfl ?_
                                refine x_top ((congrFun hK30 0).trans h0J) ?_
                                refine x_iconst (v := (1)) C 206 dX6_addCue_205 (by decide) rfl ?_
                                refine x_iadd C 207 dX6_addCue_206 rfl ?_
                                refine x_top (show _ = nI (nq + 1) from nI_add _ _) ?_
                                refine xm_put C 210 0 (by decide) fp_X6_addCue_109 rfl rfl dX6_addCue_207 rfl ?_
                                refine x_aload_n C 211 dX6_addCue_210 rfl rfl ?_
                                refine xm_get C 214 fg_X6_addCue_109 rfl dX6_addCue_211 rfl ?_
                                refine x_top (show _ = (nI (nq + 1)) from rfl) ?_
                                exact x_zret C0 dX6_addCue_214 (Nat.le_of_ble_eq_true rfl) (Nat.le_of_ble_eq_true rfl) ⟨_, rfl, ⟨rfl, by rw [acM, hfin]; show _ = wM m am a (uI (acN J ip x t cv) 30 0 (nI (nq + 1))) en; rw [hr2]; rfl⟩⟩
                              · have zk177 := mt (nI_leI (a := 12) (b := c) (by omega) (by omega)).mpr zk177
                                exfalso; omega
                            | succ n2 ih2 =>
                              intro c K hc hK30 hr2
                              refine x_iload C 175 dX6_addCue_173 rfl rfl ?_
                              refine x_bipush (v := (12)) C 177 dX6_addCue_175 (by decide) rfl ?_
                              refine x_icmp_ge C 200 180 dX6_addCue_177 (by decide) rfl (fun zk177 => ?_) (fun zk177 => ?_)
                              · have zk177 := (nI_leI (a := 12) (b := c) (by omega) (by omega)).mp zk177
                                exfalso; omega
                              · have zk177 := mt (nI_leI (a := 12) (b := c) (by omega) (by omega)).mpr zk177
                                refine x_aload_n C 181 dX6_addCue_180 rfl rfl ?_
                                refine xm_get C 184 fg_X6_addCue_24 rfl dX6_addCue_181 rfl ?_
                                refine x_bipush (v := (12)) C 186 dX6_addCue_184 (by decide) rfl ?_
                                refine x_iload C 188 dX6_addCue_186 rfl rfl ?_
                                refine x_imul C 189 dX6_addCue_188 rfl ?_
                                refine x_top (show _ = nI (12 * ip) from pk_mul _ _) ?_
                                refine x_iload C 191 dX6_addCue_189 rfl rfl ?_
                                refine x_iadd C 192 dX6_addCue_191 rfl ?_
                                refine x_top (show _ = nI ((12 * ip) + c) from nI_add _ _) ?_
                                refine x_iconst (v := (-1)) C 193 dX6_addCue_192 (by decide) rfl ?_
                                refine xm_iast C 194 4 192 (((12 * ip) + c)) (by decide) rfl rfl rfl (by omega) dX6_addCue_193 rfl ?_
                                refine x_iinc (v := nI (c + 1)) C 197 rfl dX6_addCue_194 (iinc1 _) (by decide) rfl rfl ?_
                                refine x_goto C 173 dX6_addCue_197 (by decide) ?_
                                exact ih2 (c + 1) _ (by omega) (by rw [uI_n _ _ _ (by decide)]; exact hK30) hr2
                          exact lp173 12 0 _ rfl rfl rfl
                        · have zk106 := mt (nI_leI (a := 0) (b := 0) (by omega) (by omega)).mpr zk106
                          exfalso; omega
                      | succ n ih =>
                        intro J hn hCJ h0J hr
                        refine x_ls (show _ = [some (.ref m), some (.int x), some (.int t), some (.int cv), some (.int (1)), some (.int (nI (n + 1))), none] from rfl) ?_
                        refine x_iload C 106 dX6_addCue_104 rfl rfl ?_
                        refine x_if_le C 138 109 dX6_addCue_106 (by decide) rfl (fun zk106 => ?_) (fun zk106 => ?_)
                        · have zk106 := (nI_leI (a := (n + 1)) (b := 0) (by omega) (by omega)).mp zk106
                          exfalso; omega
                        · have zk106 := mt (nI_leI (a := (n + 1)) (b := 0) (by omega) (by omega)).mpr zk106
                          refine x_aload_n C 110 dX6_addCue_109 rfl rfl ?_
                          refine xm_get C 113 fg_X6_addCue_9 rfl dX6_addCue_110 rfl ?_
                          refine x_iload C 115 dX6_addCue_113 rfl rfl ?_
                          refine x_iconst (v := (1)) C 116 dX6_addCue_115 (by decide) rfl ?_
                          refine x_isub C 117 dX6_addCue_116 rfl ?_
                          refine x_top (nI_pred _) ?_
                          refine xm_iald C 118 0 16 (n) (by decide) rfl rfl rfl (by omega) dX6_addCue_117 rfl ?_
                          refine x_iload_n C 119 dX6_addCue_118 rfl rfl ?_
                          refine x_icmp_le C 138 122 dX6_addCue_119 (by decide) rfl (fun zk119 => ?_) (fun zk119 => ?_)
                          · obtain ⟨ip, hip⟩ : ∃ ip : Nat, ip = (n + 1) := ⟨_, rfl⟩
                            have hfin : (acL x nq (uI I 30 8 0)) = (ip, J) := by subst hip; exact hr.trans (by rw [acL, if_pos zk119])
                            have hipl : ip < 16 := by omega
                            refine x_ls (show _ = [some (.ref m), some (.int x), some (.int t), some (.int cv), some (.int (1)), some (.int (nI ip)), none] from by subst hip; rfl) ?_
                            refine x_aload_n C 139 dX6_addCue_138 rfl rfl ?_
                            refine xm_get C 142 fg_X6_addCue_9 rfl dX6_addCue_139 rfl ?_
                            refine x_iload C 144 dX6_addCue_142 rfl rfl ?_
                            refine x_iload_n C 145 dX6_addCue_144 rfl rfl ?_
                            refine xm_iast C 146 0 16 (ip) (by decide) rfl rfl rfl (by omega) dX6_addCue_145 rfl ?_
                            refine x_aload_n C 147 dX6_addCue_146 rfl rfl ?_
                            refine xm_get C 150 fg_X6_addCue_13 rfl dX6_addCue_147 rfl ?_
                            refine x_iload C 152 dX6_addCue_150 rfl rfl ?_
                            refine x_iload_n C 153 dX6_addCue_152 rfl rfl ?_
                            refine xm_iast C 154 1 16 (ip) (by decide) rfl rfl rfl (by omega) dX6_addCue_153 rfl ?_
                            refine x_aload_n C 155 dX6_addCue_154 rfl rfl ?_
                            refine xm_get C 158 fg_X6_addCue_16 rfl dX6_addCue_155 rfl ?_
                            refine x_iload C 160 dX6_addCue_158 rfl rfl ?_
                            refine x_iload_n C 161 dX6_addCue_160 rfl rfl ?_
                            refine xm_cast C 162 2 16 (ip) (by decide) rfl rfl rfl (by omega) (hcv) dX6_addCue_161 rfl ?_
                            refine x_aload_n C 163 dX6_addCue_162 rfl rfl ?_
                            refine xm_get C 166 fg_X6_addCue_20 rfl dX6_addCue_163 rfl ?_
                            refine x_iload C 168 dX6_addCue_166 rfl rfl ?_
                            refine x_iconst (v := (0)) C 169 dX6_addCue_168 (by decide) rfl ?_
                            refine xm_zast C 170 3 16 (ip) (by decide) rfl rfl rfl (by omega) (rfl) dX6_addCue_169 rfl ?_
                            refine x_iconst (v := (0)) C 171 dX6_addCue_170 (by decide) rfl ?_
                            refine x_istore C 173 dX6_addCue_171 (by decide) rfl rfl ?_
                            have lp173 : ∀ (n2 c : Nat) (K : Nat → Nat → Int32), c + n2 = 12 → K 30 = J 30 → acN J ip x t cv = clL ip n2 c K → X φ 173 [some (.ref m), some (.int x), some (.int t), some (.int cv), some (.int (1)), some (.int (nI ip)), some (.int (nI c))] [] (wM m am a K en) 0 0 := by
                              intro n2
                              induction n2 with
                              | zero =>
                                intro c K hc hK30 hr2
                                refine x_iload C 175 dX6_addCue_173 rfl rfl ?_
                                refine x_bipush (v := (12)) C 177 dX6_addCue_175 (by decide) rfl ?_
                                refine x_icmp_ge C 200 180 dX6_addCue_177 (by decide) rfl (fun zk177 => ?_) (fun zk177 => ?_)
                                · have zk177 := (nI_leI (a := 12) (b := c) (by omega) (by omega)).mp zk177
                                  refine x_aload_n C 201 dX6_addCue_200 rfl rfl ?_
                                  refine x_dup C 202 dX6_addCue_201 rfl rfl ?_
                                  refine xm_get C 205 fg_X6_addCue_109 rfl dX6_addCue_202 rfl ?_
                                  refine x_top ((congrFun hK30 0).trans h0J) ?_
                                  refine x_iconst (v := (1)) C 206 dX6_addCue_205 (by decide) rfl ?_
                                  refine x_iadd C 207 dX6_addCue_206 rfl ?_
                                  refine x_top (show _ = nI (nq + 1) from nI_add _ _) ?_
                                  refine xm_put C 210 0 (by decide) fp_X6_addCue_109 rfl rfl dX6_addCue_207 rfl ?_
                                  refine x_aload_n C 211 dX6_addCue_210 rfl rfl ?_
                                  refine xm_get C 214 fg_X6_addCue_109 rfl dX6_addCue_211 rfl ?_
                                  refine x_top (show _ = (nI (nq + 1)) from rfl) ?_
                                  exact x_zret C0 dX6_addCue_214 (Nat.le_of_ble_eq_true rfl) (Nat.le_of_ble_eq_true rfl) ⟨_, rfl, ⟨rfl, by rw [acM, hfin]; show _ = wM m am a (uI (acN J ip x t cv) 30 0 (nI (nq + 1))) en; rw [hr2]; rfl⟩⟩
                                · have zk177 := mt (nI_leI (a := 12) (b := c) (by omega) (by omega)).mpr zk177
                                  exfalso; omega
                              | succ n2 ih2 =>
                                intro c K hc hK30 hr2
                                refine x_iload C 175 dX6_addCue_173 rfl rfl ?_
                                refine x_bipush (v := (12)) C 177 dX6_addCue_175 (by decide) rfl ?_
                                refine x_icmp_ge C 200 180 dX6_addCue_177 (by decide) rfl (fun zk177 => ?_) (fun zk177 => ?_)
                                · have zk177 := (nI_leI (a := 12) (b := c) (by omega) (by omega)).mp zk177
                                  exfalso; omega
                                · have zk177 := mt (nI_leI (a := 12) (b := c) (by omega) (by omega)).mpr zk177
                                  refine x_aload_n C 181 dX6_addCue_180 rfl rfl ?_
                                  refine xm_get C 184 fg_X6_addCue_24 rfl dX6_addCue_181 rfl ?_
                                  refine x_bipush (v := (12)) C 186 dX6_addCue_184 (by decide) rfl ?_
                                  refine x_iload C 188 dX6_addCue_186 rfl rfl ?_
                                  refine x_imul C 189 dX6_addCue_188 rfl ?_
                                  refine x_top (show _ = nI (12 * ip) from pk_mul _ _) ?_
                                  refine x_iload C 191 dX6_addCue_189 rfl rfl ?_
                                  refine x_iadd C 192 dX6_addCue_191 rfl ?_
                                  refine x_top (show _ = nI ((12 * ip) + c) from nI_add _ _) ?_
                                  refine x_iconst (v := (-1)) C 193 dX6_addCue_192 (by decide) rfl ?_
                                  refine xm_iast C 194 4 192 (((12 * ip) + c)) (by decide) rfl rfl rfl (by omega) dX6_addCue_193 rfl ?_
                                  refine x_iinc (v := nI (c + 1)) C 197 rfl dX6_addCue_194 (iinc1 _) (by decide) rfl rfl ?_
                                  refine x_goto C 173 dX6_addCue_197 (by decide) ?_
                                  exact ih2 (c + 1) _ (by omega) (by rw [uI_n _ _ _ (by decide)]; exact hK30) hr2
                            exact lp173 12 0 _ rfl rfl rfl
                          · refine x_aload_n C 123 dX6_addCue_122 rfl rfl ?_
                            refine x_iload C 125 dX6_addCue_123 rfl rfl ?_
                            refine x_iconst (v := (1)) C 126 dX6_addCue_125 (by decide) rfl ?_
                            refine x_isub C 127 dX6_addCue_126 rfl ?_
                            refine x_top (nI_pred _) ?_
                            refine x_iload C 129 dX6_addCue_127 rfl rfl ?_
                            refine x_callV0_v C 132 0 0 0 10 2 (cM_copies hl n (n + 1) (by omega) (by omega) (hCJ n (by omega)).1 (hCJ n (by omega)).2) rfl gX6_addCue_X6_copies ⟨rfl, by decide, by decide, rfl⟩ ⟨Nat.le_of_ble_eq_true rfl, Nat.le_of_ble_eq_true rfl⟩ rfl rfl rfl rfl (Nat.le_of_ble_eq_true rfl) ⟨Nat.le_of_ble_eq_true rfl, Nat.le_of_ble_eq_true rfl⟩ dX6_addCue_129 rfl rfl rfl (fun w8 h8 => ?_)
                            subst h8
                            refine x_iinc (v := nI n) C 135 rfl dX6_addCue_132 (pk_m1 _) (by decide) rfl rfl ?_
                            refine x_goto C 104 dX6_addCue_135 (by decide) ?_
                            exact ih _ (by omega) (cpM_hc (by omega) hCJ) (by rw [cpM_row J n (n + 1) (by decide) (by decide) (by decide) (by decide) (by decide)]; exact h0J) (by rw [hr, acL, if_neg zk119])
                    exact lp104 nq _ (by omega) hC h0 rfl
                  · exact absurd zk93 (by decide)
                · have zk78 := (nI_eq (a := nq) (b := 16) (by omega) (by omega)).mp zk78
                  exfalso; omega
              · exact absurd zk65 (by decide)
            · exact absurd zk52 (by decide)
end MM
