section MM
variable {l : Launch} {Γ : Gm} {D : va_G} {a : Nat → ClassId} {E0 m : Nat} {am : Nat → Nat} {I : Nat → Nat → Int32} {en : Int64}
theorem fg_X6_gives_78 : gF RX6 wsX6_gives 78 10 25 := ⟨RX6, TX6, 36, "StageConsoleModel", rfl, fun w h => (List.mem_cons_of_mem _ (List.mem_append_left _ (List.mem_append_left _ (List.mem_append_right _ h)))), by decide, (List.mem_cons_of_mem _ (List.mem_append_left _ (List.mem_append_left _ (List.mem_append_left _ (List.mem_of_getElem? (i := 0) rfl))))), Or.inl rfl⟩
theorem fg_X6_gives_60 : gF RX6 wsX6_gives 60 10 19 := ⟨RX6, TX6, 36, "StageConsoleModel", rfl, fun w h => (List.mem_cons_of_mem _ (List.mem_append_left _ (List.mem_append_left _ (List.mem_append_right _ h)))), by decide, (List.mem_cons_of_mem _ (List.mem_append_left _ (List.mem_append_left _ (List.mem_append_left _ (List.mem_of_getElem? (i := 1) rfl))))), Or.inl rfl⟩
theorem fg_X6_gives_66 : gF RX6 wsX6_gives 66 10 21 := ⟨RX6, TX6, 36, "StageConsoleModel", rfl, fun w h => (List.mem_cons_of_mem _ (List.mem_append_left _ (List.mem_append_left _ (List.mem_append_right _ h)))), by decide, (List.mem_cons_of_mem _ (List.mem_append_left _ (List.mem_append_left _ (List.mem_append_left _ (List.mem_of_getElem? (i := 2) rfl))))), Or.inl rfl⟩
theorem fg_X6_gives_140 : gF RX6 wsX6_gives 140 10 32 := ⟨RX6, TX6, 36, "StageConsoleModel", rfl, fun w h => (List.mem_cons_of_mem _ (List.mem_append_left _ (List.mem_append_left _ (List.mem_append_right _ h)))), by decide, (List.mem_cons_of_mem _ (List.mem_append_left _ (List.mem_append_left _ (List.mem_append_left _ (List.mem_of_getElem? (i := 3) rfl))))), Or.inl rfl⟩
theorem fg_X6_gives_75 : gF RX6 wsX6_gives 75 10 24 := ⟨RX6, TX6, 36, "StageConsoleModel", rfl, fun w h => (List.mem_cons_of_mem _ (List.mem_append_left _ (List.mem_append_left _ (List.mem_append_right _ h)))), by decide, (List.mem_cons_of_mem _ (List.mem_append_left _ (List.mem_append_left _ (List.mem_append_left _ (List.mem_of_getElem? (i := 4) rfl))))), Or.inl rfl⟩
theorem fg_X6_gives_72 : gF RX6 wsX6_gives 72 10 23 := ⟨RX6, TX6, 36, "StageConsoleModel", rfl, fun w h => (List.mem_cons_of_mem _ (List.mem_append_left _ (List.mem_append_left _ (List.mem_append_right _ h)))), by decide, (List.mem_cons_of_mem _ (List.mem_append_left _ (List.mem_append_left _ (List.mem_append_left _ (List.mem_of_getElem? (i := 5) rfl))))), Or.inl rfl⟩
theorem fg_X6_gives_63 : gF RX6 wsX6_gives 63 10 20 := ⟨RX6, TX6, 36, "StageConsoleModel", rfl, fun w h => (List.mem_cons_of_mem _ (List.mem_append_left _ (List.mem_append_left _ (List.mem_append_right _ h)))), by decide, (List.mem_cons_of_mem _ (List.mem_append_left _ (List.mem_append_left _ (List.mem_append_left _ (List.mem_of_getElem? (i := 6) rfl))))), Or.inl rfl⟩
theorem fg_X6_gives_69 : gF RX6 wsX6_gives 69 10 22 := ⟨RX6, TX6, 36, "StageConsoleModel", rfl, fun w h => (List.mem_cons_of_mem _ (List.mem_append_left _ (List.mem_append_left _ (List.mem_append_right _ h)))), by decide, (List.mem_cons_of_mem _ (List.mem_append_left _ (List.mem_append_left _ (List.mem_append_left _ (List.mem_of_getElem? (i := 7) rfl))))), Or.inl rfl⟩
set_option maxRecDepth 100000 in
set_option maxHeartbeats 4000000 in
theorem cM_gives (hl : l.stackTraces = false) {I : Nat → Nat → Int32} {eg : Nat → Nat} (e x : Nat) (he : e < 4) (hx : x < 12) (hg : I 16 e = nI (eg e)) (hg5 : eg e < 5) (hp : ∃ p, 2 ≤ p ∧ p ≤ 40 ∧ I 18 e = nI p) : Ct (gm D a E0) l yX6_gives wsX6_gives { frames := 8, cells := 0, slots := 0, locals := 200 } [.ref m, .int (nI e), .int (nI x)] (wM m am a I en) (qI fun v w => v = gvF I eg e x ∧ w = wM m am a I en) noX := by
  refine Ct.of [some (.ref m), some (.int (nI e)), some (.int (nI x)), none, none, none, none] rfl hl (by decide) (Nat.le_of_ble_eq_true rfl) rfl (fun φ C0 => ?_)
  have C := C0.1
  refine x_aload_n C 1 dX6_gives_0 rfl rfl ?_
  refine xm_get C 4 fg_X6_gives_78 rfl dX6_gives_1 rfl ?_
  refine x_iload_n C 5 dX6_gives_4 rfl rfl ?_
  refine xm_zald C 6 22 4 (e) (by decide) rfl rfl rfl (by omega) dX6_gives_5 rfl ?_
  refine x_if_eq C 23 9 dX6_gives_6 (by decide) rfl (fun zk6 => ?_) (fun zk6 => ?_)
  · refine x_iconst (v := (0)) C 24 dX6_gives_23 (by decide) rfl ?_
    exact x_zret C0 dX6_gives_24 (Nat.le_of_ble_eq_true rfl) (Nat.le_of_ble_eq_true rfl) ⟨_, rfl, ⟨by first | (rw [gvF, if_pos zk6]; done) | (rw [gvF, if_neg zk6, if_pos zk20]; done), rfl⟩⟩
  · refine x_aload_n C 10 dX6_gives_9 rfl rfl ?_
    refine x_aload_n C 11 dX6_gives_10 rfl rfl ?_
    refine xm_get C 14 fg_X6_gives_60 rfl dX6_gives_11 rfl ?_
    refine x_iload_n C 15 dX6_gives_14 rfl rfl ?_
    refine xm_iald C 16 16 4 (e) (by decide) rfl rfl rfl (by omega) dX6_gives_15 rfl ?_
    refine x_top hg ?_
    refine x_iload_n C 17 dX6_gives_16 rfl rfl ?_
    refine x_callV0_i C 20 0 0 0 10 2 (cM_isMember hl _ _ (by omega)) rfl gX6_gives_X6_isMember ⟨rfl, by decide, by decide, rfl⟩ ⟨Nat.le_of_ble_eq_true rfl, Nat.le_of_ble_eq_true rfl⟩ rfl rfl rfl rfl (Nat.le_of_ble_eq_true rfl) ⟨Nat.le_of_ble_eq_true rfl, Nat.le_of_ble_eq_true rfl⟩ dX6_gives_17 rfl rfl rfl (fun r1 w1 h1 => ?_)
    obtain ⟨rfl, rfl⟩ := h1
    refine x_if_ne C 25 23 dX6_gives_20 (by decide) rfl (fun zk20 => ?_) (fun zk20 => ?_)
    · have zk20 := bI_ne0.mp zk20
      refine x_iconst (v := (0)) C 26 dX6_gives_25 (by decide) rfl ?_
      refine x_istore_n C 27 dX6_gives_26 (by decide) rfl rfl ?_
      refine x_iconst (v := (0)) C 28 dX6_gives_27 (by decide) rfl ?_
      refine x_istore C 30 dX6_gives_28 (by decide) rfl rfl ?_
      have lp30 : ∀ (n i k : Nat), i + n = x → k ≤ i → ahd (I 14 (eg e)) x 0 0 = ahd (I 14 (eg e)) n i k → X φ 30 [some (.ref m), some (.int (nI e)), some (.int (nI x)), some (.int (nI k)), some (.int (nI i)), none, none] [] (wM m am a I en) 0 0 := by
        intro n
        induction n with
        | zero =>
          intro i k hi hki hr
          refine x_iload C 32 dX6_gives_30 rfl rfl ?_
          refine x_iload_n C 33 dX6_gives_32 rfl rfl ?_
          refine x_icmp_ge C 65 36 dX6_gives_33 (by decide) rfl (fun zk33 => ?_) (fun zk33 => ?_)
          · have zk33 := (nI_leI (a := x) (b := i) (by omega) (by omega)).mp zk33
            have hr2 : ahd (I 14 (eg e)) x 0 0 = k := by rw [hr]; rfl
            obtain ⟨pp, hp1, hp2, hp3⟩ := hp
            refine x_aload_n C 66 dX6_gives_65 rfl rfl ?_
            refine xm_get C 69 fg_X6_gives_66 rfl dX6_gives_66 rfl ?_
            refine x_iload_n C 70 dX6_gives_69 rfl rfl ?_
            refine xm_iald C 71 18 4 (e) (by decide) rfl rfl rfl (by omega) dX6_gives_70 rfl ?_
            refine x_nm (fun p ep => ?_)
            refine x_istore C 73 dX6_gives_71 (by decide) rfl rfl ?_
            refine x_aload_n C 74 dX6_gives_73 rfl rfl ?_
            refine xm_get C 77 fg_X6_gives_140 rfl dX6_gives_74 rfl ?_
            refine x_aload_n C 78 dX6_gives_77 rfl rfl ?_
            refine xm_get C 81 fg_X6_gives_75 rfl dX6_gives_78 rfl ?_
            refine x_iload_n C 82 dX6_gives_81 rfl rfl ?_
            refine xm_iald C 83 21 4 (e) (by decide) rfl rfl rfl (by omega) dX6_gives_82 rfl ?_
            refine x_isub C 84 dX6_gives_83 rfl ?_
            refine x_aload_n C 85 dX6_gives_84 rfl rfl ?_
            refine xm_get C 88 fg_X6_gives_72 rfl dX6_gives_85 rfl ?_
            refine x_iload_n C 89 dX6_gives_88 rfl rfl ?_
            refine xm_iald C 90 20 4 (e) (by decide) rfl rfl rfl (by omega) dX6_gives_89 rfl ?_
            refine x_iload_n C 91 dX6_gives_90 rfl rfl ?_
            refine x_imul C 92 dX6_gives_91 rfl ?_
            refine x_iadd C 93 dX6_gives_92 rfl ?_
            refine x_iload C 95 dX6_gives_93 rfl rfl ?_
            refine x_irem C 96 dX6_gives_95 (by rw [ep, hp3]; exact nI_ne0 (by omega) (by omega)) rfl ?_
            refine x_nm (fun ph eph => ?_)
            refine x_istore C 98 dX6_gives_96 (by decide) rfl rfl ?_
            refine x_iload C 100 dX6_gives_98 rfl rfl ?_
            refine x_iconst (v := (2)) C 101 dX6_gives_100 (by decide) rfl ?_
            refine x_idiv C 102 dX6_gives_101 (by decide) rfl ?_
            refine x_nm (fun hf ehf => ?_)
            refine x_istore C 104 dX6_gives_102 (by decide) rfl rfl ?_
            refine x_aload_n C 105 dX6_gives_104 rfl rfl ?_
            refine xm_get C 108 fg_X6_gives_63 rfl dX6_gives_105 rfl ?_
            refine x_iload_n C 109 dX6_gives_108 rfl rfl ?_
            refine xm_cald C 110 17 4 (e) (by decide) rfl rfl rfl (by omega) dX6_gives_109 rfl ?_
            refine x_bipush (v := (119)) C 112 dX6_gives_110 (by decide) rfl ?_
            refine x_icmp_ne C 128 115 dX6_gives_112 (by decide) rfl (fun zk112 => ?_) (fun zk112 => ?_)
            · refine x_aload_n C 129 dX6_gives_128 rfl rfl ?_
              refine xm_get C 132 fg_X6_gives_63 rfl dX6_gives_129 rfl ?_
              refine x_iload_n C 133 dX6_gives_132 rfl rfl ?_
              refine xm_cald C 134 17 4 (e) (by decide) rfl rfl rfl (by omega) dX6_gives_133 rfl ?_
              refine x_bipush (v := (116)) C 136 dX6_gives_134 (by decide) rfl ?_
              refine x_icmp_ne C 180 139 dX6_gives_136 (by decide) rfl (fun zk136 => ?_) (fun zk136 => ?_)
              · refine x_iload C 182 dX6_gives_180 rfl rfl ?_
                refine x_iload C 184 dX6_gives_182 rfl rfl ?_
                refine x_icmp_ge C 196 187 dX6_gives_184 (by decide) rfl (fun zk184 => ?_) (fun zk184 => ?_)
                · refine x_iconst (v := (0)) C 197 dX6_gives_196 (by decide) rfl ?_
                  exact x_zret C0 dX6_gives_197 (Nat.le_of_ble_eq_true rfl) (Nat.le_of_ble_eq_true rfl) ⟨_, rfl, ⟨by subst ehf eph ep; rw [gvF, if_neg zk6, if_neg (by rw [zk20]; decide), effV, if_neg zk112, if_neg zk136, hr2]; unfold phF; first | (rw [if_pos zk184]; done) | (rw [if_neg zk184]; done), rfl⟩⟩
                · refine x_aload_n C 188 dX6_gives_187 rfl rfl ?_
                  refine xm_get C 191 fg_X6_gives_69 rfl dX6_gives_188 rfl ?_
                  refine x_iload_n C 192 dX6_gives_191 rfl rfl ?_
                  refine xm_iald C 193 19 4 (e) (by decide) rfl rfl rfl (by omega) dX6_gives_192 rfl ?_
                  refine x_goto C 197 dX6_gives_193 (by decide) ?_
                  exact x_zret C0 dX6_gives_197 (Nat.le_of_ble_eq_true rfl) (Nat.le_of_ble_eq_true rfl) ⟨_, rfl, ⟨by subst ehf eph ep; rw [gvF, if_neg zk6, if_neg (by rw [zk20]; decide), effV, if_neg zk112, if_neg zk136, hr2]; unfold phF; first | (rw [if_pos zk184]; done) | (rw [if_neg zk184]; done), rfl⟩⟩
              · refine x_iload C 141 dX6_gives_139 rfl rfl ?_
                refine x_iload C 143 dX6_gives_141 rfl rfl ?_
                refine x_icmp_gt C 161 146 dX6_gives_143 (by decide) rfl (fun zk143 => ?_) (fun zk143 => ?_)
                · refine x_aload_n C 162 dX6_gives_161 rfl rfl ?_
                  refine xm_get C 165 fg_X6_gives_69 rfl dX6_gives_162 rfl ?_
                  refine x_iload_n C 166 dX6_gives_165 rfl rfl ?_
                  refine xm_iald C 167 19 4 (e) (by decide) rfl rfl rfl (by omega) dX6_gives_166 rfl ?_
                  refine x_iload C 169 dX6_gives_167 rfl rfl ?_
                  refine x_iload C 171 dX6_gives_169 rfl rfl ?_
                  refine x_isub C 172 dX6_gives_171 rfl ?_
                  refine x_imul C 173 dX6_gives_172 rfl ?_
                  refine x_iload C 175 dX6_gives_173 rfl rfl ?_
                  refine x_iload C 177 dX6_gives_175 rfl rfl ?_
                  refine x_isub C 178 dX6_gives_177 rfl ?_
                  refine x_idiv C 179 dX6_gives_178 (by rw [ehf, ep, hp3]; exact nzr hp1 hp2) rfl ?_
                  exact x_zret C0 dX6_gives_179 (Nat.le_of_ble_eq_true rfl) (Nat.le_of_ble_eq_true rfl) ⟨_, rfl, ⟨by subst ehf eph ep; rw [gvF, if_neg zk6, if_neg (by rw [zk20]; decide), effV, if_neg zk112, if_pos zk136, hr2]; unfold phF; first | (rw [if_pos zk143]; done) | (rw [if_neg zk143]; done), rfl⟩⟩
                · refine x_aload_n C 147 dX6_gives_146 rfl rfl ?_
                  refine xm_get C 150 fg_X6_gives_69 rfl dX6_gives_147 rfl ?_
                  refine x_iload_n C 151 dX6_gives_150 rfl rfl ?_
                  refine xm_iald C 152 19 4 (e) (by decide) rfl rfl rfl (by omega) dX6_gives_151 rfl ?_
                  refine x_iload C 154 dX6_gives_152 rfl rfl ?_
                  refine x_imul C 155 dX6_gives_154 rfl ?_
                  refine x_iload C 157 dX6_gives_155 rfl rfl ?_
                  refine x_idiv C 158 dX6_gives_157 (by rw [ehf, ep, hp3]; exact nzh hp1 hp2) rfl ?_
                  refine x_goto C 179 dX6_gives_158 (by decide) ?_
                  exact x_zret C0 dX6_gives_179 (Nat.le_of_ble_eq_true rfl) (Nat.le_of_ble_eq_true rfl) ⟨_, rfl, ⟨by subst ehf eph ep; rw [gvF, if_neg zk6, if_neg (by rw [zk20]; decide), effV, if_neg zk112, if_pos zk136, hr2]; unfold phF; first | (rw [if_pos zk143]; done) | (rw [if_neg zk143]; done), rfl⟩⟩
            · refine x_aload_n C 116 dX6_gives_115 rfl rfl ?_
              refine xm_get C 119 fg_X6_gives_69 rfl dX6_gives_116 rfl ?_
              refine x_iload_n C 120 dX6_gives_119 rfl rfl ?_
              refine xm_iald C 121 19 4 (e) (by decide) rfl rfl rfl (by omega) dX6_gives_120 rfl ?_
              refine x_iload C 123 dX6_gives_121 rfl rfl ?_
              refine x_imul C 124 dX6_gives_123 rfl ?_
              refine x_iload C 126 dX6_gives_124 rfl rfl ?_
              refine x_idiv C 127 dX6_gives_126 (by rw [ep, hp3]; exact nI_ne0 (by omega) (by omega)) rfl ?_
              exact x_zret C0 dX6_gives_127 (Nat.le_of_ble_eq_true rfl) (Nat.le_of_ble_eq_true rfl) ⟨_, rfl, ⟨by subst ehf eph ep; rw [gvF, if_neg zk6, if_neg (by rw [zk20]; decide), effV, if_pos zk112, hr2]; rfl, rfl⟩⟩
          · have zk33 := mt (nI_leI (a := x) (b := i) (by omega) (by omega)).mpr zk33
            exfalso; omega
        | succ n ih =>
          intro i k hi hki hr
          refine x_iload C 32 dX6_gives_30 rfl rfl ?_
          refine x_iload_n C 33 dX6_gives_32 rfl rfl ?_
          refine x_icmp_ge C 65 36 dX6_gives_33 (by decide) rfl (fun zk33 => ?_) (fun zk33 => ?_)
          · have zk33 := (nI_leI (a := x) (b := i) (by omega) (by omega)).mp zk33
            exfalso; omega
          · have zk33 := mt (nI_leI (a := x) (b := i) (by omega) (by omega)).mpr zk33
            refine x_iload_n C 37 dX6_gives_36 rfl rfl ?_
            refine x_aload_n C 38 dX6_gives_37 rfl rfl ?_
            refine x_aload_n C 39 dX6_gives_38 rfl rfl ?_
            refine xm_get C 42 fg_X6_gives_60 rfl dX6_gives_39 rfl ?_
            refine x_iload_n C 43 dX6_gives_42 rfl rfl ?_
            refine xm_iald C 44 16 4 (e) (by decide) rfl rfl rfl (by omega) dX6_gives_43 rfl ?_
            refine x_top hg ?_
            refine x_iload C 46 dX6_gives_44 rfl rfl ?_
            refine x_callV0_i C 49 0 0 0 10 2 (cM_isMember hl _ _ (by omega)) rfl gX6_gives_X6_isMember ⟨rfl, by decide, by decide, rfl⟩ ⟨Nat.le_of_ble_eq_true rfl, Nat.le_of_ble_eq_true rfl⟩ rfl rfl rfl rfl (Nat.le_of_ble_eq_true rfl) ⟨Nat.le_of_ble_eq_true rfl, Nat.le_of_ble_eq_true rfl⟩ dX6_gives_46 rfl rfl rfl (fun r5 w5 h5 => ?_)
            obtain ⟨rfl, rfl⟩ := h5
            refine x_if_eq C 56 52 dX6_gives_49 (by decide) rfl (fun zk49 => ?_) (fun zk49 => ?_)
            · have zk49 := bI_eq0.mp zk49
              refine x_iconst (v := (0)) C 57 dX6_gives_56 (by decide) rfl ?_
              refine x_iadd C 58 dX6_gives_57 rfl ?_
              refine x_top (show _ = nI (k + 0) from nI_add _ _) ?_
              refine x_istore_n C 59 dX6_gives_58 (by decide) rfl rfl ?_
              refine x_iinc (v := nI (i + 1)) C 62 rfl dX6_gives_59 (iinc1 _) (by decide) rfl rfl ?_
              refine x_goto C 30 dX6_gives_62 (by decide) ?_
              exact ih (i + 1) _ (by omega) (by omega) (by rw [hr, ahd]; simp only [zk49, if_true, if_false, Bool.false_eq_true]; try rfl)
            · have zk49 := bI_ne0.mp zk49
              refine x_iconst (v := (1)) C 53 dX6_gives_52 (by decide) rfl ?_
              refine x_goto C 57 dX6_gives_53 (by decide) ?_
              refine x_iadd C 58 dX6_gives_57 rfl ?_
              refine x_top (show _ = nI (k + 1) from nI_add _ _) ?_
              refine x_istore_n C 59 dX6_gives_58 (by decide) rfl rfl ?_
              refine x_iinc (v := nI (i + 1)) C 62 rfl dX6_gives_59 (iinc1 _) (by decide) rfl rfl ?_
              refine x_goto C 30 dX6_gives_62 (by decide) ?_
              exact ih (i + 1) _ (by omega) (by omega) (by rw [hr, ahd]; simp only [zk49, if_true, if_false, Bool.false_eq_true]; try rfl)
      exact lp30 x 0 0 (by omega) (by omega) rfl
    · have zk20 := bI_eq0.mp zk20
      refine x_iconst (v := (0)) C 24 dX6_gives_23 (by decide) rfl ?_
      exact x_zret C0 dX6_gives_24 (Nat.le_of_ble_eq_true rfl) (Nat.le_of_ble_eq_true rfl) ⟨_, rfl, ⟨by first | (rw [gvF, if_pos zk6]; done) | (rw [gvF, if_neg zk6, if_pos zk20]; done), rfl⟩⟩
theorem fg_X6_levelOf_51 : gF RX6 wsX6_levelOf 51 10 15 := ⟨RX6, TX6, 36, "StageConsoleModel", rfl, fun w h => (List.mem_cons_of_mem _ (List.mem_append_left _ (List.mem_append_left _ (List.mem_append_right _ h)))), by decide, (List.mem_cons_of_mem _ (List.mem_append_left _ (List.mem_append_left _ (List.mem_append_left _ (List.mem_append_left _ (List.mem_of_getElem? (i := 0) rfl)))))), Or.inl rfl⟩
theorem fg_X6_levelOf_178 : gF RX6 wsX6_levelOf 178 10 26 := ⟨RX6, TX6, 36, "StageConsoleModel", rfl, fun w h => (List.mem_cons_of_mem _ (List.mem_append_left _ (List.mem_append_left _ (List.mem_append_right _ h)))), by decide, (List.mem_cons_of_mem _ (List.mem_append_left _ (List.mem_append_left _ (List.mem_append_left _ (List.mem_append_left _ (List.mem_of_getElem? (i := 1) rfl)))))), Or.inl rfl⟩
theorem fg_X6_levelOf_94 : gF RX6 wsX6_levelOf 94 10 33 := ⟨RX6, TX6, 36, "StageConsoleModel", rfl, fun w h => (List.mem_cons_of_mem _ (List.mem_append_left _ (List.mem_append_left _ (List.mem_append_right _ h)))), by decide, (List.mem_cons_of_mem _ (List.mem_append_left _ (List.mem_append_left _ (List.mem_append_left _ (List.mem_append_left _ (List.mem_of_getElem? (i := 6) rfl)))))), Or.inl rfl⟩
set_option maxRecDepth 100000 in
set_option maxHeartbeats 4000000 in
theorem cM_levelOf (hl : l.stackTraces = false) {I : Nat → Nat → Int32} {eg : Nat → Nat} {nq ng ne nt : Nat} (hM : MI I eg nq ng ne nt) (x : Nat) (hx : x < 12) : Ct (gm D a E0) l yX6_levelOf wsX6_levelOf { frames := 12, cells := 0, slots := 0, locals := 300 } [.ref m, .int (nI x)] (wM m am a I en) (qI fun v w => v = lvF I eg ng ne x ∧ w = wM m am a I en) noX := by
  refine Ct.of [some (.ref m), some (.int (nI x)), none, none] rfl hl (by decide) (Nat.le_of_ble_eq_true rfl) rfl (fun φ C0 => ?_)
  have C := C0.1
  obtain ⟨hM0, hM2, hM3, hM4, hMs, hMt, hMe, hMp⟩ := id hM
  have hne := hM3.2
  refine x_aload_n C 1 dX6_levelOf_0 rfl rfl ?_
  refine xm_get C 4 fg_X6_levelOf_51 rfl dX6_levelOf_1 rfl ?_
  refine x_iload_n C 5 dX6_levelOf_4 rfl rfl ?_
  refine xm_iald C 6 13 12 (x) (by decide) rfl rfl rfl (by omega) dX6_levelOf_5 rfl ?_
  refine x_iconst (v := (-1)) C 7 dX6_levelOf_6 (by decide) rfl ?_
  refine x_icmp_eq C 17 10 dX6_levelOf_7 (by decide) rfl (fun zk7 => ?_) (fun zk7 => ?_)
  · refine x_aload_n C 18 dX6_levelOf_17 rfl rfl ?_
    refine x_iload_n C 19 dX6_levelOf_18 rfl rfl ?_
    refine x_callV0_i C 22 0 0 0 10 1 (cM_base hl _ hx (hMt x hx) hM2.1 hM2.2 (hMs x hx)) rfl gX6_levelOf_X6_base ⟨rfl, by decide, by decide, rfl⟩ ⟨Nat.le_of_ble_eq_true rfl, Nat.le_of_ble_eq_true rfl⟩ rfl rfl rfl rfl (Nat.le_of_ble_eq_true rfl) ⟨Nat.le_of_ble_eq_true rfl, Nat.le_of_ble_eq_true rfl⟩ dX6_levelOf_19 rfl rfl rfl (fun r1 w1 h1 => ?_)
    obtain ⟨rfl, rfl⟩ := h1
    refine x_nm (fun b eb => ?_)
    refine x_istore_n C 23 dX6_levelOf_22 (by decide) rfl rfl ?_
    refine x_iconst (v := (0)) C 24 dX6_levelOf_23 (by decide) rfl ?_
    refine x_istore_n C 25 dX6_levelOf_24 (by decide) rfl rfl ?_
    have lp25 : ∀ (n i : Nat) (b : Int32), i + n = ne → smL I eg x ne 0 (bsF I ng x) = smL I eg x n i b → X φ 25 [some (.ref m), some (.int (nI x)), some (.int b), some (.int (nI i))] [] (wM m am a I en) 0 0 := by
      intro n
      induction n with
      | zero =>
        intro i b hi hr
        refine x_iload_n C 26 dX6_levelOf_25 rfl rfl ?_
        refine x_aload_n C 27 dX6_levelOf_26 rfl rfl ?_
        refine xm_get C 30 fg_X6_levelOf_178 rfl dX6_levelOf_27 rfl ?_
        refine x_top hM3.1 ?_
        refine x_icmp_ge C 48 33 dX6_levelOf_30 (by decide) rfl (fun zk30 => ?_) (fun zk30 => ?_)
        · have zk30 := (nI_leI (a := ne) (b := i) (by omega) (by omega)).mp zk30
          refine x_sipush (v := (255)) C 51 dX6_levelOf_48 (by decide) rfl ?_
          refine x_iload_n C 52 dX6_levelOf_51 rfl rfl ?_
          refine x_mmin C 55 (List.mem_cons_of_mem _ (List.mem_append_left _ (List.mem_append_left _ (List.mem_append_left _ (List.mem_append_left _ (List.mem_of_getElem? (i := 2) rfl)))))) (List.mem_cons_of_mem _ (List.mem_append_left _ (List.mem_append_left _ (List.mem_append_left _ (List.mem_append_left _ (List.mem_of_getElem? (i := 3) rfl)))))) (List.mem_cons_of_mem _ (List.mem_append_left _ (List.mem_append_left _ (List.mem_append_left _ (List.mem_append_left _ (List.mem_of_getElem? (i := 4) rfl)))))) (List.mem_cons_of_mem _ (List.mem_append_left _ (List.mem_append_left _ (List.mem_append_left _ (List.mem_append_left _ (List.mem_of_getElem? (i := 5) rfl)))))) (Nat.le_of_ble_eq_true rfl) (Nat.le_of_ble_eq_true rfl) (Nat.le_of_ble_eq_true rfl) (Nat.le_of_ble_eq_true rfl) dX6_levelOf_52 rfl ?_
          refine x_aload_n C 56 dX6_levelOf_55 rfl rfl ?_
          refine xm_get C 59 fg_X6_levelOf_94 rfl dX6_levelOf_56 rfl ?_
          refine x_imul C 60 dX6_levelOf_59 rfl ?_
          refine x_sipush (v := (255)) C 63 dX6_levelOf_60 (by decide) rfl ?_
          refine x_idiv C 64 dX6_levelOf_63 (by decide) rfl ?_
          exact x_zret C0 dX6_levelOf_64 (Nat.le_of_ble_eq_true rfl) (Nat.le_of_ble_eq_true rfl) ⟨_, rfl, ⟨by rw [lvF, if_pos zk7, hr]; rfl, rfl⟩⟩
        · have zk30 := mt (nI_leI (a := ne) (b := i) (by omega) (by omega)).mpr zk30
          exfalso; omega
      | succ n ih =>
        intro i b hi hr
        refine x_iload_n C 26 dX6_levelOf_25 rfl rfl ?_
        refine x_aload_n C 27 dX6_levelOf_26 rfl rfl ?_
        refine xm_get C 30 fg_X6_levelOf_178 rfl dX6_levelOf_27 rfl ?_
        refine x_top hM3.1 ?_
        refine x_icmp_ge C 48 33 dX6_levelOf_30 (by decide) rfl (fun zk30 => ?_) (fun zk30 => ?_)
        · have zk30 := (nI_leI (a := ne) (b := i) (by omega) (by omega)).mp zk30
          exfalso; omega
        · have zk30 := mt (nI_leI (a := ne) (b := i) (by omega) (by omega)).mpr zk30
          refine x_iload_n C 34 dX6_levelOf_33 rfl rfl ?_
          refine x_aload_n C 35 dX6_levelOf_34 rfl rfl ?_
          refine x_iload_n C 36 dX6_levelOf_35 rfl rfl ?_
          refine x_iload_n C 37 dX6_levelOf_36 rfl rfl ?_
          refine x_callV0_i C 40 0 0 0 10 2 (cM_gives hl _ _ (by omega) hx (hMe _ (by omega)).1 (Nat.lt_of_lt_of_le (hMe _ (by omega)).2 hM2.2) (hMp _ (by omega))) rfl gX6_levelOf_X6_gives ⟨rfl, by decide, by decide, rfl⟩ ⟨Nat.le_of_ble_eq_true rfl, Nat.le_of_ble_eq_true rfl⟩ rfl rfl rfl rfl (Nat.le_of_ble_eq_true rfl) ⟨Nat.le_of_ble_eq_true rfl, Nat.le_of_ble_eq_true rfl⟩ dX6_levelOf_37 rfl rfl rfl (fun r3 w3 h3 => ?_)
          obtain ⟨rfl, rfl⟩ := h3
          refine x_iadd C 41 dX6_levelOf_40 rfl ?_
          refine x_nm (fun b2 eb2 => ?_)
          refine x_istore_n C 42 dX6_levelOf_41 (by decide) rfl rfl ?_
          refine x_iinc (v := nI (i + 1)) C 45 rfl dX6_levelOf_42 (iinc1 _) (by decide) rfl rfl ?_
          refine x_goto C 25 dX6_levelOf_45 (by decide) ?_
          exact ih (i + 1) _ (by omega) (by rw [hr, smL, eb2])
    exact lp25 ne 0 _ (by omega) (by rw [eb])
  · refine x_aload_n C 11 dX6_levelOf_10 rfl rfl ?_
    refine xm_get C 14 fg_X6_levelOf_51 rfl dX6_levelOf_11 rfl ?_
    refine x_iload_n C 15 dX6_levelOf_14 rfl rfl ?_
    refine xm_iald C 16 13 12 (x) (by decide) rfl rfl rfl (by omega) dX6_levelOf_15 rfl ?_
    exact x_zret C0 dX6_levelOf_16 (Nat.le_of_ble_eq_true rfl) (Nat.le_of_ble_eq_true rfl) ⟨_, rfl, ⟨by rw [lvF, if_neg zk7], rfl⟩⟩
theorem fp_X6_setChange_98 : pF RX6 wsX6_setChange 98 10 35 false (.int) := ⟨RX6, TX6, 36, "StageConsoleModel", tyX6, rfl, fun w h => (List.mem_cons_of_mem _ (List.mem_append_left _ (List.mem_append_right _ h))), by decide, (List.mem_cons_of_mem _ (List.mem_append_left _ (List.mem_append_left _ (List.mem_of_getElem? (i := 0) rfl)))), Or.inl rfl, tyX6_ok, nmX6, rfl, rfl, fun h => absurd h (by decide)⟩
theorem fg_X6_setChange_98 : gF RX6 wsX6_setChange 98 10 35 := ⟨RX6, TX6, 36, "StageConsoleModel", rfl, fun w h => (List.mem_cons_of_mem _ (List.mem_append_left _ (List.mem_append_right _ h))), by decide, (List.mem_cons_of_mem _ (List.mem_append_left _ (List.mem_append_left _ (List.mem_of_getElem? (i := 0) rfl)))), Or.inl rfl⟩
set_option maxRecDepth 100000 in
set_option maxHeartbeats 4000000 in
theorem cM_setChange_1 (hl : l.stackTraces = false) {I : Nat → Nat → Int32} {nq : Nat} (h0 : I 30 0 = nI nq) (hq : nq ≤ 16) {x : Int32} (hk : ¬ fnd (I 0) x nq 0 < nq) {ch lv : Int32} : Ct (gm D a E0) l yX6_setChange wsX6_setChange { frames := 12, cells := 0, slots := 0, locals := 300 } [.ref m, .int x, .int ch, .int lv] (wM m am a I en) (qI fun v w => v = -1 ∧ w = wM m am a (uI I 30 8 1) en) noX := by
  refine Ct.of [some (.ref m), some (.int x), some (.int ch), some (.int lv), none, none] rfl hl (by decide) (Nat.le_of_ble_eq_true rfl) rfl (fun φ C0 => ?_)
  have C := C0.1
  refine x_aload_n C 1 dX6_setChange_0 rfl rfl ?_
  refine x_iload_n C 2 dX6_setChange_1 rfl rfl ?_
  refine x_callV0_i C 5 0 0 0 10 1 (cM_cueAt hl h0 hq _) rfl gX6_setChange_X6_cueAt ⟨rfl, by decide, by decide, rfl⟩ ⟨Nat.le_of_ble_eq_true rfl, Nat.le_of_ble_eq_true rfl⟩ rfl rfl rfl rfl (Nat.le_of_ble_eq_true rfl) ⟨Nat.le_of_ble_eq_true rfl, Nat.le_of_ble_eq_true rfl⟩ dX6_setChange_2 rfl rfl rfl (fun r1 w1 h1 => ?_)
  obtain ⟨rfl, rfl⟩ := h1
  refine x_top (show _ = (-1 : Int32) from by rw [atI, if_neg hk]) ?_
  refine x_istore C 7 dX6_setChange_5 (by decide) rfl rfl ?_
  refine x_aload_n C 8 dX6_setChange_7 rfl rfl ?_
  refine x_iload C 10 dX6_setChange_8 rfl rfl ?_
  refine x_iconst (v := (-1)) C 11 dX6_setChange_10 (by decide) rfl ?_
  refine x_icmp_ne C 18 14 dX6_setChange_11 (by decide) rfl (fun zk11 => ?_) (fun zk11 => ?_)
  · exact absurd zk11 (by decide)
  · refine x_iconst (v := (1)) C 15 dX6_setChange_14 (by decide) rfl ?_
    refine x_goto C 41 dX6_setChange_15 (by decide) ?_
    refine xm_put C 44 8 (by decide) fp_X6_setChange_98 rfl rfl dX6_setChange_41 rfl ?_
    refine x_aload_n C 45 dX6_setChange_44 rfl rfl ?_
    refine xm_get C 48 fg_X6_setChange_98 rfl dX6_setChange_45 rfl ?_
    refine x_top (show _ = (1) from rfl) ?_
    refine x_if_le C 53 51 dX6_setChange_48 (by decide) rfl (fun zk48 => ?_) (fun zk48 => ?_)
    · exact absurd zk48 (by decide)
    · refine x_iconst (v := (-1)) C 52 dX6_setChange_51 (by decide) rfl ?_
      exact x_zret C0 dX6_setChange_52 (Nat.le_of_ble_eq_true rfl) (Nat.le_of_ble_eq_true rfl) ⟨_, rfl, ⟨rfl, rfl⟩⟩
set_option maxRecDepth 100000 in
set_option maxHeartbeats 4000000 in
theorem cM_setChange_2 (hl : l.stackTraces = false) {I : Nat → Nat → Int32} {nq : Nat} (h0 : I 30 0 = nI nq) (hq : nq ≤ 16) {x : Int32} {k : Nat} (hk : fnd (I 0) x nq 0 = k) (hk2 : k < nq) {ch lv : Int32} (hc : chB ch = false) : Ct (gm D a E0) l yX6_setChange wsX6_setChange { frames := 12, cells := 0, slots := 0, locals := 300 } [.ref m, .int x, .int ch, .int lv] (wM m am a I en) (qI fun v w => v = -1 ∧ w = wM m am a (uI I 30 8 2) en) noX := by
  refine Ct.of [some (.ref m), some (.int x), some (.int ch), some (.int lv), none, none] rfl hl (by decide) (Nat.le_of_ble_eq_true rfl) rfl (fun φ C0 => ?_)
  have C := C0.1
  refine x_aload_n C 1 dX6_setChange_0 rfl rfl ?_
  refine x_iload_n C 2 dX6_setChange_1 rfl rfl ?_
  refine x_callV0_i C 5 0 0 0 10 1 (cM_cueAt hl h0 hq _) rfl gX6_setChange_X6_cueAt ⟨rfl, by decide, by decide, rfl⟩ ⟨Nat.le_of_ble_eq_true rfl, Nat.le_of_ble_eq_true rfl⟩ rfl rfl rfl rfl (Nat.le_of_ble_eq_true rfl) ⟨Nat.le_of_ble_eq_true rfl, Nat.le_of_ble_eq_true rfl⟩ dX6_setChange_2 rfl rfl rfl (fun r1 w1 h1 => ?_)
  obtain ⟨rfl, rfl⟩ := h1
  refine x_top (show _ = nI k from by rw [hk, atI, if_pos hk2]) ?_
  refine x_istore C 7 dX6_setChange_5 (by decide) rfl rfl ?_
  refine x_aload_n C 8 dX6_setChange_7 rfl rfl ?_
  refine x_iload C 10 dX6_setChange_8 rfl rfl ?_
  refine x_iconst (v := (-1)) C 11 dX6_setChange_10 (by decide) rfl ?_
  refine x_icmp_ne C 18 14 dX6_setChange_11 (by decide) rfl (fun zk11 => ?_) (fun zk11 => ?_)
  · refine x_iload_n C 19 dX6_setChange_18 rfl rfl ?_
    refine x_callS0_i C 22 0 0 1 (cM_isChannel hl _ _) rfl gX6_setChange_X6_isChannel ⟨by decide, by decide, rfl⟩ ⟨Nat.le_of_ble_eq_true rfl, Nat.le_of_ble_eq_true rfl⟩ rfl rfl (Nat.le_of_ble_eq_true rfl) ⟨Nat.le_of_ble_eq_true rfl, Nat.le_of_ble_eq_true rfl⟩ dX6_setChange_19 rfl rfl rfl (fun r2 w2 h2 => ?_)
    obtain ⟨rfl, rfl⟩ := h2
    refine x_top (show _ = (0 : Int32) from by rw [hc]; rfl) ?_
    refine x_if_ne C 29 25 dX6_setChange_22 (by decide) rfl (fun zk22 => ?_) (fun zk22 => ?_)
    · exact absurd zk22 (by decide)
    · refine x_iconst (v := (2)) C 26 dX6_setChange_25 (by decide) rfl ?_
      refine x_goto C 41 dX6_setChange_26 (by decide) ?_
      refine xm_put C 44 8 (by decide) fp_X6_setChange_98 rfl rfl dX6_setChange_41 rfl ?_
      refine x_aload_n C 45 dX6_setChange_44 rfl rfl ?_
      refine xm_get C 48 fg_X6_setChange_98 rfl dX6_setChange_45 rfl ?_
      refine x_top (show _ = (2) from rfl) ?_
      refine x_if_le C 53 51 dX6_setChange_48 (by decide) rfl (fun zk48 => ?_) (fun zk48 => ?_)
      · exact absurd zk48 (by decide)
      · refine x_iconst (v := (-1)) C 52 dX6_setChange_51 (by decide) rfl ?_
        exact x_zret C0 dX6_setChange_52 (Nat.le_of_ble_eq_true rfl) (Nat.le_of_ble_eq_true rfl) ⟨_, rfl, ⟨rfl, rfl⟩⟩
  · exact absurd zk11 (nI_nm1 (by omega))
set_option maxRecDepth 100000 in
set_option maxHeartbeats 4000000 in
theorem cM_setChange_3 (hl : l.stackTraces = false) {I : Nat → Nat → Int32} {nq : Nat} (h0 : I 30 0 = nI nq) (hq : nq ≤ 16) {x : Int32} {k : Nat} (hk : fnd (I 0) x nq 0 = k) (hk2 : k < nq) {c : Nat} {lv : Int32} (hc : c < 12) (hv : lvB lv = false) : Ct (gm D a E0) l yX6_setChange wsX6_setChange { frames := 12, cells := 0, slots := 0, locals := 300 } [.ref m, .int x, .int (nI c), .int lv] (wM m am a I en) (qI fun v w => v = -1 ∧ w = wM m am a (uI I 30 8 3) en) noX := by
  refine Ct.of [some (.ref m), some (.int x), some (.int (nI c)), some (.int lv), none, none] rfl hl (by decide) (Nat.le_of_ble_eq_true rfl) rfl (fun φ C0 => ?_)
  have C := C0.1
  refine x_aload_n C 1 dX6_setChange_0 rfl rfl ?_
  refine x_iload_n C 2 dX6_setChange_1 rfl rfl ?_
  refine x_callV0_i C 5 0 0 0 10 1 (cM_cueAt hl h0 hq _) rfl gX6_setChange_X6_cueAt ⟨rfl, by decide, by decide, rfl⟩ ⟨Nat.le_of_ble_eq_true rfl, Nat.le_of_ble_eq_true rfl⟩ rfl rfl rfl rfl (Nat.le_of_ble_eq_true rfl) ⟨Nat.le_of_ble_eq_true rfl, Nat.le_of_ble_eq_true rfl⟩ dX6_setChange_2 rfl rfl rfl (fun r1 w1 h1 => ?_)
  obtain ⟨rfl, rfl⟩ := h1
  refine x_top (show _ = nI k from by rw [hk, atI, if_pos hk2]) ?_
  refine x_istore C 7 dX6_setChange_5 (by decide) rfl rfl ?_
  refine x_aload_n C 8 dX6_setChange_7 rfl rfl ?_
  refine x_iload C 10 dX6_setChange_8 rfl rfl ?_
  refine x_iconst (v := (-1)) C 11 dX6_setChange_10 (by decide) rfl ?_
  refine x_icmp_ne C 18 14 dX6_setChange_11 (by decide) rfl (fun zk11 => ?_) (fun zk11 => ?_)
  · refine x_iload_n C 19 dX6_setChange_18 rfl rfl ?_
    refine x_callS0_i C 22 0 0 1 (cM_isChannel hl _ _) rfl gX6_setChange_X6_isChannel ⟨by decide, by decide, rfl⟩ ⟨Nat.le_of_ble_eq_true rfl, Nat.le_of_ble_eq_true rfl⟩ rfl rfl (Nat.le_of_ble_eq_true rfl) ⟨Nat.le_of_ble_eq_true rfl, Nat.le_of_ble_eq_true rfl⟩ dX6_setChange_19 rfl rfl rfl (fun r2 w2 h2 => ?_)
    obtain ⟨rfl, rfl⟩ := h2
    refine x_top (show _ = (1 : Int32) from by rw [chB_nI hc]; rfl) ?_
    refine x_if_ne C 29 25 dX6_setChange_22 (by decide) rfl (fun zk22 => ?_) (fun zk22 => ?_)
    · refine x_iload_n C 30 dX6_setChange_29 rfl rfl ?_
      refine x_callS0_i C 33 0 0 1 (cM_isLevel hl _ _) rfl gX6_setChange_X6_isLevel ⟨by decide, by decide, rfl⟩ ⟨Nat.le_of_ble_eq_true rfl, Nat.le_of_ble_eq_true rfl⟩ rfl rfl (Nat.le_of_ble_eq_true rfl) ⟨Nat.le_of_ble_eq_true rfl, Nat.le_of_ble_eq_true rfl⟩ dX6_setChange_30 rfl rfl rfl (fun r3 w3 h3 => ?_)
      obtain ⟨rfl, rfl⟩ := h3
      refine x_top (show _ = (0 : Int32) from by rw [hv]; rfl) ?_
      refine x_if_ne C 40 36 dX6_setChange_33 (by decide) rfl (fun zk33 => ?_) (fun zk33 => ?_)
      · exact absurd zk33 (by decide)
      · refine x_iconst (v := (3)) C 37 dX6_setChange_36 (by decide) rfl ?_
        refine x_goto C 41 dX6_setChange_37 (by decide) ?_
        refine xm_put C 44 8 (by decide) fp_X6_setChange_98 rfl rfl dX6_setChange_41 rfl ?_
        refine x_aload_n C 45 dX6_setChange_44 rfl rfl ?_
        refine xm_get C 48 fg_X6_setChange_98 rfl dX6_setChange_45 rfl ?_
        refine x_top (show _ = (3) from rfl) ?_
        refine x_if_le C 53 51 dX6_setChange_48 (by decide) rfl (fun zk48 => ?_) (fun zk48 => ?_)
        · exact absurd zk48 (by decide)
        · refine x_iconst (v := (-1)) C 52 dX6_setChange_51 (by decide) rfl ?_
          exact x_zret C0 dX6_setChange_52 (Nat.le_of_ble_eq_true rfl) (Nat.le_of_ble_eq_true rfl) ⟨_, rfl, ⟨rfl, rfl⟩⟩
    · exact absurd zk22 (by decide)
  · exact absurd zk11 (nI_nm1 (by omega))
theorem fg_X6_setChange_24 : gF RX6 wsX6_setChange 24 10 4 := ⟨RX6, TX6, 36, "StageConsoleModel", rfl, fun w h => (List.mem_cons_of_mem _ (List.mem_append_left _ (List.mem_append_right _ h))), by decide, (List.mem_cons_of_mem _ (List.mem_append_left _ (List.mem_append_left _ (List.mem_of_getElem? (i := 1) rfl)))), Or.inl rfl⟩
set_option maxRecDepth 100000 in
set_option maxHeartbeats 4000000 in
theorem cM_setChange_0 (hl : l.stackTraces = false) {I : Nat → Nat → Int32} {nq : Nat} (h0 : I 30 0 = nI nq) (hq : nq ≤ 16) {x : Int32} {k : Nat} (hk : fnd (I 0) x nq 0 = k) (hk2 : k < nq) {c lv : Nat} (hc : c < 12) (hv : lv < 256) : Ct (gm D a E0) l yX6_setChange wsX6_setChange { frames := 12, cells := 0, slots := 0, locals := 300 } [.ref m, .int x, .int (nI c), .int (nI lv)] (wM m am a I en) (qI fun v w => v = I 4 (12 * k + c) ∧ w = wM m am a (uI (uI I 30 8 0) 4 (12 * k + c) (nI lv)) en) noX := by
  refine Ct.of [some (.ref m), some (.int x), some (.int (nI c)), some (.int (nI lv)), none, none] rfl hl (by decide) (Nat.le_of_ble_eq_true rfl) rfl (fun φ C0 => ?_)
  have C := C0.1
  refine x_aload_n C 1 dX6_setChange_0 rfl rfl ?_
  refine x_iload_n C 2 dX6_setChange_1 rfl rfl ?_
  refine x_callV0_i C 5 0 0 0 10 1 (cM_cueAt hl h0 hq _) rfl gX6_setChange_X6_cueAt ⟨rfl, by decide, by decide, rfl⟩ ⟨Nat.le_of_ble_eq_true rfl, Nat.le_of_ble_eq_true rfl⟩ rfl rfl rfl rfl (Nat.le_of_ble_eq_true rfl) ⟨Nat.le_of_ble_eq_true rfl, Nat.le_of_ble_eq_true rfl⟩ dX6_setChange_2 rfl rfl rfl (fun r1 w1 h1 => ?_)
  obtain ⟨rfl, rfl⟩ := h1
  refine x_top (show _ = nI k from by rw [hk, atI, if_pos hk2]) ?_
  refine x_istore C 7 dX6_setChange_5 (by decide) rfl rfl ?_
  refine x_aload_n C 8 dX6_setChange_7 rfl rfl ?_
  refine x_iload C 10 dX6_setChange_8 rfl rfl ?_
  refine x_iconst (v := (-1)) C 11 dX6_setChange_10 (by decide) rfl ?_
  refine x_icmp_ne C 18 14 dX6_setChange_11 (by decide) rfl (fun zk11 => ?_) (fun zk11 => ?_)
  · refine x_iload_n C 19 dX6_setChange_18 rfl rfl ?_
    refine x_callS0_i C 22 0 0 1 (cM_isChannel hl _ _) rfl gX6_setChange_X6_isChannel ⟨by decide, by decide, rfl⟩ ⟨Nat.le_of_ble_eq_true rfl, Nat.le_of_ble_eq_true rfl⟩ rfl rfl (Nat.le_of_ble_eq_true rfl) ⟨Nat.le_of_ble_eq_true rfl, Nat.le_of_ble_eq_true rfl⟩ dX6_setChange_19 rfl rfl rfl (fun r2 w2 h2 => ?_)
    obtain ⟨rfl, rfl⟩ := h2
    refine x_top (show _ = (1 : Int32) from by rw [chB_nI hc]; rfl) ?_
    refine x_if_ne C 29 25 dX6_setChange_22 (by decide) rfl (fun zk22 => ?_) (fun zk22 => ?_)
    · refine x_iload_n C 30 dX6_setChange_29 rfl rfl ?_
      refine x_callS0_i C 33 0 0 1 (cM_isLevel hl _ _) rfl gX6_setChange_X6_isLevel ⟨by decide, by decide, rfl⟩ ⟨Nat.le_of_ble_eq_true rfl, Nat.le_of_ble_eq_true rfl⟩ rfl rfl (Nat.le_of_ble_eq_true rfl) ⟨Nat.le_of_ble_eq_true rfl, Nat.le_of_ble_eq_true rfl⟩ dX6_setChange_30 rfl rfl rfl (fun r3 w3 h3 => ?_)
      obtain ⟨rfl, rfl⟩ := h3
      refine x_top (show _ = (1 : Int32) from by rw [lvB_nI hv]; rfl) ?_
      refine x_if_ne C 40 36 dX6_setChange_33 (by decide) rfl (fun zk33 => ?_) (fun zk33 => ?_)
      · refine x_iconst (v := (0)) C 41 dX6_setChange_40 (by decide) rfl ?_
        refine xm_put C 44 8 (by decide) fp_X6_setChange_98 rfl rfl dX6_setChange_41 rfl ?_
        refine x_aload_n C 45 dX6_setChange_44 rfl rfl ?_
        refine xm_get C 48 fg_X6_setChange_98 rfl dX6_setChange_45 rfl ?_
        refine x_top (show _ = (0) from rfl) ?_
        refine x_if_le C 53 51 dX6_setChange_48 (by decide) rfl (fun zk48 => ?_) (fun zk48 => ?_)
        · refine x_aload_n C 54 dX6_setChange_53 rfl rfl ?_
          refine xm_get C 57 fg_X6_setChange_24 rfl dX6_setChange_54 rfl ?_
          refine x_bipush (v := (12)) C 59 dX6_setChange_57 (by decide) rfl ?_
          refine x_iload C 61 dX6_setChange_59 rfl rfl ?_
          refine x_imul C 62 dX6_setChange_61 rfl ?_
          refine x_top (show _ = nI (12 * k) from pk_mul _ _) ?_
          refine x_iload_n C 63 dX6_setChange_62 rfl rfl ?_
          refine x_iadd C 64 dX6_setChange_63 rfl ?_
          refine x_top (show _ = nI ((12 * k) + c) from nI_add _ _) ?_
          refine xm_iald C 65 4 192 (((12 * k) + c)) (by decide) rfl rfl rfl (by omega) dX6_setChange_64 rfl ?_
          refine x_nm (fun v ev => ?_)
          refine x_istore C 67 dX6_setChange_65 (by decide) rfl rfl ?_
          refine x_aload_n C 68 dX6_setChange_67 rfl rfl ?_
          refine xm_get C 71 fg_X6_setChange_24 rfl dX6_setChange_68 rfl ?_
          refine x_bipush (v := (12)) C 73 dX6_setChange_71 (by decide) rfl ?_
          refine x_iload C 75 dX6_setChange_73 rfl rfl ?_
          refine x_imul C 76 dX6_setChange_75 rfl ?_
          refine x_top (show _ = nI (12 * k) from pk_mul _ _) ?_
          refine x_iload_n C 77 dX6_setChange_76 rfl rfl ?_
          refine x_iadd C 78 dX6_setChange_77 rfl ?_
          refine x_top (show _ = nI ((12 * k) + c) from nI_add _ _) ?_
          refine x_iload_n C 79 dX6_setChange_78 rfl rfl ?_
          refine xm_iast C 80 4 192 (((12 * k) + c)) (by decide) rfl rfl rfl (by omega) dX6_setChange_79 rfl ?_
          refine x_iload C 82 dX6_setChange_80 rfl rfl ?_
          exact x_zret C0 dX6_setChange_82 (Nat.le_of_ble_eq_true rfl) (Nat.le_of_ble_eq_true rfl) ⟨_, rfl, ⟨ev, rfl⟩⟩
        · exact absurd zk48 (by decide)
      · exact absurd zk33 (by decide)
    · exact absurd zk22 (by decide)
  · exact absurd zk11 (nI_nm1 (by omega))
theorem fp_X6_removeChange_98 : pF RX6 wsX6_removeChange 98 10 35 false (.int) := ⟨RX6, TX6, 36, "StageConsoleModel", tyX6, rfl, fun w h => (List.mem_cons_of_mem _ (List.mem_append_left _ (List.mem_append_right _ h))), by decide, (List.mem_cons_of_mem _ (List.mem_append_left _ (List.mem_append_left _ (List.mem_of_getElem? (i := 1) rfl)))), Or.inl rfl, tyX6_ok, nmX6, rfl, rfl, fun h => absurd h (by decide)⟩
theorem fg_X6_removeChange_98 : gF RX6 wsX6_removeChange 98 10 35 := ⟨RX6, TX6, 36, "StageConsoleModel", rfl, fun w h => (List.mem_cons_of_mem _ (List.mem_append_left _ (List.mem_append_right _ h))), by decide, (List.mem_cons_of_mem _ (List.mem_append_left _ (List.mem_append_left _ (List.mem_of_getElem? (i := 1) rfl)))), Or.inl rfl⟩
set_option maxRecDepth 100000 in
set_option maxHeartbeats 4000000 in
theorem cM_removeChange_1 (hl : l.stackTraces = false) {I : Nat → Nat → Int32} {nq : Nat} (h0 : I 30 0 = nI nq) (hq : nq ≤ 16) {x : Int32} (hk : ¬ fnd (I 0) x nq 0 < nq) {ch : Int32} : Ct (gm D a E0) l yX6_removeChange wsX6_removeChange { frames := 12, cells := 0, slots := 0, locals := 300 } [.ref m, .int x, .int ch] (wM m am a I en) (qI fun v w => v = -1 ∧ w = wM m am a (uI I 30 8 1) en) noX := by
  refine Ct.of [some (.ref m), some (.int x), some (.int ch), none, none] rfl hl (by decide) (Nat.le_of_ble_eq_true rfl) rfl (fun φ C0 => ?_)
  have C := C0.1
  refine x_aload_n C 1 dX6_removeChange_0 rfl rfl ?_
  refine x_iload_n C 2 dX6_removeChange_1 rfl rfl ?_
  refine x_callV0_i C 5 0 0 0 10 1 (cM_cueAt hl h0 hq _) rfl gX6_removeChange_X6_cueAt ⟨rfl, by decide, by decide, rfl⟩ ⟨Nat.le_of_ble_eq_true rfl, Nat.le_of_ble_eq_true rfl⟩ rfl rfl rfl rfl (Nat.le_of_ble_eq_true rfl) ⟨Nat.le_of_ble_eq_true rfl, Nat.le_of_ble_eq_true rfl⟩ dX6_removeChange_2 rfl rfl rfl (fun r1 w1 h1 => ?_)
  obtain ⟨rfl, rfl⟩ := h1
  refine x_top (show _ = (-1 : Int32) from by rw [atI, if_neg hk]) ?_
  refine x_istore_n C 6 dX6_removeChange_5 (by decide) rfl rfl ?_
  refine x_aload_n C 7 dX6_removeChange_6 rfl rfl ?_
  refine x_iload_n C 8 dX6_removeChange_7 rfl rfl ?_
  refine x_iconst (v := (-1)) C 9 dX6_removeChange_8 (by decide) rfl ?_
  refine x_icmp_ne C 16 12 dX6_removeChange_9 (by decide) rfl (fun zk9 => ?_) (fun zk9 => ?_)
  · exact absurd zk9 (by decide)
  · refine x_iconst (v := (1)) C 13 dX6_removeChange_12 (by decide) rfl ?_
    refine x_goto C 47 dX6_removeChange_13 (by decide) ?_
    refine xm_put C 50 8 (by decide) fp_X6_removeChange_98 rfl rfl dX6_removeChange_47 rfl ?_
    refine x_aload_n C 51 dX6_removeChange_50 rfl rfl ?_
    refine xm_get C 54 fg_X6_removeChange_98 rfl dX6_removeChange_51 rfl ?_
    refine x_top (show _ = (1) from rfl) ?_
    refine x_if_le C 59 57 dX6_removeChange_54 (by decide) rfl (fun zk54 => ?_) (fun zk54 => ?_)
    · exact absurd zk54 (by decide)
    · refine x_iconst (v := (-1)) C 58 dX6_removeChange_57 (by decide) rfl ?_
      exact x_zret C0 dX6_removeChange_58 (Nat.le_of_ble_eq_true rfl) (Nat.le_of_ble_eq_true rfl) ⟨_, rfl, ⟨rfl, rfl⟩⟩
set_option maxRecDepth 100000 in
set_option maxHeartbeats 4000000 in
theorem cM_removeChange_2 (hl : l.stackTraces = false) {I : Nat → Nat → Int32} {nq : Nat} (h0 : I 30 0 = nI nq) (hq : nq ≤ 16) {x : Int32} {k : Nat} (hk : fnd (I 0) x nq 0 = k) (hk2 : k < nq) {ch : Int32} (hc : chB ch = false) : Ct (gm D a E0) l yX6_removeChange wsX6_removeChange { frames := 12, cells := 0, slots := 0, locals := 300 } [.ref m, .int x, .int ch] (wM m am a I en) (qI fun v w => v = -1 ∧ w = wM m am a (uI I 30 8 2) en) noX := by
  refine Ct.of [some (.ref m), some (.int x), some (.int ch), none, none] rfl hl (by decide) (Nat.le_of_ble_eq_true rfl) rfl (fun φ C0 => ?_)
  have C := C0.1
  refine x_aload_n C 1 dX6_removeChange_0 rfl rfl ?_
  refine x_iload_n C 2 dX6_removeChange_1 rfl rfl ?_
  refine x_callV0_i C 5 0 0 0 10 1 (cM_cueAt hl h0 hq _) rfl gX6_removeChange_X6_cueAt ⟨rfl, by decide, by decide, rfl⟩ ⟨Nat.le_of_ble_eq_true rfl, Nat.le_of_ble_eq_true rfl⟩ rfl rfl rfl rfl (Nat.le_of_ble_eq_true rfl) ⟨Nat.le_of_ble_eq_true rfl, Nat.le_of_ble_eq_true rfl⟩ dX6_removeChange_2 rfl rfl rfl (fun r1 w1 h1 => ?_)
  obtain ⟨rfl, rfl⟩ := h1
  refine x_top (show _ = nI k from by rw [hk, atI, if_pos hk2]) ?_
  refine x_istore_n C 6 dX6_removeChange_5 (by decide) rfl rfl ?_
  refine x_aload_n C 7 dX6_removeChange_6 rfl rfl ?_
  refine x_iload_n C 8 dX6_removeChange_7 rfl rfl ?_
  refine x_iconst (v := (-1)) C 9 dX6_removeChange_8 (by decide) rfl ?_
  refine x_icmp_ne C 16 12 dX6_removeChange_9 (by decide) rfl (fun zk9 => ?_) (fun zk9 => ?_)
  · refine x_iload_n C 17 dX6_removeChange_16 rfl rfl ?_
    refine x_callS0_i C 20 0 0 1 (cM_isChannel hl _ _) rfl gX6_removeChange_X6_isChannel ⟨by decide, by decide, rfl⟩ ⟨Nat.le_of_ble_eq_true rfl, Nat.le_of_ble_eq_true rfl⟩ rfl rfl (Nat.le_of_ble_eq_true rfl) ⟨Nat.le_of_ble_eq_true rfl, Nat.le_of_ble_eq_true rfl⟩ dX6_removeChange_17 rfl rfl rfl (fun r2 w2 h2 => ?_)
    obtain ⟨rfl, rfl⟩ := h2
    refine x_top (show _ = (0 : Int32) from by rw [hc]; rfl) ?_
    refine x_if_ne C 27 23 dX6_removeChange_20 (by decide) rfl (fun zk20 => ?_) (fun zk20 => ?_)
    · exact absurd zk20 (by decide)
    · refine x_iconst (v := (2)) C 24 dX6_removeChange_23 (by decide) rfl ?_
      refine x_goto C 47 dX6_removeChange_24 (by decide) ?_
      refine xm_put C 50 8 (by decide) fp_X6_removeChange_98 rfl rfl dX6_removeChange_47 rfl ?_
      refine x_aload_n C 51 dX6_removeChange_50 rfl rfl ?_
      refine xm_get C 54 fg_X6_removeChange_98 rfl dX6_removeChange_51 rfl ?_
      refine x_top (show _ = (2) from rfl) ?_
      refine x_if_le C 59 57 dX6_removeChange_54 (by decide) rfl (fun zk54 => ?_) (fun zk54 => ?_)
      · exact absurd zk54 (by decide)
      · refine x_iconst (v := (-1)) C 58 dX6_removeChange_57 (by decide) rfl ?_
        exact x_zret C0 dX6_removeChange_58 (Nat.le_of_ble_eq_true rfl) (Nat.le_of_ble_eq_true rfl) ⟨_, rfl, ⟨rfl, rfl⟩⟩
  · exact absurd zk9 (nI_nm1 (by omega))
theorem fg_X6_removeChange_24 : gF RX6 wsX6_removeChange 24 10 4 := ⟨RX6, TX6, 36, "StageConsoleModel", rfl, fun w h => (List.mem_cons_of_mem _ (List.mem_append_left _ (List.mem_append_right _ h))), by decide, (List.mem_cons_of_mem _ (List.mem_append_left _ (List.mem_append_left _ (List.mem_of_getElem? (i := 0) rfl)))), Or.inl rfl⟩
set_option maxRecDepth 100000 in
set_option maxHeartbeats 4000000 in
theorem cM_removeChange_1b (hl : l.stackTraces = false) {I : Nat → Nat → Int32} {nq : Nat} (h0 : I 30 0 = nI nq) (hq : nq ≤ 16) {x : Int32} {k : Nat} (hk : fnd (I 0) x nq 0 = k) (hk2 : k < nq) {c : Nat} (hc : c < 12) (hv : I 4 (12 * k + c) = -1) : Ct (gm D a E0) l yX6_removeChange wsX6_removeChange { frames := 12, cells := 0, slots := 0, locals := 300 } [.ref m, .int x, .int (nI c)] (wM m am a I en) (qI fun v w => v = -1 ∧ w = wM m am a (uI I 30 8 1) en) noX := by
  refine Ct.of [some (.ref m), some (.int x), some (.int (nI c)), none, none] rfl hl (by decide) (Nat.le_of_ble_eq_true rfl) rfl (fun φ C0 => ?_)
  have C := C0.1
  refine x_aload_n C 1 dX6_removeChange_0 rfl rfl ?_
  refine x_iload_n C 2 dX6_removeChange_1 rfl rfl ?_
  refine x_callV0_i C 5 0 0 0 10 1 (cM_cueAt hl h0 hq _) rfl gX6_removeChange_X6_cueAt ⟨rfl, by decide, by decide, rfl⟩ ⟨Nat.le_of_ble_eq_true rfl, Nat.le_of_ble_eq_true rfl⟩ rfl rfl rfl rfl (Nat.le_of_ble_eq_true rfl) ⟨Nat.le_of_ble_eq_true rfl, Nat.le_of_ble_eq_true rfl⟩ dX6_removeChange_2 rfl rfl rfl (fun r1 w1 h1 => ?_)
  obtain ⟨rfl, rfl⟩ := h1
  refine x_top (show _ = nI k from by rw [hk, atI, if_pos hk2]) ?_
  refine x_istore_n C 6 dX6_removeChange_5 (by decide) rfl rfl ?_
  refine x_aload_n C 7 dX6_removeChange_6 rfl rfl ?_
  refine x_iload_n C 8 dX6_removeChange_7 rfl rfl ?_
  refine x_iconst (v := (-1)) C 9 dX6_removeChange_8 (by decide) rfl ?_
  refine x_icmp_ne C 16 12 dX6_removeChange_9 (by decide) rfl (fun zk9 => ?_) (fun zk9 => ?_)
  · refine x_iload_n C 17 dX6_removeChange_16 rfl rfl ?_
    refine x_callS0_i C 20 0 0 1 (cM_isChannel hl _ _) rfl gX6_removeChange_X6_isChannel ⟨by decide, by decide, rfl⟩ ⟨Nat.le_of_ble_eq_true rfl, Nat.le_of_ble_eq_true rfl⟩ rfl rfl (Nat.le_of_ble_eq_true rfl) ⟨Nat.le_of_ble_eq_true rfl, Nat.le_of_ble_eq_true rfl⟩ dX6_removeChange_17 rfl rfl rfl (fun r2 w2 h2 => ?_)
    obtain ⟨rfl, rfl⟩ := h2
    refine x_top (show _ = (1 : Int32) from by rw [chB_nI hc]; rfl) ?_
    refine x_if_ne C 27 23 dX6_removeChange_20 (by decide) rfl (fun zk20 => ?_) (fun zk20 => ?_)
    · refine x_aload_n C 28 dX6_removeChange_27 rfl rfl ?_
      refine xm_get C 31 fg_X6_removeChange_24 rfl dX6_removeChange_28 rfl ?_
      refine x_bipush (v := (12)) C 33 dX6_removeChange_31 (by decide) rfl ?_
      refine x_iload_n C 34 dX6_removeChange_33 rfl rfl ?_
      refine x_imul C 35 dX6_removeChange_34 rfl ?_
      refine x_top (show _ = nI (12 * k) from pk_mul _ _) ?_
      refine x_iload_n C 36 dX6_removeChange_35 rfl rfl ?_
      refine x_iadd C 37 dX6_removeChange_36 rfl ?_
      refine x_top (show _ = nI ((12 * k) + c) from nI_add _ _) ?_
      refine xm_iald C 38 4 192 (((12 * k) + c)) (by decide) rfl rfl rfl (by omega) dX6_removeChange_37 rfl ?_
      refine x_iconst (v := (-1)) C 39 dX6_removeChange_38 (by decide) rfl ?_
      refine x_icmp_ne C 46 42 dX6_removeChange_39 (by decide) rfl (fun zk39 => ?_) (fun zk39 => ?_)
      · exact absurd hv zk39
      · refine x_iconst (v := (1)) C 43 dX6_removeChange_42 (by decide) rfl ?_
        refine x_goto C 47 dX6_removeChange_43 (by decide) ?_
        refine xm_put C 50 8 (by decide) fp_X6_removeChange_98 rfl rfl dX6_removeChange_47 rfl ?_
        refine x_aload_n C 51 dX6_removeChange_50 rfl rfl ?_
        refine xm_get C 54 fg_X6_removeChange_98 rfl dX6_removeChange_51 rfl ?_
        refine x_top (show _ = (1) from rfl) ?_
        refine x_if_le C 59 57 dX6_removeChange_54 (by decide) rfl (fun zk54 => ?_) (fun zk54 => ?_)
        · exact absurd zk54 (by decide)
        · refine x_iconst (v := (-1)) C 58 dX6_removeChange_57 (by decide) rfl ?_
          exact x_zret C0 dX6_removeChange_58 (Nat.le_of_ble_eq_true rfl) (Nat.le_of_ble_eq_true rfl) ⟨_, rfl, ⟨rfl, rfl⟩⟩
    · exact absurd zk20 (by decide)
  · exact absurd zk9 (nI_nm1 (by omega))
set_option maxRecDepth 100000 in
set_option maxHeartbeats 4000000 in
theorem cM_removeChange_0 (hl : l.stackTraces = false) {I : Nat → Nat → Int32} {nq : Nat} (h0 : I 30 0 = nI nq) (hq : nq ≤ 16) {x : Int32} {k : Nat} (hk : fnd (I 0) x nq 0 = k) (hk2 : k < nq) {c : Nat} (hc : c < 12) (hv : ¬ I 4 (12 * k + c) = -1) : Ct (gm D a E0) l yX6_removeChange wsX6_removeChange { frames := 12, cells := 0, slots := 0, locals := 300 } [.ref m, .int x, .int (nI c)] (wM m am a I en) (qI fun v w => v = I 4 (12 * k + c) ∧ w = wM m am a (uI (uI I 30 8 0) 4 (12 * k + c) (-1)) en) noX := by
  refine Ct.of [some (.ref m), some (.int x), some (.int (nI c)), none, none] rfl hl (by decide) (Nat.le_of_ble_eq_true rfl) rfl (fun φ C0 => ?_)
  have C := C0.1
  refine x_aload_n C 1 dX6_removeChange_0 rfl rfl ?_
  refine x_iload_n C 2 dX6_removeChange_1 rfl rfl ?_
  refine x_callV0_i C 5 0 0 0 10 1 (cM_cueAt hl h0 hq _) rfl gX6_removeChange_X6_cueAt ⟨rfl, by decide, by decide, rfl⟩ ⟨Nat.le_of_ble_eq_true rfl, Nat.le_of_ble_eq_true rfl⟩ rfl rfl rfl rfl (Nat.le_of_ble_eq_true rfl) ⟨Nat.le_of_ble_eq_true rfl, Nat.le_of_ble_eq_true rfl⟩ dX6_removeChange_2 rfl rfl rfl (fun r1 w1 h1 => ?_)
  obtain ⟨rfl, rfl⟩ := h1
  refine x_top (show _ = nI k from by rw [hk, atI, if_pos hk2]) ?_
  refine x_istore_n C 6 dX6_removeChange_5 (by decide) rfl rfl ?_
  refine x_aload_n C 7 dX6_removeChange_6 rfl rfl ?_
  refine x_iload_n C 8 dX6_removeChange_7 rfl rfl ?_
  refine x_iconst (v := (-1)) C 9 dX6_removeChange_8 (by decide) rfl ?_
  refine x_icmp_ne C 16 12 dX6_removeChange_9 (by decide) rfl (fun zk9 => ?_) (fun zk9 => ?_)
  · refine x_iload_n C 17 dX6_removeChange_16 rfl rfl ?_
    refine x_callS0_i C 20 0 0 1 (cM_isChannel hl _ _) rfl gX6_removeChange_X6_isChannel ⟨by decide, by decide, rfl⟩ ⟨Nat.le_of_ble_eq_true rfl, Nat.le_of_ble_eq_true rfl⟩ rfl rfl (Nat.le_of_ble_eq_true rfl) ⟨Nat.le_of_ble_eq_true rfl, Nat.le_of_ble_eq_true rfl⟩ dX6_removeChange_17 rfl rfl rfl (fun r2 w2 h2 => ?_)
    obtain ⟨rfl, rfl⟩ := h2
    refine x_top (show _ = (1 : Int32) from by rw [chB_nI hc]; rfl) ?_
    refine x_if_ne C 27 23 dX6_removeChange_20 (by decide) rfl (fun zk20 => ?_) (fun zk20 => ?_)
    · refine x_aload_n C 28 dX6_removeChange_27 rfl rfl ?_
      refine xm_get C 31 fg_X6_removeChange_24 rfl dX6_removeChange_28 rfl ?_
      refine x_bipush (v := (12)) C 33 dX6_removeChange_31 (by decide) rfl ?_
      refine x_iload_n C 34 dX6_removeChange_33 rfl rfl ?_
      refine x_imul C 35 dX6_removeChange_34 rfl ?_
      refine x_top (show _ = nI (12 * k) from pk_mul _ _) ?_
      refine x_iload_n C 36 dX6_removeChange_35 rfl rfl ?_
      refine x_iadd C 37 dX6_removeChange_36 rfl ?_
      refine x_top (show _ = nI ((12 * k) + c) from nI_add _ _) ?_
      refine xm_iald C 38 4 192 (((12 * k) + c)) (by decide) rfl rfl rfl (by omega) dX6_removeChange_37 rfl ?_
      refine x_iconst (v := (-1)) C 39 dX6_removeChange_38 (by decide) rfl ?_
      refine x_icmp_ne C 46 42 dX6_removeChange_39 (by decide) rfl (fun zk39 => ?_) (fun zk39 => ?_)
      · refine x_iconst (v := (0)) C 47 dX6_removeChange_46 (by decide) rfl ?_
        refine xm_put C 50 8 (by decide) fp_X6_removeChange_98 rfl rfl dX6_removeChange_47 rfl ?_
        refine x_aload_n C 51 dX6_removeChange_50 rfl rfl ?_
        refine xm_get C 54 fg_X6_removeChange_98 rfl dX6_removeChange_51 rfl ?_
        refine x_top (show _ = (0) from rfl) ?_
        refine x_if_le C 59 57 dX6_removeChange_54 (by decide) rfl (fun zk54 => ?_) (fun zk54 => ?_)
        · refine x_aload_n C 60 dX6_removeChange_59 rfl rfl ?_
          refine xm_get C 63 fg_X6_removeChange_24 rfl dX6_removeChange_60 rfl ?_
          refine x_bipush (v := (12)) C 65 dX6_removeChange_63 (by decide) rfl ?_
          refine x_iload_n C 66 dX6_removeChange_65 rfl rfl ?_
          refine x_imul C 67 dX6_removeChange_66 rfl ?_
          refine x_top (show _ = nI (12 * k) from pk_mul _ _) ?_
          refine x_iload_n C 68 dX6_removeChange_67 rfl rfl ?_
          refine x_iadd C 69 dX6_removeChange_68 rfl ?_
          refine x_top (show _ = nI ((12 * k) + c) from nI_add _ _) ?_
          refine xm_iald C 70 4 192 (((12 * k) + c)) (by decide) rfl rfl rfl (by omega) dX6_removeChange_69 rfl ?_
          refine x_nm (fun v ev => ?_)
          refine x_istore C 72 dX6_removeChange_70 (by decide) rfl rfl ?_
          refine x_aload_n C 73 dX6_removeChange_72 rfl rfl ?_
          refine xm_get C 76 fg_X6_removeChange_24 rfl dX6_removeChange_73 rfl ?_
          refine x_bipush (v := (12)) C 78 dX6_removeChange_76 (by decide) rfl ?_
          refine x_iload_n C 79 dX6_removeChange_78 rfl rfl ?_
          refine x_imul C 80 dX6_removeChange_79 rfl ?_
          refine x_top (show _ = nI (12 * k) from pk_mul _ _) ?_
          refine x_iload_n C 81 dX6_removeChange_80 rfl rfl ?_
          refine x_iadd C 82 dX6_removeChange_81 rfl ?_
          refine x_top (show _ = nI ((12 * k) + c) from nI_add _ _) ?_
          refine x_iconst (v := (-1)) C 83 dX6_removeChange_82 (by decide) rfl ?_
          refine xm_iast C 84 4 192 (((12 * k) + c)) (by decide) rfl rfl rfl (by omega) dX6_removeChange_83 rfl ?_
          refine x_iload C 86 dX6_removeChange_84 rfl rfl ?_
          exact x_zret C0 dX6_removeChange_86 (Nat.le_of_ble_eq_true rfl) (Nat.le_of_ble_eq_true rfl) ⟨_, rfl, ⟨ev, rfl⟩⟩
        · exact absurd zk54 (by decide)
      · exact absurd zk39 hv
    · exact absurd zk20 (by decide)
  · exact absurd zk9 (nI_nm1 (by omega))
theorem fp_X6_setBlock_98 : pF RX6 wsX6_setBlock 98 10 35 false (.int) := ⟨RX6, TX6, 36, "StageConsoleModel", tyX6, rfl, fun w h => (List.mem_cons_of_mem _ (List.mem_append_left _ (List.mem_append_right _ h))), by decide, (List.mem_cons_of_mem _ (List.mem_append_left _ (List.mem_append_left _ (List.mem_of_getElem? (i := 0) rfl)))), Or.inl rfl, tyX6_ok, nmX6, rfl, rfl, fun h => absurd h (by decide)⟩
theorem fg_X6_setBlock_98 : gF RX6 wsX6_setBlock 98 10 35 := ⟨RX6, TX6, 36, "StageConsoleModel", rfl, fun w h => (List.mem_cons_of_mem _ (List.mem_append_left _ (List.mem_append_right _ h))), by decide, (List.mem_cons_of_mem _ (List.mem_append_left _ (List.mem_append_left _ (List.mem_of_getElem? (i := 0) rfl)))), Or.inl rfl⟩
set_option maxRecDepth 100000 in
set_option maxHeartbeats 4000000 in
theorem cM_setBlock_1 (hl : l.stackTraces = false) {I : Nat → Nat → Int32} {nq : Nat} (h0 : I 30 0 = nI nq) (hq : nq ≤ 16) {x : Int32} (hk : ¬ fnd (I 0) x nq 0 < nq) {b : Bool} : Ct (gm D a E0) l yX6_setBlock wsX6_setBlock { frames := 12, cells := 0, slots := 0, locals := 300 } [.ref m, .int x, .int (bI b)] (wM m am a I en) (qI fun v w => v = 0 ∧ w = wM m am a (uI I 30 8 1) en) noX := by
  refine Ct.of [some (.ref m), some (.int x), some (.int (bI b)), none, none] rfl hl (by decide) (Nat.le_of_ble_eq_true rfl) rfl (fun φ C0 => ?_)
  have C := C0.1
  refine x_aload_n C 1 dX6_setBlock_0 rfl rfl ?_
  refine x_iload_n C 2 dX6_setBlock_1 rfl rfl ?_
  refine x_callV0_i C 5 0 0 0 10 1 (cM_cueAt hl h0 hq _) rfl gX6_setBlock_X6_cueAt ⟨rfl, by decide, by decide, rfl⟩ ⟨Nat.le_of_ble_eq_true rfl, Nat.le_of_ble_eq_true rfl⟩ rfl rfl rfl rfl (Nat.le_of_ble_eq_true rfl) ⟨Nat.le_of_ble_eq_true rfl, Nat.le_of_ble_eq_true rfl⟩ dX6_setBlock_2 rfl rfl rfl (fun r1 w1 h1 => ?_)
  obtain ⟨rfl, rfl⟩ := h1
  refine x_top (show _ = (-1 : Int32) from by rw [atI, if_neg hk]) ?_
  refine x_istore_n C 6 dX6_setBlock_5 (by decide) rfl rfl ?_
  refine x_aload_n C 7 dX6_setBlock_6 rfl rfl ?_
  refine x_iload_n C 8 dX6_setBlock_7 rfl rfl ?_
  refine x_iconst (v := (-1)) C 9 dX6_setBlock_8 (by decide) rfl ?_
  refine x_icmp_ne C 16 12 dX6_setBlock_9 (by decide) rfl (fun zk9 => ?_) (fun zk9 => ?_)
  · exact absurd zk9 (by decide)
  · refine x_iconst (v := (1)) C 13 dX6_setBlock_12 (by decide) rfl ?_
    refine x_goto C 17 dX6_setBlock_13 (by decide) ?_
    refine xm_put C 20 8 (by decide) fp_X6_setBlock_98 rfl rfl dX6_setBlock_17 rfl ?_
    refine x_aload_n C 21 dX6_setBlock_20 rfl rfl ?_
    refine xm_get C 24 fg_X6_setBlock_98 rfl dX6_setBlock_21 rfl ?_
    refine x_top (show _ = (1) from rfl) ?_
    refine x_if_ne C 40 27 dX6_setBlock_24 (by decide) rfl (fun zk24 => ?_) (fun zk24 => ?_)
    · refine x_iconst (v := (0)) C 41 dX6_setBlock_40 (by decide) rfl ?_
      refine x_istore C 43 dX6_setBlock_41 (by decide) rfl rfl ?_
      refine x_aload_n C 44 dX6_setBlock_43 rfl rfl ?_
      refine xm_get C 47 fg_X6_setBlock_98 rfl dX6_setBlock_44 rfl ?_
      refine x_top (show _ = (1) from rfl) ?_
      refine x_if_ne C 57 50 dX6_setBlock_47 (by decide) rfl (fun zk47 => ?_) (fun zk47 => ?_)
      · refine x_iload C 59 dX6_setBlock_57 rfl rfl ?_
        exact x_nret C0 rfl (rfl) dX6_setBlock_59 (Nat.le_of_ble_eq_true rfl) (Nat.le_of_ble_eq_true rfl) ⟨_, rfl, ⟨rfl, rfl⟩⟩
      · exact absurd zk47 (by decide)
    · exact absurd zk24 (by decide)
theorem fg_X6_setBlock_20 : gF RX6 wsX6_setBlock 20 10 3 := ⟨RX6, TX6, 36, "StageConsoleModel", rfl, fun w h => (List.mem_cons_of_mem _ (List.mem_append_left _ (List.mem_append_right _ h))), by decide, (List.mem_cons_of_mem _ (List.mem_append_left _ (List.mem_append_left _ (List.mem_of_getElem? (i := 1) rfl)))), Or.inl rfl⟩
set_option maxRecDepth 100000 in
set_option maxHeartbeats 4000000 in
theorem cM_setBlock_0 (hl : l.stackTraces = false) {I : Nat → Nat → Int32} {nq : Nat} (h0 : I 30 0 = nI nq) (hq : nq ≤ 16) {x : Int32} {k : Nat} (hk : fnd (I 0) x nq 0 = k) (hk2 : k < nq) {b : Bool} : Ct (gm D a E0) l yX6_setBlock wsX6_setBlock { frames := 12, cells := 0, slots := 0, locals := 300 } [.ref m, .int x, .int (bI b)] (wM m am a I en) (qI fun v w => v = (if I 3 k = 0 then 0 else 1) ∧ w = wM m am a (uI (uI I 30 8 0) 3 k (bI b)) en) noX := by
  refine Ct.of [some (.ref m), some (.int x), some (.int (bI b)), none, none] rfl hl (by decide) (Nat.le_of_ble_eq_true rfl) rfl (fun φ C0 => ?_)
  have C := C0.1
  refine x_aload_n C 1 dX6_setBlock_0 rfl rfl ?_
  refine x_iload_n C 2 dX6_setBlock_1 rfl rfl ?_
  refine x_callV0_i C 5 0 0 0 10 1 (cM_cueAt hl h0 hq _) rfl gX6_setBlock_X6_cueAt ⟨rfl, by decide, by decide, rfl⟩ ⟨Nat.le_of_ble_eq_true rfl, Nat.le_of_ble_eq_true rfl⟩ rfl rfl rfl rfl (Nat.le_of_ble_eq_true rfl) ⟨Nat.le_of_ble_eq_true rfl, Nat.le_of_ble_eq_true rfl⟩ dX6_setBlock_2 rfl rfl rfl (fun r1 w1 h1 => ?_)
  obtain ⟨rfl, rfl⟩ := h1
  refine x_top (show _ = nI k from by rw [hk, atI, if_pos hk2]) ?_
  refine x_istore_n C 6 dX6_setBlock_5 (by decide) rfl rfl ?_
  refine x_aload_n C 7 dX6_setBlock_6 rfl rfl ?_
  refine x_iload_n C 8 dX6_setBlock_7 rfl rfl ?_
  refine x_iconst (v := (-1)) C 9 dX6_setBlock_8 (by decide) rfl ?_
  refine x_icmp_ne C 16 12 dX6_setBlock_9 (by decide) rfl (fun zk9 => ?_) (fun zk9 => ?_)
  · refine x_iconst (v := (0)) C 17 dX6_setBlock_16 (by decide) rfl ?_
    refine xm_put C 20 8 (by decide) fp_X6_setBlock_98 rfl rfl dX6_setBlock_17 rfl ?_
    refine x_aload_n C 21 dX6_setBlock_20 rfl rfl ?_
    refine xm_get C 24 fg_X6_setBlock_98 rfl dX6_setBlock_21 rfl ?_
    refine x_top (show _ = (0) from rfl) ?_
    refine x_if_ne C 40 27 dX6_setBlock_24 (by decide) rfl (fun zk24 => ?_) (fun zk24 => ?_)
    · exact absurd zk24 (by decide)
    · refine x_aload_n C 28 dX6_setBlock_27 rfl rfl ?_
      refine xm_get C 31 fg_X6_setBlock_20 rfl dX6_setBlock_28 rfl ?_
      refine x_iload_n C 32 dX6_setBlock_31 rfl rfl ?_
      refine xm_zald C 33 3 16 (k) (by decide) rfl rfl rfl (by omega) dX6_setBlock_32 rfl ?_
      refine x_if_eq C 40 36 dX6_setBlock_33 (by decide) rfl (fun zk33 => ?_) (fun zk33 => ?_)
      · refine x_iconst (v := (0)) C 41 dX6_setBlock_40 (by decide) rfl ?_
        refine x_istore C 43 dX6_setBlock_41 (by decide) rfl rfl ?_
        refine x_aload_n C 44 dX6_setBlock_43 rfl rfl ?_
        refine xm_get C 47 fg_X6_setBlock_98 rfl dX6_setBlock_44 rfl ?_
        refine x_top (show _ = (0) from rfl) ?_
        refine x_if_ne C 57 50 dX6_setBlock_47 (by decide) rfl (fun zk47 => ?_) (fun zk47 => ?_)
        · exact absurd zk47 (by decide)
        · refine x_aload_n C 51 dX6_setBlock_50 rfl rfl ?_
          refine xm_get C 54 fg_X6_setBlock_20 rfl dX6_setBlock_51 rfl ?_
          refine x_iload_n C 55 dX6_setBlock_54 rfl rfl ?_
          refine x_iload_n C 56 dX6_setBlock_55 rfl rfl ?_
          refine xm_zast C 57 3 16 (k) (by decide) rfl rfl rfl (by omega) (bI_arr _) dX6_setBlock_56 rfl ?_
          refine x_iload C 59 dX6_setBlock_57 rfl rfl ?_
          exact x_nret C0 rfl (rfl) dX6_setBlock_59 (Nat.le_of_ble_eq_true rfl) (Nat.le_of_ble_eq_true rfl) ⟨_, rfl, ⟨by first | rw [if_pos (show I 3 k = 0 from zk33)] | rw [if_neg (show ¬ I 3 k = 0 from zk33)], rfl⟩⟩
      · refine x_iconst (v := (1)) C 37 dX6_setBlock_36 (by decide) rfl ?_
        refine x_goto C 41 dX6_setBlock_37 (by decide) ?_
        refine x_istore C 43 dX6_setBlock_41 (by decide) rfl rfl ?_
        refine x_aload_n C 44 dX6_setBlock_43 rfl rfl ?_
        refine xm_get C 47 fg_X6_setBlock_98 rfl dX6_setBlock_44 rfl ?_
        refine x_top (show _ = (0) from rfl) ?_
        refine x_if_ne C 57 50 dX6_setBlock_47 (by decide) rfl (fun zk47 => ?_) (fun zk47 => ?_)
        · exact absurd zk47 (by decide)
        · refine x_aload_n C 51 dX6_setBlock_50 rfl rfl ?_
          refine xm_get C 54 fg_X6_setBlock_20 rfl dX6_setBlock_51 rfl ?_
          refine x_iload_n C 55 dX6_setBlock_54 rfl rfl ?_
          refine x_iload_n C 56 dX6_setBlock_55 rfl rfl ?_
          refine xm_zast C 57 3 16 (k) (by decide) rfl rfl rfl (by omega) (bI_arr _) dX6_setBlock_56 rfl ?_
          refine x_iload C 59 dX6_setBlock_57 rfl rfl ?_
          exact x_nret C0 rfl (rfl) dX6_setBlock_59 (Nat.le_of_ble_eq_true rfl) (Nat.le_of_ble_eq_true rfl) ⟨_, rfl, ⟨by first | rw [if_pos (show I 3 k = 0 from zk33)] | rw [if_neg (show ¬ I 3 k = 0 from zk33)], rfl⟩⟩
  · exact absurd zk9 (nI_nm1 (by omega))
theorem fp_X6_trackedLevel_98 : pF RX6 wsX6_trackedLevel 98 10 35 false (.int) := ⟨RX6, TX6, 36, "StageConsoleModel", tyX6, rfl, fun w h => (List.mem_cons_of_mem _ (List.mem_append_left _ (List.mem_append_right _ h))), by decide, (List.mem_cons_of_mem _ (List.mem_append_left _ (List.mem_append_left _ (List.mem_append_left _ (List.mem_of_getElem? (i := 0) rfl))))), Or.inl rfl, tyX6_ok, nmX6, rfl, rfl, fun h => absurd h (by decide)⟩
theorem fg_X6_trackedLevel_98 : gF RX6 wsX6_trackedLevel 98 10 35 := ⟨RX6, TX6, 36, "StageConsoleModel", rfl, fun w h => (List.mem_cons_of_mem _ (List.mem_append_left _ (List.mem_append_right _ h))), by decide, (List.mem_cons_of_mem _ (List.mem_append_left _ (List.mem_append_left _ (List.mem_append_left _ (List.mem_of_getElem? (i := 0) rfl))))), Or.inl rfl⟩
set_option maxRecDepth 100000 in
set_option maxHeartbeats 4000000 in
theorem cM_trackedLevel_1 (hl : l.stackTraces = false) {I : Nat → Nat → Int32} {nq : Nat} (h0 : I 30 0 = nI nq) (hq : nq ≤ 16) {x : Int32} (hk : ¬ fnd (I 0) x nq 0 < nq) {ch : Int32} : Ct (gm D a E0) l yX6_trackedLevel wsX6_trackedLevel { frames := 12, cells := 0, slots := 0, locals := 300 } [.ref m, .int x, .int ch] (wM m am a I en) (qI fun v w => v = -1 ∧ w = wM m am a (uI I 30 8 1) en) noX := by
  refine Ct.of [some (.ref m), some (.int x), some (.int ch), none] rfl hl (by decide) (Nat.le_of_ble_eq_true rfl) rfl (fun φ C0 => ?_)
  have C := C0.1
  refine x_aload_n C 1 dX6_trackedLevel_0 rfl rfl ?_
  refine x_iload_n C 2 dX6_trackedLevel_1 rfl rfl ?_
  refine x_callV0_i C 5 0 0 0 10 1 (cM_cueAt hl h0 hq _) rfl gX6_trackedLevel_X6_cueAt ⟨rfl, by decide, by decide, rfl⟩ ⟨Nat.le_of_ble_eq_true rfl, Nat.le_of_ble_eq_true rfl⟩ rfl rfl rfl rfl (Nat.le_of_ble_eq_true rfl) ⟨Nat.le_of_ble_eq_true rfl, Nat.le_of_ble_eq_true rfl⟩ dX6_trackedLevel_2 rfl rfl rfl (fun r1 w1 h1 => ?_)
  obtain ⟨rfl, rfl⟩ := h1
  refine x_top (show _ = (-1 : Int32) from by rw [atI, if_neg hk]) ?_
  refine x_istore_n C 6 dX6_trackedLevel_5 (by decide) rfl rfl ?_
  refine x_aload_n C 7 dX6_trackedLevel_6 rfl rfl ?_
  refine x_iload_n C 8 dX6_trackedLevel_7 rfl rfl ?_
  refine x_iconst (v := (-1)) C 9 dX6_trackedLevel_8 (by decide) rfl ?_
  refine x_icmp_ne C 16 12 dX6_trackedLevel_9 (by decide) rfl (fun zk9 => ?_) (fun zk9 => ?_)
  · exact absurd zk9 (by decide)
  · refine x_iconst (v := (1)) C 13 dX6_trackedLevel_12 (by decide) rfl ?_
    refine x_goto C 28 dX6_trackedLevel_13 (by decide) ?_
    refine xm_put C 31 8 (by decide) fp_X6_trackedLevel_98 rfl rfl dX6_trackedLevel_28 rfl ?_
    refine x_aload_n C 32 dX6_trackedLevel_31 rfl rfl ?_
    refine xm_get C 35 fg_X6_trackedLevel_98 rfl dX6_trackedLevel_32 rfl ?_
    refine x_top (show _ = (1) from rfl) ?_
    refine x_if_ne C 47 38 dX6_trackedLevel_35 (by decide) rfl (fun zk35 => ?_) (fun zk35 => ?_)
    · refine x_iconst (v := (-1)) C 48 dX6_trackedLevel_47 (by decide) rfl ?_
      exact x_zret C0 dX6_trackedLevel_48 (Nat.le_of_ble_eq_true rfl) (Nat.le_of_ble_eq_true rfl) ⟨_, rfl, ⟨rfl, rfl⟩⟩
    · exact absurd zk35 (by decide)
set_option maxRecDepth 100000 in
set_option maxHeartbeats 4000000 in
theorem cM_trackedLevel_2 (hl : l.stackTraces = false) {I : Nat → Nat → Int32} {nq : Nat} (h0 : I 30 0 = nI nq) (hq : nq ≤ 16) {x : Int32} {k : Nat} (hk : fnd (I 0) x nq 0 = k) (hk2 : k < nq) {ch : Int32} (hc : chB ch = false) : Ct (gm D a E0) l yX6_trackedLevel wsX6_trackedLevel { frames := 12, cells := 0, slots := 0, locals := 300 } [.ref m, .int x, .int ch] (wM m am a I en) (qI fun v w => v = -1 ∧ w = wM m am a (uI I 30 8 2) en) noX := by
  refine Ct.of [some (.ref m), some (.int x), some (.int ch), none] rfl hl (by decide) (Nat.le_of_ble_eq_true rfl) rfl (fun φ C0 => ?_)
  have C := C0.1
  refine x_aload_n C 1 dX6_trackedLevel_0 rfl rfl ?_
  refine x_iload_n C 2 dX6_trackedLevel_1 rfl rfl ?_
  refine x_callV0_i C 5 0 0 0 10 1 (cM_cueAt hl h0 hq _) rfl gX6_trackedLevel_X6_cueAt ⟨rfl, by decide, by decide, rfl⟩ ⟨Nat.le_of_ble_eq_true rfl, Nat.le_of_ble_eq_true rfl⟩ rfl rfl rfl rfl (Nat.le_of_ble_eq_true rfl) ⟨Nat.le_of_ble_eq_true rfl, Nat.le_of_ble_eq_true rfl⟩ dX6_trackedLevel_2 rfl rfl rfl (fun r1 w1 h1 => ?_)
  obtain ⟨rfl, rfl⟩ := h1
  refine x_top (show _ = nI k from by rw [hk, atI, if_pos hk2]) ?_
  refine x_istore_n C 6 dX6_trackedLevel_5 (by decide) rfl rfl ?_
  refine x_aload_n C 7 dX6_trackedLevel_6 rfl rfl ?_
  refine x_iload_n C 8 dX6_trackedLevel_7 rfl rfl ?_
  refine x_iconst (v := (-1)) C 9 dX6_trackedLevel_8 (by decide) rfl ?_
  refine x_icmp_ne C 16 12 dX6_trackedLevel_9 (by decide) rfl (fun zk9 => ?_) (fun zk9 => ?_)
  · refine x_iload_n C 17 dX6_trackedLevel_16 rfl rfl ?_
    refine x_callS0_i C 20 0 0 1 (cM_isChannel hl _ _) rfl gX6_trackedLevel_X6_isChannel ⟨by decide, by decide, rfl⟩ ⟨Nat.le_of_ble_eq_true rfl, Nat.le_of_ble_eq_true rfl⟩ rfl rfl (Nat.le_of_ble_eq_true rfl) ⟨Nat.le_of_ble_eq_true rfl, Nat.le_of_ble_eq_true rfl⟩ dX6_trackedLevel_17 rfl rfl rfl (fun r2 w2 h2 => ?_)
    obtain ⟨rfl, rfl⟩ := h2
    refine x_top (show _ = (0 : Int32) from by rw [hc]; rfl) ?_
    refine x_if_ne C 27 23 dX6_trackedLevel_20 (by decide) rfl (fun zk20 => ?_) (fun zk20 => ?_)
    · exact absurd zk20 (by decide)
    · refine x_iconst (v := (2)) C 24 dX6_trackedLevel_23 (by decide) rfl ?_
      refine x_goto C 28 dX6_trackedLevel_24 (by decide) ?_
      refine xm_put C 31 8 (by decide) fp_X6_trackedLevel_98 rfl rfl dX6_trackedLevel_28 rfl ?_
      refine x_aload_n C 32 dX6_trackedLevel_31 rfl rfl ?_
      refine xm_get C 35 fg_X6_trackedLevel_98 rfl dX6_trackedLevel_32 rfl ?_
      refine x_top (show _ = (2) from rfl) ?_
      refine x_if_ne C 47 38 dX6_trackedLevel_35 (by decide) rfl (fun zk35 => ?_) (fun zk35 => ?_)
      · refine x_iconst (v := (-1)) C 48 dX6_trackedLevel_47 (by decide) rfl ?_
        exact x_zret C0 dX6_trackedLevel_48 (Nat.le_of_ble_eq_true rfl) (Nat.le_of_ble_eq_true rfl) ⟨_, rfl, ⟨rfl, rfl⟩⟩
      · exact absurd zk35 (by decide)
  · exact absurd zk9 (nI_nm1 (by omega))
set_option maxRecDepth 100000 in
set_option maxHeartbeats 4000000 in
theorem cM_trackedLevel_0 (hl : l.stackTraces = false) {I : Nat → Nat → Int32} {nq : Nat} (h0 : I 30 0 = nI nq) (hq : nq ≤ 16) {x : Int32} {k : Nat} (hk : fnd (I 0) x nq 0 = k) (hk2 : k < nq) {c : Nat} (hc : c < 12) : Ct (gm D a E0) l yX6_trackedLevel wsX6_trackedLevel { frames := 12, cells := 0, slots := 0, locals := 300 } [.ref m, .int x, .int (nI c)] (wM m am a I en) (qI fun v w => v = trk (I 4) (I 3) c (k + 1) ∧ w = wM m am a (uI I 30 8 0) en) noX := by
  refine Ct.of [some (.ref m), some (.int x), some (.int (nI c)), none] rfl hl (by decide) (Nat.le_of_ble_eq_true rfl) rfl (fun φ C0 => ?_)
  have C := C0.1
  refine x_aload_n C 1 dX6_trackedLevel_0 rfl rfl ?_
  refine x_iload_n C 2 dX6_trackedLevel_1 rfl rfl ?_
  refine x_callV0_i C 5 0 0 0 10 1 (cM_cueAt hl h0 hq _) rfl gX6_trackedLevel_X6_cueAt ⟨rfl, by decide, by decide, rfl⟩ ⟨Nat.le_of_ble_eq_true rfl, Nat.le_of_ble_eq_true rfl⟩ rfl rfl rfl rfl (Nat.le_of_ble_eq_true rfl) ⟨Nat.le_of_ble_eq_true rfl, Nat.le_of_ble_eq_true rfl⟩ dX6_trackedLevel_2 rfl rfl rfl (fun r1 w1 h1 => ?_)
  obtain ⟨rfl, rfl⟩ := h1
  refine x_top (show _ = nI k from by rw [hk, atI, if_pos hk2]) ?_
  refine x_istore_n C 6 dX6_trackedLevel_5 (by decide) rfl rfl ?_
  refine x_aload_n C 7 dX6_trackedLevel_6 rfl rfl ?_
  refine x_iload_n C 8 dX6_trackedLevel_7 rfl rfl ?_
  refine x_iconst (v := (-1)) C 9 dX6_trackedLevel_8 (by decide) rfl ?_
  refine x_icmp_ne C 16 12 dX6_trackedLevel_9 (by decide) rfl (fun zk9 => ?_) (fun zk9 => ?_)
  · refine x_iload_n C 17 dX6_trackedLevel_16 rfl rfl ?_
    refine x_callS0_i C 20 0 0 1 (cM_isChannel hl _ _) rfl gX6_trackedLevel_X6_isChannel ⟨by decide, by decide, rfl⟩ ⟨Nat.le_of_ble_eq_true rfl, Nat.le_of_ble_eq_true rfl⟩ rfl rfl (Nat.le_of_ble_eq_true rfl) ⟨Nat.le_of_ble_eq_true rfl, Nat.le_of_ble_eq_true rfl⟩ dX6_trackedLevel_17 rfl rfl rfl (fun r2 w2 h2 => ?_)
    obtain ⟨rfl, rfl⟩ := h2
    refine x_top (show _ = (1 : Int32) from by rw [chB_nI hc]; rfl) ?_
    refine x_if_ne C 27 23 dX6_trackedLevel_20 (by decide) rfl (fun zk20 => ?_) (fun zk20 => ?_)
    · refine x_iconst (v := (0)) C 28 dX6_trackedLevel_27 (by decide) rfl ?_
      refine xm_put C 31 8 (by decide) fp_X6_trackedLevel_98 rfl rfl dX6_trackedLevel_28 rfl ?_
      refine x_aload_n C 32 dX6_trackedLevel_31 rfl rfl ?_
      refine xm_get C 35 fg_X6_trackedLevel_98 rfl dX6_trackedLevel_32 rfl ?_
      refine x_top (show _ = (0) from rfl) ?_
      refine x_if_ne C 47 38 dX6_trackedLevel_35 (by decide) rfl (fun zk35 => ?_) (fun zk35 => ?_)
      · exact absurd zk35 (by decide)
      · refine x_aload_n C 39 dX6_trackedLevel_38 rfl rfl ?_
        refine x_iload_n C 40 dX6_trackedLevel_39 rfl rfl ?_
        refine x_iload_n C 41 dX6_trackedLevel_40 rfl rfl ?_
        refine x_callV0_i C 44 0 0 0 10 2 (cM_tracked hl _ _ (by omega) hc) rfl gX6_trackedLevel_X6_tracked ⟨rfl, by decide, by decide, rfl⟩ ⟨Nat.le_of_ble_eq_true rfl, Nat.le_of_ble_eq_true rfl⟩ rfl rfl rfl rfl (Nat.le_of_ble_eq_true rfl) ⟨Nat.le_of_ble_eq_true rfl, Nat.le_of_ble_eq_true rfl⟩ dX6_trackedLevel_41 rfl rfl rfl (fun r3 w3 h3 => ?_)
        obtain ⟨rfl, rfl⟩ := h3
        refine x_goto C 48 dX6_trackedLevel_44 (by decide) ?_
        exact x_zret C0 dX6_trackedLevel_48 (Nat.le_of_ble_eq_true rfl) (Nat.le_of_ble_eq_true rfl) ⟨_, rfl, ⟨rfl, rfl⟩⟩
    · exact absurd zk20 (by decide)
  · exact absurd zk9 (nI_nm1 (by omega))
theorem fp_X6_cues_98 : pF RX6 wsX6_cues 98 10 35 false (.int) := ⟨RX6, TX6, 36, "StageConsoleModel", tyX6, rfl, fun w h => (List.mem_cons_of_mem _ (List.mem_append_right _ h)), by decide, (List.mem_cons_of_mem _ (List.mem_append_left _ (List.mem_of_getElem? (i := 0) rfl))), Or.inl rfl, tyX6_ok, nmX6, rfl, rfl, fun h => absurd h (by decide)⟩
theorem fg_X6_cues_109 : gF RX6 wsX6_cues 109 10 5 := ⟨RX6, TX6, 36, "StageConsoleModel", rfl, fun w h => (List.mem_cons_of_mem _ (List.mem_append_right _ h)), by decide, (List.mem_cons_of_mem _ (List.mem_append_left _ (List.mem_of_getElem? (i := 1) rfl))), Or.inl rfl⟩
set_option maxRecDepth 100000 in
set_option maxHeartbeats 4000000 in
theorem cM_cues (hl : l.stackTraces = false)  : Ct (gm D a E0) l yX6_cues wsX6_cues { frames := 4, cells := 0, slots := 0, locals := 100 } [.ref m] (wM m am a I en) (qI fun v w => v = I 30 0 ∧ w = wM m am a (uI I 30 8 0) en) noX := by
  refine Ct.of [some (.ref m)] rfl hl (by decide) (Nat.le_of_ble_eq_true rfl) rfl (fun φ C0 => ?_)
  have C := C0.1
  refine x_aload_n C 1 dX6_cues_0 rfl rfl ?_
  refine x_iconst (v := (0)) C 2 dX6_cues_1 (by decide) rfl ?_
  refine xm_put C 5 8 (by decide) fp_X6_cues_98 rfl rfl dX6_cues_2 rfl ?_
  refine x_aload_n C 6 dX6_cues_5 rfl rfl ?_
  refine xm_get C 9 fg_X6_cues_109 rfl dX6_cues_6 rfl ?_
  exact x_zret C0 dX6_cues_9 (Nat.le_of_ble_eq_true rfl) (Nat.le_of_ble_eq_true rfl) ⟨_, rfl, ⟨rfl, rfl⟩⟩
end MM
