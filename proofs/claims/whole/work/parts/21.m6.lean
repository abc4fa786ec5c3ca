section MM
variable {l : Launch} {Γ : Gm} {D : va_G} {a : Nat → ClassId} {E0 m : Nat} {am : Nat → Nat} {I : Nat → Nat → Int32} {en : Int64}
theorem fg_X6_does_84 : gF RX6 wsX6_does 84 10 28 := ⟨RX6, TX6, 36, "StageConsoleModel", rfl, fun w h => (List.mem_cons_of_mem _ (List.mem_append_left _ (List.mem_append_left _ (List.mem_append_right _ h)))), by decide, (List.mem_cons_of_mem _ (List.mem_append_left _ (List.mem_append_left _ (List.mem_append_left _ (List.mem_append_left _ (List.mem_of_getElem? (i := 0) rfl)))))), Or.inl rfl⟩
theorem fg_X6_does_87 : gF RX6 wsX6_does 87 10 29 := ⟨RX6, TX6, 36, "StageConsoleModel", rfl, fun w h => (List.mem_cons_of_mem _ (List.mem_append_left _ (List.mem_append_left _ (List.mem_append_right _ h)))), by decide, (List.mem_cons_of_mem _ (List.mem_append_left _ (List.mem_append_left _ (List.mem_append_left _ (List.mem_append_left _ (List.mem_of_getElem? (i := 1) rfl)))))), Or.inl rfl⟩
theorem fg_X6_does_81 : gF RX6 wsX6_does 81 10 27 := ⟨RX6, TX6, 36, "StageConsoleModel", rfl, fun w h => (List.mem_cons_of_mem _ (List.mem_append_left _ (List.mem_append_left _ (List.mem_append_right _ h)))), by decide, (List.mem_cons_of_mem _ (List.mem_append_left _ (List.mem_append_left _ (List.mem_append_left _ (List.mem_append_left _ (List.mem_of_getElem? (i := 2) rfl)))))), Or.inl rfl⟩
theorem fg_X6_does_98 : gF RX6 wsX6_does 98 10 35 := ⟨RX6, TX6, 36, "StageConsoleModel", rfl, fun w h => (List.mem_cons_of_mem _ (List.mem_append_left _ (List.mem_append_left _ (List.mem_append_right _ h)))), by decide, (List.mem_cons_of_mem _ (List.mem_append_left _ (List.mem_append_left _ (List.mem_append_left _ (List.mem_append_left _ (List.mem_of_getElem? (i := 3) rfl)))))), Or.inl rfl⟩
set_option maxRecDepth 100000 in
set_option maxHeartbeats 4000000 in
theorem cM_does_go1 (hl : l.stackTraces = false) {I : Nat → Nat → Int32} {k : Nat} (hk8 : k < 8) (hcl : I 23 k = 103) {nq : Nat} (h0 : I 30 0 = nI nq) (hq : nq ≤ 16) (hk : fgL (I 0) (I 30 1) nq (-1) = -1) : Ct (gm D a E0) l yX6_does wsX6_does { frames := 20, cells := 0, slots := 0, locals := 500 } [.ref m, .int (nI k)] (wM m am a I en) (qI fun v w => v = 101 ∧ w = wM m am a (uI I 30 8 1) en) noX := by
  refine Ct.of [some (.ref m), some (.int (nI k)), none, none] rfl hl (by decide) (Nat.le_of_ble_eq_true rfl) rfl (fun φ C0 => ?_)
  have C := C0.1
  refine x_aload_n C 1 dX6_does_0 rfl rfl ?_
  refine xm_get C 4 fg_X6_does_84 rfl dX6_does_1 rfl ?_
  refine x_iload_n C 5 dX6_does_4 rfl rfl ?_
  refine xm_iald C 6 24 8 (k) (by decide) rfl rfl rfl (by omega) dX6_does_5 rfl ?_
  refine x_nm (fun p1 ep1 => ?_)
  refine x_istore_n C 7 dX6_does_6 (by decide) rfl rfl ?_
  refine x_aload_n C 8 dX6_does_7 rfl rfl ?_
  refine xm_get C 11 fg_X6_does_87 rfl dX6_does_8 rfl ?_
  refine x_iload_n C 12 dX6_does_11 rfl rfl ?_
  refine xm_iald C 13 25 8 (k) (by decide) rfl rfl rfl (by omega) dX6_does_12 rfl ?_
  refine x_nm (fun p2 ep2 => ?_)
  refine x_istore_n C 14 dX6_does_13 (by decide) rfl rfl ?_
  refine x_aload_n C 15 dX6_does_14 rfl rfl ?_
  refine xm_get C 18 fg_X6_does_81 rfl dX6_does_15 rfl ?_
  refine x_iload_n C 19 dX6_does_18 rfl rfl ?_
  refine xm_cald C 20 23 8 (k) (by decide) rfl rfl rfl (by omega) dX6_does_19 rfl ?_
  refine x_top hcl ?_
  refine x_tableIn C 112 (off := 92) dX6_does_20 (by decide) (by decide) (by decide) (by decide) ?_
  refine x_aload_n C 113 dX6_does_112 rfl rfl ?_
  refine x_callV0_i C 116 0 0 0 10 0 (cM_go_1 hl h0 hq hk) rfl gX6_does_X6_go ⟨rfl, by decide, by decide, rfl⟩ ⟨Nat.le_of_ble_eq_true rfl, Nat.le_of_ble_eq_true rfl⟩ rfl rfl rfl rfl (Nat.le_of_ble_eq_true rfl) ⟨Nat.le_of_ble_eq_true rfl, Nat.le_of_ble_eq_true rfl⟩ dX6_does_113 rfl rfl rfl (fun r3 w3 h3 => ?_)
  obtain ⟨rfl, rfl⟩ := h3
  refine x_pop C 117 dX6_does_116 rfl rfl ?_
  refine x_aload_n C 118 dX6_does_117 rfl rfl ?_
  refine xm_get C 121 fg_X6_does_98 rfl dX6_does_118 rfl ?_
  refine x_top (show _ = (1 : Int32) from rfl) ?_
  refine x_if_ne C 129 124 dX6_does_121 (by decide) rfl (fun zk121 => ?_) (fun zk121 => ?_)
  · refine x_bipush (v := (101)) C 131 dX6_does_129 (by decide) rfl ?_
    exact x_nret C0 rfl (rfl) dX6_does_131 (Nat.le_of_ble_eq_true rfl) (Nat.le_of_ble_eq_true rfl) ⟨_, rfl, ⟨rfl, rfl⟩⟩
  · exact absurd zk121 (by decide)
set_option maxRecDepth 100000 in
set_option maxHeartbeats 4000000 in
theorem cM_does_go0 (hl : l.stackTraces = false) {I : Nat → Nat → Int32} {k : Nat} (hk8 : k < 8) (hcl : I 23 k = 103) {nq : Nat} (h0 : I 30 0 = nI nq) (hq : nq ≤ 16) {j : Nat} (hk2 : j < nq) (hT : ∃ t, t ≤ 40 ∧ I 1 j = nI t) (hC : vp_nar .char (I 2 j) = I 2 j) (ht : HT I) (hk : fgL (I 0) (I 30 1) nq (-1) = nI j) : Ct (gm D a E0) l yX6_does wsX6_does { frames := 20, cells := 0, slots := 0, locals := 500 } [.ref m, .int (nI k)] (wM m am a I en) (qI fun v w => v = 110 ∧ w = wM m am a (plS j (uI I 30 8 0)) en) noX := by
  refine Ct.of [some (.ref m), some (.int (nI k)), none, none] rfl hl (by decide) (Nat.le_of_ble_eq_true rfl) rfl (fun φ C0 => ?_)
  have C := C0.1
  refine x_aload_n C 1 dX6_does_0 rfl rfl ?_
  refine xm_get C 4 fg_X6_does_84 rfl dX6_does_1 rfl ?_
  refine x_iload_n C 5 dX6_does_4 rfl rfl ?_
  refine xm_iald C 6 24 8 (k) (by decide) rfl rfl rfl (by omega) dX6_does_5 rfl ?_
  refine x_nm (fun p1 ep1 => ?_)
  refine x_istore_n C 7 dX6_does_6 (by decide) rfl rfl ?_
  refine x_aload_n C 8 dX6_does_7 rfl rfl ?_
  refine xm_get C 11 fg_X6_does_87 rfl dX6_does_8 rfl ?_
  refine x_iload_n C 12 dX6_does_11 rfl rfl ?_
  refine xm_iald C 13 25 8 (k) (by decide) rfl rfl rfl (by omega) dX6_does_12 rfl ?_
  refine x_nm (fun p2 ep2 => ?_)
  refine x_istore_n C 14 dX6_does_13 (by decide) rfl rfl ?_
  refine x_aload_n C 15 dX6_does_14 rfl rfl ?_
  refine xm_get C 18 fg_X6_does_81 rfl dX6_does_15 rfl ?_
  refine x_iload_n C 19 dX6_does_18 rfl rfl ?_
  refine xm_cald C 20 23 8 (k) (by decide) rfl rfl rfl (by omega) dX6_does_19 rfl ?_
  refine x_top hcl ?_
  refine x_tableIn C 112 (off := 92) dX6_does_20 (by decide) (by decide) (by decide) (by decide) ?_
  refine x_aload_n C 113 dX6_does_112 rfl rfl ?_
  refine x_callV0_i C 116 0 0 0 10 0 (cM_go_0 hl h0 hq hk hk2 hT hC ht) rfl gX6_does_X6_go ⟨rfl, by decide, by decide, rfl⟩ ⟨Nat.le_of_ble_eq_true rfl, Nat.le_of_ble_eq_true rfl⟩ rfl rfl rfl rfl (Nat.le_of_ble_eq_true rfl) ⟨Nat.le_of_ble_eq_true rfl, Nat.le_of_ble_eq_true rfl⟩ dX6_does_113 rfl rfl rfl (fun r3 w3 h3 => ?_)
  obtain ⟨rfl, rfl⟩ := h3
  refine x_pop C 117 dX6_does_116 rfl rfl ?_
  refine x_aload_n C 118 dX6_does_117 rfl rfl ?_
  refine xm_get C 121 fg_X6_does_98 rfl dX6_does_118 rfl ?_
  refine x_top (show _ = (0 : Int32) from plS_thr j (uI I 30 8 0)) ?_
  refine x_if_ne C 129 124 dX6_does_121 (by decide) rfl (fun zk121 => ?_) (fun zk121 => ?_)
  · exact absurd zk121 (by decide)
  · refine x_bipush (v := (110)) C 126 dX6_does_124 (by decide) rfl ?_
    refine x_goto C 131 dX6_does_126 (by decide) ?_
    exact x_nret C0 rfl (rfl) dX6_does_131 (Nat.le_of_ble_eq_true rfl) (Nat.le_of_ble_eq_true rfl) ⟨_, rfl, ⟨rfl, rfl⟩⟩
set_option maxRecDepth 100000 in
set_option maxHeartbeats 4000000 in
theorem cM_does_back1 (hl : l.stackTraces = false) {I : Nat → Nat → Int32} {k : Nat} (hk8 : k < 8) (hcl : I 23 k = 98) {nq : Nat} (h0 : I 30 0 = nI nq) (hq : nq ≤ 16) (hk : fbL (I 0) (I 30 1) nq 0 (-1) = -1) : Ct (gm D a E0) l yX6_does wsX6_does { frames := 20, cells := 0, slots := 0, locals := 500 } [.ref m, .int (nI k)] (wM m am a I en) (qI fun v w => v = 101 ∧ w = wM m am a (uI I 30 8 1) en) noX := by
  refine Ct.of [some (.ref m), some (.int (nI k)), none, none] rfl hl (by decide) (Nat.le_of_ble_eq_true rfl) rfl (fun φ C0 => ?_)
  have C := C0.1
  refine x_aload_n C 1 dX6_does_0 rfl rfl ?_
  refine xm_get C 4 fg_X6_does_84 rfl dX6_does_1 rfl ?_
  refine x_iload_n C 5 dX6_does_4 rfl rfl ?_
  refine xm_iald C 6 24 8 (k) (by decide) rfl rfl rfl (by omega) dX6_does_5 rfl ?_
  refine x_nm (fun p1 ep1 => ?_)
  refine x_istore_n C 7 dX6_does_6 (by decide) rfl rfl ?_
  refine x_aload_n C 8 dX6_does_7 rfl rfl ?_
  refine xm_get C 11 fg_X6_does_87 rfl dX6_does_8 rfl ?_
  refine x_iload_n C 12 dX6_does_11 rfl rfl ?_
  refine xm_iald C 13 25 8 (k) (by decide) rfl rfl rfl (by omega) dX6_does_12 rfl ?_
  refine x_nm (fun p2 ep2 => ?_)
  refine x_istore_n C 14 dX6_does_13 (by decide) rfl rfl ?_
  refine x_aload_n C 15 dX6_does_14 rfl rfl ?_
  refine xm_get C 18 fg_X6_does_81 rfl dX6_does_15 rfl ?_
  refine x_iload_n C 19 dX6_does_18 rfl rfl ?_
  refine xm_cald C 20 23 8 (k) (by decide) rfl rfl rfl (by omega) dX6_does_19 rfl ?_
  refine x_top hcl ?_
  refine x_tableIn C 132 (off := 112) dX6_does_20 (by decide) (by decide) (by decide) (by decide) ?_
  refine x_aload_n C 133 dX6_does_132 rfl rfl ?_
  refine x_callV0_i C 136 0 0 0 10 0 (cM_back_1 hl h0 hq hk) rfl gX6_does_X6_back ⟨rfl, by decide, by decide, rfl⟩ ⟨Nat.le_of_ble_eq_true rfl, Nat.le_of_ble_eq_true rfl⟩ rfl rfl rfl rfl (Nat.le_of_ble_eq_true rfl) ⟨Nat.le_of_ble_eq_true rfl, Nat.le_of_ble_eq_true rfl⟩ dX6_does_133 rfl rfl rfl (fun r3 w3 h3 => ?_)
  obtain ⟨rfl, rfl⟩ := h3
  refine x_pop C 137 dX6_does_136 rfl rfl ?_
  refine x_aload_n C 138 dX6_does_137 rfl rfl ?_
  refine xm_get C 141 fg_X6_does_98 rfl dX6_does_138 rfl ?_
  refine x_top (show _ = (1 : Int32) from rfl) ?_
  refine x_if_ne C 149 144 dX6_does_141 (by decide) rfl (fun zk141 => ?_) (fun zk141 => ?_)
  · refine x_bipush (v := (101)) C 151 dX6_does_149 (by decide) rfl ?_
    exact x_nret C0 rfl (rfl) dX6_does_151 (Nat.le_of_ble_eq_true rfl) (Nat.le_of_ble_eq_true rfl) ⟨_, rfl, ⟨rfl, rfl⟩⟩
  · exact absurd zk141 (by decide)
set_option maxRecDepth 100000 in
set_option maxHeartbeats 4000000 in
theorem cM_does_back0 (hl : l.stackTraces = false) {I : Nat → Nat → Int32} {k : Nat} (hk8 : k < 8) (hcl : I 23 k = 98) {nq : Nat} (h0 : I 30 0 = nI nq) (hq : nq ≤ 16) {j : Nat} (hk2 : j < nq) (hT : ∃ t, t ≤ 40 ∧ I 1 j = nI t) (hC : vp_nar .char (I 2 j) = I 2 j) (ht : HT I) (hk : fbL (I 0) (I 30 1) nq 0 (-1) = nI j) : Ct (gm D a E0) l yX6_does wsX6_does { frames := 20, cells := 0, slots := 0, locals := 500 } [.ref m, .int (nI k)] (wM m am a I en) (qI fun v w => v = 110 ∧ w = wM m am a (plS j (uI I 30 8 0)) en) noX := by
  refine Ct.of [some (.ref m), some (.int (nI k)), none, none] rfl hl (by decide) (Nat.le_of_ble_eq_true rfl) rfl (fun φ C0 => ?_)
  have C := C0.1
  refine x_aload_n C 1 dX6_does_0 rfl rfl ?_
  refine xm_get C 4 fg_X6_does_84 rfl dX6_does_1 rfl ?_
  refine x_iload_n C 5 dX6_does_4 rfl rfl ?_
  refine xm_iald C 6 24 8 (k) (by decide) rfl rfl rfl (by omega) dX6_does_5 rfl ?_
  refine x_nm (fun p1 ep1 => ?_)
  refine x_istore_n C 7 dX6_does_6 (by decide) rfl rfl ?_
  refine x_aload_n C 8 dX6_does_7 rfl rfl ?_
  refine xm_get C 11 fg_X6_does_87 rfl dX6_does_8 rfl ?_
  refine x_iload_n C 12 dX6_does_11 rfl rfl ?_
  refine xm_iald C 13 25 8 (k) (by decide) rfl rfl rfl (by omega) dX6_does_12 rfl ?_
  refine x_nm (fun p2 ep2 => ?_)
  refine x_istore_n C 14 dX6_does_13 (by decide) rfl rfl ?_
  refine x_aload_n C 15 dX6_does_14 rfl rfl ?_
  refine xm_get C 18 fg_X6_does_81 rfl dX6_does_15 rfl ?_
  refine x_iload_n C 19 dX6_does_18 rfl rfl ?_
  refine xm_cald C 20 23 8 (k) (by decide) rfl rfl rfl (by omega) dX6_does_19 rfl ?_
  refine x_top hcl ?_
  refine x_tableIn C 132 (off := 112) dX6_does_20 (by decide) (by decide) (by decide) (by decide) ?_
  refine x_aload_n C 133 dX6_does_132 rfl rfl ?_
  refine x_callV0_i C 136 0 0 0 10 0 (cM_back_0 hl h0 hq hk hk2 hT hC ht) rfl gX6_does_X6_back ⟨rfl, by decide, by decide, rfl⟩ ⟨Nat.le_of_ble_eq_true rfl, Nat.le_of_ble_eq_true rfl⟩ rfl rfl rfl rfl (Nat.le_of_ble_eq_true rfl) ⟨Nat.le_of_ble_eq_true rfl, Nat.le_of_ble_eq_true rfl⟩ dX6_does_133 rfl rfl rfl (fun r3 w3 h3 => ?_)
  obtain ⟨rfl, rfl⟩ := h3
  refine x_pop C 137 dX6_does_136 rfl rfl ?_
  refine x_aload_n C 138 dX6_does_137 rfl rfl ?_
  refine xm_get C 141 fg_X6_does_98 rfl dX6_does_138 rfl ?_
  refine x_top (show _ = (0 : Int32) from plS_thr j (uI I 30 8 0)) ?_
  refine x_if_ne C 149 144 dX6_does_141 (by decide) rfl (fun zk141 => ?_) (fun zk141 => ?_)
  · exact absurd zk141 (by decide)
  · refine x_bipush (v := (110)) C 146 dX6_does_144 (by decide) rfl ?_
    refine x_goto C 151 dX6_does_146 (by decide) ?_
    exact x_nret C0 rfl (rfl) dX6_does_151 (Nat.le_of_ble_eq_true rfl) (Nat.le_of_ble_eq_true rfl) ⟨_, rfl, ⟨rfl, rfl⟩⟩
set_option maxRecDepth 100000 in
set_option maxHeartbeats 4000000 in
theorem cM_does_goTo1 (hl : l.stackTraces = false) {I : Nat → Nat → Int32} {k : Nat} (hk8 : k < 8) (hcl : I 23 k = 116) {nq : Nat} (h0 : I 30 0 = nI nq) (hq : nq ≤ 16) {x : Int32} (ha : I 24 k = x) (hk : ¬ fnd (I 0) x nq 0 < nq) : Ct (gm D a E0) l yX6_does wsX6_does { frames := 20, cells := 0, slots := 0, locals := 500 } [.ref m, .int (nI k)] (wM m am a I en) (qI fun v w => v = 101 ∧ w = wM m am a (uI I 30 8 1) en) noX := by
  refine Ct.of [some (.ref m), some (.int (nI k)), none, none] rfl hl (by decide) (Nat.le_of_ble_eq_true rfl) rfl (fun φ C0 => ?_)
  have C := C0.1
  refine x_aload_n C 1 dX6_does_0 rfl rfl ?_
  refine xm_get C 4 fg_X6_does_84 rfl dX6_does_1 rfl ?_
  refine x_iload_n C 5 dX6_does_4 rfl rfl ?_
  refine xm_iald C 6 24 8 (k) (by decide) rfl rfl rfl (by omega) dX6_does_5 rfl ?_
  refine x_top ha ?_
  refine x_istore_n C 7 dX6_does_6 (by decide) rfl rfl ?_
  refine x_aload_n C 8 dX6_does_7 rfl rfl ?_
  refine xm_get C 11 fg_X6_does_87 rfl dX6_does_8 rfl ?_
  refine x_iload_n C 12 dX6_does_11 rfl rfl ?_
  refine xm_iald C 13 25 8 (k) (by decide) rfl rfl rfl (by omega) dX6_does_12 rfl ?_
  refine x_nm (fun p2 ep2 => ?_)
  refine x_istore_n C 14 dX6_does_13 (by decide) rfl rfl ?_
  refine x_aload_n C 15 dX6_does_14 rfl rfl ?_
  refine xm_get C 18 fg_X6_does_81 rfl dX6_does_15 rfl ?_
  refine x_iload_n C 19 dX6_does_18 rfl rfl ?_
  refine xm_cald C 20 23 8 (k) (by decide) rfl rfl rfl (by omega) dX6_does_19 rfl ?_
  refine x_top hcl ?_
  refine x_tableIn C 152 (off := 132) dX6_does_20 (by decide) (by decide) (by decide) (by decide) ?_
  refine x_aload_n C 153 dX6_does_152 rfl rfl ?_
  refine x_iload_n C 154 dX6_does_153 rfl rfl ?_
  refine x_callV0_i C 157 0 0 0 10 1 (cM_goTo_1 hl h0 hq hk) rfl gX6_does_X6_goTo ⟨rfl, by decide, by decide, rfl⟩ ⟨Nat.le_of_ble_eq_true rfl, Nat.le_of_ble_eq_true rfl⟩ rfl rfl rfl rfl (Nat.le_of_ble_eq_true rfl) ⟨Nat.le_of_ble_eq_true rfl, Nat.le_of_ble_eq_true rfl⟩ dX6_does_154 rfl rfl rfl (fun r2 w2 h2 => ?_)
  obtain ⟨rfl, rfl⟩ := h2
  refine x_pop C 158 dX6_does_157 rfl rfl ?_
  refine x_aload_n C 159 dX6_does_158 rfl rfl ?_
  refine xm_get C 162 fg_X6_does_98 rfl dX6_does_159 rfl ?_
  refine x_top (show _ = (1 : Int32) from rfl) ?_
  refine x_if_ne C 170 165 dX6_does_162 (by decide) rfl (fun zk162 => ?_) (fun zk162 => ?_)
  · refine x_bipush (v := (101)) C 172 dX6_does_170 (by decide) rfl ?_
    exact x_nret C0 rfl (rfl) dX6_does_172 (Nat.le_of_ble_eq_true rfl) (Nat.le_of_ble_eq_true rfl) ⟨_, rfl, ⟨rfl, rfl⟩⟩
  · exact absurd zk162 (by decide)
set_option maxRecDepth 100000 in
set_option maxHeartbeats 4000000 in
theorem cM_does_goTo0 (hl : l.stackTraces = false) {I : Nat → Nat → Int32} {k : Nat} (hk8 : k < 8) (hcl : I 23 k = 116) {nq : Nat} (h0 : I 30 0 = nI nq) (hq : nq ≤ 16) {j : Nat} (hk2 : j < nq) (hT : ∃ t, t ≤ 40 ∧ I 1 j = nI t) (hC : vp_nar .char (I 2 j) = I 2 j) (ht : HT I) {x : Int32} (ha : I 24 k = x) (hk : fnd (I 0) x nq 0 = j) (hn : ¬ I 0 j = -1) : Ct (gm D a E0) l yX6_does wsX6_does { frames := 20, cells := 0, slots := 0, locals := 500 } [.ref m, .int (nI k)] (wM m am a I en) (qI fun v w => v = 110 ∧ w = wM m am a (plS j (uI I 30 8 0)) en) noX := by
  refine Ct.of [some (.ref m), some (.int (nI k)), none, none] rfl hl (by decide) (Nat.le_of_ble_eq_true rfl) rfl (fun φ C0 => ?_)
  have C := C0.1
  refine x_aload_n C 1 dX6_does_0 rfl rfl ?_
  refine xm_get C 4 fg_X6_does_84 rfl dX6_does_1 rfl ?_
  refine x_iload_n C 5 dX6_does_4 rfl rfl ?_
  refine xm_iald C 6 24 8 (k) (by decide) rfl rfl rfl (by omega) dX6_does_5 rfl ?_
  refine x_top ha ?_
  refine x_istore_n C 7 dX6_does_6 (by decide) rfl rfl ?_
  refine x_aload_n C 8 dX6_does_7 rfl rfl ?_
  refine xm_get C 11 fg_X6_does_87 rfl dX6_does_8 rfl ?_
  refine x_iload_n C 12 dX6_does_11 rfl rfl ?_
  refine xm_iald C 13 25 8 (k) (by decide) rfl rfl rfl (by omega) dX6_does_12 rfl ?_
  refine x_nm (fun p2 ep2 => ?_)
  refine x_istore_n C 14 dX6_does_13 (by decide) rfl rfl ?_
  refine x_aload_n C 15 dX6_does_14 rfl rfl ?_
  refine xm_get C 18 fg_X6_does_81 rfl dX6_does_15 rfl ?_
  refine x_iload_n C 19 dX6_does_18 rfl rfl ?_
  refine xm_cald C 20 23 8 (k) (by decide) rfl rfl rfl (by omega) dX6_does_19 rfl ?_
  refine x_top hcl ?_
  refine x_tableIn C 152 (off := 132) dX6_does_20 (by decide) (by decide) (by decide) (by decide) ?_
  refine x_aload_n C 153 dX6_does_152 rfl rfl ?_
  refine x_iload_n C 154 dX6_does_153 rfl rfl ?_
  refine x_callV0_i C 157 0 0 0 10 1 (cM_goTo_0 hl h0 hq hk hk2 hT hC ht hn) rfl gX6_does_X6_goTo ⟨rfl, by decide, by decide, rfl⟩ ⟨Nat.le_of_ble_eq_true rfl, Nat.le_of_ble_eq_true rfl⟩ rfl rfl rfl rfl (Nat.le_of_ble_eq_true rfl) ⟨Nat.le_of_ble_eq_true rfl, Nat.le_of_ble_eq_true rfl⟩ dX6_does_154 rfl rfl rfl (fun r2 w2 h2 => ?_)
  obtain ⟨rfl, rfl⟩ := h2
  refine x_pop C 158 dX6_does_157 rfl rfl ?_
  refine x_aload_n C 159 dX6_does_158 rfl rfl ?_
  refine xm_get C 162 fg_X6_does_98 rfl dX6_does_159 rfl ?_
  refine x_top (show _ = (0 : Int32) from plS_thr j (uI I 30 8 0)) ?_
  refine x_if_ne C 170 165 dX6_does_162 (by decide) rfl (fun zk162 => ?_) (fun zk162 => ?_)
  · exact absurd zk162 (by decide)
  · refine x_bipush (v := (110)) C 167 dX6_does_165 (by decide) rfl ?_
    refine x_goto C 172 dX6_does_167 (by decide) ?_
    exact x_nret C0 rfl (rfl) dX6_does_172 (Nat.le_of_ble_eq_true rfl) (Nat.le_of_ble_eq_true rfl) ⟨_, rfl, ⟨rfl, rfl⟩⟩
set_option maxRecDepth 100000 in
set_option maxHeartbeats 4000000 in
theorem cM_does_setFader1 (hl : l.stackTraces = false) {I : Nat → Nat → Int32} {k : Nat} (hk8 : k < 8) (hcl : I 23 k = 102) {ng : Nat} (h2 : I 30 2 = nI ng) (hg : ng ≤ 5) {x y : Int32} (ha : I 24 k = x) (hb : I 25 k = y) (hx : upB ng x = false) : Ct (gm D a E0) l yX6_does wsX6_does { frames := 20, cells := 0, slots := 0, locals := 500 } [.ref m, .int (nI k)] (wM m am a I en) (qI fun v w => v = 105 ∧ w = wM m am a (uI I 30 8 1) en) noX := by
  refine Ct.of [some (.ref m), some (.int (nI k)), none, none] rfl hl (by decide) (Nat.le_of_ble_eq_true rfl) rfl (fun φ C0 => ?_)
  have C := C0.1
  refine x_aload_n C 1 dX6_does_0 rfl rfl ?_
  refine xm_get C 4 fg_X6_does_84 rfl dX6_does_1 rfl ?_
  refine x_iload_n C 5 dX6_does_4 rfl rfl ?_
  refine xm_iald C 6 24 8 (k) (by decide) rfl rfl rfl (by omega) dX6_does_5 rfl ?_
  refine x_top ha ?_
  refine x_istore_n C 7 dX6_does_6 (by decide) rfl rfl ?_
  refine x_aload_n C 8 dX6_does_7 rfl rfl ?_
  refine xm_get C 11 fg_X6_does_87 rfl dX6_does_8 rfl ?_
  refine x_iload_n C 12 dX6_does_11 rfl rfl ?_
  refine xm_iald C 13 25 8 (k) (by decide) rfl rfl rfl (by omega) dX6_does_12 rfl ?_
  refine x_top hb ?_
  refine x_istore_n C 14 dX6_does_13 (by decide) rfl rfl ?_
  refine x_aload_n C 15 dX6_does_14 rfl rfl ?_
  refine xm_get C 18 fg_X6_does_81 rfl dX6_does_15 rfl ?_
  refine x_iload_n C 19 dX6_does_18 rfl rfl ?_
  refine xm_cald C 20 23 8 (k) (by decide) rfl rfl rfl (by omega) dX6_does_19 rfl ?_
  refine x_top hcl ?_
  refine x_tableIn C 173 (off := 153) dX6_does_20 (by decide) (by decide) (by decide) (by decide) ?_
  refine x_aload_n C 174 dX6_does_173 rfl rfl ?_
  refine x_iload_n C 175 dX6_does_174 rfl rfl ?_
  refine x_iload_n C 176 dX6_does_175 rfl rfl ?_
  refine x_callV0_i C 179 0 0 0 10 2 (cM_setFader_1 hl h2 hg hx) rfl gX6_does_X6_setFader ⟨rfl, by decide, by decide, rfl⟩ ⟨Nat.le_of_ble_eq_true rfl, Nat.le_of_ble_eq_true rfl⟩ rfl rfl rfl rfl (Nat.le_of_ble_eq_true rfl) ⟨Nat.le_of_ble_eq_true rfl, Nat.le_of_ble_eq_true rfl⟩ dX6_does_176 rfl rfl rfl (fun r1 w1 h1 => ?_)
  obtain ⟨rfl, rfl⟩ := h1
  refine x_pop C 180 dX6_does_179 rfl rfl ?_
  refine x_aload_n C 181 dX6_does_180 rfl rfl ?_
  refine xm_get C 184 fg_X6_does_98 rfl dX6_does_181 rfl ?_
  refine x_top (show _ = (1 : Int32) from rfl) ?_
  refine x_if_ne C 192 187 dX6_does_184 (by decide) rfl (fun zk184 => ?_) (fun zk184 => ?_)
  · refine x_aload_n C 193 dX6_does_192 rfl rfl ?_
    refine xm_get C 196 fg_X6_does_98 rfl dX6_does_193 rfl ?_
    refine x_top (show _ = (1 : Int32) from rfl) ?_
    refine x_iconst (v := (1)) C 197 dX6_does_196 (by decide) rfl ?_
    refine x_icmp_ne C 205 200 dX6_does_197 (by decide) rfl (fun zk197 => ?_) (fun zk197 => ?_)
    · exact absurd zk197 (by decide)
    · refine x_bipush (v := (105)) C 202 dX6_does_200 (by decide) rfl ?_
      refine x_goto C 207 dX6_does_202 (by decide) ?_
      exact x_nret C0 rfl (rfl) dX6_does_207 (Nat.le_of_ble_eq_true rfl) (Nat.le_of_ble_eq_true rfl) ⟨_, rfl, ⟨rfl, rfl⟩⟩
  · exact absurd zk184 (by decide)
set_option maxRecDepth 100000 in
set_option maxHeartbeats 4000000 in
theorem cM_does_setFader2 (hl : l.stackTraces = false) {I : Nat → Nat → Int32} {k : Nat} (hk8 : k < 8) (hcl : I 23 k = 102) {ng : Nat} (h2 : I 30 2 = nI ng) (hg : ng ≤ 5) {g : Nat} {y : Int32} (ha : I 24 k = nI g) (hb : I 25 k = y) (hx : g < ng) (hv : lvB y = false) : Ct (gm D a E0) l yX6_does wsX6_does { frames := 20, cells := 0, slots := 0, locals := 500 } [.ref m, .int (nI k)] (wM m am a I en) (qI fun v w => v = 97 ∧ w = wM m am a (uI I 30 8 2) en) noX := by
  refine Ct.of [some (.ref m), some (.int (nI k)), none, none] rfl hl (by decide) (Nat.le_of_ble_eq_true rfl) rfl (fun φ C0 => ?_)
  have C := C0.1
  refine x_aload_n C 1 dX6_does_0 rfl rfl ?_
  refine xm_get C 4 fg_X6_does_84 rfl dX6_does_1 rfl ?_
  refine x_iload_n C 5 dX6_does_4 rfl rfl ?_
  refine xm_iald C 6 24 8 (k) (by decide) rfl rfl rfl (by omega) dX6_does_5 rfl ?_
  refine x_top ha ?_
  refine x_istore_n C 7 dX6_does_6 (by decide) rfl rfl ?_
  refine x_aload_n C 8 dX6_does_7 rfl rfl ?_
  refine xm_get C 11 fg_X6_does_87 rfl dX6_does_8 rfl ?_
  refine x_iload_n C 12 dX6_does_11 rfl rfl ?_
  refine xm_iald C 13 25 8 (k) (by decide) rfl rfl rfl (by omega) dX6_does_12 rfl ?_
  refine x_top hb ?_
  refine x_istore_n C 14 dX6_does_13 (by decide) rfl rfl ?_
  refine x_aload_n C 15 dX6_does_14 rfl rfl ?_
  refine xm_get C 18 fg_X6_does_81 rfl dX6_does_15 rfl ?_
  refine x_iload_n C 19 dX6_does_18 rfl rfl ?_
  refine xm_cald C 20 23 8 (k) (by decide) rfl rfl rfl (by omega) dX6_does_19 rfl ?_
  refine x_top hcl ?_
  refine x_tableIn C 173 (off := 153) dX6_does_20 (by decide) (by decide) (by decide) (by decide) ?_
  refine x_aload_n C 174 dX6_does_173 rfl rfl ?_
  refine x_iload_n C 175 dX6_does_174 rfl rfl ?_
  refine x_iload_n C 176 dX6_does_175 rfl rfl ?_
  refine x_callV0_i C 179 0 0 0 10 2 (cM_setFader_2 hl h2 hg hx hv) rfl gX6_does_X6_setFader ⟨rfl, by decide, by decide, rfl⟩ ⟨Nat.le_of_ble_eq_true rfl, Nat.le_of_ble_eq_true rfl⟩ rfl rfl rfl rfl (Nat.le_of_ble_eq_true rfl) ⟨Nat.le_of_ble_eq_true rfl, Nat.le_of_ble_eq_true rfl⟩ dX6_does_176 rfl rfl rfl (fun r1 w1 h1 => ?_)
  obtain ⟨rfl, rfl⟩ := h1
  refine x_pop C 180 dX6_does_179 rfl rfl ?_
  refine x_aload_n C 181 dX6_does_180 rfl rfl ?_
  refine xm_get C 184 fg_X6_does_98 rfl dX6_does_181 rfl ?_
  refine x_top (show _ = (2 : Int32) from rfl) ?_
  refine x_if_ne C 192 187 dX6_does_184 (by decide) rfl (fun zk184 => ?_) (fun zk184 => ?_)
  · refine x_aload_n C 193 dX6_does_192 rfl rfl ?_
    refine xm_get C 196 fg_X6_does_98 rfl dX6_does_193 rfl ?_
    refine x_top (show _ = (2 : Int32) from rfl) ?_
    refine x_iconst (v := (1)) C 197 dX6_does_196 (by decide) rfl ?_
    refine x_icmp_ne C 205 200 dX6_does_197 (by decide) rfl (fun zk197 => ?_) (fun zk197 => ?_)
    · refine x_bipush (v := (97)) C 207 dX6_does_205 (by decide) rfl ?_
      exact x_nret C0 rfl (rfl) dX6_does_207 (Nat.le_of_ble_eq_true rfl) (Nat.le_of_ble_eq_true rfl) ⟨_, rfl, ⟨rfl, rfl⟩⟩
    · exact absurd zk197 (by decide)
  · exact absurd zk184 (by decide)
set_option maxRecDepth 100000 in
set_option maxHeartbeats 4000000 in
theorem cM_does_setFader0 (hl : l.stackTraces = false) {I : Nat → Nat → Int32} {k : Nat} (hk8 : k < 8) (hcl : I 23 k = 102) {ng : Nat} (h2 : I 30 2 = nI ng) (hg : ng ≤ 5) {g lv : Nat} (ha : I 24 k = nI g) (hb : I 25 k = nI lv) (hx : g < ng) (hv : lv < 256) : Ct (gm D a E0) l yX6_does wsX6_does { frames := 20, cells := 0, slots := 0, locals := 500 } [.ref m, .int (nI k)] (wM m am a I en) (qI fun v w => v = 110 ∧ w = wM m am a (sfM (uI I 30 8 0) g lv) en) noX := by
  refine Ct.of [some (.ref m), some (.int (nI k)), none, none] rfl hl (by decide) (Nat.le_of_ble_eq_true rfl) rfl (fun φ C0 => ?_)
  have C := C0.1
  refine x_aload_n C 1 dX6_does_0 rfl rfl ?_
  refine xm_get C 4 fg_X6_does_84 rfl dX6_does_1 rfl ?_
  refine x_iload_n C 5 dX6_does_4 rfl rfl ?_
  refine xm_iald C 6 24 8 (k) (by decide) rfl rfl rfl (by omega) dX6_does_5 rfl ?_
  refine x_top ha ?_
  refine x_istore_n C 7 dX6_does_6 (by decide) rfl rfl ?_
  refine x_aload_n C 8 dX6_does_7 rfl rfl ?_
  refine xm_get C 11 fg_X6_does_87 rfl dX6_does_8 rfl ?_
  refine x_iload_n C 12 dX6_does_11 rfl rfl ?_
  refine xm_iald C 13 25 8 (k) (by decide) rfl rfl rfl (by omega) dX6_does_12 rfl ?_
  refine x_top hb ?_
  refine x_istore_n C 14 dX6_does_13 (by decide) rfl rfl ?_
  refine x_aload_n C 15 dX6_does_14 rfl rfl ?_
  refine xm_get C 18 fg_X6_does_81 rfl dX6_does_15 rfl ?_
  refine x_iload_n C 19 dX6_does_18 rfl rfl ?_
  refine xm_cald C 20 23 8 (k) (by decide) rfl rfl rfl (by omega) dX6_does_19 rfl ?_
  refine x_top hcl ?_
  refine x_tableIn C 173 (off := 153) dX6_does_20 (by decide) (by decide) (by decide) (by decide) ?_
  refine x_aload_n C 174 dX6_does_173 rfl rfl ?_
  refine x_iload_n C 175 dX6_does_174 rfl rfl ?_
  refine x_iload_n C 176 dX6_does_175 rfl rfl ?_
  refine x_callV0_i C 179 0 0 0 10 2 (cM_setFader_0 hl h2 hg hx hv) rfl gX6_does_X6_setFader ⟨rfl, by decide, by decide, rfl⟩ ⟨Nat.le_of_ble_eq_true rfl, Nat.le_of_ble_eq_true rfl⟩ rfl rfl rfl rfl (Nat.le_of_ble_eq_true rfl) ⟨Nat.le_of_ble_eq_true rfl, Nat.le_of_ble_eq_true rfl⟩ dX6_does_176 rfl rfl rfl (fun r1 w1 h1 => ?_)
  obtain ⟨rfl, rfl⟩ := h1
  refine x_pop C 180 dX6_does_179 rfl rfl ?_
  refine x_aload_n C 181 dX6_does_180 rfl rfl ?_
  refine xm_get C 184 fg_X6_does_98 rfl dX6_does_181 rfl ?_
  refine x_top (show _ = (0 : Int32) from sfM_thr (uI I 30 8 0) g lv) ?_
  refine x_if_ne C 192 187 dX6_does_184 (by decide) rfl (fun zk184 => ?_) (fun zk184 => ?_)
  · exact absurd zk184 (by decide)
  · refine x_bipush (v := (110)) C 189 dX6_does_187 (by decide) rfl ?_
    refine x_goto C 207 dX6_does_189 (by decide) ?_
    exact x_nret C0 rfl (rfl) dX6_does_207 (Nat.le_of_ble_eq_true rfl) (Nat.le_of_ble_eq_true rfl) ⟨_, rfl, ⟨rfl, rfl⟩⟩
set_option maxRecDepth 100000 in
set_option maxHeartbeats 4000000 in
theorem cM_does_setMaster1 (hl : l.stackTraces = false) {I : Nat → Nat → Int32} {k : Nat} (hk8 : k < 8) (hcl : I 23 k = 109) {x : Int32} (ha : I 24 k = x) (hv : lvB x = false) : Ct (gm D a E0) l yX6_does wsX6_does { frames := 20, cells := 0, slots := 0, locals := 500 } [.ref m, .int (nI k)] (wM m am a I en) (qI fun v w => v = 97 ∧ w = wM m am a (uI I 30 8 1) en) noX := by
  refine Ct.of [some (.ref m), some (.int (nI k)), none, none] rfl hl (by decide) (Nat.le_of_ble_eq_true rfl) rfl (fun φ C0 => ?_)
  have C := C0.1
  refine x_aload_n C 1 dX6_does_0 rfl rfl ?_
  refine xm_get C 4 fg_X6_does_84 rfl dX6_does_1 rfl ?_
  refine x_iload_n C 5 dX6_does_4 rfl rfl ?_
  refine xm_iald C 6 24 8 (k) (by decide) rfl rfl rfl (by omega) dX6_does_5 rfl ?_
  refine x_top ha ?_
  refine x_istore_n C 7 dX6_does_6 (by decide) rfl rfl ?_
  refine x_aload_n C 8 dX6_does_7 rfl rfl ?_
  refine xm_get C 11 fg_X6_does_87 rfl dX6_does_8 rfl ?_
  refine x_iload_n C 12 dX6_does_11 rfl rfl ?_
  refine xm_iald C 13 25 8 (k) (by decide) rfl rfl rfl (by omega) dX6_does_12 rfl ?_
  refine x_nm (fun p2 ep2 => ?_)
  refine x_istore_n C 14 dX6_does_13 (by decide) rfl rfl ?_
  refine x_aload_n C 15 dX6_does_14 rfl rfl ?_
  refine xm_get C 18 fg_X6_does_81 rfl dX6_does_15 rfl ?_
  refine x_iload_n C 19 dX6_does_18 rfl rfl ?_
  refine xm_cald C 20 23 8 (k) (by decide) rfl rfl rfl (by omega) dX6_does_19 rfl ?_
  refine x_top hcl ?_
  refine x_tableIn C 208 (off := 188) dX6_does_20 (by decide) (by decide) (by decide) (by decide) ?_
  refine x_aload_n C 209 dX6_does_208 rfl rfl ?_
  refine x_iload_n C 210 dX6_does_209 rfl rfl ?_
  refine x_callV0_i C 213 0 0 0 10 1 (cM_setMaster_1 hl hv) rfl gX6_does_X6_setMaster ⟨rfl, by decide, by decide, rfl⟩ ⟨Nat.le_of_ble_eq_true rfl, Nat.le_of_ble_eq_true rfl⟩ rfl rfl rfl rfl (Nat.le_of_ble_eq_true rfl) ⟨Nat.le_of_ble_eq_true rfl, Nat.le_of_ble_eq_true rfl⟩ dX6_does_210 rfl rfl rfl (fun r2 w2 h2 => ?_)
  obtain ⟨rfl, rfl⟩ := h2
  refine x_pop C 214 dX6_does_213 rfl rfl ?_
  refine x_aload_n C 215 dX6_does_214 rfl rfl ?_
  refine xm_get C 218 fg_X6_does_98 rfl dX6_does_215 rfl ?_
  refine x_top (show _ = (1 : Int32) from rfl) ?_
  refine x_if_ne C 226 221 dX6_does_218 (by decide) rfl (fun zk218 => ?_) (fun zk218 => ?_)
  · refine x_bipush (v := (97)) C 228 dX6_does_226 (by decide) rfl ?_
    exact x_nret C0 rfl (rfl) dX6_does_228 (Nat.le_of_ble_eq_true rfl) (Nat.le_of_ble_eq_true rfl) ⟨_, rfl, ⟨rfl, rfl⟩⟩
  · exact absurd zk218 (by decide)
set_option maxRecDepth 100000 in
set_option maxHeartbeats 4000000 in
theorem cM_does_setMaster0 (hl : l.stackTraces = false) {I : Nat → Nat → Int32} {k : Nat} (hk8 : k < 8) (hcl : I 23 k = 109) {lv : Nat} (ha : I 24 k = nI lv) (hv : lv < 256) : Ct (gm D a E0) l yX6_does wsX6_does { frames := 20, cells := 0, slots := 0, locals := 500 } [.ref m, .int (nI k)] (wM m am a I en) (qI fun v w => v = 110 ∧ w = wM m am a (uI (uI I 30 8 0) 30 7 (nI lv)) en) noX := by
  refine Ct.of [some (.ref m), some (.int (nI k)), none, none] rfl hl (by decide) (Nat.le_of_ble_eq_true rfl) rfl (fun φ C0 => ?_)
  have C := C0.1
  refine x_aload_n C 1 dX6_does_0 rfl rfl ?_
  refine xm_get C 4 fg_X6_does_84 rfl dX6_does_1 rfl ?_
  refine x_iload_n C 5 dX6_does_4 rfl rfl ?_
  refine xm_iald C 6 24 8 (k) (by decide) rfl rfl rfl (by omega) dX6_does_5 rfl ?_
  refine x_top ha ?_
  refine x_istore_n C 7 dX6_does_6 (by decide) rfl rfl ?_
  refine x_aload_n C 8 dX6_does_7 rfl rfl ?_
  refine xm_get C 11 fg_X6_does_87 rfl dX6_does_8 rfl ?_
  refine x_iload_n C 12 dX6_does_11 rfl rfl ?_
  refine xm_iald C 13 25 8 (k) (by decide) rfl rfl rfl (by omega) dX6_does_12 rfl ?_
  refine x_nm (fun p2 ep2 => ?_)
  refine x_istore_n C 14 dX6_does_13 (by decide) rfl rfl ?_
  refine x_aload_n C 15 dX6_does_14 rfl rfl ?_
  refine xm_get C 18 fg_X6_does_81 rfl dX6_does_15 rfl ?_
  refine x_iload_n C 19 dX6_does_18 rfl rfl ?_
  refine xm_cald C 20 23 8 (k) (by decide) rfl rfl rfl (by omega) dX6_does_19 rfl ?_
  refine x_top hcl ?_
  refine x_tableIn C 208 (off := 188) dX6_does_20 (by decide) (by decide) (by decide) (by decide) ?_
  refine x_aload_n C 209 dX6_does_208 rfl rfl ?_
  refine x_iload_n C 210 dX6_does_209 rfl rfl ?_
  refine x_callV0_i C 213 0 0 0 10 1 (cM_setMaster_0 hl hv) rfl gX6_does_X6_setMaster ⟨rfl, by decide, by decide, rfl⟩ ⟨Nat.le_of_ble_eq_true rfl, Nat.le_of_ble_eq_true rfl⟩ rfl rfl rfl rfl (Nat.le_of_ble_eq_true rfl) ⟨Nat.le_of_ble_eq_true rfl, Nat.le_of_ble_eq_true rfl⟩ dX6_does_210 rfl rfl rfl (fun r2 w2 h2 => ?_)
  obtain ⟨rfl, rfl⟩ := h2
  refine x_pop C 214 dX6_does_213 rfl rfl ?_
  refine x_aload_n C 215 dX6_does_214 rfl rfl ?_
  refine xm_get C 218 fg_X6_does_98 rfl dX6_does_215 rfl ?_
  refine x_top (show _ = (0 : Int32) from rfl) ?_
  refine x_if_ne C 226 221 dX6_does_218 (by decide) rfl (fun zk218 => ?_) (fun zk218 => ?_)
  · exact absurd zk218 (by decide)
  · refine x_bipush (v := (110)) C 223 dX6_does_221 (by decide) rfl ?_
    refine x_goto C 228 dX6_does_223 (by decide) ?_
    exact x_nret C0 rfl (rfl) dX6_does_228 (Nat.le_of_ble_eq_true rfl) (Nat.le_of_ble_eq_true rfl) ⟨_, rfl, ⟨rfl, rfl⟩⟩
set_option maxRecDepth 100000 in
set_option maxHeartbeats 4000000 in
theorem cM_does_park1 (hl : l.stackTraces = false) {I : Nat → Nat → Int32} {k : Nat} (hk8 : k < 8) (hcl : I 23 k = 112) {x y : Int32} (ha : I 24 k = x) (hb : I 25 k = y) (hc : chB x = false) : Ct (gm D a E0) l yX6_does wsX6_does { frames := 20, cells := 0, slots := 0, locals := 500 } [.ref m, .int (nI k)] (wM m am a I en) (qI fun v w => v = 105 ∧ w = wM m am a (uI I 30 8 1) en) noX := by
  refine Ct.of [some (.ref m), some (.int (nI k)), none, none] rfl hl (by decide) (Nat.le_of_ble_eq_true rfl) rfl (fun φ C0 => ?_)
  have C := C0.1
  refine x_aload_n C 1 dX6_does_0 rfl rfl ?_
  refine xm_get C 4 fg_X6_does_84 rfl dX6_does_1 rfl ?_
  refine x_iload_n C 5 dX6_does_4 rfl rfl ?_
  refine xm_iald C 6 24 8 (k) (by decide) rfl rfl rfl (by omega) dX6_does_5 rfl ?_
  refine x_top ha ?_
  refine x_istore_n C 7 dX6_does_6 (by decide) rfl rfl ?_
  refine x_aload_n C 8 dX6_does_7 rfl rfl ?_
  refine xm_get C 11 fg_X6_does_87 rfl dX6_does_8 rfl ?_
  refine x_iload_n C 12 dX6_does_11 rfl rfl ?_
  refine xm_iald C 13 25 8 (k) (by decide) rfl rfl rfl (by omega) dX6_does_12 rfl ?_
  refine x_top hb ?_
  refine x_istore_n C 14 dX6_does_13 (by decide) rfl rfl ?_
  refine x_aload_n C 15 dX6_does_14 rfl rfl ?_
  refine xm_get C 18 fg_X6_does_81 rfl dX6_does_15 rfl ?_
  refine x_iload_n C 19 dX6_does_18 rfl rfl ?_
  refine xm_cald C 20 23 8 (k) (by decide) rfl rfl rfl (by omega) dX6_does_19 rfl ?_
  refine x_top hcl ?_
  refine x_tableIn C 229 (off := 209) dX6_does_20 (by decide) (by decide) (by decide) (by decide) ?_
  refine x_aload_n C 230 dX6_does_229 rfl rfl ?_
  refine x_iload_n C 231 dX6_does_230 rfl rfl ?_
  refine x_iload_n C 232 dX6_does_231 rfl rfl ?_
  refine x_callV0_i C 235 0 0 0 10 2 (cM_park_1 hl hc) rfl gX6_does_X6_park ⟨rfl, by decide, by decide, rfl⟩ ⟨Nat.le_of_ble_eq_true rfl, Nat.le_of_ble_eq_true rfl⟩ rfl rfl rfl rfl (Nat.le_of_ble_eq_true rfl) ⟨Nat.le_of_ble_eq_true rfl, Nat.le_of_ble_eq_true rfl⟩ dX6_does_232 rfl rfl rfl (fun r1 w1 h1 => ?_)
  obtain ⟨rfl, rfl⟩ := h1
  refine x_pop C 236 dX6_does_235 rfl rfl ?_
  refine x_aload_n C 237 dX6_does_236 rfl rfl ?_
  refine xm_get C 240 fg_X6_does_98 rfl dX6_does_237 rfl ?_
  refine x_top (show _ = (1 : Int32) from rfl) ?_
  refine x_if_ne C 248 243 dX6_does_240 (by decide) rfl (fun zk240 => ?_) (fun zk240 => ?_)
  · refine x_aload_n C 249 dX6_does_248 rfl rfl ?_
    refine xm_get C 252 fg_X6_does_98 rfl dX6_does_249 rfl ?_
    refine x_top (show _ = (1 : Int32) from rfl) ?_
    refine x_iconst (v := (1)) C 253 dX6_does_252 (by decide) rfl ?_
    refine x_icmp_ne C 261 256 dX6_does_253 (by decide) rfl (fun zk253 => ?_) (fun zk253 => ?_)
    · exact absurd zk253 (by decide)
    · refine x_bipush (v := (105)) C 258 dX6_does_256 (by decide) rfl ?_
      refine x_goto C 263 dX6_does_258 (by decide) ?_
      exact x_nret C0 rfl (rfl) dX6_does_263 (Nat.le_of_ble_eq_true rfl) (Nat.le_of_ble_eq_true rfl) ⟨_, rfl, ⟨rfl, rfl⟩⟩
  · exact absurd zk240 (by decide)
set_option maxRecDepth 100000 in
set_option maxHeartbeats 4000000 in
theorem cM_does_park2 (hl : l.stackTraces = false) {I : Nat → Nat → Int32} {k : Nat} (hk8 : k < 8) (hcl : I 23 k = 112) {d : Nat} {y : Int32} (ha : I 24 k = nI d) (hb : I 25 k = y) (hc : d < 12) (hv : lvB y = false) : Ct (gm D a E0) l yX6_does wsX6_does { frames := 20, cells := 0, slots := 0, locals := 500 } [.ref m, .int (nI k)] (wM m am a I en) (qI fun v w => v = 97 ∧ w = wM m am a (uI I 30 8 2) en) noX := by
  refine Ct.of [some (.ref m), some (.int (nI k)), none, none] rfl hl (by decide) (Nat.le_of_ble_eq_true rfl) rfl (fun φ C0 => ?_)
  have C := C0.1
  refine x_aload_n C 1 dX6_does_0 rfl rfl ?_
  refine xm_get C 4 fg_X6_does_84 rfl dX6_does_1 rfl ?_
  refine x_iload_n C 5 dX6_does_4 rfl rfl ?_
  refine xm_iald C 6 24 8 (k) (by decide) rfl rfl rfl (by omega) dX6_does_5 rfl ?_
  refine x_top ha ?_
  refine x_istore_n C 7 dX6_does_6 (by decide) rfl rfl ?_
  refine x_aload_n C 8 dX6_does_7 rfl rfl ?_
  refine xm_get C 11 fg_X6_does_87 rfl dX6_does_8 rfl ?_
  refine x_iload_n C 12 dX6_does_11 rfl rfl ?_
  refine xm_iald C 13 25 8 (k) (by decide) rfl rfl rfl (by omega) dX6_does_12 rfl ?_
  refine x_top hb ?_
  refine x_istore_n C 14 dX6_does_13 (by decide) rfl rfl ?_
  refine x_aload_n C 15 dX6_does_14 rfl rfl ?_
  refine xm_get C 18 fg_X6_does_81 rfl dX6_does_15 rfl ?_
  refine x_iload_n C 19 dX6_does_18 rfl rfl ?_
  refine xm_cald C 20 23 8 (k) (by decide) rfl rfl rfl (by omega) dX6_does_19 rfl ?_
  refine x_top hcl ?_
  refine x_tableIn C 229 (off := 209) dX6_does_20 (by decide) (by decide) (by decide) (by decide) ?_
  refine x_aload_n C 230 dX6_does_229 rfl rfl ?_
  refine x_iload_n C 231 dX6_does_230 rfl rfl ?_
  refine x_iload_n C 232 dX6_does_231 rfl rfl ?_
  refine x_callV0_i C 235 0 0 0 10 2 (cM_park_2 hl hc hv) rfl gX6_does_X6_park ⟨rfl, by decide, by decide, rfl⟩ ⟨Nat.le_of_ble_eq_true rfl, Nat.le_of_ble_eq_true rfl⟩ rfl rfl rfl rfl (Nat.le_of_ble_eq_true rfl) ⟨Nat.le_of_ble_eq_true rfl, Nat.le_of_ble_eq_true rfl⟩ dX6_does_232 rfl rfl rfl (fun r1 w1 h1 => ?_)
  obtain ⟨rfl, rfl⟩ := h1
  refine x_pop C 236 dX6_does_235 rfl rfl ?_
  refine x_aload_n C 237 dX6_does_236 rfl rfl ?_
  refine xm_get C 240 fg_X6_does_98 rfl dX6_does_237 rfl ?_
  refine x_top (show _ = (2 : Int32) from rfl) ?_
  refine x_if_ne C 248 243 dX6_does_240 (by decide) rfl (fun zk240 => ?_) (fun zk240 => ?_)
  · refine x_aload_n C 249 dX6_does_248 rfl rfl ?_
    refine xm_get C 252 fg_X6_does_98 rfl dX6_does_249 rfl ?_
    refine x_top (show _ = (2 : Int32) from rfl) ?_
    refine x_iconst (v := (1)) C 253 dX6_does_252 (by decide) rfl ?_
    refine x_icmp_ne C 261 256 dX6_does_253 (by decide) rfl (fun zk253 => ?_) (fun zk253 => ?_)
    · refine x_bipush (v := (97)) C 263 dX6_does_261 (by decide) rfl ?_
      exact x_nret C0 rfl (rfl) dX6_does_263 (Nat.le_of_ble_eq_true rfl) (Nat.le_of_ble_eq_true rfl) ⟨_, rfl, ⟨rfl, rfl⟩⟩
    · exact absurd zk253 (by decide)
  · exact absurd zk240 (by decide)
set_option maxRecDepth 100000 in
set_option maxHeartbeats 4000000 in
theorem cM_does_park0 (hl : l.stackTraces = false) {I : Nat → Nat → Int32} {k : Nat} (hk8 : k < 8) (hcl : I 23 k = 112) {d lv : Nat} (ha : I 24 k = nI d) (hb : I 25 k = nI lv) (hc : d < 12) (hv : lv < 256) : Ct (gm D a E0) l yX6_does wsX6_does { frames := 20, cells := 0, slots := 0, locals := 500 } [.ref m, .int (nI k)] (wM m am a I en) (qI fun v w => v = 110 ∧ w = wM m am a (uI (uI I 30 8 0) 13 d (nI lv)) en) noX := by
  refine Ct.of [some (.ref m), some (.int (nI k)), none, none] rfl hl (by decide) (Nat.le_of_ble_eq_true rfl) rfl (fun φ C0 => ?_)
  have C := C0.1
  refine x_aload_n C 1 dX6_does_0 rfl rfl ?_
  refine xm_get C 4 fg_X6_does_84 rfl dX6_does_1 rfl ?_
  refine x_iload_n C 5 dX6_does_4 rfl rfl ?_
  refine xm_iald C 6 24 8 (k) (by decide) rfl rfl rfl (by omega) dX6_does_5 rfl ?_
  refine x_top ha ?_
  refine x_istore_n C 7 dX6_does_6 (by decide) rfl rfl ?_
  refine x_aload_n C 8 dX6_does_7 rfl rfl ?_
  refine xm_get C 11 fg_X6_does_87 rfl dX6_does_8 rfl ?_
  refine x_iload_n C 12 dX6_does_11 rfl rfl ?_
  refine xm_iald C 13 25 8 (k) (by decide) rfl rfl rfl (by omega) dX6_does_12 rfl ?_
  refine x_top hb ?_
  refine x_istore_n C 14 dX6_does_13 (by decide) rfl rfl ?_
  refine x_aload_n C 15 dX6_does_14 rfl rfl ?_
  refine xm_get C 18 fg_X6_does_81 rfl dX6_does_15 rfl ?_
  refine x_iload_n C 19 dX6_does_18 rfl rfl ?_
  refine xm_cald C 20 23 8 (k) (by decide) rfl rfl rfl (by omega) dX6_does_19 rfl ?_
  refine x_top hcl ?_
  refine x_tableIn C 229 (off := 209) dX6_does_20 (by decide) (by decide) (by decide) (by decide) ?_
  refine x_aload_n C 230 dX6_does_229 rfl rfl ?_
  refine x_iload_n C 231 dX6_does_230 rfl rfl ?_
  refine x_iload_n C 232 dX6_does_231 rfl rfl ?_
  refine x_callV0_i C 235 0 0 0 10 2 (cM_park_0 hl hc hv) rfl gX6_does_X6_park ⟨rfl, by decide, by decide, rfl⟩ ⟨Nat.le_of_ble_eq_true rfl, Nat.le_of_ble_eq_true rfl⟩ rfl rfl rfl rfl (Nat.le_of_ble_eq_true rfl) ⟨Nat.le_of_ble_eq_true rfl, Nat.le_of_ble_eq_true rfl⟩ dX6_does_232 rfl rfl rfl (fun r1 w1 h1 => ?_)
  obtain ⟨rfl, rfl⟩ := h1
  refine x_pop C 236 dX6_does_235 rfl rfl ?_
  refine x_aload_n C 237 dX6_does_236 rfl rfl ?_
  refine xm_get C 240 fg_X6_does_98 rfl dX6_does_237 rfl ?_
  refine x_top (show _ = (0 : Int32) from rfl) ?_
  refine x_if_ne C 248 243 dX6_does_240 (by decide) rfl (fun zk240 => ?_) (fun zk240 => ?_)
  · exact absurd zk240 (by decide)
  · refine x_bipush (v := (110)) C 245 dX6_does_243 (by decide) rfl ?_
    refine x_goto C 263 dX6_does_245 (by decide) ?_
    exact x_nret C0 rfl (rfl) dX6_does_263 (Nat.le_of_ble_eq_true rfl) (Nat.le_of_ble_eq_true rfl) ⟨_, rfl, ⟨rfl, rfl⟩⟩
set_option maxRecDepth 100000 in
set_option maxHeartbeats 4000000 in
theorem cM_does_pass1 (hl : l.stackTraces = false) {I : Nat → Nat → Int32} {k : Nat} (hk8 : k < 8) (hcl : I 23 k = 119) {x : Int32} (ha : I 24 k = x) (ht : inB x.toInt64 1 100 = false) : Ct (gm D a E0) l yX6_does wsX6_does { frames := 20, cells := 0, slots := 0, locals := 500 } [.ref m, .int (nI k)] (wM m am a I en) (qI fun v w => v = 97 ∧ w = wM m am a (uI I 30 8 1) en) noX := by
  refine Ct.of [some (.ref m), some (.int (nI k)), none, none] rfl hl (by decide) (Nat.le_of_ble_eq_true rfl) rfl (fun φ C0 => ?_)
  have C := C0.1
  refine x_aload_n C 1 dX6_does_0 rfl rfl ?_
  refine xm_get C 4 fg_X6_does_84 rfl dX6_does_1 rfl ?_
  refine x_iload_n C 5 dX6_does_4 rfl rfl ?_
  refine xm_iald C 6 24 8 (k) (by decide) rfl rfl rfl (by omega) dX6_does_5 rfl ?_
  refine x_top ha ?_
  refine x_istore_n C 7 dX6_does_6 (by decide) rfl rfl ?_
  refine x_aload_n C 8 dX6_does_7 rfl rfl ?_
  refine xm_get C 11 fg_X6_does_87 rfl dX6_does_8 rfl ?_
  refine x_iload_n C 12 dX6_does_11 rfl rfl ?_
  refine xm_iald C 13 25 8 (k) (by decide) rfl rfl rfl (by omega) dX6_does_12 rfl ?_
  refine x_nm (fun p2 ep2 => ?_)
  refine x_istore_n C 14 dX6_does_13 (by decide) rfl rfl ?_
  refine x_aload_n C 15 dX6_does_14 rfl rfl ?_
  refine xm_get C 18 fg_X6_does_81 rfl dX6_does_15 rfl ?_
  refine x_iload_n C 19 dX6_does_18 rfl rfl ?_
  refine xm_cald C 20 23 8 (k) (by decide) rfl rfl rfl (by omega) dX6_does_19 rfl ?_
  refine x_top hcl ?_
  refine x_tableOut C 264 dX6_does_20 (Or.inr (by decide)) (by decide) ?_
  refine x_aload_n C 265 dX6_does_264 rfl rfl ?_
  refine x_iload_n C 266 dX6_does_265 rfl rfl ?_
  refine x_callV0_i C 269 0 0 0 10 1 (cM_pass_1 hl ht) rfl gX6_does_X6_pass ⟨rfl, by decide, by decide, rfl⟩ ⟨Nat.le_of_ble_eq_true rfl, Nat.le_of_ble_eq_true rfl⟩ rfl rfl rfl rfl (Nat.le_of_ble_eq_true rfl) ⟨Nat.le_of_ble_eq_true rfl, Nat.le_of_ble_eq_true rfl⟩ dX6_does_266 rfl rfl rfl (fun r2 w2 h2 => ?_)
  obtain ⟨rfl, rfl⟩ := h2
  refine x_pop C 270 dX6_does_269 rfl rfl ?_
  refine x_aload_n C 271 dX6_does_270 rfl rfl ?_
  refine xm_get C 274 fg_X6_does_98 rfl dX6_does_271 rfl ?_
  refine x_top (show _ = (1 : Int32) from rfl) ?_
  refine x_if_ne C 282 277 dX6_does_274 (by decide) rfl (fun zk274 => ?_) (fun zk274 => ?_)
  · refine x_bipush (v := (97)) C 284 dX6_does_282 (by decide) rfl ?_
    exact x_nret C0 rfl (rfl) dX6_does_284 (Nat.le_of_ble_eq_true rfl) (Nat.le_of_ble_eq_true rfl) ⟨_, rfl, ⟨rfl, rfl⟩⟩
  · exact absurd zk274 (by decide)
set_option maxRecDepth 100000 in
set_option maxHeartbeats 4000000 in
theorem cM_does_pass0 (hl : l.stackTraces = false) {I : Nat → Nat → Int32} {k : Nat} (hk8 : k < 8) (hcl : I 23 k = 119) {eg : Nat → Nat} {nq ng ne nt t : Nat} (hM : MI I eg nq ng ne nt) (ha : I 24 k = nI t) (ht : inB (nI t).toInt64 1 100 = true) (ht2 : t ≤ 100) : Ct (gm D a E0) l yX6_does wsX6_does { frames := 20, cells := 0, slots := 0, locals := 500 } [.ref m, .int (nI k)] (wM m am a I en) (qI fun v w => v = 110 ∧ w = wM m am a (tkL eg ng ne t (uI I 30 8 0) en).1 (tkL eg ng ne t (uI I 30 8 0) en).2) noX := by
  refine Ct.of [some (.ref m), some (.int (nI k)), none, none] rfl hl (by decide) (Nat.le_of_ble_eq_true rfl) rfl (fun φ C0 => ?_)
  have C := C0.1
  refine x_aload_n C 1 dX6_does_0 rfl rfl ?_
  refine xm_get C 4 fg_X6_does_84 rfl dX6_does_1 rfl ?_
  refine x_iload_n C 5 dX6_does_4 rfl rfl ?_
  refine xm_iald C 6 24 8 (k) (by decide) rfl rfl rfl (by omega) dX6_does_5 rfl ?_
  refine x_top ha ?_
  refine x_istore_n C 7 dX6_does_6 (by decide) rfl rfl ?_
  refine x_aload_n C 8 dX6_does_7 rfl rfl ?_
  refine xm_get C 11 fg_X6_does_87 rfl dX6_does_8 rfl ?_
  refine x_iload_n C 12 dX6_does_11 rfl rfl ?_
  refine xm_iald C 13 25 8 (k) (by decide) rfl rfl rfl (by omega) dX6_does_12 rfl ?_
  refine x_nm (fun p2 ep2 => ?_)
  refine x_istore_n C 14 dX6_does_13 (by decide) rfl rfl ?_
  refine x_aload_n C 15 dX6_does_14 rfl rfl ?_
  refine xm_get C 18 fg_X6_does_81 rfl dX6_does_15 rfl ?_
  refine x_iload_n C 19 dX6_does_18 rfl rfl ?_
  refine xm_cald C 20 23 8 (k) (by decide) rfl rfl rfl (by omega) dX6_does_19 rfl ?_
  refine x_top hcl ?_
  refine x_tableOut C 264 dX6_does_20 (Or.inr (by decide)) (by decide) ?_
  refine x_aload_n C 265 dX6_does_264 rfl rfl ?_
  refine x_iload_n C 266 dX6_does_265 rfl rfl ?_
  refine x_callV0_i C 269 0 0 0 10 1 (cM_pass_0 hl hM ht ht2) rfl gX6_does_X6_pass ⟨rfl, by decide, by decide, rfl⟩ ⟨Nat.le_of_ble_eq_true rfl, Nat.le_of_ble_eq_true rfl⟩ rfl rfl rfl rfl (Nat.le_of_ble_eq_true rfl) ⟨Nat.le_of_ble_eq_true rfl, Nat.le_of_ble_eq_true rfl⟩ dX6_does_266 rfl rfl rfl (fun r2 w2 h2 => ?_)
  obtain ⟨rfl, rfl⟩ := h2
  refine x_pop C 270 dX6_does_269 rfl rfl ?_
  refine x_aload_n C 271 dX6_does_270 rfl rfl ?_
  refine xm_get C 274 fg_X6_does_98 rfl dX6_does_271 rfl ?_
  refine x_top (show _ = (0 : Int32) from tkL_thr eg ng ne t (uI I 30 8 0) en) ?_
  refine x_if_ne C 282 277 dX6_does_274 (by decide) rfl (fun zk274 => ?_) (fun zk274 => ?_)
  · exact absurd zk274 (by decide)
  · refine x_bipush (v := (110)) C 279 dX6_does_277 (by decide) rfl ?_
    refine x_goto C 284 dX6_does_279 (by decide) ?_
    exact x_nret C0 rfl (rfl) dX6_does_284 (Nat.le_of_ble_eq_true rfl) (Nat.le_of_ble_eq_true rfl) ⟨_, rfl, ⟨rfl, rfl⟩⟩
end MM
