theorem look2 {a b oa ob dflt : Int} {x xa xb : Int32} (h1 : xa.toInt = a) (h2 : xb.toInt = b) (n1 : ¬ x = xa) (n2 : ¬ x = xb) : Op.lookupswitch.offset [(a, oa), (b, ob)] dflt x.toInt = dflt := by
  rw [Op.lookupswitch.offset_cons, if_neg (fun q => n1 (Int32.toInt_inj.mp (q.symm.trans h1.symm))), Op.lookupswitch.offset_cons, if_neg (fun q => n2 (Int32.toInt_inj.mp (q.symm.trans h2.symm)))]
  rfl
section CC
variable {l : Launch} {Γ : Gm} {D : va_G} {a : Nat → ClassId} {E0 : Nat} {n cap : Nat → Nat} {A : Nat → Nat → Nat} {g : Nat → Nat} {en : Int64} {S : Nat → Nat → Nat → Int32}
theorem fp_X0_follow_15 : pF RX0 wsX0_follow 15 4 1 false (.int) := ⟨RX0, TX0, 9, "StageConsole$Channel", tyX0, rfl, fun w h => (List.mem_cons_of_mem _ (List.mem_append_right _ h)), by decide, (List.mem_cons_of_mem _ (List.mem_append_left _ (List.mem_of_getElem? (i := 0) rfl))), Or.inl rfl, tyX0_ok, nmX0, rfl, rfl, fun h => absurd h (by decide)⟩
theorem fp_X0_follow_18 : pF RX0 wsX0_follow 18 4 2 false (.int) := ⟨RX0, TX0, 9, "StageConsole$Channel", tyX0, rfl, fun w h => (List.mem_cons_of_mem _ (List.mem_append_right _ h)), by decide, (List.mem_cons_of_mem _ (List.mem_append_left _ (List.mem_of_getElem? (i := 1) rfl))), Or.inl rfl, tyX0_ok, nmX0, rfl, rfl, fun h => absurd h (by decide)⟩
theorem fg_X0_follow_9 : gF RX0 wsX0_follow 9 4 0 := ⟨RX0, TX0, 9, "StageConsole$Channel", rfl, fun w h => (List.mem_cons_of_mem _ (List.mem_append_right _ h)), by decide, (List.mem_cons_of_mem _ (List.mem_append_left _ (List.mem_of_getElem? (i := 2) rfl))), Or.inl rfl⟩
theorem fp_X0_follow_35 : pF RX0 wsX0_follow 35 4 7 false (.int) := ⟨RX0, TX0, 9, "StageConsole$Channel", tyX0, rfl, fun w h => (List.mem_cons_of_mem _ (List.mem_append_right _ h)), by decide, (List.mem_cons_of_mem _ (List.mem_append_left _ (List.mem_of_getElem? (i := 3) rfl))), Or.inl rfl, tyX0_ok, nmX0, rfl, rfl, fun h => absurd h (by decide)⟩
theorem fp_X0_follow_21 : pF RX0 wsX0_follow 21 4 3 false (.int) := ⟨RX0, TX0, 9, "StageConsole$Channel", tyX0, rfl, fun w h => (List.mem_cons_of_mem _ (List.mem_append_right _ h)), by decide, (List.mem_cons_of_mem _ (List.mem_append_left _ (List.mem_of_getElem? (i := 4) rfl))), Or.inl rfl, tyX0_ok, nmX0, rfl, rfl, fun h => absurd h (by decide)⟩
theorem fp_X0_follow_24 : pF RX0 wsX0_follow 24 4 4 false (.int) := ⟨RX0, TX0, 9, "StageConsole$Channel", tyX0, rfl, fun w h => (List.mem_cons_of_mem _ (List.mem_append_right _ h)), by decide, (List.mem_cons_of_mem _ (List.mem_append_left _ (List.mem_of_getElem? (i := 5) rfl))), Or.inl rfl, tyX0_ok, nmX0, rfl, rfl, fun h => absurd h (by decide)⟩
theorem fp_X0_follow_27 : pF RX0 wsX0_follow 27 4 5 false (.char) := ⟨RX0, TX0, 9, "StageConsole$Channel", tyX0, rfl, fun w h => (List.mem_cons_of_mem _ (List.mem_append_right _ h)), by decide, (List.mem_cons_of_mem _ (List.mem_append_left _ (List.mem_of_getElem? (i := 6) rfl))), Or.inl rfl, tyX0_ok, nmX0, rfl, rfl, fun h => absurd h (by decide)⟩
theorem fp_X0_follow_9 : pF RX0 wsX0_follow 9 4 0 false (.int) := ⟨RX0, TX0, 9, "StageConsole$Channel", tyX0, rfl, fun w h => (List.mem_cons_of_mem _ (List.mem_append_right _ h)), by decide, (List.mem_cons_of_mem _ (List.mem_append_left _ (List.mem_of_getElem? (i := 2) rfl))), Or.inl rfl, tyX0_ok, nmX0, rfl, rfl, fun h => absurd h (by decide)⟩
set_option maxRecDepth 100000 in
set_option maxHeartbeats 4000000 in
theorem cC_follow (hl : l.stackTraces = false) {c : Nat} (hc : c < 12) {tr t cv : Int32} (hcv : chK cv) : Ct (gm D a E0) l yX0_follow wsX0_follow { frames := 4, cells := 0, slots := 0, locals := 100 } [.ref (A 4 c), .int tr, .int t, .int cv] (wC a E0 n cap A g en S) (qV fun w => w = wC a E0 n cap A g en (flS S c tr t cv)) noX := by
  refine Ct.of [some (.ref (A 4 c)), some (.int tr), some (.int t), some (.int cv)] rfl hl (by decide) (Nat.le_of_ble_eq_true rfl) rfl (fun φ C0 => ?_)
  have C := C0.1
  refine x_aload_n C 1 dX0_follow_0 rfl rfl ?_
  refine x_iconst (v := (0)) C 2 dX0_follow_1 (by decide) rfl ?_
  refine xc_put C 5 4 c 1 (by decide) (show c < 12 from by omega) rfl fp_X0_follow_15 rfl rfl (Nat.le_of_ble_eq_true rfl) rfl dX0_follow_2 rfl ?_
  refine x_aload_n C 6 dX0_follow_5 rfl rfl ?_
  refine x_iconst (v := (0)) C 7 dX0_follow_6 (by decide) rfl ?_
  refine xc_put C 10 4 c 2 (by decide) (show c < 12 from by omega) rfl fp_X0_follow_18 rfl rfl (Nat.le_of_ble_eq_true rfl) rfl dX0_follow_7 rfl ?_
  refine x_aload_n C 11 dX0_follow_10 rfl rfl ?_
  refine xc_get C 14 4 c (by decide) (show c < 12 from by omega) rfl fg_X0_follow_9 rfl dX0_follow_11 rfl ?_
  refine x_top (show _ = (S 4 c 0) from by simp [uS, upd]) ?_
  refine x_iload_n C 15 dX0_follow_14 rfl rfl ?_
  refine x_icmp_ne C 19 18 dX0_follow_15 (by decide) rfl (fun zk15 => ?_) (fun zk15 => ?_)
  · refine x_aload_n C 20 dX0_follow_19 rfl rfl ?_
    refine x_iconst (v := (-1)) C 21 dX0_follow_20 (by decide) rfl ?_
    refine xc_put C 24 4 c 7 (by decide) (show c < 12 from by omega) rfl fp_X0_follow_35 rfl rfl (Nat.le_of_ble_eq_true rfl) rfl dX0_follow_21 rfl ?_
    refine x_iload_n C 25 dX0_follow_24 rfl rfl ?_
    refine x_if_ne C 34 28 dX0_follow_25 (by decide) rfl (fun zk25 => ?_) (fun zk25 => ?_)
    · refine x_aload_n C 35 dX0_follow_34 rfl rfl ?_
      refine x_iload_n C 36 dX0_follow_35 rfl rfl ?_
      refine xc_put C 39 4 c 1 (by decide) (show c < 12 from by omega) rfl fp_X0_follow_15 rfl rfl (Nat.le_of_ble_eq_true rfl) rfl dX0_follow_36 rfl ?_
      refine x_aload_n C 40 dX0_follow_39 rfl rfl ?_
      refine x_aload_n C 41 dX0_follow_40 rfl rfl ?_
      refine xc_get C 44 4 c (by decide) (show c < 12 from by omega) rfl fg_X0_follow_9 rfl dX0_follow_41 rfl ?_
      refine x_top (show _ = (S 4 c 0) from by simp [uS, upd]) ?_
      refine xc_put C 47 4 c 3 (by decide) (show c < 12 from by omega) rfl fp_X0_follow_21 rfl rfl (Nat.le_of_ble_eq_true rfl) rfl dX0_follow_44 rfl ?_
      refine x_aload_n C 48 dX0_follow_47 rfl rfl ?_
      refine x_iload_n C 49 dX0_follow_48 rfl rfl ?_
      refine xc_put C 52 4 c 4 (by decide) (show c < 12 from by omega) rfl fp_X0_follow_24 rfl rfl (Nat.le_of_ble_eq_true rfl) rfl dX0_follow_49 rfl ?_
      refine x_aload_n C 53 dX0_follow_52 rfl rfl ?_
      refine x_iload_n C 54 dX0_follow_53 rfl rfl ?_
      refine xc_put C 57 4 c 5 (by decide) (show c < 12 from by omega) rfl fp_X0_follow_27 hcv.1 hcv.2 (Nat.le_of_ble_eq_true rfl) rfl dX0_follow_54 rfl ?_
      exact x_vret C0 dX0_follow_57 (Nat.le_of_ble_eq_true rfl) (Nat.le_of_ble_eq_true rfl) ⟨rfl, by rw [flS, if_neg zk15, if_neg zk25]⟩
    · refine x_aload_n C 29 dX0_follow_28 rfl rfl ?_
      refine x_iload_n C 30 dX0_follow_29 rfl rfl ?_
      refine xc_put C 33 4 c 0 (by decide) (show c < 12 from by omega) rfl fp_X0_follow_9 rfl rfl (Nat.le_of_ble_eq_true rfl) rfl dX0_follow_30 rfl ?_
      exact x_vret C0 dX0_follow_33 (Nat.le_of_ble_eq_true rfl) (Nat.le_of_ble_eq_true rfl) ⟨rfl, by rw [flS, if_neg zk15, if_pos zk25]⟩
  · exact x_vret C0 dX0_follow_18 (Nat.le_of_ble_eq_true rfl) (Nat.le_of_ble_eq_true rfl) ⟨rfl, by rw [flS, if_pos zk15]⟩
theorem fg_X0_fadeTicksLeft_15 : gF RX0 wsX0_fadeTicksLeft 15 4 1 := ⟨RX0, TX0, 9, "StageConsole$Channel", rfl, fun w h => (List.mem_cons_of_mem _ (List.mem_append_right _ h)), by decide, (List.mem_cons_of_mem _ (List.mem_append_left _ (List.mem_of_getElem? (i := 0) rfl))), Or.inl rfl⟩
theorem fg_X0_fadeTicksLeft_18 : gF RX0 wsX0_fadeTicksLeft 18 4 2 := ⟨RX0, TX0, 9, "StageConsole$Channel", rfl, fun w h => (List.mem_cons_of_mem _ (List.mem_append_right _ h)), by decide, (List.mem_cons_of_mem _ (List.mem_append_left _ (List.mem_of_getElem? (i := 1) rfl))), Or.inl rfl⟩
set_option maxRecDepth 100000 in
set_option maxHeartbeats 4000000 in
theorem cC_fadeTicksLeft (hl : l.stackTraces = false) {c : Nat} (hc : c < 12)  : Ct (gm D a E0) l yX0_fadeTicksLeft wsX0_fadeTicksLeft { frames := 4, cells := 0, slots := 0, locals := 100 } [.ref (A 4 c)] (wC a E0 n cap A g en S) (qI fun v w => v = S 4 c 1 - S 4 c 2 ∧ w = wC a E0 n cap A g en S) noX := by
  refine Ct.of [some (.ref (A 4 c))] rfl hl (by decide) (Nat.le_of_ble_eq_true rfl) rfl (fun φ C0 => ?_)
  have C := C0.1
  refine x_aload_n C 1 dX0_fadeTicksLeft_0 rfl rfl ?_
  refine xc_get C 4 4 c (by decide) (show c < 12 from by omega) rfl fg_X0_fadeTicksLeft_15 rfl dX0_fadeTicksLeft_1 rfl ?_
  refine x_aload_n C 5 dX0_fadeTicksLeft_4 rfl rfl ?_
  refine xc_get C 8 4 c (by decide) (show c < 12 from by omega) rfl fg_X0_fadeTicksLeft_18 rfl dX0_fadeTicksLeft_5 rfl ?_
  refine x_isub C 9 dX0_fadeTicksLeft_8 rfl ?_
  exact x_zret C0 dX0_fadeTicksLeft_9 (Nat.le_of_ble_eq_true rfl) (Nat.le_of_ble_eq_true rfl) ⟨_, rfl, ⟨rfl, rfl⟩⟩
theorem fg_X0_fadedPart_27 : gF RX0 wsX0_fadedPart 27 4 5 := ⟨RX0, TX0, 9, "StageConsole$Channel", rfl, fun w h => (List.mem_cons_of_mem _ (List.mem_append_left _ (List.mem_append_right _ h))), by decide, (List.mem_cons_of_mem _ (List.mem_append_left _ (List.mem_append_left _ (List.mem_of_getElem? (i := 0) rfl)))), Or.inl rfl⟩
set_option maxRecDepth 100000 in
set_option maxHeartbeats 4000000 in
theorem cC_fadedPart (hl : l.stackTraces = false) {c : Nat} (hc : c < 12) {d m t : Int32} (h1 : ¬ t = 0) (h2 : ¬ t * t = 0) (h3 : ¬ t * t * t = 0) : Ct (gm D a E0) l yX0_fadedPart wsX0_fadedPart { frames := 4, cells := 0, slots := 0, locals := 100 } [.ref (A 4 c), .int d, .int m, .int t] (wC a E0 n cap A g en S) (qI fun v w => v = fdP (S 4 c 5) d m t ∧ w = wC a E0 n cap A g en S) noX := by
  refine Ct.of [some (.ref (A 4 c)), some (.int d), some (.int m), some (.int t)] rfl hl (by decide) (Nat.le_of_ble_eq_true rfl) rfl (fun φ C0 => ?_)
  have C := C0.1
  refine x_aload_n C 1 dX0_fadedPart_0 rfl rfl ?_
  refine xc_get C 4 4 c (by decide) (show c < 12 from by omega) rfl fg_X0_fadedPart_27 rfl dX0_fadedPart_1 rfl ?_
  by_cases hk113 : (S 4 c 5) = (113 : Int32)
  · refine x_top hk113 ?_
    refine x_lookup C 32 (off := 28) dX0_fadedPart_4 (by decide) (by decide) (by decide) ?_
    refine x_iload_n C 33 dX0_fadedPart_32 rfl rfl ?_
    refine x_iload_n C 34 dX0_fadedPart_33 rfl rfl ?_
    refine x_iload_n C 35 dX0_fadedPart_34 rfl rfl ?_
    refine x_imul C 36 dX0_fadedPart_35 rfl ?_
    refine x_imul C 37 dX0_fadedPart_36 rfl ?_
    refine x_iload_n C 38 dX0_fadedPart_37 rfl rfl ?_
    refine x_iload_n C 39 dX0_fadedPart_38 rfl rfl ?_
    refine x_imul C 40 dX0_fadedPart_39 rfl ?_
    refine x_idiv C 41 dX0_fadedPart_40 (h2) rfl ?_
    exact x_zret C0 dX0_fadedPart_41 (Nat.le_of_ble_eq_true rfl) (Nat.le_of_ble_eq_true rfl) ⟨_, rfl, ⟨by rw [fdP, if_pos hk113], rfl⟩⟩
  by_cases hk115 : (S 4 c 5) = (115 : Int32)
  · refine x_top hk115 ?_
    refine x_lookup C 42 (off := 38) dX0_fadedPart_4 (by decide) (by decide) (by decide) ?_
    refine x_iload_n C 43 dX0_fadedPart_42 rfl rfl ?_
    refine x_iconst (v := (3)) C 44 dX0_fadedPart_43 (by decide) rfl ?_
    refine x_iload_n C 45 dX0_fadedPart_44 rfl rfl ?_
    refine x_imul C 46 dX0_fadedPart_45 rfl ?_
    refine x_iload_n C 47 dX0_fadedPart_46 rfl rfl ?_
    refine x_imul C 48 dX0_fadedPart_47 rfl ?_
    refine x_iload_n C 49 dX0_fadedPart_48 rfl rfl ?_
    refine x_imul C 50 dX0_fadedPart_49 rfl ?_
    refine x_iconst (v := (2)) C 51 dX0_fadedPart_50 (by decide) rfl ?_
    refine x_iload_n C 52 dX0_fadedPart_51 rfl rfl ?_
    refine x_imul C 53 dX0_fadedPart_52 rfl ?_
    refine x_iload_n C 54 dX0_fadedPart_53 rfl rfl ?_
    refine x_imul C 55 dX0_fadedPart_54 rfl ?_
    refine x_iload_n C 56 dX0_fadedPart_55 rfl rfl ?_
    refine x_imul C 57 dX0_fadedPart_56 rfl ?_
    refine x_isub C 58 dX0_fadedPart_57 rfl ?_
    refine x_imul C 59 dX0_fadedPart_58 rfl ?_
    refine x_iload_n C 60 dX0_fadedPart_59 rfl rfl ?_
    refine x_iload_n C 61 dX0_fadedPart_60 rfl rfl ?_
    refine x_imul C 62 dX0_fadedPart_61 rfl ?_
    refine x_iload_n C 63 dX0_fadedPart_62 rfl rfl ?_
    refine x_imul C 64 dX0_fadedPart_63 rfl ?_
    refine x_idiv C 65 dX0_fadedPart_64 (h3) rfl ?_
    exact x_zret C0 dX0_fadedPart_65 (Nat.le_of_ble_eq_true rfl) (Nat.le_of_ble_eq_true rfl) ⟨_, rfl, ⟨by rw [fdP, if_neg hk113, if_pos hk115], rfl⟩⟩
  refine x_lookup C 66 (off := 62) dX0_fadedPart_4 (by decide) (look2 (x := (S 4 c 5)) (by decide) (by decide) hk113 hk115) (by decide) ?_
  refine x_iload_n C 67 dX0_fadedPart_66 rfl rfl ?_
  refine x_iload_n C 68 dX0_fadedPart_67 rfl rfl ?_
  refine x_imul C 69 dX0_fadedPart_68 rfl ?_
  refine x_iload_n C 70 dX0_fadedPart_69 rfl rfl ?_
  refine x_idiv C 71 dX0_fadedPart_70 (h1) rfl ?_
  exact x_zret C0 dX0_fadedPart_71 (Nat.le_of_ble_eq_true rfl) (Nat.le_of_ble_eq_true rfl) ⟨_, rfl, ⟨by rw [fdP, if_neg hk113, if_neg hk115], rfl⟩⟩
theorem fg_X0_fadeOneTick_18 : gF RX0 wsX0_fadeOneTick 18 4 2 := ⟨RX0, TX0, 9, "StageConsole$Channel", rfl, fun w h => (List.mem_cons_of_mem _ (List.mem_append_left _ (List.mem_append_right _ h))), by decide, (List.mem_cons_of_mem _ (List.mem_append_left _ (List.mem_append_left _ (List.mem_of_getElem? (i := 0) rfl)))), Or.inl rfl⟩
theorem fg_X0_fadeOneTick_15 : gF RX0 wsX0_fadeOneTick 15 4 1 := ⟨RX0, TX0, 9, "StageConsole$Channel", rfl, fun w h => (List.mem_cons_of_mem _ (List.mem_append_left _ (List.mem_append_right _ h))), by decide, (List.mem_cons_of_mem _ (List.mem_append_left _ (List.mem_append_left _ (List.mem_of_getElem? (i := 1) rfl)))), Or.inl rfl⟩
theorem fp_X0_fadeOneTick_18 : pF RX0 wsX0_fadeOneTick 18 4 2 false (.int) := ⟨RX0, TX0, 9, "StageConsole$Channel", tyX0, rfl, fun w h => (List.mem_cons_of_mem _ (List.mem_append_left _ (List.mem_append_right _ h))), by decide, (List.mem_cons_of_mem _ (List.mem_append_left _ (List.mem_append_left _ (List.mem_of_getElem? (i := 0) rfl)))), Or.inl rfl, tyX0_ok, nmX0, rfl, rfl, fun h => absurd h (by decide)⟩
theorem fg_X0_fadeOneTick_24 : gF RX0 wsX0_fadeOneTick 24 4 4 := ⟨RX0, TX0, 9, "StageConsole$Channel", rfl, fun w h => (List.mem_cons_of_mem _ (List.mem_append_left _ (List.mem_append_right _ h))), by decide, (List.mem_cons_of_mem _ (List.mem_append_left _ (List.mem_append_left _ (List.mem_of_getElem? (i := 3) rfl)))), Or.inl rfl⟩
theorem fp_X0_fadeOneTick_9 : pF RX0 wsX0_fadeOneTick 9 4 0 false (.int) := ⟨RX0, TX0, 9, "StageConsole$Channel", tyX0, rfl, fun w h => (List.mem_cons_of_mem _ (List.mem_append_left _ (List.mem_append_right _ h))), by decide, (List.mem_cons_of_mem _ (List.mem_append_left _ (List.mem_append_left _ (List.mem_of_getElem? (i := 4) rfl)))), Or.inl rfl, tyX0_ok, nmX0, rfl, rfl, fun h => absurd h (by decide)⟩
theorem fg_X0_fadeOneTick_21 : gF RX0 wsX0_fadeOneTick 21 4 3 := ⟨RX0, TX0, 9, "StageConsole$Channel", rfl, fun w h => (List.mem_cons_of_mem _ (List.mem_append_left _ (List.mem_append_right _ h))), by decide, (List.mem_cons_of_mem _ (List.mem_append_left _ (List.mem_append_left _ (List.mem_of_getElem? (i := 2) rfl)))), Or.inl rfl⟩
set_option maxRecDepth 100000 in
set_option maxHeartbeats 4000000 in
theorem cC_fadeOneTick (hl : l.stackTraces = false) {c : Nat} (hc : c < 12) (hF : CF S) : Ct (gm D a E0) l yX0_fadeOneTick wsX0_fadeOneTick { frames := 8, cells := 0, slots := 0, locals := 200 } [.ref (A 4 c)] (wC a E0 n cap A g en S) (qV fun w => w = wC a E0 n cap A g en (foS S c)) noX := by
  refine Ct.of [some (.ref (A 4 c))] rfl hl (by decide) (Nat.le_of_ble_eq_true rfl) rfl (fun φ C0 => ?_)
  have C := C0.1
  refine x_aload_n C 1 dX0_fadeOneTick_0 rfl rfl ?_
  refine xc_get C 4 4 c (by decide) (show c < 12 from by omega) rfl fg_X0_fadeOneTick_18 rfl dX0_fadeOneTick_1 rfl ?_
  refine x_aload_n C 5 dX0_fadeOneTick_4 rfl rfl ?_
  refine xc_get C 8 4 c (by decide) (show c < 12 from by omega) rfl fg_X0_fadeOneTick_15 rfl dX0_fadeOneTick_5 rfl ?_
  refine x_icmp_lt C 12 11 dX0_fadeOneTick_8 (by decide) rfl (fun zk8 => ?_) (fun zk8 => ?_)
  · refine x_aload_n C 13 dX0_fadeOneTick_12 rfl rfl ?_
    refine x_dup C 14 dX0_fadeOneTick_13 rfl rfl ?_
    refine xc_get C 17 4 c (by decide) (show c < 12 from by omega) rfl fg_X0_fadeOneTick_18 rfl dX0_fadeOneTick_14 rfl ?_
    refine x_iconst (v := (1)) C 18 dX0_fadeOneTick_17 (by decide) rfl ?_
    refine x_iadd C 19 dX0_fadeOneTick_18 rfl ?_
    refine xc_put C 22 4 c 2 (by decide) (show c < 12 from by omega) rfl fp_X0_fadeOneTick_18 rfl rfl (Nat.le_of_ble_eq_true rfl) rfl dX0_fadeOneTick_19 rfl ?_
    refine x_aload_n C 23 dX0_fadeOneTick_22 rfl rfl ?_
    refine xc_get C 26 4 c (by decide) (show c < 12 from by omega) rfl fg_X0_fadeOneTick_18 rfl dX0_fadeOneTick_23 rfl ?_
    refine x_top (show _ = ((S 4 c 2) + (1)) from by simp [uS, upd]) ?_
    refine x_aload_n C 27 dX0_fadeOneTick_26 rfl rfl ?_
    refine xc_get C 30 4 c (by decide) (show c < 12 from by omega) rfl fg_X0_fadeOneTick_15 rfl dX0_fadeOneTick_27 rfl ?_
    refine x_top (show _ = (S 4 c 1) from by simp [uS, upd]) ?_
    refine x_icmp_ge C 66 33 dX0_fadeOneTick_30 (by decide) rfl (fun zk30 => ?_) (fun zk30 => ?_)
    · refine x_aload_n C 67 dX0_fadeOneTick_66 rfl rfl ?_
      refine x_aload_n C 68 dX0_fadeOneTick_67 rfl rfl ?_
      refine xc_get C 71 4 c (by decide) (show c < 12 from by omega) rfl fg_X0_fadeOneTick_24 rfl dX0_fadeOneTick_68 rfl ?_
      refine x_top (show _ = (S 4 c 4) from by simp [uS, upd]) ?_
      refine xc_put C 74 4 c 0 (by decide) (show c < 12 from by omega) rfl fp_X0_fadeOneTick_9 rfl rfl (Nat.le_of_ble_eq_true rfl) rfl dX0_fadeOneTick_71 rfl ?_
      exact x_vret C0 dX0_fadeOneTick_74 (Nat.le_of_ble_eq_true rfl) (Nat.le_of_ble_eq_true rfl) ⟨rfl, by first | rw [foS, if_pos zk8, if_pos (pw_lt zk30)] | rw [foS, if_pos zk8, if_neg (Int32.not_lt.mpr zk30)]⟩
    · obtain ⟨t, q, ht, hq, e1, e2⟩ := hF c hc
      have ht1 : 1 ≤ t := by
        rw [e1, e2] at zk8
        have := (nI_ltI (by omega) (by omega)).mp zk8
        omega
      refine x_aload_n C 34 dX0_fadeOneTick_33 rfl rfl ?_
      refine x_aload_n C 35 dX0_fadeOneTick_34 rfl rfl ?_
      refine xc_get C 38 4 c (by decide) (show c < 12 from by omega) rfl fg_X0_fadeOneTick_21 rfl dX0_fadeOneTick_35 rfl ?_
      refine x_top (show _ = (S 4 c 3) from by simp [uS, upd]) ?_
      refine x_aload_n C 39 dX0_fadeOneTick_38 rfl rfl ?_
      refine x_aload_n C 40 dX0_fadeOneTick_39 rfl rfl ?_
      refine xc_get C 43 4 c (by decide) (show c < 12 from by omega) rfl fg_X0_fadeOneTick_24 rfl dX0_fadeOneTick_40 rfl ?_
      refine x_top (show _ = (S 4 c 4) from by simp [uS, upd]) ?_
      refine x_aload_n C 44 dX0_fadeOneTick_43 rfl rfl ?_
      refine xc_get C 47 4 c (by decide) (show c < 12 from by omega) rfl fg_X0_fadeOneTick_21 rfl dX0_fadeOneTick_44 rfl ?_
      refine x_top (show _ = (S 4 c 3) from by simp [uS, upd]) ?_
      refine x_isub C 48 dX0_fadeOneTick_47 rfl ?_
      refine x_aload_n C 49 dX0_fadeOneTick_48 rfl rfl ?_
      refine xc_get C 52 4 c (by decide) (show c < 12 from by omega) rfl fg_X0_fadeOneTick_18 rfl dX0_fadeOneTick_49 rfl ?_
      refine x_top (show _ = ((S 4 c 2) + (1)) from by simp [uS, upd]) ?_
      refine x_aload_n C 53 dX0_fadeOneTick_52 rfl rfl ?_
      refine xc_get C 56 4 c (by decide) (show c < 12 from by omega) rfl fg_X0_fadeOneTick_15 rfl dX0_fadeOneTick_53 rfl ?_
      refine x_top (show _ = (S 4 c 1) from by simp [uS, upd]) ?_
      refine xc_callV_i C 59 0 0 4 c 4 3 (cC_fadedPart hl hc (by rw [e1]; exact nz1 ht1 ht) (by rw [e1]; exact nz2 ht1 ht) (by rw [e1]; exact nz3 ht1 ht)) rfl gX0_fadeOneTick_X0_fadedPart ⟨rfl, by decide, by decide, rfl⟩ ⟨Nat.le_of_ble_eq_true rfl, Nat.le_of_ble_eq_true rfl⟩ rfl (by decide) (show c < 12 from by omega) rfl rfl rfl (Nat.le_of_ble_eq_true rfl) ⟨Nat.le_of_ble_eq_true rfl, Nat.le_of_ble_eq_true rfl⟩ dX0_fadeOneTick_56 rfl rfl rfl (fun r1 w1 h1 => ?_)
      obtain ⟨rfl, rfl⟩ := h1
      refine x_top (show _ = (fdP (S 4 c 5) (S 4 c 4 - S 4 c 3) (S 4 c 2 + 1) (S 4 c 1)) from by simp [uS, upd]) ?_
      refine x_iadd C 60 dX0_fadeOneTick_59 rfl ?_
      refine xc_put C 63 4 c 0 (by decide) (show c < 12 from by omega) rfl fp_X0_fadeOneTick_9 rfl rfl (Nat.le_of_ble_eq_true rfl) rfl dX0_fadeOneTick_60 rfl ?_
      refine x_goto C 74 dX0_fadeOneTick_63 (by decide) ?_
      exact x_vret C0 dX0_fadeOneTick_74 (Nat.le_of_ble_eq_true rfl) (Nat.le_of_ble_eq_true rfl) ⟨rfl, by first | rw [foS, if_pos zk8, if_pos (pw_lt zk30)] | rw [foS, if_pos zk8, if_neg (Int32.not_lt.mpr zk30)]⟩
  · exact x_vret C0 dX0_fadeOneTick_11 (Nat.le_of_ble_eq_true rfl) (Nat.le_of_ble_eq_true rfl) ⟨rfl, by rw [foS, if_neg zk8]⟩
theorem fg_X3_membersBelow_9 : gF RX3 wsX3_membersBelow 9 7 0 := ⟨RX3, TX3, 2, "StageConsole$Group", rfl, fun w h => (List.mem_cons_of_mem _ (List.mem_append_left _ (List.mem_append_right _ h))), by decide, (List.mem_cons_of_mem _ (List.mem_append_left _ (List.mem_append_left _ (List.mem_of_getElem? (i := 0) rfl)))), Or.inl rfl⟩
set_option maxRecDepth 100000 in
set_option maxHeartbeats 4000000 in
theorem cC_membersBelow (hl : l.stackTraces = false) {G ch : Nat} (hG : G < n 1) (hch : ch ≤ 12) : Ct (gm D a E0) l yX3_membersBelow wsX3_membersBelow { frames := 4, cells := 0, slots := 0, locals := 100 } [.ref (A 7 G), .int (nI ch)] (wC a E0 n cap A g en S) (qI fun v w => v = nI (mbC (S 8 G) ch 0 0) ∧ w = wC a E0 n cap A g en S) noX := by
  refine Ct.of [some (.ref (A 7 G)), some (.int (nI ch)), none, none] rfl hl (by decide) (Nat.le_of_ble_eq_true rfl) rfl (fun φ C0 => ?_)
  have C := C0.1
  refine x_iconst (v := (0)) C 1 dX3_membersBelow_0 (by decide) rfl ?_
  refine x_istore_n C 2 dX3_membersBelow_1 (by decide) rfl rfl ?_
  refine x_iconst (v := (0)) C 3 dX3_membersBelow_2 (by decide) rfl ?_
  refine x_istore_n C 4 dX3_membersBelow_3 (by decide) rfl rfl ?_
  have lp4 : ∀ (m i k : Nat), i + m = ch → k ≤ i → mbC (S 8 G) ch 0 0 = mbC (S 8 G) m i k → X φ 4 [some (.ref (A 7 G)), some (.int (nI ch)), some (.int (nI k)), some (.int (nI i))] [] (wC a E0 n cap A g en S) 0 0 := by
    intro m
    induction m with
    | zero =>
      intro i k hi hk hr
      refine x_iload_n C 5 dX3_membersBelow_4 rfl rfl ?_
      refine x_iload_n C 6 dX3_membersBelow_5 rfl rfl ?_
      refine x_icmp_ge C 27 9 dX3_membersBelow_6 (by decide) rfl (fun zk6 => ?_) (fun zk6 => ?_)
      · have zk6 := (nI_leI (a := ch) (b := i) (by omega) (by omega)).mp zk6
        refine x_iload_n C 28 dX3_membersBelow_27 rfl rfl ?_
        exact x_zret C0 dX3_membersBelow_28 (Nat.le_of_ble_eq_true rfl) (Nat.le_of_ble_eq_true rfl) ⟨_, rfl, ⟨by rw [hr]; rfl, rfl⟩⟩
      · have zk6 := mt (nI_leI (a := ch) (b := i) (by omega) (by omega)).mpr zk6
        exfalso; omega
    | succ m ih =>
      intro i k hi hk hr
      refine x_iload_n C 5 dX3_membersBelow_4 rfl rfl ?_
      refine x_iload_n C 6 dX3_membersBelow_5 rfl rfl ?_
      refine x_icmp_ge C 27 9 dX3_membersBelow_6 (by decide) rfl (fun zk6 => ?_) (fun zk6 => ?_)
      · have zk6 := (nI_leI (a := ch) (b := i) (by omega) (by omega)).mp zk6
        exfalso; omega
      · have zk6 := mt (nI_leI (a := ch) (b := i) (by omega) (by omega)).mpr zk6
        refine x_aload_n C 10 dX3_membersBelow_9 rfl rfl ?_
        refine xc_get C 13 7 G (by decide) (show G < n 1 from by omega) rfl fg_X3_membersBelow_9 rfl dX3_membersBelow_10 rfl ?_
        refine x_iload_n C 14 dX3_membersBelow_13 rfl rfl ?_
        refine xc_zald C 15 8 G i (by decide) (show G < n 1 from by omega) rfl rfl (by omega) dX3_membersBelow_14 rfl ?_
        refine x_if_eq C 21 18 dX3_membersBelow_15 (by decide) rfl (fun zk15 => ?_) (fun zk15 => ?_)
        · refine x_iinc (v := nI (i + 1)) C 24 rfl dX3_membersBelow_21 (iinc1 _) (by decide) rfl rfl ?_
          refine x_goto C 4 dX3_membersBelow_24 (by decide) ?_
          exact ih (i + 1) _ (by omega) (by omega) (by rw [hr, mbC]; first | rw [if_pos zk15] | rw [if_neg zk15])
        · refine x_iinc (v := nI (k + 1)) C 21 rfl dX3_membersBelow_18 (iinc1 _) (by decide) rfl rfl ?_
          refine x_iinc (v := nI (i + 1)) C 24 rfl dX3_membersBelow_21 (iinc1 _) (by decide) rfl rfl ?_
          refine x_goto C 4 dX3_membersBelow_24 (by decide) ?_
          exact ih (i + 1) _ (by omega) (by omega) (by rw [hr, mbC]; first | rw [if_pos zk15] | rw [if_neg zk15])
  exact lp4 ch 0 0 (by omega) (by omega) rfl
theorem fg_X2_valueAt_33 : gF RX2 wsX2_valueAt 33 6 4 := ⟨RX2, TX2, 7, "StageConsole$Effect", rfl, fun w h => (List.mem_cons_of_mem _ (List.mem_append_left _ (List.mem_append_right _ h))), by decide, (List.mem_cons_of_mem _ (List.mem_append_left _ (List.mem_append_left _ (List.mem_of_getElem? (i := 0) rfl)))), Or.inl rfl⟩
theorem fg_X2_valueAt_27 : gF RX2 wsX2_valueAt 27 6 2 := ⟨RX2, TX2, 7, "StageConsole$Effect", rfl, fun w h => (List.mem_cons_of_mem _ (List.mem_append_left _ (List.mem_append_right _ h))), by decide, (List.mem_cons_of_mem _ (List.mem_append_left _ (List.mem_append_left _ (List.mem_of_getElem? (i := 1) rfl)))), Or.inl rfl⟩
theorem fg_X2_valueAt_23 : gF RX2 wsX2_valueAt 23 6 1 := ⟨RX2, TX2, 7, "StageConsole$Effect", rfl, fun w h => (List.mem_cons_of_mem _ (List.mem_append_left _ (List.mem_append_right _ h))), by decide, (List.mem_cons_of_mem _ (List.mem_append_left _ (List.mem_append_left _ (List.mem_of_getElem? (i := 2) rfl)))), Or.inl rfl⟩
theorem fg_X2_valueAt_30 : gF RX2 wsX2_valueAt 30 6 3 := ⟨RX2, TX2, 7, "StageConsole$Effect", rfl, fun w h => (List.mem_cons_of_mem _ (List.mem_append_left _ (List.mem_append_right _ h))), by decide, (List.mem_cons_of_mem _ (List.mem_append_left _ (List.mem_append_left _ (List.mem_of_getElem? (i := 3) rfl)))), Or.inl rfl⟩
set_option maxRecDepth 100000 in
set_option maxHeartbeats 4000000 in
theorem cC_valueAt (hl : l.stackTraces = false) {e p : Nat} {tk mb : Int32} (he : e < n 2) (hp : S 9 e 1 = nI p) (hp2 : 2 ≤ p) (hp40 : p ≤ 40) : Ct (gm D a E0) l yX2_valueAt wsX2_valueAt { frames := 4, cells := 0, slots := 0, locals := 100 } [.ref (A 9 e), .int tk, .int mb] (wC a E0 n cap A g en S) (qI fun v w => v = vlC S e tk mb ∧ w = wC a E0 n cap A g en S) noX := by
  refine Ct.of [some (.ref (A 9 e)), some (.int tk), some (.int mb), none, none] rfl hl (by decide) (Nat.le_of_ble_eq_true rfl) rfl (fun φ C0 => ?_)
  have C := C0.1
  refine x_iload_n C 1 dX2_valueAt_0 rfl rfl ?_
  refine x_aload_n C 2 dX2_valueAt_1 rfl rfl ?_
  refine xc_get C 5 9 e (by decide) (show e < n 2 from by omega) rfl fg_X2_valueAt_33 rfl dX2_valueAt_2 rfl ?_
  refine x_iload_n C 6 dX2_valueAt_5 rfl rfl ?_
  refine x_imul C 7 dX2_valueAt_6 rfl ?_
  refine x_iadd C 8 dX2_valueAt_7 rfl ?_
  refine x_aload_n C 9 dX2_valueAt_8 rfl rfl ?_
  refine xc_get C 12 9 e (by decide) (show e < n 2 from by omega) rfl fg_X2_valueAt_27 rfl dX2_valueAt_9 rfl ?_
  refine x_irem C 13 dX2_valueAt_12 (by rw [hp]; exact nz1 (by omega) hp40) rfl ?_
  refine x_nm (fun ph eph => ?_)
  refine x_istore_n C 14 dX2_valueAt_13 (by decide) rfl rfl ?_
  refine x_aload_n C 15 dX2_valueAt_14 rfl rfl ?_
  refine xc_get C 18 9 e (by decide) (show e < n 2 from by omega) rfl fg_X2_valueAt_27 rfl dX2_valueAt_15 rfl ?_
  refine x_iconst (v := (2)) C 19 dX2_valueAt_18 (by decide) rfl ?_
  refine x_idiv C 20 dX2_valueAt_19 (by decide) rfl ?_
  refine x_nm (fun hf ehf => ?_)
  refine x_istore C 22 dX2_valueAt_20 (by decide) rfl rfl ?_
  refine x_aload_n C 23 dX2_valueAt_22 rfl rfl ?_
  refine xc_get C 26 9 e (by decide) (show e < n 2 from by omega) rfl fg_X2_valueAt_23 rfl dX2_valueAt_23 rfl ?_
  by_cases hk113 : (S 9 e 0) = (113 : Int32)
  · refine x_top hk113 ?_
    refine x_lookup C 64 (off := 38) dX2_valueAt_26 (by decide) (by decide) (by decide) ?_
    refine x_iload_n C 65 dX2_valueAt_64 rfl rfl ?_
    refine x_iload C 67 dX2_valueAt_65 rfl rfl ?_
    refine x_icmp_ge C 77 70 dX2_valueAt_67 (by decide) rfl (fun zk67 => ?_) (fun zk67 => ?_)
    · refine x_iconst (v := (0)) C 78 dX2_valueAt_77 (by decide) rfl ?_
      exact x_zret C0 dX2_valueAt_78 (Nat.le_of_ble_eq_true rfl) (Nat.le_of_ble_eq_true rfl) ⟨_, rfl, ⟨by subst eph ehf; first | rw [vlC, vlP, if_pos hk119] | rw [vlC, vlP, if_neg (show ¬ S 9 e 0 = 119 from fun q => absurd (hk113.symm.trans q) (by decide)), if_pos hk113, if_pos (pw_lt zk67)] | rw [vlC, vlP, if_neg (show ¬ S 9 e 0 = 119 from fun q => absurd (hk113.symm.trans q) (by decide)), if_pos hk113, if_neg (Int32.not_lt.mpr zk67)] | rw [vlC, vlP, if_neg hk119, if_neg hk113, if_pos (pw_ge zk82)] | rw [vlC, vlP, if_neg hk119, if_neg hk113, if_neg (Int32.not_le.mpr zk82)], rfl⟩⟩
    · refine x_aload_n C 71 dX2_valueAt_70 rfl rfl ?_
      refine xc_get C 74 9 e (by decide) (show e < n 2 from by omega) rfl fg_X2_valueAt_30 rfl dX2_valueAt_71 rfl ?_
      refine x_goto C 78 dX2_valueAt_74 (by decide) ?_
      exact x_zret C0 dX2_valueAt_78 (Nat.le_of_ble_eq_true rfl) (Nat.le_of_ble_eq_true rfl) ⟨_, rfl, ⟨by subst eph ehf; first | rw [vlC, vlP, if_pos hk119] | rw [vlC, vlP, if_neg (show ¬ S 9 e 0 = 119 from fun q => absurd (hk113.symm.trans q) (by decide)), if_pos hk113, if_pos (pw_lt zk67)] | rw [vlC, vlP, if_neg (show ¬ S 9 e 0 = 119 from fun q => absurd (hk113.symm.trans q) (by decide)), if_pos hk113, if_neg (Int32.not_lt.mpr zk67)] | rw [vlC, vlP, if_neg hk119, if_neg hk113, if_pos (pw_ge zk82)] | rw [vlC, vlP, if_neg hk119, if_neg hk113, if_neg (Int32.not_le.mpr zk82)], rfl⟩⟩
  by_cases hk119 : (S 9 e 0) = (119 : Int32)
  · refine x_top hk119 ?_
    refine x_lookup C 52 (off := 26) dX2_valueAt_26 (by decide) (by decide) (by decide) ?_
    refine x_aload_n C 53 dX2_valueAt_52 rfl rfl ?_
    refine xc_get C 56 9 e (by decide) (show e < n 2 from by omega) rfl fg_X2_valueAt_30 rfl dX2_valueAt_53 rfl ?_
    refine x_iload_n C 57 dX2_valueAt_56 rfl rfl ?_
    refine x_imul C 58 dX2_valueAt_57 rfl ?_
    refine x_aload_n C 59 dX2_valueAt_58 rfl rfl ?_
    refine xc_get C 62 9 e (by decide) (show e < n 2 from by omega) rfl fg_X2_valueAt_27 rfl dX2_valueAt_59 rfl ?_
    refine x_idiv C 63 dX2_valueAt_62 (by rw [hp]; exact nz1 (by omega) hp40) rfl ?_
    exact x_zret C0 dX2_valueAt_63 (Nat.le_of_ble_eq_true rfl) (Nat.le_of_ble_eq_true rfl) ⟨_, rfl, ⟨by subst eph ehf; first | rw [vlC, vlP, if_pos hk119] | rw [vlC, vlP, if_neg (show ¬ S 9 e 0 = 119 from fun q => absurd (hk113.symm.trans q) (by decide)), if_pos hk113, if_pos (pw_lt zk67)] | rw [vlC, vlP, if_neg (show ¬ S 9 e 0 = 119 from fun q => absurd (hk113.symm.trans q) (by decide)), if_pos hk113, if_neg (Int32.not_lt.mpr zk67)] | rw [vlC, vlP, if_neg hk119, if_neg hk113, if_pos (pw_ge zk82)] | rw [vlC, vlP, if_neg hk119, if_neg hk113, if_neg (Int32.not_le.mpr zk82)], rfl⟩⟩
  refine x_lookup C 79 (off := 53) dX2_valueAt_26 (by decide) (look2 (x := (S 9 e 0)) (by decide) (by decide) hk113 hk119) (by decide) ?_
  refine x_iload_n C 80 dX2_valueAt_79 rfl rfl ?_
  refine x_iload C 82 dX2_valueAt_80 rfl rfl ?_
  refine x_icmp_gt C 97 85 dX2_valueAt_82 (by decide) rfl (fun zk82 => ?_) (fun zk82 => ?_)
  · refine x_aload_n C 98 dX2_valueAt_97 rfl rfl ?_
    refine xc_get C 101 9 e (by decide) (show e < n 2 from by omega) rfl fg_X2_valueAt_30 rfl dX2_valueAt_98 rfl ?_
    refine x_aload_n C 102 dX2_valueAt_101 rfl rfl ?_
    refine xc_get C 105 9 e (by decide) (show e < n 2 from by omega) rfl fg_X2_valueAt_27 rfl dX2_valueAt_102 rfl ?_
    refine x_iload_n C 106 dX2_valueAt_105 rfl rfl ?_
    refine x_isub C 107 dX2_valueAt_106 rfl ?_
    refine x_imul C 108 dX2_valueAt_107 rfl ?_
    refine x_aload_n C 109 dX2_valueAt_108 rfl rfl ?_
    refine xc_get C 112 9 e (by decide) (show e < n 2 from by omega) rfl fg_X2_valueAt_27 rfl dX2_valueAt_109 rfl ?_
    refine x_iload C 114 dX2_valueAt_112 rfl rfl ?_
    refine x_isub C 115 dX2_valueAt_114 rfl ?_
    refine x_idiv C 116 dX2_valueAt_115 (by rw [ehf, hp]; exact nzr hp2 hp40) rfl ?_
    exact x_zret C0 dX2_valueAt_116 (Nat.le_of_ble_eq_true rfl) (Nat.le_of_ble_eq_true rfl) ⟨_, rfl, ⟨by subst eph ehf; first | rw [vlC, vlP, if_pos hk119] | rw [vlC, vlP, if_neg (show ¬ S 9 e 0 = 119 from fun q => absurd (hk113.symm.trans q) (by decide)), if_pos hk113, if_pos (pw_lt zk67)] | rw [vlC, vlP, if_neg (show ¬ S 9 e 0 = 119 from fun q => absurd (hk113.symm.trans q) (by decide)), if_pos hk113, if_neg (Int32.not_lt.mpr zk67)] | rw [vlC, vlP, if_neg hk119, if_neg hk113, if_pos (pw_ge zk82)] | rw [vlC, vlP, if_neg hk119, if_neg hk113, if_neg (Int32.not_le.mpr zk82)], rfl⟩⟩
  · refine x_aload_n C 86 dX2_valueAt_85 rfl rfl ?_
    refine xc_get C 89 9 e (by decide) (show e < n 2 from by omega) rfl fg_X2_valueAt_30 rfl dX2_valueAt_86 rfl ?_
    refine x_iload_n C 90 dX2_valueAt_89 rfl rfl ?_
    refine x_imul C 91 dX2_valueAt_90 rfl ?_
    refine x_iload C 93 dX2_valueAt_91 rfl rfl ?_
    refine x_idiv C 94 dX2_valueAt_93 (by rw [ehf, hp]; exact nzh hp2 hp40) rfl ?_
    refine x_goto C 116 dX2_valueAt_94 (by decide) ?_
    exact x_zret C0 dX2_valueAt_116 (Nat.le_of_ble_eq_true rfl) (Nat.le_of_ble_eq_true rfl) ⟨_, rfl, ⟨by subst eph ehf; first | rw [vlC, vlP, if_pos hk119] | rw [vlC, vlP, if_neg (show ¬ S 9 e 0 = 119 from fun q => absurd (hk113.symm.trans q) (by decide)), if_pos hk113, if_pos (pw_lt zk67)] | rw [vlC, vlP, if_neg (show ¬ S 9 e 0 = 119 from fun q => absurd (hk113.symm.trans q) (by decide)), if_pos hk113, if_neg (Int32.not_lt.mpr zk67)] | rw [vlC, vlP, if_neg hk119, if_neg hk113, if_pos (pw_ge zk82)] | rw [vlC, vlP, if_neg hk119, if_neg hk113, if_neg (Int32.not_le.mpr zk82)], rfl⟩⟩
end CC
