/-! constructors; by wip/whole/genK.py -/
section CK
variable {l : Launch} {Γ : Gm} {D : va_G} {a : Nat → ClassId} {E0 : Nat}
theorem fp_X0_init_9 : pF RX0 wsX0_init 9 4 0 false (.int) := ⟨RX0, TX0, 9, "StageConsole$Channel", tyX0, rfl, fun w h => (List.mem_cons_of_mem _ (List.mem_append_right _ h)), by decide, (List.mem_cons_of_mem _ (List.mem_append_left _ (List.mem_of_getElem? (i := 3) rfl))), Or.inl rfl, tyX0_ok, nmX0, rfl, rfl, fun h => absurd h (by decide)⟩
theorem fp_X0_init_15 : pF RX0 wsX0_init 15 4 1 false (.int) := ⟨RX0, TX0, 9, "StageConsole$Channel", tyX0, rfl, fun w h => (List.mem_cons_of_mem _ (List.mem_append_right _ h)), by decide, (List.mem_cons_of_mem _ (List.mem_append_left _ (List.mem_of_getElem? (i := 4) rfl))), Or.inl rfl, tyX0_ok, nmX0, rfl, rfl, fun h => absurd h (by decide)⟩
theorem fp_X0_init_18 : pF RX0 wsX0_init 18 4 2 false (.int) := ⟨RX0, TX0, 9, "StageConsole$Channel", tyX0, rfl, fun w h => (List.mem_cons_of_mem _ (List.mem_append_right _ h)), by decide, (List.mem_cons_of_mem _ (List.mem_append_left _ (List.mem_of_getElem? (i := 5) rfl))), Or.inl rfl, tyX0_ok, nmX0, rfl, rfl, fun h => absurd h (by decide)⟩
theorem fp_X0_init_21 : pF RX0 wsX0_init 21 4 3 false (.int) := ⟨RX0, TX0, 9, "StageConsole$Channel", tyX0, rfl, fun w h => (List.mem_cons_of_mem _ (List.mem_append_right _ h)), by decide, (List.mem_cons_of_mem _ (List.mem_append_left _ (List.mem_of_getElem? (i := 6) rfl))), Or.inl rfl, tyX0_ok, nmX0, rfl, rfl, fun h => absurd h (by decide)⟩
theorem fp_X0_init_24 : pF RX0 wsX0_init 24 4 4 false (.int) := ⟨RX0, TX0, 9, "StageConsole$Channel", tyX0, rfl, fun w h => (List.mem_cons_of_mem _ (List.mem_append_right _ h)), by decide, (List.mem_cons_of_mem _ (List.mem_append_left _ (List.mem_of_getElem? (i := 7) rfl))), Or.inl rfl, tyX0_ok, nmX0, rfl, rfl, fun h => absurd h (by decide)⟩
theorem fp_X0_init_27 : pF RX0 wsX0_init 27 4 5 false (.char) := ⟨RX0, TX0, 9, "StageConsole$Channel", tyX0, rfl, fun w h => (List.mem_cons_of_mem _ (List.mem_append_right _ h)), by decide, (List.mem_cons_of_mem _ (List.mem_append_left _ (List.mem_of_getElem? (i := 8) rfl))), Or.inl rfl, tyX0_ok, nmX0, rfl, rfl, fun h => absurd h (by decide)⟩
theorem fp_X0_init_31 : pF RX0 wsX0_init 31 4 6 false (.boolean) := ⟨RX0, TX0, 9, "StageConsole$Channel", tyX0, rfl, fun w h => (List.mem_cons_of_mem _ (List.mem_append_right _ h)), by decide, (List.mem_cons_of_mem _ (List.mem_append_left _ (List.mem_of_getElem? (i := 9) rfl))), Or.inl rfl, tyX0_ok, nmX0, rfl, rfl, fun h => absurd h (by decide)⟩
theorem fp_X0_init_35 : pF RX0 wsX0_init 35 4 7 false (.int) := ⟨RX0, TX0, 9, "StageConsole$Channel", tyX0, rfl, fun w h => (List.mem_cons_of_mem _ (List.mem_append_right _ h)), by decide, (List.mem_cons_of_mem _ (List.mem_append_left _ (List.mem_of_getElem? (i := 10) rfl))), Or.inl rfl, tyX0_ok, nmX0, rfl, rfl, fun h => absurd h (by decide)⟩
theorem fp_X0_init_38 : pF RX0 wsX0_init 38 4 8 false (.int) := ⟨RX0, TX0, 9, "StageConsole$Channel", tyX0, rfl, fun w h => (List.mem_cons_of_mem _ (List.mem_append_right _ h)), by decide, (List.mem_cons_of_mem _ (List.mem_append_left _ (List.mem_of_getElem? (i := 11) rfl))), Or.inl rfl, tyX0_ok, nmX0, rfl, rfl, fun h => absurd h (by decide)⟩
set_option maxRecDepth 100000 in
set_option maxHeartbeats 4000000 in
theorem cC_initCh (hl : l.stackTraces = false) {q : Nat}  : Ct (gm D a E0) l yX0_init wsX0_init { frames := 8, cells := 0, slots := 0, locals := 200 } [.ref q] ([(q, .inr (4, [.int 0, .int 0, .int 0, .int 0, .int 0, .int 0, .int 0, .int 0, .int 0]))]) (qV fun w => w = [(q, .inr (4, [.int 0, .int 0, .int 0, .int 0, .int 0, .int 108, .int 0, .int (-2), .int (-1)]))]) noX := by
  refine Ct.of [some (.ref q)] rfl hl (by decide) (Nat.le_of_ble_eq_true rfl) rfl (fun φ C0 => ?_)
  have C := C0.1
  refine x_aload_n C 1 dX0_init_0 rfl rfl ?_
  refine x_objI C 4 (List.mem_cons_of_mem _ (List.mem_append_left _ (List.mem_of_getElem? (i := 0) rfl))) (List.mem_cons_of_mem _ (List.mem_append_left _ (List.mem_of_getElem? (i := 1) rfl))) (List.mem_cons_of_mem _ (List.mem_append_left _ (List.mem_of_getElem? (i := 2) rfl))) (Nat.le_of_ble_eq_true rfl) (Nat.le_of_ble_eq_true rfl) dX0_init_1 rfl ?_
  refine x_aload_n C 5 dX0_init_4 rfl rfl ?_
  refine x_iconst (v := (0)) C 6 dX0_init_5 (by decide) rfl ?_
  refine x_put C 9 0 rfl fp_X0_init_9 rfl rfl (Nat.le_of_ble_eq_true rfl) dX0_init_6 rfl ?_
  refine x_ws (show _ = ([(q, .inr (4, [.int (0), .int 0, .int 0, .int 0, .int 0, .int 0, .int 0, .int 0, .int 0]))] : va_W) from rfl) ?_
  refine x_aload_n C 10 dX0_init_9 rfl rfl ?_
  refine x_iconst (v := (0)) C 11 dX0_init_10 (by decide) rfl ?_
  refine x_put C 14 0 rfl fp_X0_init_15 rfl rfl (Nat.le_of_ble_eq_true rfl) dX0_init_11 rfl ?_
  refine x_ws (show _ = ([(q, .inr (4, [.int (0), .int (0), .int 0, .int 0, .int 0, .int 0, .int 0, .int 0, .int 0]))] : va_W) from rfl) ?_
  refine x_aload_n C 15 dX0_init_14 rfl rfl ?_
  refine x_iconst (v := (0)) C 16 dX0_init_15 (by decide) rfl ?_
  refine x_put C 19 0 rfl fp_X0_init_18 rfl rfl (Nat.le_of_ble_eq_true rfl) dX0_init_16 rfl ?_
  refine x_ws (show _ = ([(q, .inr (4, [.int (0), .int (0), .int (0), .int 0, .int 0, .int 0, .int 0, .int 0, .int 0]))] : va_W) from rfl) ?_
  refine x_aload_n C 20 dX0_init_19 rfl rfl ?_
  refine x_iconst (v := (0)) C 21 dX0_init_20 (by decide) rfl ?_
  refine x_put C 24 0 rfl fp_X0_init_21 rfl rfl (Nat.le_of_ble_eq_true rfl) dX0_init_21 rfl ?_
  refine x_ws (show _ = ([(q, .inr (4, [.int (0), .int (0), .int (0), .int (0), .int 0, .int 0, .int 0, .int 0, .int 0]))] : va_W) from rfl) ?_
  refine x_aload_n C 25 dX0_init_24 rfl rfl ?_
  refine x_iconst (v := (0)) C 26 dX0_init_25 (by decide) rfl ?_
  refine x_put C 29 0 rfl fp_X0_init_24 rfl rfl (Nat.le_of_ble_eq_true rfl) dX0_init_26 rfl ?_
  refine x_ws (show _ = ([(q, .inr (4, [.int (0), .int (0), .int (0), .int (0), .int (0), .int 0, .int 0, .int 0, .int 0]))] : va_W) from rfl) ?_
  refine x_aload_n C 30 dX0_init_29 rfl rfl ?_
  refine x_bipush (v := (108)) C 32 dX0_init_30 (by decide) rfl ?_
  refine x_put C 35 0 rfl fp_X0_init_27 rfl rfl (Nat.le_of_ble_eq_true rfl) dX0_init_32 rfl ?_
  refine x_ws (show _ = ([(q, .inr (4, [.int (0), .int (0), .int (0), .int (0), .int (0), .int (108), .int 0, .int 0, .int 0]))] : va_W) from rfl) ?_
  refine x_aload_n C 36 dX0_init_35 rfl rfl ?_
  refine x_iconst (v := (0)) C 37 dX0_init_36 (by decide) rfl ?_
  refine x_put C 40 0 rfl fp_X0_init_31 rfl rfl (Nat.le_of_ble_eq_true rfl) dX0_init_37 rfl ?_
  refine x_ws (show _ = ([(q, .inr (4, [.int (0), .int (0), .int (0), .int (0), .int (0), .int (108), .int (0), .int 0, .int 0]))] : va_W) from rfl) ?_
  refine x_aload_n C 41 dX0_init_40 rfl rfl ?_
  refine x_bipush (v := (-2)) C 43 dX0_init_41 (by decide) rfl ?_
  refine x_put C 46 0 rfl fp_X0_init_35 rfl rfl (Nat.le_of_ble_eq_true rfl) dX0_init_43 rfl ?_
  refine x_ws (show _ = ([(q, .inr (4, [.int (0), .int (0), .int (0), .int (0), .int (0), .int (108), .int (0), .int (-2), .int 0]))] : va_W) from rfl) ?_
  refine x_aload_n C 47 dX0_init_46 rfl rfl ?_
  refine x_iconst (v := (-1)) C 48 dX0_init_47 (by decide) rfl ?_
  refine x_put C 51 0 rfl fp_X0_init_38 rfl rfl (Nat.le_of_ble_eq_true rfl) dX0_init_48 rfl ?_
  refine x_ws (show _ = ([(q, .inr (4, [.int (0), .int (0), .int (0), .int (0), .int (0), .int (108), .int (0), .int (-2), .int (-1)]))] : va_W) from rfl) ?_
  exact x_vret C0 dX0_init_51 (Nat.le_of_ble_eq_true rfl) (Nat.le_of_ble_eq_true rfl) ⟨rfl, rfl⟩
theorem fp_X1_init_9 : pF RX1 wsX1_init 9 5 3 false (.boolean) := ⟨RX1, TX1, 5, "StageConsole$Cue", tyX1, rfl, fun w h => (List.mem_cons_of_mem _ (List.mem_append_left _ (List.mem_append_right _ h))), by decide, (List.mem_cons_of_mem _ (List.mem_append_left _ (List.mem_append_left _ (List.mem_of_getElem? (i := 3) rfl)))), Or.inl rfl, tyX1_ok, nmX1, rfl, rfl, fun h => absurd h (by decide)⟩
theorem fp_X1_init_15 : pF RX1 wsX1_init 15 5 4 true (.array .int) := ⟨RX1, TX1, 5, "StageConsole$Cue", tyX1, rfl, fun w h => (List.mem_cons_of_mem _ (List.mem_append_left _ (List.mem_append_right _ h))), by decide, (List.mem_cons_of_mem _ (List.mem_append_left _ (List.mem_append_left _ (List.mem_of_getElem? (i := 5) rfl)))), Or.inl rfl, tyX1_ok, nmX1, rfl, rfl, fun h => rfl⟩
theorem fp_X1_init_19 : pF RX1 wsX1_init 19 5 0 true (.int) := ⟨RX1, TX1, 5, "StageConsole$Cue", tyX1, rfl, fun w h => (List.mem_cons_of_mem _ (List.mem_append_left _ (List.mem_append_right _ h))), by decide, (List.mem_cons_of_mem _ (List.mem_append_left _ (List.mem_append_left _ (List.mem_of_getElem? (i := 6) rfl)))), Or.inl rfl, tyX1_ok, nmX1, rfl, rfl, fun h => rfl⟩
theorem fp_X1_init_23 : pF RX1 wsX1_init 23 5 1 true (.int) := ⟨RX1, TX1, 5, "StageConsole$Cue", tyX1, rfl, fun w h => (List.mem_cons_of_mem _ (List.mem_append_left _ (List.mem_append_right _ h))), by decide, (List.mem_cons_of_mem _ (List.mem_append_left _ (List.mem_append_left _ (List.mem_of_getElem? (i := 7) rfl)))), Or.inl rfl, tyX1_ok, nmX1, rfl, rfl, fun h => rfl⟩
theorem fp_X1_init_26 : pF RX1 wsX1_init 26 5 2 true (.char) := ⟨RX1, TX1, 5, "StageConsole$Cue", tyX1, rfl, fun w h => (List.mem_cons_of_mem _ (List.mem_append_left _ (List.mem_append_right _ h))), by decide, (List.mem_cons_of_mem _ (List.mem_append_left _ (List.mem_append_left _ (List.mem_of_getElem? (i := 8) rfl)))), Or.inl rfl, tyX1_ok, nmX1, rfl, rfl, fun h => rfl⟩
theorem fg_X1_init_15 : gF RX1 wsX1_init 15 5 4 := ⟨RX1, TX1, 5, "StageConsole$Cue", rfl, fun w h => (List.mem_cons_of_mem _ (List.mem_append_left _ (List.mem_append_right _ h))), by decide, (List.mem_cons_of_mem _ (List.mem_append_left _ (List.mem_append_left _ (List.mem_of_getElem? (i := 5) rfl)))), Or.inl rfl⟩
set_option maxRecDepth 100000 in
set_option maxHeartbeats 4000000 in
theorem cC_initCue (hl : l.stackTraces = false) {q : Nat} {x t cv : Int32} (hcv : chK cv)  : Ct (gm D a E0) l yX1_init wsX1_init { frames := 8, cells := 1, slots := 12, locals := 200 } [.ref q, .int x, .int t, .int cv] ([(q, .inr (5, [.int 0, .int 0, .int 0, .int 0, .null]))]) (qV fun w => ∃ r f, (∀ i, i < 12 → f i = -1) ∧ w = [(q, .inr (5, [.int x, .int t, .int cv, .int 0, .ref r])), (r, .inl (a 0, 12, .inl f))]) noX := by
  refine Ct.of [some (.ref q), some (.int x), some (.int t), some (.int cv), none] rfl hl (by decide) (Nat.le_of_ble_eq_true rfl) rfl (fun φ C0 => ?_)
  have C := C0.1
  refine x_aload_n C 1 dX1_init_0 rfl rfl ?_
  refine x_objI C 4 (List.mem_cons_of_mem _ (List.mem_append_left _ (List.mem_append_left _ (List.mem_of_getElem? (i := 0) rfl)))) (List.mem_cons_of_mem _ (List.mem_append_left _ (List.mem_append_left _ (List.mem_of_getElem? (i := 1) rfl)))) (List.mem_cons_of_mem _ (List.mem_append_left _ (List.mem_append_left _ (List.mem_of_getElem? (i := 2) rfl)))) (Nat.le_of_ble_eq_true rfl) (Nat.le_of_ble_eq_true rfl) dX1_init_1 rfl ?_
  refine x_aload_n C 5 dX1_init_4 rfl rfl ?_
  refine x_iconst (v := (0)) C 6 dX1_init_5 (by decide) rfl ?_
  refine x_put C 9 0 rfl fp_X1_init_9 rfl rfl (Nat.le_of_ble_eq_true rfl) dX1_init_6 rfl ?_
  refine x_ws (show _ = ([(q, .inr (5, [.int 0, .int 0, .int 0, .int (0), .null]))] : va_W) from rfl) ?_
  refine x_aload_n C 10 dX1_init_9 rfl rfl ?_
  refine x_bipush (v := (12)) C 12 dX1_init_10 (by decide) rfl ?_
  refine x_newa (atype := .int) (ty := .int) C 14 0 (12, .inl (fun _ => 0)) rfl (fun _ _ h => h) (List.mem_cons_of_mem _ (List.mem_append_left _ (List.mem_append_left _ (List.mem_of_getElem? (i := 4) rfl)))) rfl (fun _ => rfl) (by decide) (by decide) (Nat.le_of_ble_eq_true rfl) (Nat.le_of_ble_eq_true rfl) (Nat.le_of_ble_eq_true rfl) dX1_init_12 rfl (fun r => ?_)
  refine x_ws (show _ = ([(q, .inr (5, [.int 0, .int 0, .int 0, .int (0), .null])), (r, .inl (a 0, 12, .inl (fun _ => 0)))] : va_W) from rfl) ?_
  refine x_putF C0 17 0 rfl fp_X1_init_15 rfl rfl (Nat.le_of_ble_eq_true rfl) dX1_init_14 rfl ?_
  refine x_ws (show _ = ([(q, .inr (5, [.int 0, .int 0, .int 0, .int (0), .ref r])), (r, .inl (a 0, 12, .inl (fun _ => 0)))] : va_W) from rfl) ?_
  refine x_aload_n C 18 dX1_init_17 rfl rfl ?_
  refine x_iload_n C 19 dX1_init_18 rfl rfl ?_
  refine x_putF C0 22 0 rfl fp_X1_init_19 rfl rfl (Nat.le_of_ble_eq_true rfl) dX1_init_19 rfl ?_
  refine x_ws (show _ = ([(q, .inr (5, [.int x, .int 0, .int 0, .int (0), .ref r])), (r, .inl (a 0, 12, .inl (fun _ => 0)))] : va_W) from rfl) ?_
  refine x_aload_n C 23 dX1_init_22 rfl rfl ?_
  refine x_iload_n C 24 dX1_init_23 rfl rfl ?_
  refine x_putF C0 27 0 rfl fp_X1_init_23 rfl rfl (Nat.le_of_ble_eq_true rfl) dX1_init_24 rfl ?_
  refine x_ws (show _ = ([(q, .inr (5, [.int x, .int t, .int 0, .int (0), .ref r])), (r, .inl (a 0, 12, .inl (fun _ => 0)))] : va_W) from rfl) ?_
  refine x_aload_n C 28 dX1_init_27 rfl rfl ?_
  refine x_iload_n C 29 dX1_init_28 rfl rfl ?_
  refine x_putF C0 32 0 rfl fp_X1_init_26 hcv.1 hcv.2 (Nat.le_of_ble_eq_true rfl) dX1_init_29 rfl ?_
  refine x_ws (show _ = ([(q, .inr (5, [.int x, .int t, .int cv, .int (0), .ref r])), (r, .inl (a 0, 12, .inl (fun _ => 0)))] : va_W) from rfl) ?_
  refine x_iconst (v := (0)) C 33 dX1_init_32 (by decide) rfl ?_
  refine x_istore C 35 dX1_init_33 (by decide) rfl rfl ?_
  have lp35 : ∀ (m i : Nat) (f : Nat → Int32), i + m = 12 → (∀ j, j < i → f j = -1) → X φ 35 [some (.ref q), some (.int x), some (.int t), some (.int cv), some (.int (nI i))] [] ([(q, .inr (5, [.int x, .int t, .int cv, .int 0, .ref r])), (r, .inl (a 0, 12, .inl f))]) 1 12 := by
    intro m
    induction m with
    | zero =>
      intro i f hi hf
      refine x_iload C 37 dX1_init_35 rfl rfl ?_
      refine x_bipush (v := (12)) C 39 dX1_init_37 (by decide) rfl ?_
      refine x_icmp_ge C 56 42 dX1_init_39 (by decide) rfl (fun zk39 => ?_) (fun zk39 => ?_)
      · have zk39 := (nI_leI (a := 12) (b := i) (by omega) (by omega)).mp zk39
        exact x_vret C0 dX1_init_56 (Nat.le_of_ble_eq_true rfl) (Nat.le_of_ble_eq_true rfl) ⟨rfl, ⟨r, f, fun i hi2 => hf i (by omega), rfl⟩⟩
      · have zk39 := mt (nI_leI (a := 12) (b := i) (by omega) (by omega)).mpr zk39
        exfalso; omega
    | succ m ih =>
      intro i f hi hf
      refine x_iload C 37 dX1_init_35 rfl rfl ?_
      refine x_bipush (v := (12)) C 39 dX1_init_37 (by decide) rfl ?_
      refine x_icmp_ge C 56 42 dX1_init_39 (by decide) rfl (fun zk39 => ?_) (fun zk39 => ?_)
      · have zk39 := (nI_leI (a := 12) (b := i) (by omega) (by omega)).mp zk39
        exfalso; omega
      · have zk39 := mt (nI_leI (a := 12) (b := i) (by omega) (by omega)).mpr zk39
        refine x_aload_n C 43 dX1_init_42 rfl rfl ?_
        refine x_get C 46 0 rfl fg_X1_init_15 rfl dX1_init_43 rfl ?_
        refine x_iload C 48 dX1_init_46 rfl rfl ?_
        refine x_iconst (v := (-1)) C 49 dX1_init_48 (by decide) rfl ?_
        refine x_iast C 50 1 0 rfl rfl (vp_in_nI (by omega) (by decide)) dX1_init_49 rfl ?_
        refine x_ws (show _ = ([(q, .inr (5, [.int x, .int t, .int cv, .int (0), .ref r])), (r, .inl (a 0, 12, .inl (upd f i (-1))))] : va_W) from by rw [nI_clamp (by omega)]; rfl) ?_
        refine x_iinc (v := nI (i + 1)) C 53 rfl dX1_init_50 (iinc1 _) (by decide) rfl rfl ?_
        refine x_goto C 35 dX1_init_53 (by decide) ?_
        refine ih (i + 1) _ (by omega) (fun j hj => ?_)
        unfold upd
        split
        · rfl
        · exact hf j (by omega)
  exact lp35 12 0 _ rfl (fun _ h => absurd h (Nat.not_lt_zero _))
theorem fp_X3_init_9 : pF RX3 wsX3_init 9 7 0 true (.array .boolean) := ⟨RX3, TX3, 2, "StageConsole$Group", tyX3, rfl, fun w h => (List.mem_cons_of_mem _ (List.mem_append_right _ h)), by decide, (List.mem_cons_of_mem _ (List.mem_append_left _ (List.mem_of_getElem? (i := 4) rfl))), Or.inl rfl, tyX3_ok, nmX3, rfl, rfl, fun h => rfl⟩
theorem fp_X3_init_15 : pF RX3 wsX3_init 15 7 1 false (.int) := ⟨RX3, TX3, 2, "StageConsole$Group", tyX3, rfl, fun w h => (List.mem_cons_of_mem _ (List.mem_append_right _ h)), by decide, (List.mem_cons_of_mem _ (List.mem_append_left _ (List.mem_of_getElem? (i := 5) rfl))), Or.inl rfl, tyX3_ok, nmX3, rfl, rfl, fun h => absurd h (by decide)⟩
set_option maxRecDepth 100000 in
set_option maxHeartbeats 4000000 in
theorem cC_initGr (hl : l.stackTraces = false) {q : Nat}  : Ct (gm D a E0) l yX3_init wsX3_init { frames := 8, cells := 1, slots := 12, locals := 200 } [.ref q] ([(q, .inr (7, [.null, .int 0]))]) (qV fun w => ∃ r, w = [(q, .inr (7, [.ref r, .int 0])), (r, .inl (a 1, 12, .inl (fun _ => 0)))]) noX := by
  refine Ct.of [some (.ref q)] rfl hl (by decide) (Nat.le_of_ble_eq_true rfl) rfl (fun φ C0 => ?_)
  have C := C0.1
  refine x_aload_n C 1 dX3_init_0 rfl rfl ?_
  refine x_objI C 4 (List.mem_cons_of_mem _ (List.mem_append_left _ (List.mem_of_getElem? (i := 0) rfl))) (List.mem_cons_of_mem _ (List.mem_append_left _ (List.mem_of_getElem? (i := 1) rfl))) (List.mem_cons_of_mem _ (List.mem_append_left _ (List.mem_of_getElem? (i := 2) rfl))) (Nat.le_of_ble_eq_true rfl) (Nat.le_of_ble_eq_true rfl) dX3_init_1 rfl ?_
  refine x_aload_n C 5 dX3_init_4 rfl rfl ?_
  refine x_bipush (v := (12)) C 7 dX3_init_5 (by decide) rfl ?_
  refine x_newa (atype := .boolean) (ty := .boolean) C 9 1 (12, .inl (fun _ => 0)) rfl (fun _ _ h => h) (List.mem_cons_of_mem _ (List.mem_append_left _ (List.mem_of_getElem? (i := 3) rfl))) rfl (fun _ => rfl) (by decide) (by decide) (Nat.le_of_ble_eq_true rfl) (Nat.le_of_ble_eq_true rfl) (Nat.le_of_ble_eq_true rfl) dX3_init_7 rfl (fun r => ?_)
  refine x_ws (show _ = ([(q, .inr (7, [.null, .int 0])), (r, .inl (a 1, 12, .inl (fun _ => 0)))] : va_W) from rfl) ?_
  refine x_putF C0 12 0 rfl fp_X3_init_9 rfl rfl (Nat.le_of_ble_eq_true rfl) dX3_init_9 rfl ?_
  refine x_ws (show _ = ([(q, .inr (7, [.ref r, .int 0])), (r, .inl (a 1, 12, .inl (fun _ => 0)))] : va_W) from rfl) ?_
  refine x_aload_n C 13 dX3_init_12 rfl rfl ?_
  refine x_iconst (v := (0)) C 14 dX3_init_13 (by decide) rfl ?_
  refine x_put C 17 0 rfl fp_X3_init_15 rfl rfl (Nat.le_of_ble_eq_true rfl) dX3_init_14 rfl ?_
  refine x_ws (show _ = ([(q, .inr (7, [.ref r, .int (0)])), (r, .inl (a 1, 12, .inl (fun _ => 0)))] : va_W) from rfl) ?_
  exact x_vret C0 dX3_init_17 (Nat.le_of_ble_eq_true rfl) (Nat.le_of_ble_eq_true rfl) ⟨rfl, ⟨r, rfl⟩⟩
theorem fp_X2_init_9 : pF RX2 wsX2_init 9 6 5 false (.boolean) := ⟨RX2, TX2, 7, "StageConsole$Effect", tyX2, rfl, fun w h => (List.mem_cons_of_mem _ (List.mem_append_right _ h)), by decide, (List.mem_cons_of_mem _ (List.mem_append_left _ (List.mem_of_getElem? (i := 3) rfl))), Or.inl rfl, tyX2_ok, nmX2, rfl, rfl, fun h => absurd h (by decide)⟩
theorem fp_X2_init_15 : pF RX2 wsX2_init 15 6 6 false (.int) := ⟨RX2, TX2, 7, "StageConsole$Effect", tyX2, rfl, fun w h => (List.mem_cons_of_mem _ (List.mem_append_right _ h)), by decide, (List.mem_cons_of_mem _ (List.mem_append_left _ (List.mem_of_getElem? (i := 4) rfl))), Or.inl rfl, tyX2_ok, nmX2, rfl, rfl, fun h => absurd h (by decide)⟩
theorem fp_X2_init_19 : pF RX2 wsX2_init 19 6 0 true (.object "StageConsole$Group") := ⟨RX2, TX2, 7, "StageConsole$Effect", tyX2, rfl, fun w h => (List.mem_cons_of_mem _ (List.mem_append_right _ h)), by decide, (List.mem_cons_of_mem _ (List.mem_append_left _ (List.mem_of_getElem? (i := 5) rfl))), Or.inl rfl, tyX2_ok, nmX2, rfl, rfl, fun h => rfl⟩
theorem fp_X2_init_23 : pF RX2 wsX2_init 23 6 1 true (.char) := ⟨RX2, TX2, 7, "StageConsole$Effect", tyX2, rfl, fun w h => (List.mem_cons_of_mem _ (List.mem_append_right _ h)), by decide, (List.mem_cons_of_mem _ (List.mem_append_left _ (List.mem_of_getElem? (i := 6) rfl))), Or.inl rfl, tyX2_ok, nmX2, rfl, rfl, fun h => rfl⟩
theorem fp_X2_init_27 : pF RX2 wsX2_init 27 6 2 true (.int) := ⟨RX2, TX2, 7, "StageConsole$Effect", tyX2, rfl, fun w h => (List.mem_cons_of_mem _ (List.mem_append_right _ h)), by decide, (List.mem_cons_of_mem _ (List.mem_append_left _ (List.mem_of_getElem? (i := 7) rfl))), Or.inl rfl, tyX2_ok, nmX2, rfl, rfl, fun h => rfl⟩
theorem fp_X2_init_30 : pF RX2 wsX2_init 30 6 3 true (.int) := ⟨RX2, TX2, 7, "StageConsole$Effect", tyX2, rfl, fun w h => (List.mem_cons_of_mem _ (List.mem_append_right _ h)), by decide, (List.mem_cons_of_mem _ (List.mem_append_left _ (List.mem_of_getElem? (i := 8) rfl))), Or.inl rfl, tyX2_ok, nmX2, rfl, rfl, fun h => rfl⟩
theorem fp_X2_init_33 : pF RX2 wsX2_init 33 6 4 true (.int) := ⟨RX2, TX2, 7, "StageConsole$Effect", tyX2, rfl, fun w h => (List.mem_cons_of_mem _ (List.mem_append_right _ h)), by decide, (List.mem_cons_of_mem _ (List.mem_append_left _ (List.mem_of_getElem? (i := 9) rfl))), Or.inl rfl, tyX2_ok, nmX2, rfl, rfl, fun h => rfl⟩
set_option maxRecDepth 100000 in
set_option maxHeartbeats 4000000 in
theorem cC_initEf (hl : l.stackTraces = false) {q G : Nat} {s0 s1 s2 s3 : Int32} (h0 : chK s0)  : Ct (gm D a E0) l yX2_init wsX2_init { frames := 8, cells := 0, slots := 0, locals := 200 } [.ref q, .ref G, .int s0, .int s1, .int s2, .int s3] ([(q, .inr (6, [.null, .int 0, .int 0, .int 0, .int 0, .int 0, .int 0]))]) (qV fun w => w = [(q, .inr (6, [.ref G, .int s0, .int s1, .int s2, .int s3, .int 0, .int 0]))]) noX := by
  refine Ct.of [some (.ref q), some (.ref G), some (.int s0), some (.int s1), some (.int s2), some (.int s3)] rfl hl (by decide) (Nat.le_of_ble_eq_true rfl) rfl (fun φ C0 => ?_)
  have C := C0.1
  refine x_aload_n C 1 dX2_init_0 rfl rfl ?_
  refine x_objI C 4 (List.mem_cons_of_mem _ (List.mem_append_left _ (List.mem_of_getElem? (i := 0) rfl))) (List.mem_cons_of_mem _ (List.mem_append_left _ (List.mem_of_getElem? (i := 1) rfl))) (List.mem_cons_of_mem _ (List.mem_append_left _ (List.mem_of_getElem? (i := 2) rfl))) (Nat.le_of_ble_eq_true rfl) (Nat.le_of_ble_eq_true rfl) dX2_init_1 rfl ?_
  refine x_aload_n C 5 dX2_init_4 rfl rfl ?_
  refine x_iconst (v := (0)) C 6 dX2_init_5 (by decide) rfl ?_
  refine x_put C 9 0 rfl fp_X2_init_9 rfl rfl (Nat.le_of_ble_eq_true rfl) dX2_init_6 rfl ?_
  refine x_ws (show _ = ([(q, .inr (6, [.null, .int 0, .int 0, .int 0, .int 0, .int (0), .int 0]))] : va_W) from rfl) ?_
  refine x_aload_n C 10 dX2_init_9 rfl rfl ?_
  refine x_iconst (v := (0)) C 11 dX2_init_10 (by decide) rfl ?_
  refine x_put C 14 0 rfl fp_X2_init_15 rfl rfl (Nat.le_of_ble_eq_true rfl) dX2_init_11 rfl ?_
  refine x_ws (show _ = ([(q, .inr (6, [.null, .int 0, .int 0, .int 0, .int 0, .int (0), .int (0)]))] : va_W) from rfl) ?_
  refine x_aload_n C 15 dX2_init_14 rfl rfl ?_
  refine x_aload_n C 16 dX2_init_15 rfl rfl ?_
  refine x_putF C0 19 0 rfl fp_X2_init_19 rfl rfl (Nat.le_of_ble_eq_true rfl) dX2_init_16 rfl ?_
  refine x_ws (show _ = ([(q, .inr (6, [.ref G, .int 0, .int 0, .int 0, .int 0, .int (0), .int (0)]))] : va_W) from rfl) ?_
  refine x_aload_n C 20 dX2_init_19 rfl rfl ?_
  refine x_iload_n C 21 dX2_init_20 rfl rfl ?_
  refine x_putF C0 24 0 rfl fp_X2_init_23 h0.1 h0.2 (Nat.le_of_ble_eq_true rfl) dX2_init_21 rfl ?_
  refine x_ws (show _ = ([(q, .inr (6, [.ref G, .int s0, .int 0, .int 0, .int 0, .int (0), .int (0)]))] : va_W) from rfl) ?_
  refine x_aload_n C 25 dX2_init_24 rfl rfl ?_
  refine x_iload_n C 26 dX2_init_25 rfl rfl ?_
  refine x_putF C0 29 0 rfl fp_X2_init_27 rfl rfl (Nat.le_of_ble_eq_true rfl) dX2_init_26 rfl ?_
  refine x_ws (show _ = ([(q, .inr (6, [.ref G, .int s0, .int s1, .int 0, .int 0, .int (0), .int (0)]))] : va_W) from rfl) ?_
  refine x_aload_n C 30 dX2_init_29 rfl rfl ?_
  refine x_iload C 32 dX2_init_30 rfl rfl ?_
  refine x_putF C0 35 0 rfl fp_X2_init_30 rfl rfl (Nat.le_of_ble_eq_true rfl) dX2_init_32 rfl ?_
  refine x_ws (show _ = ([(q, .inr (6, [.ref G, .int s0, .int s1, .int s2, .int 0, .int (0), .int (0)]))] : va_W) from rfl) ?_
  refine x_aload_n C 36 dX2_init_35 rfl rfl ?_
  refine x_iload C 38 dX2_init_36 rfl rfl ?_
  refine x_putF C0 41 0 rfl fp_X2_init_33 rfl rfl (Nat.le_of_ble_eq_true rfl) dX2_init_38 rfl ?_
  refine x_ws (show _ = ([(q, .inr (6, [.ref G, .int s0, .int s1, .int s2, .int s3, .int (0), .int (0)]))] : va_W) from rfl) ?_
  exact x_vret C0 dX2_init_41 (Nat.le_of_ble_eq_true rfl) (Nat.le_of_ble_eq_true rfl) ⟨rfl, rfl⟩
theorem fp_X4_init_7 : pF RX4 wsX4_init 7 8 0 true (.char) := ⟨RX4, TX4, 3, "StageConsole$Step", tyX4, rfl, fun w h => (List.mem_cons_of_mem _ (List.mem_append_right _ h)), by decide, (List.mem_cons_of_mem _ (List.mem_append_left _ (List.mem_of_getElem? (i := 3) rfl))), Or.inl rfl, tyX4_ok, nmX4, rfl, rfl, fun h => rfl⟩
theorem fp_X4_init_13 : pF RX4 wsX4_init 13 8 1 true (.int) := ⟨RX4, TX4, 3, "StageConsole$Step", tyX4, rfl, fun w h => (List.mem_cons_of_mem _ (List.mem_append_right _ h)), by decide, (List.mem_cons_of_mem _ (List.mem_append_left _ (List.mem_of_getElem? (i := 4) rfl))), Or.inl rfl, tyX4_ok, nmX4, rfl, rfl, fun h => rfl⟩
theorem fp_X4_init_17 : pF RX4 wsX4_init 17 8 2 true (.int) := ⟨RX4, TX4, 3, "StageConsole$Step", tyX4, rfl, fun w h => (List.mem_cons_of_mem _ (List.mem_append_right _ h)), by decide, (List.mem_cons_of_mem _ (List.mem_append_left _ (List.mem_of_getElem? (i := 5) rfl))), Or.inl rfl, tyX4_ok, nmX4, rfl, rfl, fun h => rfl⟩
set_option maxRecDepth 100000 in
set_option maxHeartbeats 4000000 in
theorem cC_initSt (hl : l.stackTraces = false) {q : Nat} {s0 s1 s2 : Int32} (h0 : chK s0)  : Ct (gm D a E0) l yX4_init wsX4_init { frames := 8, cells := 0, slots := 0, locals := 200 } [.ref q, .int s0, .int s1, .int s2] ([(q, .inr (8, [.int 0, .int 0, .int 0]))]) (qV fun w => w = [(q, .inr (8, [.int s0, .int s1, .int s2]))]) noX := by
  refine Ct.of [some (.ref q), some (.int s0), some (.int s1), some (.int s2)] rfl hl (by decide) (Nat.le_of_ble_eq_true rfl) rfl (fun φ C0 => ?_)
  have C := C0.1
  refine x_aload_n C 1 dX4_init_0 rfl rfl ?_
  refine x_objI C 4 (List.mem_cons_of_mem _ (List.mem_append_left _ (List.mem_of_getElem? (i := 0) rfl))) (List.mem_cons_of_mem _ (List.mem_append_left _ (List.mem_of_getElem? (i := 1) rfl))) (List.mem_cons_of_mem _ (List.mem_append_left _ (List.mem_of_getElem? (i := 2) rfl))) (Nat.le_of_ble_eq_true rfl) (Nat.le_of_ble_eq_true rfl) dX4_init_1 rfl ?_
  refine x_aload_n C 5 dX4_init_4 rfl rfl ?_
  refine x_iload_n C 6 dX4_init_5 rfl rfl ?_
  refine x_putF C0 9 0 rfl fp_X4_init_7 h0.1 h0.2 (Nat.le_of_ble_eq_true rfl) dX4_init_6 rfl ?_
  refine x_ws (show _ = ([(q, .inr (8, [.int s0, .int 0, .int 0]))] : va_W) from rfl) ?_
  refine x_aload_n C 10 dX4_init_9 rfl rfl ?_
  refine x_iload_n C 11 dX4_init_10 rfl rfl ?_
  refine x_putF C0 14 0 rfl fp_X4_init_13 rfl rfl (Nat.le_of_ble_eq_true rfl) dX4_init_11 rfl ?_
  refine x_ws (show _ = ([(q, .inr (8, [.int s0, .int s1, .int 0]))] : va_W) from rfl) ?_
  refine x_aload_n C 15 dX4_init_14 rfl rfl ?_
  refine x_iload_n C 16 dX4_init_15 rfl rfl ?_
  refine x_putF C0 19 0 rfl fp_X4_init_17 rfl rfl (Nat.le_of_ble_eq_true rfl) dX4_init_16 rfl ?_
  refine x_ws (show _ = ([(q, .inr (8, [.int s0, .int s1, .int s2]))] : va_W) from rfl) ?_
  exact x_vret C0 dX4_init_19 (Nat.le_of_ble_eq_true rfl) (Nat.le_of_ble_eq_true rfl) ⟨rfl, rfl⟩
end CK
