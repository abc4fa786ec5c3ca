section CC
variable {l : Launch} {Γ : Gm} {D : va_G} {a : Nat → ClassId} {E0 : Nat} {n cap : Nat → Nat} {A : Nat → Nat → Nat} {g : Nat → Nat} {en : Int64} {S : Nat → Nat → Nat → Int32}
theorem fg_X5_clearMacro_46 : gF RX5 wsX5_clearMacro 46 9 9 := ⟨RX5, TX5, 11, "StageConsole", rfl, fun w h => (List.mem_cons_of_mem _ (List.mem_append_left _ (List.mem_append_right _ h))), by decide, (List.mem_cons_of_mem _ (List.mem_append_left _ (List.mem_append_left _ (List.mem_of_getElem? (i := 0) rfl)))), Or.inl rfl⟩
set_option maxRecDepth 100000 in
set_option maxHeartbeats 4000000 in
theorem cC_clearMacro (hl : l.stackTraces = false) (hN : CN n cap)  : Ct (gm D a E0) l yX5_clearMacro wsX5_clearMacro { frames := 8, cells := 0, slots := 0, locals := 200 } [.ref (A 0 0)] (wC a E0 n cap A g en S) (qI fun v w => v = nI (n 3) ∧ w = wC a E0 (updN n 3 0) cap A g en (uS S 3 3 0 (S 3 3 0 + 1))) noX := by
  refine Ct.of [some (.ref (A 0 0)), none] rfl hl (by decide) (Nat.le_of_ble_eq_true rfl) rfl (fun φ C0 => ?_)
  have C := C0.1
  refine x_aload_n C 1 dX5_clearMacro_0 rfl rfl ?_
  refine xc_get C 4 0 0 (by decide) (show 0 < 1 by decide) rfl fg_X5_clearMacro_46 rfl dX5_clearMacro_1 rfl ?_
  refine xc_callV_i C 7 0 0 3 3 3 0 (cC_size hl (j := 3) (by decide)) rfl gX5_clearMacro_Jx4a65c_size_8abf5 ⟨rfl, by decide, by decide, rfl⟩ ⟨Nat.le_of_ble_eq_true rfl, Nat.le_of_ble_eq_true rfl⟩ rfl (by decide) (show 3 < 4 by decide) rfl rfl rfl (Nat.le_of_ble_eq_true rfl) ⟨Nat.le_of_ble_eq_true rfl, Nat.le_of_ble_eq_true rfl⟩ dX5_clearMacro_4 rfl rfl rfl (fun r1 w1 h1 => ?_)
  obtain ⟨rfl, rfl⟩ := h1
  refine x_istore_n C 8 dX5_clearMacro_7 (by decide) rfl rfl ?_
  refine x_aload_n C 9 dX5_clearMacro_8 rfl rfl ?_
  refine xc_get C 12 0 0 (by decide) (show 0 < 1 by decide) rfl fg_X5_clearMacro_46 rfl dX5_clearMacro_9 rfl ?_
  refine xc_callV_v C 15 0 0 3 3 3 0 (cC_clear3 hl (hN.1 3 (by decide)).1 (hN.1 3 (by decide)).2) rfl gX5_clearMacro_Jx4a65c_clear_da8c8 ⟨rfl, by decide, by decide, rfl⟩ ⟨Nat.le_of_ble_eq_true rfl, Nat.le_of_ble_eq_true rfl⟩ rfl (by decide) (show 3 < 4 by decide) rfl rfl rfl (Nat.le_of_ble_eq_true rfl) ⟨Nat.le_of_ble_eq_true rfl, Nat.le_of_ble_eq_true rfl⟩ dX5_clearMacro_12 rfl rfl rfl (fun w2 h2 => ?_)
  subst h2
  refine x_iload_n C 16 dX5_clearMacro_15 rfl rfl ?_
  exact x_zret C0 dX5_clearMacro_16 (Nat.le_of_ble_eq_true rfl) (Nat.le_of_ble_eq_true rfl) ⟨_, rfl, ⟨rfl, rfl⟩⟩
theorem fg_X5_macroFault_49 : gF RX5 wsX5_macroFault 49 9 10 := ⟨RX5, TX5, 11, "StageConsole", rfl, fun w h => (List.mem_cons_of_mem _ (List.mem_append_left _ (List.mem_append_right _ h))), by decide, (List.mem_cons_of_mem _ (List.mem_append_left _ (List.mem_append_left _ (List.mem_of_getElem? (i := 2) rfl)))), Or.inl rfl⟩
set_option maxRecDepth 100000 in
set_option maxHeartbeats 4000000 in
theorem cC_macroFault_0 (hl : l.stackTraces = false) (hv : ¬ S 0 0 3 = 32) (hn : chK (S 0 0 3))  : Ct (gm D a E0) l yX5_macroFault wsX5_macroFault { frames := 4, cells := 0, slots := 0, locals := 100 } [.ref (A 0 0)] (wC a E0 n cap A g en S) (qI fun v w => v = S 0 0 3 ∧ w = wC a E0 n cap A g en S) noX := by
  refine Ct.of [some (.ref (A 0 0))] rfl hl (by decide) (Nat.le_of_ble_eq_true rfl) rfl (fun φ C0 => ?_)
  have C := C0.1
  refine x_aload_n C 1 dX5_macroFault_0 rfl rfl ?_
  refine xc_get C 4 0 0 (by decide) (show 0 < 1 by decide) rfl fg_X5_macroFault_49 rfl dX5_macroFault_1 rfl ?_
  refine x_bipush (v := (32)) C 6 dX5_macroFault_4 (by decide) rfl ?_
  refine x_icmp_ne C 20 9 dX5_macroFault_6 (by decide) rfl (fun zk6 => ?_) (fun zk6 => ?_)
  · refine x_aload_n C 21 dX5_macroFault_20 rfl rfl ?_
    refine xc_get C 24 0 0 (by decide) (show 0 < 1 by decide) rfl fg_X5_macroFault_49 rfl dX5_macroFault_21 rfl ?_
    exact x_nret C0 rfl (hn.1) dX5_macroFault_24 (Nat.le_of_ble_eq_true rfl) (Nat.le_of_ble_eq_true rfl) ⟨_, rfl, ⟨rfl, rfl⟩⟩
  · exact absurd zk6 hv
set_option maxRecDepth 100000 in
set_option maxHeartbeats 4000000 in
theorem cC_macroFault_1 (hl : l.stackTraces = false) (hv : S 0 0 3 = 32)  : Ct (gm D a E0) l yX5_macroFault wsX5_macroFault { frames := 8, cells := 1, slots := 6, locals := 200 } [.ref (A 0 0)] (wC a E0 n cap A g en S) (qI fun _ _ => False) (fun E w => E = "java/util/NoSuchElementException" ∧ w = wC a E0 n cap A g en S) := by
  refine Ct.of [some (.ref (A 0 0))] rfl hl (by decide) (Nat.le_of_ble_eq_true rfl) rfl (fun φ C0 => ?_)
  have C := C0.1
  refine x_aload_n C 1 dX5_macroFault_0 rfl rfl ?_
  refine xc_get C 4 0 0 (by decide) (show 0 < 1 by decide) rfl fg_X5_macroFault_49 rfl dX5_macroFault_1 rfl ?_
  refine x_bipush (v := (32)) C 6 dX5_macroFault_4 (by decide) rfl ?_
  refine x_icmp_ne C 20 9 dX5_macroFault_6 (by decide) rfl (fun zk6 => ?_) (fun zk6 => ?_)
  · exact absurd hv zk6
  · exact x_throwSW C0 (cls := "java/util/NoSuchElementException") (text := "the macro was never run") (names := ["java/lang/RuntimeException", "java/lang/Exception"]) (List.mem_of_getElem? (i := 8) rfl) (by decide) (by decide) (List.mem_cons_of_mem _ (List.mem_append_left _ (List.mem_append_left _ (List.mem_of_getElem? (i := 0) rfl)))) (List.mem_cons_of_mem _ (List.mem_append_left _ (List.mem_append_left _ (List.mem_of_getElem? (i := 1) rfl)))) (fun w h => (List.mem_cons_of_mem _ (List.mem_append_right _ h))) (by decide) (by decide +kernel) (by decide +kernel) dX5_macroFault_9 dX5_macroFault_12 dX5_macroFault_13 dX5_macroFault_16 dX5_macroFault_19 (Nat.le_of_ble_eq_true rfl) (Nat.le_of_ble_eq_true rfl) (Nat.le_of_ble_eq_true rfl) (Nat.le_of_ble_eq_true rfl) ⟨rfl, rfl⟩   
end CC
