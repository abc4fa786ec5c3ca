section CC
variable {l : Launch} {Γ : Gm} {D : va_G} {a : Nat → ClassId} {E0 : Nat} {n cap : Nat → Nat} {A : Nat → Nat → Nat} {g : Nat → Nat} {en : Int64} {S : Nat → Nat → Nat → Int32}
set_option maxRecDepth 100000 in
set_option maxHeartbeats 4000000 in
theorem cC_setLatest_1 (hl : l.stackTraces = false) {z : Int32} {b : Bool} (hc : chB z = false)  : Ct (gm D a E0) l yX5_setLatest wsX5_setLatest { frames := 16, cells := 1, slots := 6, locals := 400 } [.ref (A 0 0), .int z, .int (bI b)] (wC a E0 n cap A g en S) (qI fun _ _ => False) (fun E w => E = "java/lang/IndexOutOfBoundsException" ∧ w = wC a E0 n cap A g en S) := by
  refine Ct.of [some (.ref (A 0 0)), some (.int z), some (.int (bI b)), none] rfl hl (by decide) (Nat.le_of_ble_eq_true rfl) rfl (fun φ C0 => ?_)
  have C := C0.1
  refine x_iload_n C 1 dX5_setLatest_0 rfl rfl ?_
  exact x_callSx0_v C0 4 1 6 1 (cC_requireChannel_1 hl hc) rfl gX5_setLatest_X5_requireChannel ⟨by decide, by decide, rfl⟩ ⟨Nat.le_of_ble_eq_true rfl, Nat.le_of_ble_eq_true rfl⟩ rfl rfl (Nat.le_of_ble_eq_true rfl) ⟨Nat.le_of_ble_eq_true rfl, Nat.le_of_ble_eq_true rfl⟩ dX5_setLatest_1 rfl rfl rfl (fun _ h => h.elim) (fun E w h => h)
theorem fg_X5_latestSource_25 : gF RX5 wsX5_latestSource 25 9 3 := ⟨RX5, TX5, 11, "StageConsole", rfl, fun w h => (List.mem_cons_of_mem _ (List.mem_append_left _ (List.mem_append_left _ (List.mem_append_left _ (List.mem_append_right _ h))))), by decide, (List.mem_cons_of_mem _ (List.mem_append_left _ (List.mem_append_left _ (List.mem_append_left _ (List.mem_append_left _ (List.mem_of_getElem? (i := 2) rfl)))))), Or.inl rfl⟩
theorem fg_X5_latestSource_196 : gF RX5 wsX5_latestSource 196 4 7 := ⟨RX0, TX0, 9, "StageConsole$Channel", rfl, fun w h => (List.mem_cons_of_mem _ (List.mem_append_left _ (List.mem_append_left _ (List.mem_append_right _ h)))), by decide, (List.mem_cons_of_mem _ (List.mem_append_left _ (List.mem_append_left _ (List.mem_append_left _ (List.mem_append_left _ (List.mem_of_getElem? (i := 3) rfl)))))), Or.inl rfl⟩
set_option maxRecDepth 100000 in
set_option maxHeartbeats 4000000 in
theorem cC_latestSource_0 (hl : l.stackTraces = false) {c : Nat} (hc : c < 12) (hv : ¬ S 4 c 7 = -2)  : Ct (gm D a E0) l yX5_latestSource wsX5_latestSource { frames := 16, cells := 0, slots := 0, locals := 400 } [.ref (A 0 0), .int (nI c)] (wC a E0 n cap A g en S) (qI fun v w => v = S 4 c 7 ∧ w = wC a E0 n cap A g en S) noX := by
  refine Ct.of [some (.ref (A 0 0)), some (.int (nI c)), none] rfl hl (by decide) (Nat.le_of_ble_eq_true rfl) rfl (fun φ C0 => ?_)
  have C := C0.1
  refine x_iload_n C 1 dX5_latestSource_0 rfl rfl ?_
  refine x_callS0_v C 4 0 0 1 (cC_requireChannel_0 hl (chB_nI hc)) rfl gX5_latestSource_X5_requireChannel ⟨by decide, by decide, rfl⟩ ⟨Nat.le_of_ble_eq_true rfl, Nat.le_of_ble_eq_true rfl⟩ rfl rfl (Nat.le_of_ble_eq_true rfl) ⟨Nat.le_of_ble_eq_true rfl, Nat.le_of_ble_eq_true rfl⟩ dX5_latestSource_1 rfl rfl rfl (fun w1 h1 => ?_)
  subst h1
  refine x_aload_n C 5 dX5_latestSource_4 rfl rfl ?_
  refine xc_get C 8 0 0 (by decide) (show 0 < 1 by decide) rfl fg_X5_latestSource_25 rfl dX5_latestSource_5 rfl ?_
  refine x_iload_n C 9 dX5_latestSource_8 rfl rfl ?_
  refine xc_chan C 10 c rfl (by omega) dX5_latestSource_9 rfl ?_
  refine xc_get C 13 4 c (by decide) (show c < 12 from by omega) rfl fg_X5_latestSource_196 rfl dX5_latestSource_10 rfl ?_
  refine x_nm (fun sv esv => ?_)
  refine x_istore_n C 14 dX5_latestSource_13 (by decide) rfl rfl ?_
  refine x_iload_n C 15 dX5_latestSource_14 rfl rfl ?_
  refine x_bipush (v := (-2)) C 17 dX5_latestSource_15 (by decide) rfl ?_
  refine x_icmp_ne C 30 20 dX5_latestSource_17 (by decide) rfl (fun zk17 => ?_) (fun zk17 => ?_)
  · refine x_iload_n C 31 dX5_latestSource_30 rfl rfl ?_
    exact x_zret C0 dX5_latestSource_31 (Nat.le_of_ble_eq_true rfl) (Nat.le_of_ble_eq_true rfl) ⟨_, rfl, ⟨esv, rfl⟩⟩
  · exact absurd (esv.symm.trans zk17) hv
set_option maxRecDepth 100000 in
set_option maxHeartbeats 4000000 in
theorem cC_latestSource_1 (hl : l.stackTraces = false) {z : Int32} (hc : chB z = false)  : Ct (gm D a E0) l yX5_latestSource wsX5_latestSource { frames := 16, cells := 1, slots := 6, locals := 400 } [.ref (A 0 0), .int z] (wC a E0 n cap A g en S) (qI fun _ _ => False) (fun E w => E = "java/lang/IndexOutOfBoundsException" ∧ w = wC a E0 n cap A g en S) := by
  refine Ct.of [some (.ref (A 0 0)), some (.int z), none] rfl hl (by decide) (Nat.le_of_ble_eq_true rfl) rfl (fun φ C0 => ?_)
  have C := C0.1
  refine x_iload_n C 1 dX5_latestSource_0 rfl rfl ?_
  exact x_callSx0_v C0 4 1 6 1 (cC_requireChannel_1 hl hc) rfl gX5_latestSource_X5_requireChannel ⟨by decide, by decide, rfl⟩ ⟨Nat.le_of_ble_eq_true rfl, Nat.le_of_ble_eq_true rfl⟩ rfl rfl (Nat.le_of_ble_eq_true rfl) ⟨Nat.le_of_ble_eq_true rfl, Nat.le_of_ble_eq_true rfl⟩ dX5_latestSource_1 rfl rfl rfl (fun _ h => h.elim) (fun E w h => h)
set_option maxRecDepth 100000 in
set_option maxHeartbeats 4000000 in
theorem cC_latestSource_2 (hl : l.stackTraces = false) {c : Nat} (hc : c < 12) (hv : S 4 c 7 = -2)  : Ct (gm D a E0) l yX5_latestSource wsX5_latestSource { frames := 16, cells := 1, slots := 6, locals := 400 } [.ref (A 0 0), .int (nI c)] (wC a E0 n cap A g en S) (qI fun _ _ => False) (fun E w => E = "java/util/NoSuchElementException" ∧ w = wC a E0 n cap A g en S) := by
  refine Ct.of [some (.ref (A 0 0)), some (.int (nI c)), none] rfl hl (by decide) (Nat.le_of_ble_eq_true rfl) rfl (fun φ C0 => ?_)
  have C := C0.1
  refine x_iload_n C 1 dX5_latestSource_0 rfl rfl ?_
  refine x_callS0_v C 4 0 0 1 (cC_requireChannel_0 hl (chB_nI hc)) rfl gX5_latestSource_X5_requireChannel ⟨by decide, by decide, rfl⟩ ⟨Nat.le_of_ble_eq_true rfl, Nat.le_of_ble_eq_true rfl⟩ rfl rfl (Nat.le_of_ble_eq_true rfl) ⟨Nat.le_of_ble_eq_true rfl, Nat.le_of_ble_eq_true rfl⟩ dX5_latestSource_1 rfl rfl rfl (fun w1 h1 => ?_)
  subst h1
  refine x_aload_n C 5 dX5_latestSource_4 rfl rfl ?_
  refine xc_get C 8 0 0 (by decide) (show 0 < 1 by decide) rfl fg_X5_latestSource_25 rfl dX5_latestSource_5 rfl ?_
  refine x_iload_n C 9 dX5_latestSource_8 rfl rfl ?_
  refine xc_chan C 10 c rfl (by omega) dX5_latestSource_9 rfl ?_
  refine xc_get C 13 4 c (by decide) (show c < 12 from by omega) rfl fg_X5_latestSource_196 rfl dX5_latestSource_10 rfl ?_
  refine x_nm (fun sv esv => ?_)
  refine x_istore_n C 14 dX5_latestSource_13 (by decide) rfl rfl ?_
  refine x_iload_n C 15 dX5_latestSource_14 rfl rfl ?_
  refine x_bipush (v := (-2)) C 17 dX5_latestSource_15 (by decide) rfl ?_
  refine x_icmp_ne C 30 20 dX5_latestSource_17 (by decide) rfl (fun zk17 => ?_) (fun zk17 => ?_)
  · exact absurd (esv.trans hv) zk17
  · exact x_throwS C0 (cls := "java/util/NoSuchElementException") (text := "no source was the latest one yet") (names := ["java/lang/RuntimeException", "java/lang/Exception"]) (List.mem_of_getElem? (i := 13) rfl) (by decide) (by decide) (List.mem_cons_of_mem _ (List.mem_append_left _ (List.mem_append_left _ (List.mem_append_left _ (List.mem_append_left _ (List.mem_of_getElem? (i := 0) rfl)))))) (List.mem_cons_of_mem _ (List.mem_append_left _ (List.mem_append_left _ (List.mem_append_left _ (List.mem_append_left _ (List.mem_of_getElem? (i := 1) rfl)))))) (fun w h => (List.mem_cons_of_mem _ (List.mem_append_left _ (List.mem_append_right _ h)))) (by decide) (by decide +kernel) (by decide +kernel) dX5_latestSource_20 dX5_latestSource_23 dX5_latestSource_24 dX5_latestSource_26 dX5_latestSource_29 (Nat.le_of_ble_eq_true rfl) (Nat.le_of_ble_eq_true rfl) (Nat.le_of_ble_eq_true rfl) (Nat.le_of_ble_eq_true rfl) ⟨rfl, rfl⟩   
set_option maxRecDepth 100000 in
set_option maxHeartbeats 4000000 in
theorem cC_baseLevel_0 (hl : l.stackTraces = false) (hN : CN n cap) {c : Nat} (hc : c < 12)  : Ct (gm D a E0) l yX5_baseLevel wsX5_baseLevel { frames := 24, cells := 0, slots := 0, locals := 600 } [.ref (A 0 0), .int (nI c)] (wC a E0 n cap A g en S) (qI fun v w => v = bsC S (n 1) c ∧ w = wC a E0 n cap A g en S) noX := by
  refine Ct.of [some (.ref (A 0 0)), some (.int (nI c))] rfl hl (by decide) (Nat.le_of_ble_eq_true rfl) rfl (fun φ C0 => ?_)
  have C := C0.1
  refine x_iload_n C 1 dX5_baseLevel_0 rfl rfl ?_
  refine x_callS0_v C 4 0 0 1 (cC_requireChannel_0 hl (chB_nI hc)) rfl gX5_baseLevel_X5_requireChannel ⟨by decide, by decide, rfl⟩ ⟨Nat.le_of_ble_eq_true rfl, Nat.le_of_ble_eq_true rfl⟩ rfl rfl (Nat.le_of_ble_eq_true rfl) ⟨Nat.le_of_ble_eq_true rfl, Nat.le_of_ble_eq_true rfl⟩ dX5_baseLevel_1 rfl rfl rfl (fun w1 h1 => ?_)
  subst h1
  refine x_aload_n C 5 dX5_baseLevel_4 rfl rfl ?_
  refine x_iload_n C 6 dX5_baseLevel_5 rfl rfl ?_
  refine xc_callV_i C 9 0 0 0 0 9 1 (cC_baseOf hl hc hN) rfl gX5_baseLevel_X5_baseOf ⟨rfl, by decide, by decide, rfl⟩ ⟨Nat.le_of_ble_eq_true rfl, Nat.le_of_ble_eq_true rfl⟩ rfl (by decide) (show 0 < 1 by decide) rfl rfl rfl (Nat.le_of_ble_eq_true rfl) ⟨Nat.le_of_ble_eq_true rfl, Nat.le_of_ble_eq_true rfl⟩ dX5_baseLevel_6 rfl rfl rfl (fun r2 w2 h2 => ?_)
  obtain ⟨rfl, rfl⟩ := h2
  exact x_zret C0 dX5_baseLevel_9 (Nat.le_of_ble_eq_true rfl) (Nat.le_of_ble_eq_true rfl) ⟨_, rfl, ⟨rfl, rfl⟩⟩
set_option maxRecDepth 100000 in
set_option maxHeartbeats 4000000 in
theorem cC_baseLevel_1 (hl : l.stackTraces = false) {z : Int32} (hc : chB z = false)  : Ct (gm D a E0) l yX5_baseLevel wsX5_baseLevel { frames := 16, cells := 1, slots := 6, locals := 400 } [.ref (A 0 0), .int z] (wC a E0 n cap A g en S) (qI fun _ _ => False) (fun E w => E = "java/lang/IndexOutOfBoundsException" ∧ w = wC a E0 n cap A g en S) := by
  refine Ct.of [some (.ref (A 0 0)), some (.int z)] rfl hl (by decide) (Nat.le_of_ble_eq_true rfl) rfl (fun φ C0 => ?_)
  have C := C0.1
  refine x_iload_n C 1 dX5_baseLevel_0 rfl rfl ?_
  exact x_callSx0_v C0 4 1 6 1 (cC_requireChannel_1 hl hc) rfl gX5_baseLevel_X5_requireChannel ⟨by decide, by decide, rfl⟩ ⟨Nat.le_of_ble_eq_true rfl, Nat.le_of_ble_eq_true rfl⟩ rfl rfl (Nat.le_of_ble_eq_true rfl) ⟨Nat.le_of_ble_eq_true rfl, Nat.le_of_ble_eq_true rfl⟩ dX5_baseLevel_1 rfl rfl rfl (fun _ h => h.elim) (fun E w h => h)
theorem fg_X5_addEffect_32 : gF RX5 wsX5_addEffect 32 9 5 := ⟨RX5, TX5, 11, "StageConsole", rfl, fun w h => (List.mem_cons_of_mem _ (List.mem_append_left _ (List.mem_append_left _ (List.mem_append_left _ (List.mem_append_left _ (List.mem_append_left _ (List.mem_append_right _ h))))))), by decide, (List.mem_cons_of_mem _ (List.mem_append_left _ (List.mem_append_left _ (List.mem_append_left _ (List.mem_append_left _ (List.mem_append_left _ (List.mem_append_left _ (List.mem_append_left _ (List.mem_of_getElem? (i := 4) rfl))))))))), Or.inl rfl⟩
theorem fg_X5_addEffect_29 : gF RX5 wsX5_addEffect 29 9 4 := ⟨RX5, TX5, 11, "StageConsole", rfl, fun w h => (List.mem_cons_of_mem _ (List.mem_append_left _ (List.mem_append_left _ (List.mem_append_left _ (List.mem_append_left _ (List.mem_append_left _ (List.mem_append_right _ h))))))), by decide, (List.mem_cons_of_mem _ (List.mem_append_left _ (List.mem_append_left _ (List.mem_append_left _ (List.mem_append_left _ (List.mem_append_left _ (List.mem_append_left _ (List.mem_append_left _ (List.mem_of_getElem? (i := 8) rfl))))))))), Or.inl rfl⟩
set_option maxRecDepth 100000 in
set_option maxHeartbeats 4000000 in
theorem cC_addEffect_0 (hl : l.stackTraces = false) {s0 s1 s2 s3 : Int32} (hN : CN n cap) {G : Nat} (hG : G < n 1) (hb : effB s0 s1 s2 s3 = true) (h0 : chK s0) (hn : n 2 < 4) (hcap : n 2 < cap 2 ∨ cap 2 = 0)  : Ct (gm D a E0) l yX5_addEffect wsX5_addEffect { frames := 28, cells := 2, slots := 29, locals := 700 } [.ref (A 0 0), .int (nI G), .int s0, .int s1, .int s2, .int s3] (wC a E0 n cap A g en S) (qI fun v w => v = nI (n 2) ∧ ∃ q e c2, CapN (cap 2) (n 2) c2 ∧ w = wC a E0 (updN n 2 (n 2 + 1)) (updN cap 2 c2) (upC (ins1 A 9 (n 2) q) 13 0 e) (updN g (n 2) G) en (uS (ins1 S 9 (n 2) (efR s0 s1 s2 s3)) 3 2 0 (S 3 2 0 + 1))) noX := by
  refine Ct.of [some (.ref (A 0 0)), some (.int (nI G)), some (.int s0), some (.int s1), some (.int s2), some (.int s3)] rfl hl (by decide) (Nat.le_of_ble_eq_true rfl) rfl (fun φ C0 => ?_)
  have C := C0.1
  refine x_aload_n C 1 dX5_addEffect_0 rfl rfl ?_
  refine x_iload_n C 2 dX5_addEffect_1 rfl rfl ?_
  refine xc_callV_v C 5 0 0 0 0 9 1 (cC_requireGroup_0 hl (upB_nI (by have := hN.2.2.1; omega) hG)) rfl gX5_addEffect_X5_requireGroup ⟨rfl, by decide, by decide, rfl⟩ ⟨Nat.le_of_ble_eq_true rfl, Nat.le_of_ble_eq_true rfl⟩ rfl (by decide) (show 0 < 1 by decide) rfl rfl rfl (Nat.le_of_ble_eq_true rfl) ⟨Nat.le_of_ble_eq_true rfl, Nat.le_of_ble_eq_true rfl⟩ dX5_addEffect_2 rfl rfl rfl (fun w1 h1 => ?_)
  subst h1
  refine x_iload_n C 6 dX5_addEffect_5 rfl rfl ?_
  refine x_callS0_i C 9 0 0 1 (cC_isShape hl) rfl gX5_addEffect_X5_isShape ⟨by decide, by decide, rfl⟩ ⟨Nat.le_of_ble_eq_true rfl, Nat.le_of_ble_eq_true rfl⟩ rfl rfl (Nat.le_of_ble_eq_true rfl) ⟨Nat.le_of_ble_eq_true rfl, Nat.le_of_ble_eq_true rfl⟩ dX5_addEffect_6 rfl rfl rfl (fun r2 w2 h2 => ?_)
  obtain ⟨rfl, rfl⟩ := h2
  refine x_top (show _ = (1 : Int32) from (congrArg bI (show shB s0 = true from (effB_t hb).1)).trans rfl) ?_
  refine x_if_eq C 45 12 dX5_addEffect_9 (by decide) rfl (fun zk9 => ?_) (fun zk9 => ?_)
  · exact absurd zk9 (by decide)
  · refine x_iload_n C 13 dX5_addEffect_12 rfl rfl ?_
    refine x_iconst (v := (2)) C 14 dX5_addEffect_13 (by decide) rfl ?_
    refine x_bipush (v := (40)) C 16 dX5_addEffect_14 (by decide) rfl ?_
    refine x_callS0_i C 19 0 0 3 (cC_isWithin hl) rfl gX5_addEffect_X5_isWithin ⟨by decide, by decide, rfl⟩ ⟨Nat.le_of_ble_eq_true rfl, Nat.le_of_ble_eq_true rfl⟩ rfl rfl (Nat.le_of_ble_eq_true rfl) ⟨Nat.le_of_ble_eq_true rfl, Nat.le_of_ble_eq_true rfl⟩ dX5_addEffect_16 rfl rfl rfl (fun r3 w3 h3 => ?_)
    obtain ⟨rfl, rfl⟩ := h3
    refine x_top (show _ = (1 : Int32) from (congrArg bI (show inB s1.toInt64 2 40 = true from (effB_t hb).2.1)).trans rfl) ?_
    refine x_if_eq C 45 22 dX5_addEffect_19 (by decide) rfl (fun zk19 => ?_) (fun zk19 => ?_)
    · exact absurd zk19 (by decide)
    · refine x_iload C 24 dX5_addEffect_22 rfl rfl ?_
      refine x_iconst (v := (1)) C 25 dX5_addEffect_24 (by decide) rfl ?_
      refine x_sipush (v := (255)) C 28 dX5_addEffect_25 (by decide) rfl ?_
      refine x_callS0_i C 31 0 0 3 (cC_isWithin hl) rfl gX5_addEffect_X5_isWithin ⟨by decide, by decide, rfl⟩ ⟨Nat.le_of_ble_eq_true rfl, Nat.le_of_ble_eq_true rfl⟩ rfl rfl (Nat.le_of_ble_eq_true rfl) ⟨Nat.le_of_ble_eq_true rfl, Nat.le_of_ble_eq_true rfl⟩ dX5_addEffect_28 rfl rfl rfl (fun r4 w4 h4 => ?_)
      obtain ⟨rfl, rfl⟩ := h4
      refine x_top (show _ = (1 : Int32) from (congrArg bI (show inB s2.toInt64 1 255 = true from (effB_t hb).2.2.1)).trans rfl) ?_
      refine x_if_eq C 45 34 dX5_addEffect_31 (by decide) rfl (fun zk31 => ?_) (fun zk31 => ?_)
      · exact absurd zk31 (by decide)
      · refine x_iload C 36 dX5_addEffect_34 rfl rfl ?_
        refine x_iconst (v := (0)) C 37 dX5_addEffect_36 (by decide) rfl ?_
        refine x_bipush (v := (39)) C 39 dX5_addEffect_37 (by decide) rfl ?_
        refine x_callS0_i C 42 0 0 3 (cC_isWithin hl) rfl gX5_addEffect_X5_isWithin ⟨by decide, by decide, rfl⟩ ⟨Nat.le_of_ble_eq_true rfl, Nat.le_of_ble_eq_true rfl⟩ rfl rfl (Nat.le_of_ble_eq_true rfl) ⟨Nat.le_of_ble_eq_true rfl, Nat.le_of_ble_eq_true rfl⟩ dX5_addEffect_39 rfl rfl rfl (fun r5 w5 h5 => ?_)
        obtain ⟨rfl, rfl⟩ := h5
        refine x_top (show _ = (1 : Int32) from (congrArg bI (show inB s3.toInt64 0 39 = true from (effB_t hb).2.2.2)).trans rfl) ?_
        refine x_if_ne C 55 45 dX5_addEffect_42 (by decide) rfl (fun zk42 => ?_) (fun zk42 => ?_)
        · refine x_aload_n C 56 dX5_addEffect_55 rfl rfl ?_
          refine xc_get C 59 0 0 (by decide) (show 0 < 1 by decide) rfl fg_X5_addEffect_32 rfl dX5_addEffect_56 rfl ?_
          refine xc_callV_i C 62 0 0 3 2 3 0 (cC_size hl (j := 2) (by decide)) rfl gX5_addEffect_Jx4a65c_size_8abf5 ⟨rfl, by decide, by decide, rfl⟩ ⟨Nat.le_of_ble_eq_true rfl, Nat.le_of_ble_eq_true rfl⟩ rfl (by decide) (show 2 < 4 by decide) rfl rfl rfl (Nat.le_of_ble_eq_true rfl) ⟨Nat.le_of_ble_eq_true rfl, Nat.le_of_ble_eq_true rfl⟩ dX5_addEffect_59 rfl rfl rfl (fun r6 w6 h6 => ?_)
          obtain ⟨rfl, rfl⟩ := h6
          refine x_iconst (v := (4)) C 63 dX5_addEffect_62 (by decide) rfl ?_
          have h4 := hN.2.2.2.1
          refine x_icmp_lt C 76 66 dX5_addEffect_63 (by decide) rfl (fun zk63 => ?_) (fun zk63 => ?_)
          · have zk63 := (nI_ltI (a := (n 2)) (b := 4) (by omega) (by omega)).mp zk63
            refine x_aload_n C 77 dX5_addEffect_76 rfl rfl ?_
            refine xc_get C 80 0 0 (by decide) (show 0 < 1 by decide) rfl fg_X5_addEffect_32 rfl dX5_addEffect_77 rfl ?_
            refine x_new C 83 6 [.null, .int 0, .int 0, .int 0, .int 0, .int 0, .int 0] (fun w h => (List.mem_cons_of_mem _ (List.mem_append_left _ (List.mem_append_left _ (List.mem_append_left _ (List.mem_append_left _ (List.mem_append_right _ h))))))) tyX2_ok (List.mem_cons_of_mem _ (List.mem_append_left _ (List.mem_append_left _ (List.mem_append_left _ (List.mem_append_left _ (List.mem_append_left _ (List.mem_append_left _ (List.mem_append_left _ (List.mem_of_getElem? (i := 5) rfl))))))))) (List.mem_cons_of_mem _ (List.mem_append_left _ (List.mem_append_left _ (List.mem_append_left _ (List.mem_append_left _ (List.mem_append_left _ (List.mem_append_left _ (List.mem_append_left _ (List.mem_of_getElem? (i := 6) rfl))))))))) (List.mem_cons_of_mem _ (List.mem_append_left _ (List.mem_append_left _ (List.mem_append_left _ (List.mem_append_left _ (List.mem_append_left _ (List.mem_append_left _ (List.mem_append_left _ (List.mem_of_getElem? (i := 7) rfl))))))))) rfl (fun j hj => match j, hj with | 0, _ => rfl | 1, _ => rfl | 2, _ => rfl | 3, _ => rfl | 4, _ => rfl | 5, _ => rfl | 6, _ => rfl | z + 7, hz => absurd hz (by omega)) (Nat.le_of_ble_eq_true rfl) (Nat.le_of_ble_eq_true rfl) dX5_addEffect_80 rfl (fun q => ?_)
            refine x_dup C 84 dX5_addEffect_83 rfl rfl ?_
            refine x_aload_n C 85 dX5_addEffect_84 rfl rfl ?_
            obtain ⟨q3, hq3⟩ := wC_posk (a := a) (E0 := E0) (n := n) (cap := cap) (A := A) (g := g) (en := en) (S := S) (k := 0) (i := 0) (by decide) (show 0 < 1 by decide) [(q, .inr (6, [.null, .int 0, .int 0, .int 0, .int 0, .int 0, .int 0]))]
            refine x_get C 88 q3 hq3 fg_X5_addEffect_29 rfl dX5_addEffect_85 rfl ?_
            refine x_iload_n C 89 dX5_addEffect_88 rfl rfl ?_
            obtain ⟨q1, fs1, hq1, -⟩ := wC_pos (a := a) (E0 := E0) (n := n) (cap := cap) (A := A) (g := g) (en := en) (S := S) (j := 1) (by decide)
            refine x_callV1_q C 92 1 7 q1 3 1 (cC_get hl (j := 1) (by decide) (i := G) hG (hN.1 1 (by decide)).1 (hN.1 1 (by decide)).2) rfl gX5_addEffect_Jx4a65c_get_915e3 ⟨rfl, by decide, by decide, rfl⟩ ⟨Nat.le_of_ble_eq_true rfl, Nat.le_of_ble_eq_true rfl⟩ rfl hq1 rfl rfl (Nat.le_of_ble_eq_true rfl) ⟨Nat.le_of_ble_eq_true rfl, Nat.le_of_ble_eq_true rfl⟩ dX5_addEffect_89 rfl rfl rfl (fun r7 w7 h7 => ?_)
            obtain ⟨rfl, rfl⟩ := h7
            refine x_topq (show _ = Value.ref (A 7 G) from rfl) ?_
            refine xc_castS C 95 7 G (by decide) (show G < n 1 from by omega) rfl rfl (List.mem_cons_of_mem _ (List.mem_append_left _ (List.mem_append_left _ (List.mem_append_left _ (List.mem_append_left _ (List.mem_append_left _ (List.mem_append_left _ (List.mem_append_left _ (List.mem_of_getElem? (i := 9) rfl))))))))) dX5_addEffect_92 rfl ?_
            refine x_iload_n C 96 dX5_addEffect_95 rfl rfl ?_
            refine x_iload_n C 97 dX5_addEffect_96 rfl rfl ?_
            refine x_iload C 99 dX5_addEffect_97 rfl rfl ?_
            refine x_iload C 101 dX5_addEffect_99 rfl rfl ?_
            refine x_perm (List.perm_append_comm) ?_
            refine x_callI1 C 104 1 7 5 (cC_initEf hl h0) rfl gX5_addEffect_X2_init (List.mem_cons_of_mem _ (List.mem_append_left _ (List.mem_append_left _ (List.mem_append_left _ (List.mem_append_left _ (List.mem_append_left _ (List.mem_append_left _ (List.mem_append_left _ (List.mem_of_getElem? (i := 7) rfl))))))))) (List.mem_cons_of_mem _ (List.mem_append_left _ (List.mem_append_left _ (List.mem_append_left _ (List.mem_append_left _ (List.mem_append_left _ (List.mem_append_left _ (List.mem_append_right _ (List.mem_append_right _ (List.mem_append_left _ (List.mem_of_getElem? (i := 2) rfl))))))))))) (List.mem_cons_of_mem _ (List.mem_append_left _ (List.mem_append_left _ (List.mem_append_left _ (List.mem_append_left _ (List.mem_append_left _ (List.mem_append_left _ (List.mem_append_right _ (List.mem_append_right _ (List.mem_append_left _ (List.mem_of_getElem? (i := 3) rfl))))))))))) rfl ⟨by decide, by decide, rfl⟩ ⟨Nat.le_of_ble_eq_true rfl, Nat.le_of_ble_eq_true rfl⟩ rfl rfl (Nat.le_of_ble_eq_true rfl) ⟨Nat.le_of_ble_eq_true rfl, Nat.le_of_ble_eq_true rfl⟩ dX5_addEffect_101 rfl rfl rfl (fun w h => ?_)
            subst h
            refine x_perm (List.perm_append_comm) ?_
            obtain ⟨q0, fs0, -, hq0⟩ := wC_pos (a := a) (E0 := E0) (n := n) (cap := cap) (A := A) (g := g) (en := en) (S := S) (j := 2) (by decide)
            refine x_callV0_i C 107 2 29 q0 3 1 (cC_add2 hl (hN.1 2 (by decide)).1 (hN.1 2 (by decide)).2 hcap) rfl gX5_addEffect_Jx4a65c_add_9ea2d ⟨rfl, by decide, by decide, rfl⟩ ⟨Nat.le_of_ble_eq_true rfl, Nat.le_of_ble_eq_true rfl⟩ rfl (hq0 _) rfl rfl (Nat.le_of_ble_eq_true rfl) ⟨Nat.le_of_ble_eq_true rfl, Nat.le_of_ble_eq_true rfl⟩ dX5_addEffect_104 rfl rfl rfl (fun r9 w h => ?_)
            obtain ⟨rfl, e, c2, hcN, rfl⟩ := h
            refine x_pop C 108 dX5_addEffect_107 rfl rfl ?_
            refine x_aload_n C 109 dX5_addEffect_108 rfl rfl ?_
            refine xc_get C 112 0 0 (by decide) (show 0 < 1 by decide) rfl fg_X5_addEffect_32 rfl dX5_addEffect_109 rfl ?_
            refine xc_callV_i C 115 2 29 3 2 3 0 (cC_size hl (j := 2) (by decide)) rfl gX5_addEffect_Jx4a65c_size_8abf5 ⟨rfl, by decide, by decide, rfl⟩ ⟨Nat.le_of_ble_eq_true rfl, Nat.le_of_ble_eq_true rfl⟩ rfl (by decide) (show 2 < 4 by decide) rfl rfl rfl (Nat.le_of_ble_eq_true rfl) ⟨Nat.le_of_ble_eq_true rfl, Nat.le_of_ble_eq_true rfl⟩ dX5_addEffect_112 rfl rfl rfl (fun r8 w8 h8 => ?_)
            obtain ⟨rfl, rfl⟩ := h8
            refine x_top (show _ = nI (n 2 + 1) from by rw [updN_s]) ?_
            refine x_iconst (v := (1)) C 116 dX5_addEffect_115 (by decide) rfl ?_
            refine x_isub C 117 dX5_addEffect_116 rfl ?_
            refine x_top (show _ = nI (n 2) from (pk_sub (a := n 2 + 1) (b := 1) (by omega)).trans (by rw [Nat.add_sub_cancel])) ?_
            exact x_zret C0 dX5_addEffect_117 (Nat.le_of_ble_eq_true rfl) (Nat.le_of_ble_eq_true rfl) ⟨_, rfl, ⟨rfl, q, e, c2, hcN, rfl⟩⟩
          · have zk63 := mt (nI_ltI (a := (n 2)) (b := 4) (by omega) (by omega)).mpr zk63
            exfalso; omega
        · exact absurd zk42 (by decide)
set_option maxRecDepth 100000 in
set_option maxHeartbeats 4000000 in
theorem cC_addEffect_1 (hl : l.stackTraces = false) {z : Int32} {s0 s1 s2 s3 : Int32} (hN : CN n cap) (hx : upB (n 1) z = false)  : Ct (gm D a E0) l yX5_addEffect wsX5_addEffect { frames := 28, cells := 1, slots := 6, locals := 700 } [.ref (A 0 0), .int z, .int s0, .int s1, .int s2, .int s3] (wC a E0 n cap A g en S) (qI fun _ _ => False) (fun E w => E = "java/lang/IndexOutOfBoundsException" ∧ w = wC a E0 n cap A g en S) := by
  refine Ct.of [some (.ref (A 0 0)), some (.int z), some (.int s0), some (.int s1), some (.int s2), some (.int s3)] rfl hl (by decide) (Nat.le_of_ble_eq_true rfl) rfl (fun φ C0 => ?_)
  have C := C0.1
  refine x_aload_n C 1 dX5_addEffect_0 rfl rfl ?_
  refine x_iload_n C 2 dX5_addEffect_1 rfl rfl ?_
  exact xc_callVx_v C0 5 1 6 0 0 9 1 (cC_requireGroup_1 hl hx) rfl gX5_addEffect_X5_requireGroup ⟨rfl, by decide, by decide, rfl⟩ ⟨Nat.le_of_ble_eq_true rfl, Nat.le_of_ble_eq_true rfl⟩ rfl (by decide) (show 0 < 1 by decide) rfl rfl rfl (Nat.le_of_ble_eq_true rfl) ⟨Nat.le_of_ble_eq_true rfl, Nat.le_of_ble_eq_true rfl⟩ dX5_addEffect_2 rfl rfl rfl (fun _ h => h.elim) (fun E w h => h)
set_option maxRecDepth 100000 in
set_option maxHeartbeats 4000000 in
theorem cC_addEffect_2 (hl : l.stackTraces = false) {s0 s1 s2 s3 : Int32} (hN : CN n cap) {G : Nat} (hG : G < n 1) (hb : effB s0 s1 s2 s3 = false)  : Ct (gm D a E0) l yX5_addEffect wsX5_addEffect { frames := 28, cells := 1, slots := 6, locals := 700 } [.ref (A 0 0), .int (nI G), .int s0, .int s1, .int s2, .int s3] (wC a E0 n cap A g en S) (qI fun _ _ => False) (fun E w => E = "java/lang/IllegalArgumentException" ∧ w = wC a E0 n cap A g en S) := by
  refine Ct.of [some (.ref (A 0 0)), some (.int (nI G)), some (.int s0), some (.int s1), some (.int s2), some (.int s3)] rfl hl (by decide) (Nat.le_of_ble_eq_true rfl) rfl (fun φ C0 => ?_)
  have C := C0.1
  refine x_aload_n C 1 dX5_addEffect_0 rfl rfl ?_
  refine x_iload_n C 2 dX5_addEffect_1 rfl rfl ?_
  refine xc_callV_v C 5 0 0 0 0 9 1 (cC_requireGroup_0 hl (upB_nI (by have := hN.2.2.1; omega) hG)) rfl gX5_addEffect_X5_requireGroup ⟨rfl, by decide, by decide, rfl⟩ ⟨Nat.le_of_ble_eq_true rfl, Nat.le_of_ble_eq_true rfl⟩ rfl (by decide) (show 0 < 1 by decide) rfl rfl rfl (Nat.le_of_ble_eq_true rfl) ⟨Nat.le_of_ble_eq_true rfl, Nat.le_of_ble_eq_true rfl⟩ dX5_addEffect_2 rfl rfl rfl (fun w1 h1 => ?_)
  subst h1
  refine x_iload_n C 6 dX5_addEffect_5 rfl rfl ?_
  refine x_callS0_i C 9 0 0 1 (cC_isShape hl) rfl gX5_addEffect_X5_isShape ⟨by decide, by decide, rfl⟩ ⟨Nat.le_of_ble_eq_true rfl, Nat.le_of_ble_eq_true rfl⟩ rfl rfl (Nat.le_of_ble_eq_true rfl) ⟨Nat.le_of_ble_eq_true rfl, Nat.le_of_ble_eq_true rfl⟩ dX5_addEffect_6 rfl rfl rfl (fun r2 w2 h2 => ?_)
  obtain ⟨rfl, rfl⟩ := h2
  refine x_top (show _ = bI (shB s0) from rfl) ?_
  refine x_if_eq C 45 12 dX5_addEffect_9 (by decide) rfl (fun zk9 => ?_) (fun zk9 => ?_)
  · have zk9 := bI_eq0.mp zk9
    exact x_throwS C0 (cls := "java/lang/IllegalArgumentException") (text := "shape, period, size or spread of an effect") (names := ["java/lang/RuntimeException", "java/lang/Exception"]) (List.mem_of_getElem? (i := 19) rfl) (by decide) (by decide) (List.mem_cons_of_mem _ (List.mem_append_left _ (List.mem_append_left _ (List.mem_append_left _ (List.mem_append_left _ (List.mem_append_left _ (List.mem_append_left _ (List.mem_append_left _ (List.mem_of_getElem? (i := 0) rfl))))))))) (List.mem_cons_of_mem _ (List.mem_append_left _ (List.mem_append_left _ (List.mem_append_left _ (List.mem_append_left _ (List.mem_append_left _ (List.mem_append_left _ (List.mem_append_left _ (List.mem_of_getElem? (i := 1) rfl))))))))) (fun w h => (List.mem_cons_of_mem _ (List.mem_append_left _ (List.mem_append_left _ (List.mem_append_right _ h))))) (by decide) (by decide +kernel) (by decide +kernel) dX5_addEffect_45 dX5_addEffect_48 dX5_addEffect_49 dX5_addEffect_51 dX5_addEffect_54 (Nat.le_of_ble_eq_true rfl) (Nat.le_of_ble_eq_true rfl) (Nat.le_of_ble_eq_true rfl) (Nat.le_of_ble_eq_true rfl) ⟨rfl, rfl⟩   
  · have zk9 := bI_ne0.mp zk9
    refine x_iload_n C 13 dX5_addEffect_12 rfl rfl ?_
    refine x_iconst (v := (2)) C 14 dX5_addEffect_13 (by decide) rfl ?_
    refine x_bipush (v := (40)) C 16 dX5_addEffect_14 (by decide) rfl ?_
    refine x_callS0_i C 19 0 0 3 (cC_isWithin hl) rfl gX5_addEffect_X5_isWithin ⟨by decide, by decide, rfl⟩ ⟨Nat.le_of_ble_eq_true rfl, Nat.le_of_ble_eq_true rfl⟩ rfl rfl (Nat.le_of_ble_eq_true rfl) ⟨Nat.le_of_ble_eq_true rfl, Nat.le_of_ble_eq_true rfl⟩ dX5_addEffect_16 rfl rfl rfl (fun r3 w3 h3 => ?_)
    obtain ⟨rfl, rfl⟩ := h3
    refine x_top (show _ = bI (inB s1.toInt64 2 40) from rfl) ?_
    refine x_if_eq C 45 22 dX5_addEffect_19 (by decide) rfl (fun zk19 => ?_) (fun zk19 => ?_)
    · have zk19 := bI_eq0.mp zk19
      exact x_throwS C0 (cls := "java/lang/IllegalArgumentException") (text := "shape, period, size or spread of an effect") (names := ["java/lang/RuntimeException", "java/lang/Exception"]) (List.mem_of_getElem? (i := 19) rfl) (by decide) (by decide) (List.mem_cons_of_mem _ (List.mem_append_left _ (List.mem_append_left _ (List.mem_append_left _ (List.mem_append_left _ (List.mem_append_left _ (List.mem_append_left _ (List.mem_append_left _ (List.mem_of_getElem? (i := 0) rfl))))))))) (List.mem_cons_of_mem _ (List.mem_append_left _ (List.mem_append_left _ (List.mem_append_left _ (List.mem_append_left _ (List.mem_append_left _ (List.mem_append_left _ (List.mem_append_left _ (List.mem_of_getElem? (i := 1) rfl))))))))) (fun w h => (List.mem_cons_of_mem _ (List.mem_append_left _ (List.mem_append_left _ (List.mem_append_right _ h))))) (by decide) (by decide +kernel) (by decide +kernel) dX5_addEffect_45 dX5_addEffect_48 dX5_addEffect_49 dX5_addEffect_51 dX5_addEffect_54 (Nat.le_of_ble_eq_true rfl) (Nat.le_of_ble_eq_true rfl) (Nat.le_of_ble_eq_true rfl) (Nat.le_of_ble_eq_true rfl) ⟨rfl, rfl⟩   
    · have zk19 := bI_ne0.mp zk19
      refine x_iload C 24 dX5_addEffect_22 rfl rfl ?_
      refine x_iconst (v := (1)) C 25 dX5_addEffect_24 (by decide) rfl ?_
      refine x_sipush (v := (255)) C 28 dX5_addEffect_25 (by decide) rfl ?_
      refine x_callS0_i C 31 0 0 3 (cC_isWithin hl) rfl gX5_addEffect_X5_isWithin ⟨by decide, by decide, rfl⟩ ⟨Nat.le_of_ble_eq_true rfl, Nat.le_of_ble_eq_true rfl⟩ rfl rfl (Nat.le_of_ble_eq_true rfl) ⟨Nat.le_of_ble_eq_true rfl, Nat.le_of_ble_eq_true rfl⟩ dX5_addEffect_28 rfl rfl rfl (fun r4 w4 h4 => ?_)
      obtain ⟨rfl, rfl⟩ := h4
      refine x_top (show _ = bI (inB s2.toInt64 1 255) from rfl) ?_
      refine x_if_eq C 45 34 dX5_addEffect_31 (by decide) rfl (fun zk31 => ?_) (fun zk31 => ?_)
      · have zk31 := bI_eq0.mp zk31
        exact x_throwS C0 (cls := "java/lang/IllegalArgumentException") (text := "shape, period, size or spread of an effect") (names := ["java/lang/RuntimeException", "java/lang/Exception"]) (List.mem_of_getElem? (i := 19) rfl) (by decide) (by decide) (List.mem_cons_of_mem _ (List.mem_append_left _ (List.mem_append_left _ (List.mem_append_left _ (List.mem_append_left _ (List.mem_append_left _ (List.mem_append_left _ (List.mem_append_left _ (List.mem_of_getElem? (i := 0) rfl))))))))) (List.mem_cons_of_mem _ (List.mem_append_left _ (List.mem_append_left _ (List.mem_append_left _ (List.mem_append_left _ (List.mem_append_left _ (List.mem_append_left _ (List.mem_append_left _ (List.mem_of_getElem? (i := 1) rfl))))))))) (fun w h => (List.mem_cons_of_mem _ (List.mem_append_left _ (List.mem_append_left _ (List.mem_append_right _ h))))) (by decide) (by decide +kernel) (by decide +kernel) dX5_addEffect_45 dX5_addEffect_48 dX5_addEffect_49 dX5_addEffect_51 dX5_addEffect_54 (Nat.le_of_ble_eq_true rfl) (Nat.le_of_ble_eq_true rfl) (Nat.le_of_ble_eq_true rfl) (Nat.le_of_ble_eq_true rfl) ⟨rfl, rfl⟩   
      · have zk31 := bI_ne0.mp zk31
        refine x_iload C 36 dX5_addEffect_34 rfl rfl ?_
        refine x_iconst (v := (0)) C 37 dX5_addEffect_36 (by decide) rfl ?_
        refine x_bipush (v := (39)) C 39 dX5_addEffect_37 (by decide) rfl ?_
        refine x_callS0_i C 42 0 0 3 (cC_isWithin hl) rfl gX5_addEffect_X5_isWithin ⟨by decide, by decide, rfl⟩ ⟨Nat.le_of_ble_eq_true rfl, Nat.le_of_ble_eq_true rfl⟩ rfl rfl (Nat.le_of_ble_eq_true rfl) ⟨Nat.le_of_ble_eq_true rfl, Nat.le_of_ble_eq_true rfl⟩ dX5_addEffect_39 rfl rfl rfl (fun r5 w5 h5 => ?_)
        obtain ⟨rfl, rfl⟩ := h5
        refine x_top (show _ = bI (inB s3.toInt64 0 39) from rfl) ?_
        refine x_if_ne C 55 45 dX5_addEffect_42 (by decide) rfl (fun zk42 => ?_) (fun zk42 => ?_)
        · have zk42 := bI_ne0.mp zk42
          rw [effB, zk9, zk19, zk31, zk42] at hb; cases hb
        · have zk42 := bI_eq0.mp zk42
          exact x_throwS C0 (cls := "java/lang/IllegalArgumentException") (text := "shape, period, size or spread of an effect") (names := ["java/lang/RuntimeException", "java/lang/Exception"]) (List.mem_of_getElem? (i := 19) rfl) (by decide) (by decide) (List.mem_cons_of_mem _ (List.mem_append_left _ (List.mem_append_left _ (List.mem_append_left _ (List.mem_append_left _ (List.mem_append_left _ (List.mem_append_left _ (List.mem_append_left _ (List.mem_of_getElem? (i := 0) rfl))))))))) (List.mem_cons_of_mem _ (List.mem_append_left _ (List.mem_append_left _ (List.mem_append_left _ (List.mem_append_left _ (List.mem_append_left _ (List.mem_append_left _ (List.mem_append_left _ (List.mem_of_getElem? (i := 1) rfl))))))))) (fun w h => (List.mem_cons_of_mem _ (List.mem_append_left _ (List.mem_append_left _ (List.mem_append_right _ h))))) (by decide) (by decide +kernel) (by decide +kernel) dX5_addEffect_45 dX5_addEffect_48 dX5_addEffect_49 dX5_addEffect_51 dX5_addEffect_54 (Nat.le_of_ble_eq_true rfl) (Nat.le_of_ble_eq_true rfl) (Nat.le_of_ble_eq_true rfl) (Nat.le_of_ble_eq_true rfl) ⟨rfl, rfl⟩   
set_option maxRecDepth 100000 in
set_option maxHeartbeats 4000000 in
theorem cC_addEffect_3 (hl : l.stackTraces = false) {s0 s1 s2 s3 : Int32} (hN : CN n cap) {G : Nat} (hG : G < n 1) (hb : effB s0 s1 s2 s3 = true) (hn : ¬ n 2 < 4)  : Ct (gm D a E0) l yX5_addEffect wsX5_addEffect { frames := 28, cells := 1, slots := 6, locals := 700 } [.ref (A 0 0), .int (nI G), .int s0, .int s1, .int s2, .int s3] (wC a E0 n cap A g en S) (qI fun _ _ => False) (fun E w => E = "java/lang/IllegalStateException" ∧ w = wC a E0 n cap A g en S) := by
  refine Ct.of [some (.ref (A 0 0)), some (.int (nI G)), some (.int s0), some (.int s1), some (.int s2), some (.int s3)] rfl hl (by decide) (Nat.le_of_ble_eq_true rfl) rfl (fun φ C0 => ?_)
  have C := C0.1
  refine x_aload_n C 1 dX5_addEffect_0 rfl rfl ?_
  refine x_iload_n C 2 dX5_addEffect_1 rfl rfl ?_
  refine xc_callV_v C 5 0 0 0 0 9 1 (cC_requireGroup_0 hl (upB_nI (by have := hN.2.2.1; omega) hG)) rfl gX5_addEffect_X5_requireGroup ⟨rfl, by decide, by decide, rfl⟩ ⟨Nat.le_of_ble_eq_true rfl, Nat.le_of_ble_eq_true rfl⟩ rfl (by decide) (show 0 < 1 by decide) rfl rfl rfl (Nat.le_of_ble_eq_true rfl) ⟨Nat.le_of_ble_eq_true rfl, Nat.le_of_ble_eq_true rfl⟩ dX5_addEffect_2 rfl rfl rfl (fun w1 h1 => ?_)
  subst h1
  refine x_iload_n C 6 dX5_addEffect_5 rfl rfl ?_
  refine x_callS0_i C 9 0 0 1 (cC_isShape hl) rfl gX5_addEffect_X5_isShape ⟨by decide, by decide, rfl⟩ ⟨Nat.le_of_ble_eq_true rfl, Nat.le_of_ble_eq_true rfl⟩ rfl rfl (Nat.le_of_ble_eq_true rfl) ⟨Nat.le_of_ble_eq_true rfl, Nat.le_of_ble_eq_true rfl⟩ dX5_addEffect_6 rfl rfl rfl (fun r2 w2 h2 => ?_)
  obtain ⟨rfl, rfl⟩ := h2
  refine x_top (show _ = (1 : Int32) from (congrArg bI (show shB s0 = true from (effB_t hb).1)).trans rfl) ?_
  refine x_if_eq C 45 12 dX5_addEffect_9 (by decide) rfl (fun zk9 => ?_) (fun zk9 => ?_)
  · exact absurd zk9 (by decide)
  · refine x_iload_n C 13 dX5_addEffect_12 rfl rfl ?_
    refine x_iconst (v := (2)) C 14 dX5_addEffect_13 (by decide) rfl ?_
    refine x_bipush (v := (40)) C 16 dX5_addEffect_14 (by decide) rfl ?_
    refine x_callS0_i C 19 0 0 3 (cC_isWithin hl) rfl gX5_addEffect_X5_isWithin ⟨by decide, by decide, rfl⟩ ⟨Nat.le_of_ble_eq_true rfl, Nat.le_of_ble_eq_true rfl⟩ rfl rfl (Nat.le_of_ble_eq_true rfl) ⟨Nat.le_of_ble_eq_true rfl, Nat.le_of_ble_eq_true rfl⟩ dX5_addEffect_16 rfl rfl rfl (fun r3 w3 h3 => ?_)
    obtain ⟨rfl, rfl⟩ := h3
    refine x_top (show _ = (1 : Int32) from (congrArg bI (show inB s1.toInt64 2 40 = true from (effB_t hb).2.1)).trans rfl) ?_
    refine x_if_eq C 45 22 dX5_addEffect_19 (by decide) rfl (fun zk19 => ?_) (fun zk19 => ?_)
    · exact absurd zk19 (by decide)
    · refine x_iload C 24 dX5_addEffect_22 rfl rfl ?_
      refine x_iconst (v := (1)) C 25 dX5_addEffect_24 (by decide) rfl ?_
      refine x_sipush (v := (255)) C 28 dX5_addEffect_25 (by decide) rfl ?_
      refine x_callS0_i C 31 0 0 3 (cC_isWithin hl) rfl gX5_addEffect_X5_isWithin ⟨by decide, by decide, rfl⟩ ⟨Nat.le_of_ble_eq_true rfl, Nat.le_of_ble_eq_true rfl⟩ rfl rfl (Nat.le_of_ble_eq_true rfl) ⟨Nat.le_of_ble_eq_true rfl, Nat.le_of_ble_eq_true rfl⟩ dX5_addEffect_28 rfl rfl rfl (fun r4 w4 h4 => ?_)
      obtain ⟨rfl, rfl⟩ := h4
      refine x_top (show _ = (1 : Int32) from (congrArg bI (show inB s2.toInt64 1 255 = true from (effB_t hb).2.2.1)).trans rfl) ?_
      refine x_if_eq C 45 34 dX5_addEffect_31 (by decide) rfl (fun zk31 => ?_) (fun zk31 => ?_)
      · exact absurd zk31 (by decide)
      · refine x_iload C 36 dX5_addEffect_34 rfl rfl ?_
        refine x_iconst (v := (0)) C 37 dX5_addEffect_36 (by decide) rfl ?_
        refine x_bipush (v := (39)) C 39 dX5_addEffect_37 (by decide) rfl ?_
        refine x_callS0_i C 42 0 0 3 (cC_isWithin hl) rfl gX5_addEffect_X5_isWithin ⟨by decide, by decide, rfl⟩ ⟨Nat.le_of_ble_eq_true rfl, Nat.le_of_ble_eq_true rfl⟩ rfl rfl (Nat.le_of_ble_eq_true rfl) ⟨Nat.le_of_ble_eq_true rfl, Nat.le_of_ble_eq_true rfl⟩ dX5_addEffect_39 rfl rfl rfl (fun r5 w5 h5 => ?_)
        obtain ⟨rfl, rfl⟩ := h5
        refine x_top (show _ = (1 : Int32) from (congrArg bI (show inB s3.toInt64 0 39 = true from (effB_t hb).2.2.2)).trans rfl) ?_
        refine x_if_ne C 55 45 dX5_addEffect_42 (by decide) rfl (fun zk42 => ?_) (fun zk42 => ?_)
        · refine x_aload_n C 56 dX5_addEffect_55 rfl rfl ?_
          refine xc_get C 59 0 0 (by decide) (show 0 < 1 by decide) rfl fg_X5_addEffect_32 rfl dX5_addEffect_56 rfl ?_
          refine xc_callV_i C 62 0 0 3 2 3 0 (cC_size hl (j := 2) (by decide)) rfl gX5_addEffect_Jx4a65c_size_8abf5 ⟨rfl, by decide, by decide, rfl⟩ ⟨Nat.le_of_ble_eq_true rfl, Nat.le_of_ble_eq_true rfl⟩ rfl (by decide) (show 2 < 4 by decide) rfl rfl rfl (Nat.le_of_ble_eq_true rfl) ⟨Nat.le_of_ble_eq_true rfl, Nat.le_of_ble_eq_true rfl⟩ dX5_addEffect_59 rfl rfl rfl (fun r6 w6 h6 => ?_)
          obtain ⟨rfl, rfl⟩ := h6
          refine x_iconst (v := (4)) C 63 dX5_addEffect_62 (by decide) rfl ?_
          have h4 := hN.2.2.2.1
          refine x_icmp_lt C 76 66 dX5_addEffect_63 (by decide) rfl (fun zk63 => ?_) (fun zk63 => ?_)
          · have zk63 := (nI_ltI (a := (n 2)) (b := 4) (by omega) (by omega)).mp zk63
            exfalso; omega
          · have zk63 := mt (nI_ltI (a := (n 2)) (b := 4) (by omega) (by omega)).mpr zk63
            exact x_throwS C0 (cls := "java/lang/IllegalStateException") (text := "no room for another effect") (names := ["java/lang/RuntimeException", "java/lang/Exception"]) (List.mem_of_getElem? (i := 22) rfl) (by decide) (by decide) (List.mem_cons_of_mem _ (List.mem_append_left _ (List.mem_append_left _ (List.mem_append_left _ (List.mem_append_left _ (List.mem_append_left _ (List.mem_append_left _ (List.mem_append_left _ (List.mem_of_getElem? (i := 2) rfl))))))))) (List.mem_cons_of_mem _ (List.mem_append_left _ (List.mem_append_left _ (List.mem_append_left _ (List.mem_append_left _ (List.mem_append_left _ (List.mem_append_left _ (List.mem_append_left _ (List.mem_of_getElem? (i := 3) rfl))))))))) (fun w h => (List.mem_cons_of_mem _ (List.mem_append_left _ (List.mem_append_right _ h)))) (by decide) (by decide +kernel) (by decide +kernel) dX5_addEffect_66 dX5_addEffect_69 dX5_addEffect_70 dX5_addEffect_72 dX5_addEffect_75 (Nat.le_of_ble_eq_true rfl) (Nat.le_of_ble_eq_true rfl) (Nat.le_of_ble_eq_true rfl) (Nat.le_of_ble_eq_true rfl) ⟨rfl, rfl⟩   
        · exact absurd zk42 (by decide)
theorem fg_X5_startEffect_32 : gF RX5 wsX5_startEffect 32 9 5 := ⟨RX5, TX5, 11, "StageConsole", rfl, fun w h => (List.mem_cons_of_mem _ (List.mem_append_left _ (List.mem_append_left _ (List.mem_append_left _ (List.mem_append_left _ (List.mem_append_right _ h)))))), by decide, (List.mem_cons_of_mem _ (List.mem_append_left _ (List.mem_append_left _ (List.mem_append_left _ (List.mem_append_left _ (List.mem_append_left _ (List.mem_append_left _ (List.mem_of_getElem? (i := 2) rfl)))))))), Or.inl rfl⟩
theorem fg_X5_startEffect_219 : gF RX5 wsX5_startEffect 219 6 5 := ⟨RX2, TX2, 7, "StageConsole$Effect", rfl, fun w h => (List.mem_cons_of_mem _ (List.mem_append_left _ (List.mem_append_left _ (List.mem_append_left _ (List.mem_append_right _ h))))), by decide, (List.mem_cons_of_mem _ (List.mem_append_left _ (List.mem_append_left _ (List.mem_append_left _ (List.mem_append_left _ (List.mem_append_left _ (List.mem_append_left _ (List.mem_of_getElem? (i := 4) rfl)))))))), Or.inl rfl⟩
theorem fp_X5_startEffect_219 : pF RX5 wsX5_startEffect 219 6 5 false (.boolean) := ⟨RX2, TX2, 7, "StageConsole$Effect", tyX2, rfl, fun w h => (List.mem_cons_of_mem _ (List.mem_append_left _ (List.mem_append_left _ (List.mem_append_left _ (List.mem_append_right _ h))))), by decide, (List.mem_cons_of_mem _ (List.mem_append_left _ (List.mem_append_left _ (List.mem_append_left _ (List.mem_append_left _ (List.mem_append_left _ (List.mem_append_left _ (List.mem_of_getElem? (i := 4) rfl)))))))), Or.inl rfl, tyX2_ok, nmX2, rfl, rfl, fun h => absurd h (by decide)⟩
theorem fg_X5_startEffect_20 : gF RX5 wsX5_startEffect 20 9 2 := ⟨RX5, TX5, 11, "StageConsole", rfl, fun w h => (List.mem_cons_of_mem _ (List.mem_append_left _ (List.mem_append_left _ (List.mem_append_left _ (List.mem_append_left _ (List.mem_append_right _ h)))))), by decide, (List.mem_cons_of_mem _ (List.mem_append_left _ (List.mem_append_left _ (List.mem_append_left _ (List.mem_append_left _ (List.mem_append_left _ (List.mem_append_left _ (List.mem_of_getElem? (i := 5) rfl)))))))), Or.inl rfl⟩
theorem fp_X5_startEffect_224 : pF RX5 wsX5_startEffect 224 6 6 false (.int) := ⟨RX2, TX2, 7, "StageConsole$Effect", tyX2, rfl, fun w h => (List.mem_cons_of_mem _ (List.mem_append_left _ (List.mem_append_left _ (List.mem_append_left _ (List.mem_append_right _ h))))), by decide, (List.mem_cons_of_mem _ (List.mem_append_left _ (List.mem_append_left _ (List.mem_append_left _ (List.mem_append_left _ (List.mem_append_left _ (List.mem_append_left _ (List.mem_of_getElem? (i := 6) rfl)))))))), Or.inl rfl, tyX2_ok, nmX2, rfl, rfl, fun h => absurd h (by decide)⟩
set_option maxRecDepth 100000 in
set_option maxHeartbeats 4000000 in
theorem cC_startEffect_0 (hl : l.stackTraces = false) (hN : CN n cap) {e : Nat} (he : e < n 2) (hr : S 9 e 4 = 0)  : Ct (gm D a E0) l yX5_startEffect wsX5_startEffect { frames := 24, cells := 0, slots := 0, locals := 600 } [.ref (A 0 0), .int (nI e)] (wC a E0 n cap A g en S) (qI fun v w => v = nI (rnC (uS (uS S 9 e 4 1) 9 e 5 (S 0 0 1)) (n 2) 0 0) ∧ w = wC a E0 n cap A g en (uS (uS S 9 e 4 1) 9 e 5 (S 0 0 1))) noX := by
  refine Ct.of [some (.ref (A 0 0)), some (.int (nI e)), none] rfl hl (by decide) (Nat.le_of_ble_eq_true rfl) rfl (fun φ C0 => ?_)
  have C := C0.1
  refine x_aload_n C 1 dX5_startEffect_0 rfl rfl ?_
  refine x_iload_n C 2 dX5_startEffect_1 rfl rfl ?_
  refine xc_callV_v C 5 0 0 0 0 9 1 (cC_requireEffect_0 hl (upB_nI (by have := hN.2.2.2.1; omega) he)) rfl gX5_startEffect_X5_requireEffect ⟨rfl, by decide, by decide, rfl⟩ ⟨Nat.le_of_ble_eq_true rfl, Nat.le_of_ble_eq_true rfl⟩ rfl (by decide) (show 0 < 1 by decide) rfl rfl rfl (Nat.le_of_ble_eq_true rfl) ⟨Nat.le_of_ble_eq_true rfl, Nat.le_of_ble_eq_true rfl⟩ dX5_startEffect_2 rfl rfl rfl (fun w1 h1 => ?_)
  subst h1
  have h4 := hN.2.2.2.1
  refine x_aload_n C 6 dX5_startEffect_5 rfl rfl ?_
  refine xc_get C 9 0 0 (by decide) (show 0 < 1 by decide) rfl fg_X5_startEffect_32 rfl dX5_startEffect_6 rfl ?_
  refine x_iload_n C 10 dX5_startEffect_9 rfl rfl ?_
  refine xc_callV_q C 13 0 0 3 2 3 1 (cC_get hl (j := 2) (by decide) (i := e) (by omega) (hN.1 2 (by decide)).1 (hN.1 2 (by decide)).2) rfl gX5_startEffect_Jx4a65c_get_915e3 ⟨rfl, by decide, by decide, rfl⟩ ⟨Nat.le_of_ble_eq_true rfl, Nat.le_of_ble_eq_true rfl⟩ rfl (by decide) (show 2 < 4 by decide) rfl rfl rfl (Nat.le_of_ble_eq_true rfl) ⟨Nat.le_of_ble_eq_true rfl, Nat.le_of_ble_eq_true rfl⟩ dX5_startEffect_10 rfl rfl rfl (fun r2 w2 h2 => ?_)
  obtain ⟨rfl, rfl⟩ := h2
  refine x_topq (show _ = Value.ref (A 9 e) from rfl) ?_
  refine xc_castS C 16 9 e (by decide) (show e < n 2 from by omega) rfl rfl (List.mem_cons_of_mem _ (List.mem_append_left _ (List.mem_append_left _ (List.mem_append_left _ (List.mem_append_left _ (List.mem_append_left _ (List.mem_append_left _ (List.mem_of_getElem? (i := 3) rfl)))))))) dX5_startEffect_13 rfl ?_
  refine x_astore_n C 17 dX5_startEffect_16 (by decide) rfl rfl ?_
  refine x_aload_n C 18 dX5_startEffect_17 rfl rfl ?_
  refine xc_get C 21 9 e (by decide) (show e < n 2 from by omega) rfl fg_X5_startEffect_219 rfl dX5_startEffect_18 rfl ?_
  refine x_if_eq C 34 24 dX5_startEffect_21 (by decide) rfl (fun zk21 => ?_) (fun zk21 => ?_)
  · refine x_aload_n C 35 dX5_startEffect_34 rfl rfl ?_
    refine x_iconst (v := (1)) C 36 dX5_startEffect_35 (by decide) rfl ?_
    refine xc_put C 39 9 e 4 (by decide) (show e < n 2 from by omega) rfl fp_X5_startEffect_219 rfl rfl (Nat.le_of_ble_eq_true rfl) rfl dX5_startEffect_36 rfl ?_
    refine x_aload_n C 40 dX5_startEffect_39 rfl rfl ?_
    refine x_aload_n C 41 dX5_startEffect_40 rfl rfl ?_
    refine xc_get C 44 0 0 (by decide) (show 0 < 1 by decide) rfl fg_X5_startEffect_20 rfl dX5_startEffect_41 rfl ?_
    refine x_top (show _ = (S 0 0 1) from by simp [uS, upd]) ?_
    refine xc_put C 47 9 e 5 (by decide) (show e < n 2 from by omega) rfl fp_X5_startEffect_224 rfl rfl (Nat.le_of_ble_eq_true rfl) rfl dX5_startEffect_44 rfl ?_
    refine x_aload_n C 48 dX5_startEffect_47 rfl rfl ?_
    refine xc_callV_i C 51 0 0 0 0 9 0 (cC_runningEffects hl hN) rfl gX5_startEffect_X5_runningEffects ⟨rfl, by decide, by decide, rfl⟩ ⟨Nat.le_of_ble_eq_true rfl, Nat.le_of_ble_eq_true rfl⟩ rfl (by decide) (show 0 < 1 by decide) rfl rfl rfl (Nat.le_of_ble_eq_true rfl) ⟨Nat.le_of_ble_eq_true rfl, Nat.le_of_ble_eq_true rfl⟩ dX5_startEffect_48 rfl rfl rfl (fun r3 w3 h3 => ?_)
    obtain ⟨rfl, rfl⟩ := h3
    exact x_zret C0 dX5_startEffect_51 (Nat.le_of_ble_eq_true rfl) (Nat.le_of_ble_eq_true rfl) ⟨_, rfl, ⟨rfl, rfl⟩⟩
  · exact absurd hr zk21
set_option maxRecDepth 100000 in
set_option maxHeartbeats 4000000 in
theorem cC_startEffect_1 (hl : l.stackTraces = false) {x : Int32} (hx : upB (n 2) x = false)  : Ct (gm D a E0) l yX5_startEffect wsX5_startEffect { frames := 24, cells := 1, slots := 6, locals := 600 } [.ref (A 0 0), .int x] (wC a E0 n cap A g en S) (qI fun _ _ => False) (fun E w => E = "java/lang/IndexOutOfBoundsException" ∧ w = wC a E0 n cap A g en S) := by
  refine Ct.of [some (.ref (A 0 0)), some (.int x), none] rfl hl (by decide) (Nat.le_of_ble_eq_true rfl) rfl (fun φ C0 => ?_)
  have C := C0.1
  refine x_aload_n C 1 dX5_startEffect_0 rfl rfl ?_
  refine x_iload_n C 2 dX5_startEffect_1 rfl rfl ?_
  exact xc_callVx_v C0 5 1 6 0 0 9 1 (cC_requireEffect_1 hl hx) rfl gX5_startEffect_X5_requireEffect ⟨rfl, by decide, by decide, rfl⟩ ⟨Nat.le_of_ble_eq_true rfl, Nat.le_of_ble_eq_true rfl⟩ rfl (by decide) (show 0 < 1 by decide) rfl rfl rfl (Nat.le_of_ble_eq_true rfl) ⟨Nat.le_of_ble_eq_true rfl, Nat.le_of_ble_eq_true rfl⟩ dX5_startEffect_2 rfl rfl rfl (fun _ h => h.elim) (fun E w h => h)
set_option maxRecDepth 100000 in
set_option maxHeartbeats 4000000 in
theorem cC_startEffect_2 (hl : l.stackTraces = false) (hN : CN n cap) {e : Nat} (he : e < n 2) (hr : ¬ S 9 e 4 = 0)  : Ct (gm D a E0) l yX5_startEffect wsX5_startEffect { frames := 24, cells := 1, slots := 6, locals := 600 } [.ref (A 0 0), .int (nI e)] (wC a E0 n cap A g en S) (qI fun _ _ => False) (fun E w => E = "java/lang/IllegalStateException" ∧ w = wC a E0 n cap A g en S) := by
  refine Ct.of [some (.ref (A 0 0)), some (.int (nI e)), none] rfl hl (by decide) (Nat.le_of_ble_eq_true rfl) rfl (fun φ C0 => ?_)
  have C := C0.1
  refine x_aload_n C 1 dX5_startEffect_0 rfl rfl ?_
  refine x_iload_n C 2 dX5_startEffect_1 rfl rfl ?_
  refine xc_callV_v C 5 0 0 0 0 9 1 (cC_requireEffect_0 hl (upB_nI (by have := hN.2.2.2.1; omega) he)) rfl gX5_startEffect_X5_requireEffect ⟨rfl, by decide, by decide, rfl⟩ ⟨Nat.le_of_ble_eq_true rfl, Nat.le_of_ble_eq_true rfl⟩ rfl (by decide) (show 0 < 1 by decide) rfl rfl rfl (Nat.le_of_ble_eq_true rfl) ⟨Nat.le_of_ble_eq_true rfl, Nat.le_of_ble_eq_true rfl⟩ dX5_startEffect_2 rfl rfl rfl (fun w1 h1 => ?_)
  subst h1
  have h4 := hN.2.2.2.1
  refine x_aload_n C 6 dX5_startEffect_5 rfl rfl ?_
  refine xc_get C 9 0 0 (by decide) (show 0 < 1 by decide) rfl fg_X5_startEffect_32 rfl dX5_startEffect_6 rfl ?_
  refine x_iload_n C 10 dX5_startEffect_9 rfl rfl ?_
  refine xc_callV_q C 13 0 0 3 2 3 1 (cC_get hl (j := 2) (by decide) (i := e) (by omega) (hN.1 2 (by decide)).1 (hN.1 2 (by decide)).2) rfl gX5_startEffect_Jx4a65c_get_915e3 ⟨rfl, by decide, by decide, rfl⟩ ⟨Nat.le_of_ble_eq_true rfl, Nat.le_of_ble_eq_true rfl⟩ rfl (by decide) (show 2 < 4 by decide) rfl rfl rfl (Nat.le_of_ble_eq_true rfl) ⟨Nat.le_of_ble_eq_true rfl, Nat.le_of_ble_eq_true rfl⟩ dX5_startEffect_10 rfl rfl rfl (fun r2 w2 h2 => ?_)
  obtain ⟨rfl, rfl⟩ := h2
  refine x_topq (show _ = Value.ref (A 9 e) from rfl) ?_
  refine xc_castS C 16 9 e (by decide) (show e < n 2 from by omega) rfl rfl (List.mem_cons_of_mem _ (List.mem_append_left _ (List.mem_append_left _ (List.mem_append_left _ (List.mem_append_left _ (List.mem_append_left _ (List.mem_append_left _ (List.mem_of_getElem? (i := 3) rfl)))))))) dX5_startEffect_13 rfl ?_
  refine x_astore_n C 17 dX5_startEffect_16 (by decide) rfl rfl ?_
  refine x_aload_n C 18 dX5_startEffect_17 rfl rfl ?_
  refine xc_get C 21 9 e (by decide) (show e < n 2 from by omega) rfl fg_X5_startEffect_219 rfl dX5_startEffect_18 rfl ?_
  refine x_if_eq C 34 24 dX5_startEffect_21 (by decide) rfl (fun zk21 => ?_) (fun zk21 => ?_)
  · exact absurd zk21 hr
  · exact x_throwS C0 (cls := "java/lang/IllegalStateException") (text := "the effect runs") (names := ["java/lang/RuntimeException", "java/lang/Exception"]) (List.mem_of_getElem? (i := 14) rfl) (by decide) (by decide) (List.mem_cons_of_mem _ (List.mem_append_left _ (List.mem_append_left _ (List.mem_append_left _ (List.mem_append_left _ (List.mem_append_left _ (List.mem_append_left _ (List.mem_of_getElem? (i := 0) rfl)))))))) (List.mem_cons_of_mem _ (List.mem_append_left _ (List.mem_append_left _ (List.mem_append_left _ (List.mem_append_left _ (List.mem_append_left _ (List.mem_append_left _ (List.mem_of_getElem? (i := 1) rfl)))))))) (fun w h => (List.mem_cons_of_mem _ (List.mem_append_left _ (List.mem_append_right _ h)))) (by decide) (by decide +kernel) (by decide +kernel) dX5_startEffect_24 dX5_startEffect_27 dX5_startEffect_28 dX5_startEffect_30 dX5_startEffect_33 (Nat.le_of_ble_eq_true rfl) (Nat.le_of_ble_eq_true rfl) (Nat.le_of_ble_eq_true rfl) (Nat.le_of_ble_eq_true rfl) ⟨rfl, rfl⟩   
theorem fg_X5_stopEffect_32 : gF RX5 wsX5_stopEffect 32 9 5 := ⟨RX5, TX5, 11, "StageConsole", rfl, fun w h => (List.mem_cons_of_mem _ (List.mem_append_left _ (List.mem_append_left _ (List.mem_append_left _ (List.mem_append_left _ (List.mem_append_right _ h)))))), by decide, (List.mem_cons_of_mem _ (List.mem_append_left _ (List.mem_append_left _ (List.mem_append_left _ (List.mem_append_left _ (List.mem_append_left _ (List.mem_append_left _ (List.mem_of_getElem? (i := 2) rfl)))))))), Or.inl rfl⟩
theorem fg_X5_stopEffect_219 : gF RX5 wsX5_stopEffect 219 6 5 := ⟨RX2, TX2, 7, "StageConsole$Effect", rfl, fun w h => (List.mem_cons_of_mem _ (List.mem_append_left _ (List.mem_append_left _ (List.mem_append_left _ (List.mem_append_right _ h))))), by decide, (List.mem_cons_of_mem _ (List.mem_append_left _ (List.mem_append_left _ (List.mem_append_left _ (List.mem_append_left _ (List.mem_append_left _ (List.mem_append_left _ (List.mem_of_getElem? (i := 4) rfl)))))))), Or.inl rfl⟩
theorem fp_X5_stopEffect_219 : pF RX5 wsX5_stopEffect 219 6 5 false (.boolean) := ⟨RX2, TX2, 7, "StageConsole$Effect", tyX2, rfl, fun w h => (List.mem_cons_of_mem _ (List.mem_append_left _ (List.mem_append_left _ (List.mem_append_left _ (List.mem_append_right _ h))))), by decide, (List.mem_cons_of_mem _ (List.mem_append_left _ (List.mem_append_left _ (List.mem_append_left _ (List.mem_append_left _ (List.mem_append_left _ (List.mem_append_left _ (List.mem_of_getElem? (i := 4) rfl)))))))), Or.inl rfl, tyX2_ok, nmX2, rfl, rfl, fun h => absurd h (by decide)⟩
theorem fg_X5_stopEffect_20 : gF RX5 wsX5_stopEffect 20 9 2 := ⟨RX5, TX5, 11, "StageConsole", rfl, fun w h => (List.mem_cons_of_mem _ (List.mem_append_left _ (List.mem_append_left _ (List.mem_append_left _ (List.mem_append_left _ (List.mem_append_right _ h)))))), by decide, (List.mem_cons_of_mem _ (List.mem_append_left _ (List.mem_append_left _ (List.mem_append_left _ (List.mem_append_left _ (List.mem_append_left _ (List.mem_append_left _ (List.mem_of_getElem? (i := 5) rfl)))))))), Or.inl rfl⟩
theorem fg_X5_stopEffect_224 : gF RX5 wsX5_stopEffect 224 6 6 := ⟨RX2, TX2, 7, "StageConsole$Effect", rfl, fun w h => (List.mem_cons_of_mem _ (List.mem_append_left _ (List.mem_append_left _ (List.mem_append_left _ (List.mem_append_right _ h))))), by decide, (List.mem_cons_of_mem _ (List.mem_append_left _ (List.mem_append_left _ (List.mem_append_left _ (List.mem_append_left _ (List.mem_append_left _ (List.mem_append_left _ (List.mem_of_getElem? (i := 6) rfl)))))))), Or.inl rfl⟩
set_option maxRecDepth 100000 in
set_option maxHeartbeats 4000000 in
theorem cC_stopEffect_0 (hl : l.stackTraces = false) (hN : CN n cap) {e : Nat} (he : e < n 2) (hr : ¬ S 9 e 4 = 0)  : Ct (gm D a E0) l yX5_stopEffect wsX5_stopEffect { frames := 24, cells := 0, slots := 0, locals := 600 } [.ref (A 0 0), .int (nI e)] (wC a E0 n cap A g en S) (qI fun v w => v = S 0 0 1 - S 9 e 5 ∧ w = wC a E0 n cap A g en (uS S 9 e 4 0)) noX := by
  refine Ct.of [some (.ref (A 0 0)), some (.int (nI e)), none] rfl hl (by decide) (Nat.le_of_ble_eq_true rfl) rfl (fun φ C0 => ?_)
  have C := C0.1
  refine x_aload_n C 1 dX5_stopEffect_0 rfl rfl ?_
  refine x_iload_n C 2 dX5_stopEffect_1 rfl rfl ?_
  refine xc_callV_v C 5 0 0 0 0 9 1 (cC_requireEffect_0 hl (upB_nI (by have := hN.2.2.2.1; omega) he)) rfl gX5_stopEffect_X5_requireEffect ⟨rfl, by decide, by decide, rfl⟩ ⟨Nat.le_of_ble_eq_true rfl, Nat.le_of_ble_eq_true rfl⟩ rfl (by decide) (show 0 < 1 by decide) rfl rfl rfl (Nat.le_of_ble_eq_true rfl) ⟨Nat.le_of_ble_eq_true rfl, Nat.le_of_ble_eq_true rfl⟩ dX5_stopEffect_2 rfl rfl rfl (fun w1 h1 => ?_)
  subst h1
  have h4 := hN.2.2.2.1
  refine x_aload_n C 6 dX5_stopEffect_5 rfl rfl ?_
  refine xc_get C 9 0 0 (by decide) (show 0 < 1 by decide) rfl fg_X5_stopEffect_32 rfl dX5_stopEffect_6 rfl ?_
  refine x_iload_n C 10 dX5_stopEffect_9 rfl rfl ?_
  refine xc_callV_q C 13 0 0 3 2 3 1 (cC_get hl (j := 2) (by decide) (i := e) (by omega) (hN.1 2 (by decide)).1 (hN.1 2 (by decide)).2) rfl gX5_stopEffect_Jx4a65c_get_915e3 ⟨rfl, by decide, by decide, rfl⟩ ⟨Nat.le_of_ble_eq_true rfl, Nat.le_of_ble_eq_true rfl⟩ rfl (by decide) (show 2 < 4 by decide) rfl rfl rfl (Nat.le_of_ble_eq_true rfl) ⟨Nat.le_of_ble_eq_true rfl, Nat.le_of_ble_eq_true rfl⟩ dX5_stopEffect_10 rfl rfl rfl (fun r2 w2 h2 => ?_)
  obtain ⟨rfl, rfl⟩ := h2
  refine x_topq (show _ = Value.ref (A 9 e) from rfl) ?_
  refine xc_castS C 16 9 e (by decide) (show e < n 2 from by omega) rfl rfl (List.mem_cons_of_mem _ (List.mem_append_left _ (List.mem_append_left _ (List.mem_append_left _ (List.mem_append_left _ (List.mem_append_left _ (List.mem_append_left _ (List.mem_of_getElem? (i := 3) rfl)))))))) dX5_stopEffect_13 rfl ?_
  refine x_astore_n C 17 dX5_stopEffect_16 (by decide) rfl rfl ?_
  refine x_aload_n C 18 dX5_stopEffect_17 rfl rfl ?_
  refine xc_get C 21 9 e (by decide) (show e < n 2 from by omega) rfl fg_X5_stopEffect_219 rfl dX5_stopEffect_18 rfl ?_
  refine x_if_ne C 34 24 dX5_stopEffect_21 (by decide) rfl (fun zk21 => ?_) (fun zk21 => ?_)
  · refine x_aload_n C 35 dX5_stopEffect_34 rfl rfl ?_
    refine x_iconst (v := (0)) C 36 dX5_stopEffect_35 (by decide) rfl ?_
    refine xc_put C 39 9 e 4 (by decide) (show e < n 2 from by omega) rfl fp_X5_stopEffect_219 rfl rfl (Nat.le_of_ble_eq_true rfl) rfl dX5_stopEffect_36 rfl ?_
    refine x_aload_n C 40 dX5_stopEffect_39 rfl rfl ?_
    refine xc_get C 43 0 0 (by decide) (show 0 < 1 by decide) rfl fg_X5_stopEffect_20 rfl dX5_stopEffect_40 rfl ?_
    refine x_top (show _ = (S 0 0 1) from by simp [uS, upd]) ?_
    refine x_aload_n C 44 dX5_stopEffect_43 rfl rfl ?_
    refine xc_get C 47 9 e (by decide) (show e < n 2 from by omega) rfl fg_X5_stopEffect_224 rfl dX5_stopEffect_44 rfl ?_
    refine x_top (show _ = (S 9 e 5) from by simp [uS, upd]) ?_
    refine x_isub C 48 dX5_stopEffect_47 rfl ?_
    exact x_zret C0 dX5_stopEffect_48 (Nat.le_of_ble_eq_true rfl) (Nat.le_of_ble_eq_true rfl) ⟨_, rfl, ⟨rfl, rfl⟩⟩
  · exact absurd zk21 hr
set_option maxRecDepth 100000 in
set_option maxHeartbeats 4000000 in
theorem cC_stopEffect_1 (hl : l.stackTraces = false) {x : Int32} (hx : upB (n 2) x = false)  : Ct (gm D a E0) l yX5_stopEffect wsX5_stopEffect { frames := 24, cells := 1, slots := 6, locals := 600 } [.ref (A 0 0), .int x] (wC a E0 n cap A g en S) (qI fun _ _ => False) (fun E w => E = "java/lang/IndexOutOfBoundsException" ∧ w = wC a E0 n cap A g en S) := by
  refine Ct.of [some (.ref (A 0 0)), some (.int x), none] rfl hl (by decide) (Nat.le_of_ble_eq_true rfl) rfl (fun φ C0 => ?_)
  have C := C0.1
  refine x_aload_n C 1 dX5_stopEffect_0 rfl rfl ?_
  refine x_iload_n C 2 dX5_stopEffect_1 rfl rfl ?_
  exact xc_callVx_v C0 5 1 6 0 0 9 1 (cC_requireEffect_1 hl hx) rfl gX5_stopEffect_X5_requireEffect ⟨rfl, by decide, by decide, rfl⟩ ⟨Nat.le_of_ble_eq_true rfl, Nat.le_of_ble_eq_true rfl⟩ rfl (by decide) (show 0 < 1 by decide) rfl rfl rfl (Nat.le_of_ble_eq_true rfl) ⟨Nat.le_of_ble_eq_true rfl, Nat.le_of_ble_eq_true rfl⟩ dX5_stopEffect_2 rfl rfl rfl (fun _ h => h.elim) (fun E w h => h)
set_option maxRecDepth 100000 in
set_option maxHeartbeats 4000000 in
theorem cC_stopEffect_2 (hl : l.stackTraces = false) (hN : CN n cap) {e : Nat} (he : e < n 2) (hr : S 9 e 4 = 0)  : Ct (gm D a E0) l yX5_stopEffect wsX5_stopEffect { frames := 24, cells := 1, slots := 6, locals := 600 } [.ref (A 0 0), .int (nI e)] (wC a E0 n cap A g en S) (qI fun _ _ => False) (fun E w => E = "java/lang/IllegalStateException" ∧ w = wC a E0 n cap A g en S) := by
  refine Ct.of [some (.ref (A 0 0)), some (.int (nI e)), none] rfl hl (by decide) (Nat.le_of_ble_eq_true rfl) rfl (fun φ C0 => ?_)
  have C := C0.1
  refine x_aload_n C 1 dX5_stopEffect_0 rfl rfl ?_
  refine x_iload_n C 2 dX5_stopEffect_1 rfl rfl ?_
  refine xc_callV_v C 5 0 0 0 0 9 1 (cC_requireEffect_0 hl (upB_nI (by have := hN.2.2.2.1; omega) he)) rfl gX5_stopEffect_X5_requireEffect ⟨rfl, by decide, by decide, rfl⟩ ⟨Nat.le_of_ble_eq_true rfl, Nat.le_of_ble_eq_true rfl⟩ rfl (by decide) (show 0 < 1 by decide) rfl rfl rfl (Nat.le_of_ble_eq_true rfl) ⟨Nat.le_of_ble_eq_true rfl, Nat.le_of_ble_eq_true rfl⟩ dX5_stopEffect_2 rfl rfl rfl (fun w1 h1 => ?_)
  subst h1
  have h4 := hN.2.2.2.1
  refine x_aload_n C 6 dX5_stopEffect_5 rfl rfl ?_
  refine xc_get C 9 0 0 (by decide) (show 0 < 1 by decide) rfl fg_X5_stopEffect_32 rfl dX5_stopEffect_6 rfl ?_
  refine x_iload_n C 10 dX5_stopEffect_9 rfl rfl ?_
  refine xc_callV_q C 13 0 0 3 2 3 1 (cC_get hl (j := 2) (by decide) (i := e) (by omega) (hN.1 2 (by decide)).1 (hN.1 2 (by decide)).2) rfl gX5_stopEffect_Jx4a65c_get_915e3 ⟨rfl, by decide, by decide, rfl⟩ ⟨Nat.le_of_ble_eq_true rfl, Nat.le_of_ble_eq_true rfl⟩ rfl (by decide) (show 2 < 4 by decide) rfl rfl rfl (Nat.le_of_ble_eq_true rfl) ⟨Nat.le_of_ble_eq_true rfl, Nat.le_of_ble_eq_true rfl⟩ dX5_stopEffect_10 rfl rfl rfl (fun r2 w2 h2 => ?_)
  obtain ⟨rfl, rfl⟩ := h2
  refine x_topq (show _ = Value.ref (A 9 e) from rfl) ?_
  refine xc_castS C 16 9 e (by decide) (show e < n 2 from by omega) rfl rfl (List.mem_cons_of_mem _ (List.mem_append_left _ (List.mem_append_left _ (List.mem_append_left _ (List.mem_append_left _ (List.mem_append_left _ (List.mem_append_left _ (List.mem_of_getElem? (i := 3) rfl)))))))) dX5_stopEffect_13 rfl ?_
  refine x_astore_n C 17 dX5_stopEffect_16 (by decide) rfl rfl ?_
  refine x_aload_n C 18 dX5_stopEffect_17 rfl rfl ?_
  refine xc_get C 21 9 e (by decide) (show e < n 2 from by omega) rfl fg_X5_stopEffect_219 rfl dX5_stopEffect_18 rfl ?_
  refine x_if_ne C 34 24 dX5_stopEffect_21 (by decide) rfl (fun zk21 => ?_) (fun zk21 => ?_)
  · exact absurd hr zk21
  · exact x_throwS C0 (cls := "java/lang/IllegalStateException") (text := "the effect does not run") (names := ["java/lang/RuntimeException", "java/lang/Exception"]) (List.mem_of_getElem? (i := 15) rfl) (by decide) (by decide) (List.mem_cons_of_mem _ (List.mem_append_left _ (List.mem_append_left _ (List.mem_append_left _ (List.mem_append_left _ (List.mem_append_left _ (List.mem_append_left _ (List.mem_of_getElem? (i := 0) rfl)))))))) (List.mem_cons_of_mem _ (List.mem_append_left _ (List.mem_append_left _ (List.mem_append_left _ (List.mem_append_left _ (List.mem_append_left _ (List.mem_append_left _ (List.mem_of_getElem? (i := 1) rfl)))))))) (fun w h => (List.mem_cons_of_mem _ (List.mem_append_left _ (List.mem_append_right _ h)))) (by decide) (by decide +kernel) (by decide +kernel) dX5_stopEffect_24 dX5_stopEffect_27 dX5_stopEffect_28 dX5_stopEffect_30 dX5_stopEffect_33 (Nat.le_of_ble_eq_true rfl) (Nat.le_of_ble_eq_true rfl) (Nat.le_of_ble_eq_true rfl) (Nat.le_of_ble_eq_true rfl) ⟨rfl, rfl⟩   
theorem fg_X5_effectOn_32 : gF RX5 wsX5_effectOn 32 9 5 := ⟨RX5, TX5, 11, "StageConsole", rfl, fun w h => (List.mem_cons_of_mem _ (List.mem_append_left _ (List.mem_append_left _ (List.mem_append_left _ (List.mem_append_left _ (List.mem_append_left _ (List.mem_append_left _ (List.mem_append_right _ h)))))))), by decide, (List.mem_cons_of_mem _ (List.mem_append_left _ (List.mem_append_left _ (List.mem_append_left _ (List.mem_append_left _ (List.mem_append_left _ (List.mem_append_left _ (List.mem_append_left _ (List.mem_append_left _ (List.mem_of_getElem? (i := 0) rfl)))))))))), Or.inl rfl⟩
set_option maxRecDepth 100000 in
set_option maxHeartbeats 4000000 in
theorem cC_effectOn_0 (hl : l.stackTraces = false) (hN : CN n cap) {e : Nat} (he : e < n 2) (hE : CE n g S) {c : Nat} (hc : c < 12)  : Ct (gm D a E0) l yX5_effectOn wsX5_effectOn { frames := 24, cells := 0, slots := 0, locals := 600 } [.ref (A 0 0), .int (nI e), .int (nI c)] (wC a E0 n cap A g en S) (qI fun v w => v = gvC S g e c ∧ w = wC a E0 n cap A g en S) noX := by
  refine Ct.of [some (.ref (A 0 0)), some (.int (nI e)), some (.int (nI c))] rfl hl (by decide) (Nat.le_of_ble_eq_true rfl) rfl (fun φ C0 => ?_)
  have C := C0.1
  refine x_aload_n C 1 dX5_effectOn_0 rfl rfl ?_
  refine x_iload_n C 2 dX5_effectOn_1 rfl rfl ?_
  refine xc_callV_v C 5 0 0 0 0 9 1 (cC_requireEffect_0 hl (upB_nI (by have := hN.2.2.2.1; omega) he)) rfl gX5_effectOn_X5_requireEffect ⟨rfl, by decide, by decide, rfl⟩ ⟨Nat.le_of_ble_eq_true rfl, Nat.le_of_ble_eq_true rfl⟩ rfl (by decide) (show 0 < 1 by decide) rfl rfl rfl (Nat.le_of_ble_eq_true rfl) ⟨Nat.le_of_ble_eq_true rfl, Nat.le_of_ble_eq_true rfl⟩ dX5_effectOn_2 rfl rfl rfl (fun w1 h1 => ?_)
  subst h1
  refine x_iload_n C 6 dX5_effectOn_5 rfl rfl ?_
  refine x_callS0_v C 9 0 0 1 (cC_requireChannel_0 hl (chB_nI hc)) rfl gX5_effectOn_X5_requireChannel ⟨by decide, by decide, rfl⟩ ⟨Nat.le_of_ble_eq_true rfl, Nat.le_of_ble_eq_true rfl⟩ rfl rfl (Nat.le_of_ble_eq_true rfl) ⟨Nat.le_of_ble_eq_true rfl, Nat.le_of_ble_eq_true rfl⟩ dX5_effectOn_6 rfl rfl rfl (fun w2 h2 => ?_)
  subst h2
  have h4 := hN.2.2.2.1
  refine x_aload_n C 10 dX5_effectOn_9 rfl rfl ?_
  refine x_aload_n C 11 dX5_effectOn_10 rfl rfl ?_
  refine xc_get C 14 0 0 (by decide) (show 0 < 1 by decide) rfl fg_X5_effectOn_32 rfl dX5_effectOn_11 rfl ?_
  refine x_iload_n C 15 dX5_effectOn_14 rfl rfl ?_
  refine xc_callV_q C 18 0 0 3 2 3 1 (cC_get hl (j := 2) (by decide) (i := e) (by omega) (hN.1 2 (by decide)).1 (hN.1 2 (by decide)).2) rfl gX5_effectOn_Jx4a65c_get_915e3 ⟨rfl, by decide, by decide, rfl⟩ ⟨Nat.le_of_ble_eq_true rfl, Nat.le_of_ble_eq_true rfl⟩ rfl (by decide) (show 2 < 4 by decide) rfl rfl rfl (Nat.le_of_ble_eq_true rfl) ⟨Nat.le_of_ble_eq_true rfl, Nat.le_of_ble_eq_true rfl⟩ dX5_effectOn_15 rfl rfl rfl (fun r3 w3 h3 => ?_)
  obtain ⟨rfl, rfl⟩ := h3
  refine x_topq (show _ = Value.ref (A 9 e) from rfl) ?_
  refine xc_castS C 21 9 e (by decide) (show e < n 2 from by omega) rfl rfl (List.mem_cons_of_mem _ (List.mem_append_left _ (List.mem_append_left _ (List.mem_append_left _ (List.mem_append_left _ (List.mem_append_left _ (List.mem_append_left _ (List.mem_append_left _ (List.mem_append_left _ (List.mem_of_getElem? (i := 1) rfl)))))))))) dX5_effectOn_18 rfl ?_
  refine x_iload_n C 22 dX5_effectOn_21 rfl rfl ?_
  refine xc_callV_i C 25 0 0 0 0 9 2 (cC_givenBy hl he hE hc) rfl gX5_effectOn_X5_givenBy ⟨rfl, by decide, by decide, rfl⟩ ⟨Nat.le_of_ble_eq_true rfl, Nat.le_of_ble_eq_true rfl⟩ rfl (by decide) (show 0 < 1 by decide) rfl rfl rfl (Nat.le_of_ble_eq_true rfl) ⟨Nat.le_of_ble_eq_true rfl, Nat.le_of_ble_eq_true rfl⟩ dX5_effectOn_22 rfl rfl rfl (fun r4 w4 h4 => ?_)
  obtain ⟨rfl, rfl⟩ := h4
  exact x_zret C0 dX5_effectOn_25 (Nat.le_of_ble_eq_true rfl) (Nat.le_of_ble_eq_true rfl) ⟨_, rfl, ⟨rfl, rfl⟩⟩
set_option maxRecDepth 100000 in
set_option maxHeartbeats 4000000 in
theorem cC_effectOn_1 (hl : l.stackTraces = false) {x z : Int32} (hx : upB (n 2) x = false)  : Ct (gm D a E0) l yX5_effectOn wsX5_effectOn { frames := 24, cells := 1, slots := 6, locals := 600 } [.ref (A 0 0), .int x, .int z] (wC a E0 n cap A g en S) (qI fun _ _ => False) (fun E w => E = "java/lang/IndexOutOfBoundsException" ∧ w = wC a E0 n cap A g en S) := by
  refine Ct.of [some (.ref (A 0 0)), some (.int x), some (.int z)] rfl hl (by decide) (Nat.le_of_ble_eq_true rfl) rfl (fun φ C0 => ?_)
  have C := C0.1
  refine x_aload_n C 1 dX5_effectOn_0 rfl rfl ?_
  refine x_iload_n C 2 dX5_effectOn_1 rfl rfl ?_
  exact xc_callVx_v C0 5 1 6 0 0 9 1 (cC_requireEffect_1 hl hx) rfl gX5_effectOn_X5_requireEffect ⟨rfl, by decide, by decide, rfl⟩ ⟨Nat.le_of_ble_eq_true rfl, Nat.le_of_ble_eq_true rfl⟩ rfl (by decide) (show 0 < 1 by decide) rfl rfl rfl (Nat.le_of_ble_eq_true rfl) ⟨Nat.le_of_ble_eq_true rfl, Nat.le_of_ble_eq_true rfl⟩ dX5_effectOn_2 rfl rfl rfl (fun _ h => h.elim) (fun E w h => h)
set_option maxRecDepth 100000 in
set_option maxHeartbeats 4000000 in
theorem cC_effectOn_2 (hl : l.stackTraces = false) {z : Int32} (hN : CN n cap) {e : Nat} (he : e < n 2) (hc : chB z = false)  : Ct (gm D a E0) l yX5_effectOn wsX5_effectOn { frames := 24, cells := 1, slots := 6, locals := 600 } [.ref (A 0 0), .int (nI e), .int z] (wC a E0 n cap A g en S) (qI fun _ _ => False) (fun E w => E = "java/lang/IndexOutOfBoundsException" ∧ w = wC a E0 n cap A g en S) := by
  refine Ct.of [some (.ref (A 0 0)), some (.int (nI e)), some (.int z)] rfl hl (by decide) (Nat.le_of_ble_eq_true rfl) rfl (fun φ C0 => ?_)
  have C := C0.1
  refine x_aload_n C 1 dX5_effectOn_0 rfl rfl ?_
  refine x_iload_n C 2 dX5_effectOn_1 rfl rfl ?_
  refine xc_callV_v C 5 0 0 0 0 9 1 (cC_requireEffect_0 hl (upB_nI (by have := hN.2.2.2.1; omega) he)) rfl gX5_effectOn_X5_requireEffect ⟨rfl, by decide, by decide, rfl⟩ ⟨Nat.le_of_ble_eq_true rfl, Nat.le_of_ble_eq_true rfl⟩ rfl (by decide) (show 0 < 1 by decide) rfl rfl rfl (Nat.le_of_ble_eq_true rfl) ⟨Nat.le_of_ble_eq_true rfl, Nat.le_of_ble_eq_true rfl⟩ dX5_effectOn_2 rfl rfl rfl (fun w1 h1 => ?_)
  subst h1
  refine x_iload_n C 6 dX5_effectOn_5 rfl rfl ?_
  exact x_callSx0_v C0 9 1 6 1 (cC_requireChannel_1 hl hc) rfl gX5_effectOn_X5_requireChannel ⟨by decide, by decide, rfl⟩ ⟨Nat.le_of_ble_eq_true rfl, Nat.le_of_ble_eq_true rfl⟩ rfl rfl (Nat.le_of_ble_eq_true rfl) ⟨Nat.le_of_ble_eq_true rfl, Nat.le_of_ble_eq_true rfl⟩ dX5_effectOn_6 rfl rfl rfl (fun _ h => h.elim) (fun E w h => h)
set_option maxRecDepth 100000 in
set_option maxHeartbeats 4000000 in
theorem cC_park_0 (hl : l.stackTraces = false) {x : Int32} {c : Nat} (hc : c < 12) (hv : lvB x = true)  : Ct (gm D a E0) l yX5_park wsX5_park { frames := 16, cells := 0, slots := 0, locals := 400 } [.ref (A 0 0), .int (nI c), .int x] (wC a E0 n cap A g en S) (qI fun v w => v = S 4 c 8 ∧ w = wC a E0 n cap A g en (uS S 4 c 8 x)) noX := by
  refine Ct.of [some (.ref (A 0 0)), some (.int (nI c)), some (.int x)] rfl hl (by decide) (Nat.le_of_ble_eq_true rfl) rfl (fun φ C0 => ?_)
  have C := C0.1
  refine x_iload_n C 1 dX5_park_0 rfl rfl ?_
  refine x_callS0_v C 4 0 0 1 (cC_requireChannel_0 hl (chB_nI hc)) rfl gX5_park_X5_requireChannel ⟨by decide, by decide, rfl⟩ ⟨Nat.le_of_ble_eq_true rfl, Nat.le_of_ble_eq_true rfl⟩ rfl rfl (Nat.le_of_ble_eq_true rfl) ⟨Nat.le_of_ble_eq_true rfl, Nat.le_of_ble_eq_true rfl⟩ dX5_park_1 rfl rfl rfl (fun w1 h1 => ?_)
  subst h1
  refine x_iload_n C 5 dX5_park_4 rfl rfl ?_
  refine x_callS0_v C 8 0 0 1 (cC_requireLevel_0 hl hv) rfl gX5_park_X5_requireLevel ⟨by decide, by decide, rfl⟩ ⟨Nat.le_of_ble_eq_true rfl, Nat.le_of_ble_eq_true rfl⟩ rfl rfl (Nat.le_of_ble_eq_true rfl) ⟨Nat.le_of_ble_eq_true rfl, Nat.le_of_ble_eq_true rfl⟩ dX5_park_5 rfl rfl rfl (fun w2 h2 => ?_)
  subst h2
  refine x_aload_n C 9 dX5_park_8 rfl rfl ?_
  refine x_iload_n C 10 dX5_park_9 rfl rfl ?_
  refine x_iload_n C 11 dX5_park_10 rfl rfl ?_
  refine xc_callV_i C 14 0 0 0 0 9 2 (cC_parkAt hl hc) rfl gX5_park_X5_parkAt ⟨rfl, by decide, by decide, rfl⟩ ⟨Nat.le_of_ble_eq_true rfl, Nat.le_of_ble_eq_true rfl⟩ rfl (by decide) (show 0 < 1 by decide) rfl rfl rfl (Nat.le_of_ble_eq_true rfl) ⟨Nat.le_of_ble_eq_true rfl, Nat.le_of_ble_eq_true rfl⟩ dX5_park_11 rfl rfl rfl (fun r3 w3 h3 => ?_)
  obtain ⟨rfl, rfl⟩ := h3
  exact x_zret C0 dX5_park_14 (Nat.le_of_ble_eq_true rfl) (Nat.le_of_ble_eq_true rfl) ⟨_, rfl, ⟨rfl, rfl⟩⟩
set_option maxRecDepth 100000 in
set_option maxHeartbeats 4000000 in
theorem cC_park_1 (hl : l.stackTraces = false) {z : Int32} {y : Int32} (hc : chB z = false)  : Ct (gm D a E0) l yX5_park wsX5_park { frames := 16, cells := 1, slots := 6, locals := 400 } [.ref (A 0 0), .int z, .int y] (wC a E0 n cap A g en S) (qI fun _ _ => False) (fun E w => E = "java/lang/IndexOutOfBoundsException" ∧ w = wC a E0 n cap A g en S) := by
  refine Ct.of [some (.ref (A 0 0)), some (.int z), some (.int y)] rfl hl (by decide) (Nat.le_of_ble_eq_true rfl) rfl (fun φ C0 => ?_)
  have C := C0.1
  refine x_iload_n C 1 dX5_park_0 rfl rfl ?_
  exact x_callSx0_v C0 4 1 6 1 (cC_requireChannel_1 hl hc) rfl gX5_park_X5_requireChannel ⟨by decide, by decide, rfl⟩ ⟨Nat.le_of_ble_eq_true rfl, Nat.le_of_ble_eq_true rfl⟩ rfl rfl (Nat.le_of_ble_eq_true rfl) ⟨Nat.le_of_ble_eq_true rfl, Nat.le_of_ble_eq_true rfl⟩ dX5_park_1 rfl rfl rfl (fun _ h => h.elim) (fun E w h => h)
set_option maxRecDepth 100000 in
set_option maxHeartbeats 4000000 in
theorem cC_park_2 (hl : l.stackTraces = false) {x : Int32} {c : Nat} (hc : c < 12) (hv : lvB x = false)  : Ct (gm D a E0) l yX5_park wsX5_park { frames := 16, cells := 1, slots := 6, locals := 400 } [.ref (A 0 0), .int (nI c), .int x] (wC a E0 n cap A g en S) (qI fun _ _ => False) (fun E w => E = "java/lang/IllegalArgumentException" ∧ w = wC a E0 n cap A g en S) := by
  refine Ct.of [some (.ref (A 0 0)), some (.int (nI c)), some (.int x)] rfl hl (by decide) (Nat.le_of_ble_eq_true rfl) rfl (fun φ C0 => ?_)
  have C := C0.1
  refine x_iload_n C 1 dX5_park_0 rfl rfl ?_
  refine x_callS0_v C 4 0 0 1 (cC_requireChannel_0 hl (chB_nI hc)) rfl gX5_park_X5_requireChannel ⟨by decide, by decide, rfl⟩ ⟨Nat.le_of_ble_eq_true rfl, Nat.le_of_ble_eq_true rfl⟩ rfl rfl (Nat.le_of_ble_eq_true rfl) ⟨Nat.le_of_ble_eq_true rfl, Nat.le_of_ble_eq_true rfl⟩ dX5_park_1 rfl rfl rfl (fun w1 h1 => ?_)
  subst h1
  refine x_iload_n C 5 dX5_park_4 rfl rfl ?_
  exact x_callSx0_v C0 8 1 6 1 (cC_requireLevel_1 hl hv) rfl gX5_park_X5_requireLevel ⟨by decide, by decide, rfl⟩ ⟨Nat.le_of_ble_eq_true rfl, Nat.le_of_ble_eq_true rfl⟩ rfl rfl (Nat.le_of_ble_eq_true rfl) ⟨Nat.le_of_ble_eq_true rfl, Nat.le_of_ble_eq_true rfl⟩ dX5_park_5 rfl rfl rfl (fun _ h => h.elim) (fun E w h => h)
theorem fg_X5_unpark_25 : gF RX5 wsX5_unpark 25 9 3 := ⟨RX5, TX5, 11, "StageConsole", rfl, fun w h => (List.mem_cons_of_mem _ (List.mem_append_left _ (List.mem_append_left _ (List.mem_append_left _ (List.mem_append_right _ h))))), by decide, (List.mem_cons_of_mem _ (List.mem_append_left _ (List.mem_append_left _ (List.mem_append_left _ (List.mem_append_left _ (List.mem_of_getElem? (i := 2) rfl)))))), Or.inl rfl⟩
theorem fg_X5_unpark_239 : gF RX5 wsX5_unpark 239 4 8 := ⟨RX0, TX0, 9, "StageConsole$Channel", rfl, fun w h => (List.mem_cons_of_mem _ (List.mem_append_left _ (List.mem_append_left _ (List.mem_append_right _ h)))), by decide, (List.mem_cons_of_mem _ (List.mem_append_left _ (List.mem_append_left _ (List.mem_append_left _ (List.mem_append_left _ (List.mem_of_getElem? (i := 3) rfl)))))), Or.inl rfl⟩
theorem fp_X5_unpark_239 : pF RX5 wsX5_unpark 239 4 8 false (.int) := ⟨RX0, TX0, 9, "StageConsole$Channel", tyX0, rfl, fun w h => (List.mem_cons_of_mem _ (List.mem_append_left _ (List.mem_append_left _ (List.mem_append_right _ h)))), by decide, (List.mem_cons_of_mem _ (List.mem_append_left _ (List.mem_append_left _ (List.mem_append_left _ (List.mem_append_left _ (List.mem_of_getElem? (i := 3) rfl)))))), Or.inl rfl, tyX0_ok, nmX0, rfl, rfl, fun h => absurd h (by decide)⟩
set_option maxRecDepth 100000 in
set_option maxHeartbeats 4000000 in
theorem cC_unpark_0 (hl : l.stackTraces = false) {c : Nat} (hc : c < 12) (hv : ¬ S 4 c 8 = -1)  : Ct (gm D a E0) l yX5_unpark wsX5_unpark { frames := 16, cells := 0, slots := 0, locals := 400 } [.ref (A 0 0), .int (nI c)] (wC a E0 n cap A g en S) (qI fun v w => v = S 4 c 8 ∧ w = wC a E0 n cap A g en (uS S 4 c 8 (-1))) noX := by
  refine Ct.of [some (.ref (A 0 0)), some (.int (nI c)), none] rfl hl (by decide) (Nat.le_of_ble_eq_true rfl) rfl (fun φ C0 => ?_)
  have C := C0.1
  refine x_iload_n C 1 dX5_unpark_0 rfl rfl ?_
  refine x_callS0_v C 4 0 0 1 (cC_requireChannel_0 hl (chB_nI hc)) rfl gX5_unpark_X5_requireChannel ⟨by decide, by decide, rfl⟩ ⟨Nat.le_of_ble_eq_true rfl, Nat.le_of_ble_eq_true rfl⟩ rfl rfl (Nat.le_of_ble_eq_true rfl) ⟨Nat.le_of_ble_eq_true rfl, Nat.le_of_ble_eq_true rfl⟩ dX5_unpark_1 rfl rfl rfl (fun w1 h1 => ?_)
  subst h1
  refine x_aload_n C 5 dX5_unpark_4 rfl rfl ?_
  refine xc_get C 8 0 0 (by decide) (show 0 < 1 by decide) rfl fg_X5_unpark_25 rfl dX5_unpark_5 rfl ?_
  refine x_iload_n C 9 dX5_unpark_8 rfl rfl ?_
  refine xc_chan C 10 c rfl (by omega) dX5_unpark_9 rfl ?_
  refine xc_get C 13 4 c (by decide) (show c < 12 from by omega) rfl fg_X5_unpark_239 rfl dX5_unpark_10 rfl ?_
  refine x_nm (fun sv esv => ?_)
  refine x_istore_n C 14 dX5_unpark_13 (by decide) rfl rfl ?_
  refine x_iload_n C 15 dX5_unpark_14 rfl rfl ?_
  refine x_iconst (v := (-1)) C 16 dX5_unpark_15 (by decide) rfl ?_
  refine x_icmp_ne C 29 19 dX5_unpark_16 (by decide) rfl (fun zk16 => ?_) (fun zk16 => ?_)
  · refine x_aload_n C 30 dX5_unpark_29 rfl rfl ?_
    refine xc_get C 33 0 0 (by decide) (show 0 < 1 by decide) rfl fg_X5_unpark_25 rfl dX5_unpark_30 rfl ?_
    refine x_iload_n C 34 dX5_unpark_33 rfl rfl ?_
    refine xc_chan C 35 c rfl (by omega) dX5_unpark_34 rfl ?_
    refine x_iconst (v := (-1)) C 36 dX5_unpark_35 (by decide) rfl ?_
    refine xc_put C 39 4 c 8 (by decide) (show c < 12 from by omega) rfl fp_X5_unpark_239 rfl rfl (Nat.le_of_ble_eq_true rfl) rfl dX5_unpark_36 rfl ?_
    refine x_iload_n C 40 dX5_unpark_39 rfl rfl ?_
    exact x_zret C0 dX5_unpark_40 (Nat.le_of_ble_eq_true rfl) (Nat.le_of_ble_eq_true rfl) ⟨_, rfl, ⟨esv, rfl⟩⟩
  · exact absurd (esv.symm.trans zk16) hv
set_option maxRecDepth 100000 in
set_option maxHeartbeats 4000000 in
theorem cC_unpark_1 (hl : l.stackTraces = false) {z : Int32} (hc : chB z = false)  : Ct (gm D a E0) l yX5_unpark wsX5_unpark { frames := 16, cells := 1, slots := 6, locals := 400 } [.ref (A 0 0), .int z] (wC a E0 n cap A g en S) (qI fun _ _ => False) (fun E w => E = "java/lang/IndexOutOfBoundsException" ∧ w = wC a E0 n cap A g en S) := by
  refine Ct.of [some (.ref (A 0 0)), some (.int z), none] rfl hl (by decide) (Nat.le_of_ble_eq_true rfl) rfl (fun φ C0 => ?_)
  have C := C0.1
  refine x_iload_n C 1 dX5_unpark_0 rfl rfl ?_
  exact x_callSx0_v C0 4 1 6 1 (cC_requireChannel_1 hl hc) rfl gX5_unpark_X5_requireChannel ⟨by decide, by decide, rfl⟩ ⟨Nat.le_of_ble_eq_true rfl, Nat.le_of_ble_eq_true rfl⟩ rfl rfl (Nat.le_of_ble_eq_true rfl) ⟨Nat.le_of_ble_eq_true rfl, Nat.le_of_ble_eq_true rfl⟩ dX5_unpark_1 rfl rfl rfl (fun _ h => h.elim) (fun E w h => h)
set_option maxRecDepth 100000 in
set_option maxHeartbeats 4000000 in
theorem cC_unpark_2 (hl : l.stackTraces = false) {c : Nat} (hc : c < 12) (hv : S 4 c 8 = -1)  : Ct (gm D a E0) l yX5_unpark wsX5_unpark { frames := 16, cells := 1, slots := 6, locals := 400 } [.ref (A 0 0), .int (nI c)] (wC a E0 n cap A g en S) (qI fun _ _ => False) (fun E w => E = "java/util/NoSuchElementException" ∧ w = wC a E0 n cap A g en S) := by
  refine Ct.of [some (.ref (A 0 0)), some (.int (nI c)), none] rfl hl (by decide) (Nat.le_of_ble_eq_true rfl) rfl (fun φ C0 => ?_)
  have C := C0.1
  refine x_iload_n C 1 dX5_unpark_0 rfl rfl ?_
  refine x_callS0_v C 4 0 0 1 (cC_requireChannel_0 hl (chB_nI hc)) rfl gX5_unpark_X5_requireChannel ⟨by decide, by decide, rfl⟩ ⟨Nat.le_of_ble_eq_true rfl, Nat.le_of_ble_eq_true rfl⟩ rfl rfl (Nat.le_of_ble_eq_true rfl) ⟨Nat.le_of_ble_eq_true rfl, Nat.le_of_ble_eq_true rfl⟩ dX5_unpark_1 rfl rfl rfl (fun w1 h1 => ?_)
  subst h1
  refine x_aload_n C 5 dX5_unpark_4 rfl rfl ?_
  refine xc_get C 8 0 0 (by decide) (show 0 < 1 by decide) rfl fg_X5_unpark_25 rfl dX5_unpark_5 rfl ?_
  refine x_iload_n C 9 dX5_unpark_8 rfl rfl ?_
  refine xc_chan C 10 c rfl (by omega) dX5_unpark_9 rfl ?_
  refine xc_get C 13 4 c (by decide) (show c < 12 from by omega) rfl fg_X5_unpark_239 rfl dX5_unpark_10 rfl ?_
  refine x_nm (fun sv esv => ?_)
  refine x_istore_n C 14 dX5_unpark_13 (by decide) rfl rfl ?_
  refine x_iload_n C 15 dX5_unpark_14 rfl rfl ?_
  refine x_iconst (v := (-1)) C 16 dX5_unpark_15 (by decide) rfl ?_
  refine x_icmp_ne C 29 19 dX5_unpark_16 (by decide) rfl (fun zk16 => ?_) (fun zk16 => ?_)
  · exact absurd (esv.trans hv) zk16
  · exact x_throwS C0 (cls := "java/util/NoSuchElementException") (text := "the channel is not parked") (names := ["java/lang/RuntimeException", "java/lang/Exception"]) (List.mem_of_getElem? (i := 12) rfl) (by decide) (by decide) (List.mem_cons_of_mem _ (List.mem_append_left _ (List.mem_append_left _ (List.mem_append_left _ (List.mem_append_left _ (List.mem_of_getElem? (i := 0) rfl)))))) (List.mem_cons_of_mem _ (List.mem_append_left _ (List.mem_append_left _ (List.mem_append_left _ (List.mem_append_left _ (List.mem_of_getElem? (i := 1) rfl)))))) (fun w h => (List.mem_cons_of_mem _ (List.mem_append_left _ (List.mem_append_right _ h)))) (by decide) (by decide +kernel) (by decide +kernel) dX5_unpark_19 dX5_unpark_22 dX5_unpark_23 dX5_unpark_25 dX5_unpark_28 (Nat.le_of_ble_eq_true rfl) (Nat.le_of_ble_eq_true rfl) (Nat.le_of_ble_eq_true rfl) (Nat.le_of_ble_eq_true rfl) ⟨rfl, rfl⟩   
set_option maxRecDepth 100000 in
set_option maxHeartbeats 4000000 in
theorem cC_setMaster_0 (hl : l.stackTraces = false) {x : Int32} (hv : lvB x = true)  : Ct (gm D a E0) l yX5_setMaster wsX5_setMaster { frames := 16, cells := 0, slots := 0, locals := 400 } [.ref (A 0 0), .int x] (wC a E0 n cap A g en S) (qI fun v w => v = S 0 0 2 ∧ w = wC a E0 n cap A g en (uS S 0 0 2 x)) noX := by
  refine Ct.of [some (.ref (A 0 0)), some (.int x)] rfl hl (by decide) (Nat.le_of_ble_eq_true rfl) rfl (fun φ C0 => ?_)
  have C := C0.1
  refine x_iload_n C 1 dX5_setMaster_0 rfl rfl ?_
  refine x_callS0_v C 4 0 0 1 (cC_requireLevel_0 hl hv) rfl gX5_setMaster_X5_requireLevel ⟨by decide, by decide, rfl⟩ ⟨Nat.le_of_ble_eq_true rfl, Nat.le_of_ble_eq_true rfl⟩ rfl rfl (Nat.le_of_ble_eq_true rfl) ⟨Nat.le_of_ble_eq_true rfl, Nat.le_of_ble_eq_true rfl⟩ dX5_setMaster_1 rfl rfl rfl (fun w1 h1 => ?_)
  subst h1
  refine x_aload_n C 5 dX5_setMaster_4 rfl rfl ?_
  refine x_iload_n C 6 dX5_setMaster_5 rfl rfl ?_
  refine xc_callV_i C 9 0 0 0 0 9 1 (cC_moveMaster hl) rfl gX5_setMaster_X5_moveMaster ⟨rfl, by decide, by decide, rfl⟩ ⟨Nat.le_of_ble_eq_true rfl, Nat.le_of_ble_eq_true rfl⟩ rfl (by decide) (show 0 < 1 by decide) rfl rfl rfl (Nat.le_of_ble_eq_true rfl) ⟨Nat.le_of_ble_eq_true rfl, Nat.le_of_ble_eq_true rfl⟩ dX5_setMaster_6 rfl rfl rfl (fun r2 w2 h2 => ?_)
  obtain ⟨rfl, rfl⟩ := h2
  exact x_zret C0 dX5_setMaster_9 (Nat.le_of_ble_eq_true rfl) (Nat.le_of_ble_eq_true rfl) ⟨_, rfl, ⟨rfl, rfl⟩⟩
set_option maxRecDepth 100000 in
set_option maxHeartbeats 4000000 in
theorem cC_setMaster_1 (hl : l.stackTraces = false) {x : Int32} (hv : lvB x = false)  : Ct (gm D a E0) l yX5_setMaster wsX5_setMaster { frames := 16, cells := 1, slots := 6, locals := 400 } [.ref (A 0 0), .int x] (wC a E0 n cap A g en S) (qI fun _ _ => False) (fun E w => E = "java/lang/IllegalArgumentException" ∧ w = wC a E0 n cap A g en S) := by
  refine Ct.of [some (.ref (A 0 0)), some (.int x)] rfl hl (by decide) (Nat.le_of_ble_eq_true rfl) rfl (fun φ C0 => ?_)
  have C := C0.1
  refine x_iload_n C 1 dX5_setMaster_0 rfl rfl ?_
  exact x_callSx0_v C0 4 1 6 1 (cC_requireLevel_1 hl hv) rfl gX5_setMaster_X5_requireLevel ⟨by decide, by decide, rfl⟩ ⟨Nat.le_of_ble_eq_true rfl, Nat.le_of_ble_eq_true rfl⟩ rfl rfl (Nat.le_of_ble_eq_true rfl) ⟨Nat.le_of_ble_eq_true rfl, Nat.le_of_ble_eq_true rfl⟩ dX5_setMaster_1 rfl rfl rfl (fun _ h => h.elim) (fun E w h => h)
theorem fg_X5_level_38 : gF RX5 wsX5_level 38 9 7 := ⟨RX5, TX5, 11, "StageConsole", rfl, fun w h => (List.mem_cons_of_mem _ (List.mem_append_left _ (List.mem_append_left _ (List.mem_append_left _ (List.mem_append_left _ (List.mem_append_left _ (List.mem_append_left _ (List.mem_append_left _ (List.mem_append_right _ h))))))))), by decide, (List.mem_cons_of_mem _ (List.mem_append_left _ (List.mem_append_left _ (List.mem_append_left _ (List.mem_append_left _ (List.mem_append_left _ (List.mem_append_left _ (List.mem_append_left _ (List.mem_append_left _ (List.mem_append_left _ (List.mem_of_getElem? (i := 0) rfl))))))))))), Or.inl rfl⟩
set_option maxRecDepth 100000 in
set_option maxHeartbeats 4000000 in
theorem cC_level_0 (hl : l.stackTraces = false) (hN : CN n cap) (hE : CE n g S) {c : Nat} (hc : c < 12)  : Ct (gm D a E0) l yX5_level wsX5_level { frames := 28, cells := 0, slots := 0, locals := 700 } [.ref (A 0 0), .int (nI c)] (wC a E0 n cap A g en S) (qI fun v w => v = (flv g (n 1) (n 2) S) 2 0 c ∧ w = wC a E0 n cap A g en (flv g (n 1) (n 2) S)) noX := by
  refine Ct.of [some (.ref (A 0 0)), some (.int (nI c))] rfl hl (by decide) (Nat.le_of_ble_eq_true rfl) rfl (fun φ C0 => ?_)
  have C := C0.1
  refine x_iload_n C 1 dX5_level_0 rfl rfl ?_
  refine x_callS0_v C 4 0 0 1 (cC_requireChannel_0 hl (chB_nI hc)) rfl gX5_level_X5_requireChannel ⟨by decide, by decide, rfl⟩ ⟨Nat.le_of_ble_eq_true rfl, Nat.le_of_ble_eq_true rfl⟩ rfl rfl (Nat.le_of_ble_eq_true rfl) ⟨Nat.le_of_ble_eq_true rfl, Nat.le_of_ble_eq_true rfl⟩ dX5_level_1 rfl rfl rfl (fun w1 h1 => ?_)
  subst h1
  refine x_aload_n C 5 dX5_level_4 rfl rfl ?_
  refine xc_callV_v C 8 0 0 0 0 9 0 (cC_fillLevelRow hl hN hE) rfl gX5_level_X5_fillLevelRow ⟨rfl, by decide, by decide, rfl⟩ ⟨Nat.le_of_ble_eq_true rfl, Nat.le_of_ble_eq_true rfl⟩ rfl (by decide) (show 0 < 1 by decide) rfl rfl rfl (Nat.le_of_ble_eq_true rfl) ⟨Nat.le_of_ble_eq_true rfl, Nat.le_of_ble_eq_true rfl⟩ dX5_level_5 rfl rfl rfl (fun w2 h2 => ?_)
  subst h2
  refine x_aload_n C 9 dX5_level_8 rfl rfl ?_
  refine xc_get C 12 0 0 (by decide) (show 0 < 1 by decide) rfl fg_X5_level_38 rfl dX5_level_9 rfl ?_
  refine x_iload_n C 13 dX5_level_12 rfl rfl ?_
  refine xc_iald C 14 2 0 c (by decide) (show 0 < 1 by decide) rfl rfl (by omega) dX5_level_13 rfl ?_
  exact x_zret C0 dX5_level_14 (Nat.le_of_ble_eq_true rfl) (Nat.le_of_ble_eq_true rfl) ⟨_, rfl, ⟨rfl, rfl⟩⟩
set_option maxRecDepth 100000 in
set_option maxHeartbeats 4000000 in
theorem cC_level_1 (hl : l.stackTraces = false) {z : Int32} (hc : chB z = false)  : Ct (gm D a E0) l yX5_level wsX5_level { frames := 16, cells := 1, slots := 6, locals := 400 } [.ref (A 0 0), .int z] (wC a E0 n cap A g en S) (qI fun _ _ => False) (fun E w => E = "java/lang/IndexOutOfBoundsException" ∧ w = wC a E0 n cap A g en S) := by
  refine Ct.of [some (.ref (A 0 0)), some (.int z)] rfl hl (by decide) (Nat.le_of_ble_eq_true rfl) rfl (fun φ C0 => ?_)
  have C := C0.1
  refine x_iload_n C 1 dX5_level_0 rfl rfl ?_
  exact x_callSx0_v C0 4 1 6 1 (cC_requireChannel_1 hl hc) rfl gX5_level_X5_requireChannel ⟨by decide, by decide, rfl⟩ ⟨Nat.le_of_ble_eq_true rfl, Nat.le_of_ble_eq_true rfl⟩ rfl rfl (Nat.le_of_ble_eq_true rfl) ⟨Nat.le_of_ble_eq_true rfl, Nat.le_of_ble_eq_true rfl⟩ dX5_level_1 rfl rfl rfl (fun _ h => h.elim) (fun E w h => h)
theorem fg_X5_levelAlone_32 : gF RX5 wsX5_levelAlone 32 9 5 := ⟨RX5, TX5, 11, "StageConsole", rfl, fun w h => (List.mem_cons_of_mem _ (List.mem_append_left _ (List.mem_append_left _ (List.mem_append_left _ (List.mem_append_left _ (List.mem_append_left _ (List.mem_append_left _ (List.mem_append_left _ (List.mem_append_right _ h))))))))), by decide, (List.mem_cons_of_mem _ (List.mem_append_left _ (List.mem_append_left _ (List.mem_append_left _ (List.mem_append_left _ (List.mem_append_left _ (List.mem_append_left _ (List.mem_append_left _ (List.mem_append_left _ (List.mem_append_left _ (List.mem_of_getElem? (i := 0) rfl))))))))))), Or.inl rfl⟩
set_option maxRecDepth 100000 in
set_option maxHeartbeats 4000000 in
theorem cC_levelAlone_0 (hl : l.stackTraces = false) (hN : CN n cap) (hE : CE n g S) {c : Nat} (hc : c < 12)  : Ct (gm D a E0) l yX5_levelAlone wsX5_levelAlone { frames := 24, cells := 0, slots := 0, locals := 600 } [.ref (A 0 0), .int (nI c)] (wC a E0 n cap A g en S) (qI fun v w => v = ouC S c (saL S g c (n 2) 0 (bsC S (n 1) c)) ∧ w = wC a E0 n cap A g en S) noX := by
  refine Ct.of [some (.ref (A 0 0)), some (.int (nI c)), none, none] rfl hl (by decide) (Nat.le_of_ble_eq_true rfl) rfl (fun φ C0 => ?_)
  have C := C0.1
  refine x_iload_n C 1 dX5_levelAlone_0 rfl rfl ?_
  refine x_callS0_v C 4 0 0 1 (cC_requireChannel_0 hl (chB_nI hc)) rfl gX5_levelAlone_X5_requireChannel ⟨by decide, by decide, rfl⟩ ⟨Nat.le_of_ble_eq_true rfl, Nat.le_of_ble_eq_true rfl⟩ rfl rfl (Nat.le_of_ble_eq_true rfl) ⟨Nat.le_of_ble_eq_true rfl, Nat.le_of_ble_eq_true rfl⟩ dX5_levelAlone_1 rfl rfl rfl (fun w1 h1 => ?_)
  subst h1
  refine x_aload_n C 5 dX5_levelAlone_4 rfl rfl ?_
  refine x_iload_n C 6 dX5_levelAlone_5 rfl rfl ?_
  refine xc_callV_i C 9 0 0 0 0 9 1 (cC_baseOf hl hc hN) rfl gX5_levelAlone_X5_baseOf ⟨rfl, by decide, by decide, rfl⟩ ⟨Nat.le_of_ble_eq_true rfl, Nat.le_of_ble_eq_true rfl⟩ rfl (by decide) (show 0 < 1 by decide) rfl rfl rfl (Nat.le_of_ble_eq_true rfl) ⟨Nat.le_of_ble_eq_true rfl, Nat.le_of_ble_eq_true rfl⟩ dX5_levelAlone_6 rfl rfl rfl (fun r2 w2 h2 => ?_)
  obtain ⟨rfl, rfl⟩ := h2
  refine x_nm (fun v0 ev0 => ?_)
  refine x_istore_n C 10 dX5_levelAlone_9 (by decide) rfl rfl ?_
  refine x_iconst (v := (0)) C 11 dX5_levelAlone_10 (by decide) rfl ?_
  refine x_istore_n C 12 dX5_levelAlone_11 (by decide) rfl rfl ?_
  have lp12 : ∀ (m i : Nat) (v : Int32), i + m = n 2 → saL S g c (n 2) 0 (bsC S (n 1) c) = saL S g c m i v → X φ 12 [some (.ref (A 0 0)), some (.int (nI c)), some (.int v), some (.int (nI i))] [] (wC a E0 n cap A g en S) 0 0 := by
    intro m
    induction m with
    | zero =>
      intro i v hi hr
      refine x_iload_n C 13 dX5_levelAlone_12 rfl rfl ?_
      refine x_aload_n C 14 dX5_levelAlone_13 rfl rfl ?_
      refine xc_get C 17 0 0 (by decide) (show 0 < 1 by decide) rfl fg_X5_levelAlone_32 rfl dX5_levelAlone_14 rfl ?_
      refine xc_callV_i C 20 0 0 3 2 3 0 (cC_size hl (j := 2) (by decide)) rfl gX5_levelAlone_Jx4a65c_size_8abf5 ⟨rfl, by decide, by decide, rfl⟩ ⟨Nat.le_of_ble_eq_true rfl, Nat.le_of_ble_eq_true rfl⟩ rfl (by decide) (show 2 < 4 by decide) rfl rfl rfl (Nat.le_of_ble_eq_true rfl) ⟨Nat.le_of_ble_eq_true rfl, Nat.le_of_ble_eq_true rfl⟩ dX5_levelAlone_17 rfl rfl rfl (fun r4 w4 h4 => ?_)
      obtain ⟨rfl, rfl⟩ := h4
      have h4 := hN.2.2.2.1
      refine x_icmp_ge C 48 23 dX5_levelAlone_20 (by decide) rfl (fun zk20 => ?_) (fun zk20 => ?_)
      · have zk20 := (nI_leI (a := (n 2)) (b := i) (by omega) (by omega)).mp zk20
        refine x_aload_n C 49 dX5_levelAlone_48 rfl rfl ?_
        refine x_iload_n C 50 dX5_levelAlone_49 rfl rfl ?_
        refine x_iload_n C 51 dX5_levelAlone_50 rfl rfl ?_
        refine xc_callV_i C 54 0 0 0 0 9 2 (cC_outputOf hl hc) rfl gX5_levelAlone_X5_outputOf ⟨rfl, by decide, by decide, rfl⟩ ⟨Nat.le_of_ble_eq_true rfl, Nat.le_of_ble_eq_true rfl⟩ rfl (by decide) (show 0 < 1 by decide) rfl rfl rfl (Nat.le_of_ble_eq_true rfl) ⟨Nat.le_of_ble_eq_true rfl, Nat.le_of_ble_eq_true rfl⟩ dX5_levelAlone_51 rfl rfl rfl (fun r5 w5 h5 => ?_)
        obtain ⟨rfl, rfl⟩ := h5
        exact x_zret C0 dX5_levelAlone_54 (Nat.le_of_ble_eq_true rfl) (Nat.le_of_ble_eq_true rfl) ⟨_, rfl, ⟨by rw [show saL S g c (n 2) 0 (bsC S (n 1) c) = v from hr], rfl⟩⟩
      · have zk20 := mt (nI_leI (a := (n 2)) (b := i) (by omega) (by omega)).mpr zk20
        exfalso; omega
    | succ m ih =>
      intro i v hi hr
      refine x_iload_n C 13 dX5_levelAlone_12 rfl rfl ?_
      refine x_aload_n C 14 dX5_levelAlone_13 rfl rfl ?_
      refine xc_get C 17 0 0 (by decide) (show 0 < 1 by decide) rfl fg_X5_levelAlone_32 rfl dX5_levelAlone_14 rfl ?_
      refine xc_callV_i C 20 0 0 3 2 3 0 (cC_size hl (j := 2) (by decide)) rfl gX5_levelAlone_Jx4a65c_size_8abf5 ⟨rfl, by decide, by decide, rfl⟩ ⟨Nat.le_of_ble_eq_true rfl, Nat.le_of_ble_eq_true rfl⟩ rfl (by decide) (show 2 < 4 by decide) rfl rfl rfl (Nat.le_of_ble_eq_true rfl) ⟨Nat.le_of_ble_eq_true rfl, Nat.le_of_ble_eq_true rfl⟩ dX5_levelAlone_17 rfl rfl rfl (fun r6 w6 h6 => ?_)
      obtain ⟨rfl, rfl⟩ := h6
      have h4 := hN.2.2.2.1
      refine x_icmp_ge C 48 23 dX5_levelAlone_20 (by decide) rfl (fun zk20 => ?_) (fun zk20 => ?_)
      · have zk20 := (nI_leI (a := (n 2)) (b := i) (by omega) (by omega)).mp zk20
        exfalso; omega
      · have zk20 := mt (nI_leI (a := (n 2)) (b := i) (by omega) (by omega)).mpr zk20
        refine x_iload_n C 24 dX5_levelAlone_23 rfl rfl ?_
        refine x_aload_n C 25 dX5_levelAlone_24 rfl rfl ?_
        refine x_aload_n C 26 dX5_levelAlone_25 rfl rfl ?_
        refine xc_get C 29 0 0 (by decide) (show 0 < 1 by decide) rfl fg_X5_levelAlone_32 rfl dX5_levelAlone_26 rfl ?_
        refine x_iload_n C 30 dX5_levelAlone_29 rfl rfl ?_
        refine xc_callV_q C 33 0 0 3 2 3 1 (cC_get hl (j := 2) (by decide) (i := i) (by omega) (hN.1 2 (by decide)).1 (hN.1 2 (by decide)).2) rfl gX5_levelAlone_Jx4a65c_get_915e3 ⟨rfl, by decide, by decide, rfl⟩ ⟨Nat.le_of_ble_eq_true rfl, Nat.le_of_ble_eq_true rfl⟩ rfl (by decide) (show 2 < 4 by decide) rfl rfl rfl (Nat.le_of_ble_eq_true rfl) ⟨Nat.le_of_ble_eq_true rfl, Nat.le_of_ble_eq_true rfl⟩ dX5_levelAlone_30 rfl rfl rfl (fun r7 w7 h7 => ?_)
        obtain ⟨rfl, rfl⟩ := h7
        refine x_topq (show _ = Value.ref (A 9 i) from rfl) ?_
        refine xc_castS C 36 9 i (by decide) (show i < n 2 from by omega) rfl rfl (List.mem_cons_of_mem _ (List.mem_append_left _ (List.mem_append_left _ (List.mem_append_left _ (List.mem_append_left _ (List.mem_append_left _ (List.mem_append_left _ (List.mem_append_left _ (List.mem_append_left _ (List.mem_append_left _ (List.mem_of_getElem? (i := 1) rfl))))))))))) dX5_levelAlone_33 rfl ?_
        refine x_iload_n C 37 dX5_levelAlone_36 rfl rfl ?_
        refine xc_callV_i C 40 0 0 0 0 9 2 (cC_givenBy hl (e := i) (show i < n 2 by omega) hE hc) rfl gX5_levelAlone_X5_givenBy ⟨rfl, by decide, by decide, rfl⟩ ⟨Nat.le_of_ble_eq_true rfl, Nat.le_of_ble_eq_true rfl⟩ rfl (by decide) (show 0 < 1 by decide) rfl rfl rfl (Nat.le_of_ble_eq_true rfl) ⟨Nat.le_of_ble_eq_true rfl, Nat.le_of_ble_eq_true rfl⟩ dX5_levelAlone_37 rfl rfl rfl (fun r8 w8 h8 => ?_)
        obtain ⟨rfl, rfl⟩ := h8
        refine x_iadd C 41 dX5_levelAlone_40 rfl ?_
        refine x_nm (fun v2 ev2 => ?_)
        refine x_istore_n C 42 dX5_levelAlone_41 (by decide) rfl rfl ?_
        refine x_iinc (v := nI (i + 1)) C 45 rfl dX5_levelAlone_42 (iinc1 _) (by decide) rfl rfl ?_
        refine x_goto C 12 dX5_levelAlone_45 (by decide) ?_
        exact ih (i + 1) _ (by omega) (by rw [hr, saL]; subst ev2; rfl)
  exact lp12 (n 2) 0 _ (by omega) (by rw [ev0])
set_option maxRecDepth 100000 in
set_option maxHeartbeats 4000000 in
theorem cC_levelAlone_1 (hl : l.stackTraces = false) {z : Int32} (hc : chB z = false)  : Ct (gm D a E0) l yX5_levelAlone wsX5_levelAlone { frames := 16, cells := 1, slots := 6, locals := 400 } [.ref (A 0 0), .int z] (wC a E0 n cap A g en S) (qI fun _ _ => False) (fun E w => E = "java/lang/IndexOutOfBoundsException" ∧ w = wC a E0 n cap A g en S) := by
  refine Ct.of [some (.ref (A 0 0)), some (.int z), none, none] rfl hl (by decide) (Nat.le_of_ble_eq_true rfl) rfl (fun φ C0 => ?_)
  have C := C0.1
  refine x_iload_n C 1 dX5_levelAlone_0 rfl rfl ?_
  exact x_callSx0_v C0 4 1 6 1 (cC_requireChannel_1 hl hc) rfl gX5_levelAlone_X5_requireChannel ⟨by decide, by decide, rfl⟩ ⟨Nat.le_of_ble_eq_true rfl, Nat.le_of_ble_eq_true rfl⟩ rfl rfl (Nat.le_of_ble_eq_true rfl) ⟨Nat.le_of_ble_eq_true rfl, Nat.le_of_ble_eq_true rfl⟩ dX5_levelAlone_1 rfl rfl rfl (fun _ h => h.elim) (fun E w h => h)
set_option maxRecDepth 100000 in
set_option maxHeartbeats 4000000 in
theorem cC_channelByLevel_1 (hl : l.stackTraces = false) {x : Int32} (hc : chB x = false)  : Ct (gm D a E0) l yX5_channelByLevel wsX5_channelByLevel { frames := 28, cells := 1, slots := 6, locals := 700 } [.ref (A 0 0), .int x] (wC a E0 n cap A g en S) (qI fun _ _ => False) (fun E w => E = "java/lang/IndexOutOfBoundsException" ∧ w = wC a E0 n cap A g en S) := by
  refine Ct.of [some (.ref (A 0 0)), some (.int x), none, none] rfl hl (by decide) (Nat.le_of_ble_eq_true rfl) rfl (fun φ C0 => ?_)
  have C := C0.1
  refine x_iload_n C 1 dX5_channelByLevel_0 rfl rfl ?_
  refine x_iconst (v := (0)) C 2 dX5_channelByLevel_1 (by decide) rfl ?_
  refine x_bipush (v := (11)) C 4 dX5_channelByLevel_2 (by decide) rfl ?_
  refine x_callS0_i C 7 0 0 3 (cC_isWithin hl) rfl gX5_channelByLevel_X5_isWithin ⟨by decide, by decide, rfl⟩ ⟨Nat.le_of_ble_eq_true rfl, Nat.le_of_ble_eq_true rfl⟩ rfl rfl (Nat.le_of_ble_eq_true rfl) ⟨Nat.le_of_ble_eq_true rfl, Nat.le_of_ble_eq_true rfl⟩ dX5_channelByLevel_4 rfl rfl rfl (fun r1 w1 h1 => ?_)
  obtain ⟨rfl, rfl⟩ := h1
  refine x_top (show _ = (0 : Int32) from (congrArg bI (show chB x = false from hc)).trans rfl) ?_
  refine x_if_ne C 20 10 dX5_channelByLevel_7 (by decide) rfl (fun zk7 => ?_) (fun zk7 => ?_)
  · exact absurd zk7 (by decide)
  · exact x_throwS C0 (cls := "java/lang/IndexOutOfBoundsException") (text := "no such rank") (names := ["java/lang/RuntimeException", "java/lang/Exception"]) (List.mem_of_getElem? (i := 9) rfl) (by decide) (by decide) (List.mem_cons_of_mem _ (List.mem_append_left _ (List.mem_append_left _ (List.mem_append_left _ (List.mem_append_left _ (List.mem_append_left _ (List.mem_append_left _ (List.mem_append_left _ (List.mem_append_left _ (List.mem_append_left _ (List.mem_of_getElem? (i := 0) rfl))))))))))) (List.mem_cons_of_mem _ (List.mem_append_left _ (List.mem_append_left _ (List.mem_append_left _ (List.mem_append_left _ (List.mem_append_left _ (List.mem_append_left _ (List.mem_append_left _ (List.mem_append_left _ (List.mem_append_left _ (List.mem_of_getElem? (i := 1) rfl))))))))))) (fun w h => (List.mem_cons_of_mem _ (List.mem_append_left _ (List.mem_append_left _ (List.mem_append_right _ h))))) (by decide) (by decide +kernel) (by decide +kernel) dX5_channelByLevel_10 dX5_channelByLevel_13 dX5_channelByLevel_14 dX5_channelByLevel_16 dX5_channelByLevel_19 (Nat.le_of_ble_eq_true rfl) (Nat.le_of_ble_eq_true rfl) (Nat.le_of_ble_eq_true rfl) (Nat.le_of_ble_eq_true rfl) ⟨rfl, rfl⟩   
set_option maxRecDepth 100000 in
set_option maxHeartbeats 4000000 in
theorem cC_channelByLevel_0 (hl : l.stackTraces = false) (hN : CN n cap) (hE : CE n g S) {r : Nat} (hr0 : r < 12)  : Ct (gm D a E0) l yX5_channelByLevel wsX5_channelByLevel { frames := 28, cells := 0, slots := 0, locals := 700 } [.ref (A 0 0), .int (nI r)] (wC a E0 n cap A g en S) (qI fun v w => v = cbL ((flv g (n 1) (n 2) S) 2 0) r 12 0 0 ∧ w = wC a E0 n cap A g en (flv g (n 1) (n 2) S)) noX := by
  refine Ct.of [some (.ref (A 0 0)), some (.int (nI r)), none, none] rfl hl (by decide) (Nat.le_of_ble_eq_true rfl) rfl (fun φ C0 => ?_)
  have C := C0.1
  refine x_iload_n C 1 dX5_channelByLevel_0 rfl rfl ?_
  refine x_iconst (v := (0)) C 2 dX5_channelByLevel_1 (by decide) rfl ?_
  refine x_bipush (v := (11)) C 4 dX5_channelByLevel_2 (by decide) rfl ?_
  refine x_callS0_i C 7 0 0 3 (cC_isWithin hl) rfl gX5_channelByLevel_X5_isWithin ⟨by decide, by decide, rfl⟩ ⟨Nat.le_of_ble_eq_true rfl, Nat.le_of_ble_eq_true rfl⟩ rfl rfl (Nat.le_of_ble_eq_true rfl) ⟨Nat.le_of_ble_eq_true rfl, Nat.le_of_ble_eq_true rfl⟩ dX5_channelByLevel_4 rfl rfl rfl (fun r1 w1 h1 => ?_)
  obtain ⟨rfl, rfl⟩ := h1
  refine x_top (show _ = (1 : Int32) from (congrArg bI (show chB (nI r) = true from chB_nI hr0)).trans rfl) ?_
  refine x_if_ne C 20 10 dX5_channelByLevel_7 (by decide) rfl (fun zk7 => ?_) (fun zk7 => ?_)
  · refine x_aload_n C 21 dX5_channelByLevel_20 rfl rfl ?_
    refine xc_callV_v C 24 0 0 0 0 9 0 (cC_fillLevelRow hl hN hE) rfl gX5_channelByLevel_X5_fillLevelRow ⟨rfl, by decide, by decide, rfl⟩ ⟨Nat.le_of_ble_eq_true rfl, Nat.le_of_ble_eq_true rfl⟩ rfl (by decide) (show 0 < 1 by decide) rfl rfl rfl (Nat.le_of_ble_eq_true rfl) ⟨Nat.le_of_ble_eq_true rfl, Nat.le_of_ble_eq_true rfl⟩ dX5_channelByLevel_21 rfl rfl rfl (fun w2 h2 => ?_)
    subst h2
    refine x_iconst (v := (0)) C 25 dX5_channelByLevel_24 (by decide) rfl ?_
    refine x_istore_n C 26 dX5_channelByLevel_25 (by decide) rfl rfl ?_
    refine x_iconst (v := (0)) C 27 dX5_channelByLevel_26 (by decide) rfl ?_
    refine x_istore_n C 28 dX5_channelByLevel_27 (by decide) rfl rfl ?_
    have lp28 : ∀ (m i : Nat) (v : Int32), i + m = 12 → cbL ((flv g (n 1) (n 2) S) 2 0) r 12 0 0 = cbL ((flv g (n 1) (n 2) S) 2 0) r m i v → X φ 28 [some (.ref (A 0 0)), some (.int (nI r)), some (.int v), some (.int (nI i))] [] (wC a E0 n cap A g en (flv g (n 1) (n 2) S)) 0 0 := by
      intro m
      induction m with
      | zero =>
        intro i v hi hr
        refine x_iload_n C 29 dX5_channelByLevel_28 rfl rfl ?_
        refine x_bipush (v := (12)) C 31 dX5_channelByLevel_29 (by decide) rfl ?_
        refine x_icmp_ge C 51 34 dX5_channelByLevel_31 (by decide) rfl (fun zk31 => ?_) (fun zk31 => ?_)
        · have zk31 := (nI_leI (a := 12) (b := i) (by omega) (by omega)).mp zk31
          refine x_iload_n C 52 dX5_channelByLevel_51 rfl rfl ?_
          exact x_zret C0 dX5_channelByLevel_52 (Nat.le_of_ble_eq_true rfl) (Nat.le_of_ble_eq_true rfl) ⟨_, rfl, ⟨by rw [hr]; rfl, rfl⟩⟩
        · have zk31 := mt (nI_leI (a := 12) (b := i) (by omega) (by omega)).mpr zk31
          exfalso; omega
      | succ m ih =>
        intro i v hi hr
        refine x_iload_n C 29 dX5_channelByLevel_28 rfl rfl ?_
        refine x_bipush (v := (12)) C 31 dX5_channelByLevel_29 (by decide) rfl ?_
        refine x_icmp_ge C 51 34 dX5_channelByLevel_31 (by decide) rfl (fun zk31 => ?_) (fun zk31 => ?_)
        · have zk31 := (nI_leI (a := 12) (b := i) (by omega) (by omega)).mp zk31
          exfalso; omega
        · have zk31 := mt (nI_leI (a := 12) (b := i) (by omega) (by omega)).mpr zk31
          refine x_aload_n C 35 dX5_channelByLevel_34 rfl rfl ?_
          refine x_iload_n C 36 dX5_channelByLevel_35 rfl rfl ?_
          refine xc_callV_i C 39 0 0 0 0 9 1 (cC_rankInRow hl (S := (flv g (n 1) (n 2) S)) (c := i) (by omega)) rfl gX5_channelByLevel_X5_rankInRow ⟨rfl, by decide, by decide, rfl⟩ ⟨Nat.le_of_ble_eq_true rfl, Nat.le_of_ble_eq_true rfl⟩ rfl (by decide) (show 0 < 1 by decide) rfl rfl rfl (Nat.le_of_ble_eq_true rfl) ⟨Nat.le_of_ble_eq_true rfl, Nat.le_of_ble_eq_true rfl⟩ dX5_channelByLevel_36 rfl rfl rfl (fun r3 w3 h3 => ?_)
          obtain ⟨rfl, rfl⟩ := h3
          have hrk := rkL_le ((flv g (n 1) (n 2) S) 2 0) i 12 0 0
          refine x_iload_n C 40 dX5_channelByLevel_39 rfl rfl ?_
          refine x_icmp_ne C 45 43 dX5_channelByLevel_40 (by decide) rfl (fun zk40 => ?_) (fun zk40 => ?_)
          · have zk40 := mt (nI_eq (a := (rkL ((flv g (n 1) (n 2) S) 2 0) i 12 0 0)) (b := r) (by omega) (by omega)).mpr zk40
            refine x_iinc (v := nI (i + 1)) C 48 rfl dX5_channelByLevel_45 (iinc1 _) (by decide) rfl rfl ?_
            refine x_goto C 28 dX5_channelByLevel_48 (by decide) ?_
            exact ih (i + 1) _ (by omega) (by rw [hr, cbL]; first | rw [if_pos zk40] | rw [if_neg zk40])
          · have zk40 := (nI_eq (a := (rkL ((flv g (n 1) (n 2) S) 2 0) i 12 0 0)) (b := r) (by omega) (by omega)).mp zk40
            refine x_iload_n C 44 dX5_channelByLevel_43 rfl rfl ?_
            refine x_istore_n C 45 dX5_channelByLevel_44 (by decide) rfl rfl ?_
            refine x_iinc (v := nI (i + 1)) C 48 rfl dX5_channelByLevel_45 (iinc1 _) (by decide) rfl rfl ?_
            refine x_goto C 28 dX5_channelByLevel_48 (by decide) ?_
            exact ih (i + 1) _ (by omega) (by rw [hr, cbL]; first | rw [if_pos zk40] | rw [if_neg zk40])
    exact lp28 12 0 _ rfl rfl
  · exact absurd zk7 (by decide)
theorem fg_X5_energy_42 : gF RX5 wsX5_energy 42 9 8 := ⟨RX5, TX5, 11, "StageConsole", rfl, fun w h => (List.mem_cons_of_mem _ (List.mem_append_right _ h)), by decide, (List.mem_cons_of_mem _ (List.mem_append_left _ (List.mem_of_getElem? (i := 0) rfl))), Or.inl rfl⟩
set_option maxRecDepth 100000 in
set_option maxHeartbeats 4000000 in
theorem cC_energy (hl : l.stackTraces = false)  : Ct (gm D a E0) l yX5_energy wsX5_energy { frames := 4, cells := 0, slots := 0, locals := 100 } [.ref (A 0 0)] (wC a E0 n cap A g en S) (qJ fun v w => v = en ∧ w = wC a E0 n cap A g en S) noX := by
  refine Ct.of [some (.ref (A 0 0))] rfl hl (by decide) (Nat.le_of_ble_eq_true rfl) rfl (fun φ C0 => ?_)
  have C := C0.1
  refine x_aload_n C 1 dX5_energy_0 rfl rfl ?_
  refine xc_get C 4 0 0 (by decide) (show 0 < 1 by decide) rfl fg_X5_energy_42 rfl dX5_energy_1 rfl ?_
  exact x_lret C0 dX5_energy_4 (Nat.le_of_ble_eq_true rfl) (Nat.le_of_ble_eq_true rfl) ⟨_, rfl, ⟨rfl, rfl⟩⟩
theorem fg_X5_litShare_38 : gF RX5 wsX5_litShare 38 9 7 := ⟨RX5, TX5, 11, "StageConsole", rfl, fun w h => (List.mem_cons_of_mem _ (List.mem_append_left _ (List.mem_append_left _ (List.mem_append_left _ (List.mem_append_left _ (List.mem_append_left _ (List.mem_append_left _ (List.mem_append_right _ h)))))))), by decide, (List.mem_cons_of_mem _ (List.mem_append_left _ (List.mem_append_left _ (List.mem_append_left _ (List.mem_append_left _ (List.mem_append_left _ (List.mem_append_left _ (List.mem_append_left _ (List.mem_append_left _ (List.mem_of_getElem? (i := 0) rfl)))))))))), Or.inl rfl⟩
set_option maxRecDepth 100000 in
set_option maxHeartbeats 4000000 in
theorem cC_litShare (hl : l.stackTraces = false) (hN : CN n cap) (hE : CE n g S)  : Ct (gm D a E0) l yX5_litShare wsX5_litShare { frames := 28, cells := 0, slots := 0, locals := 700 } [.ref (A 0 0)] (wC a E0 n cap A g en S) (qF fun v w => v = FP.fdiv (FP.i2f (nI (ltL ((flv g (n 1) (n 2) S) 2 0) 12 0 0))) 1094713344 ∧ w = wC a E0 n cap A g en (flv g (n 1) (n 2) S)) noX := by
  refine Ct.of [some (.ref (A 0 0)), none, none] rfl hl (by decide) (Nat.le_of_ble_eq_true rfl) rfl (fun φ C0 => ?_)
  have C := C0.1
  refine x_aload_n C 1 dX5_litShare_0 rfl rfl ?_
  refine xc_callV_v C 4 0 0 0 0 9 0 (cC_fillLevelRow hl hN hE) rfl gX5_litShare_X5_fillLevelRow ⟨rfl, by decide, by decide, rfl⟩ ⟨Nat.le_of_ble_eq_true rfl, Nat.le_of_ble_eq_true rfl⟩ rfl (by decide) (show 0 < 1 by decide) rfl rfl rfl (Nat.le_of_ble_eq_true rfl) ⟨Nat.le_of_ble_eq_true rfl, Nat.le_of_ble_eq_true rfl⟩ dX5_litShare_1 rfl rfl rfl (fun w1 h1 => ?_)
  subst h1
  refine x_iconst (v := (0)) C 5 dX5_litShare_4 (by decide) rfl ?_
  refine x_istore_n C 6 dX5_litShare_5 (by decide) rfl rfl ?_
  refine x_iconst (v := (0)) C 7 dX5_litShare_6 (by decide) rfl ?_
  refine x_istore_n C 8 dX5_litShare_7 (by decide) rfl rfl ?_
  have lp8 : ∀ (m i k : Nat), i + m = 12 → k ≤ i → ltL ((flv g (n 1) (n 2) S) 2 0) 12 0 0 = ltL ((flv g (n 1) (n 2) S) 2 0) m i k → X φ 8 [some (.ref (A 0 0)), some (.int (nI k)), some (.int (nI i))] [] (wC a E0 n cap A g en (flv g (n 1) (n 2) S)) 0 0 := by
    intro m
    induction m with
    | zero =>
      intro i k hi hk hr
      refine x_iload_n C 9 dX5_litShare_8 rfl rfl ?_
      refine x_bipush (v := (12)) C 11 dX5_litShare_9 (by decide) rfl ?_
      refine x_icmp_ge C 32 14 dX5_litShare_11 (by decide) rfl (fun zk11 => ?_) (fun zk11 => ?_)
      · have zk11 := (nI_leI (a := 12) (b := i) (by omega) (by omega)).mp zk11
        refine x_iload_n C 33 dX5_litShare_32 rfl rfl ?_
        refine x_i2f C 34 dX5_litShare_33 rfl ?_
        refine x_ldcwf C 37 (List.mem_cons_of_mem _ (List.mem_append_left _ (List.mem_append_left _ (List.mem_append_left _ (List.mem_append_left _ (List.mem_append_left _ (List.mem_append_left _ (List.mem_append_left _ (List.mem_append_left _ (List.mem_of_getElem? (i := 1) rfl)))))))))) dX5_litShare_34 rfl ?_
        refine x_fdiv C 38 dX5_litShare_37 (litNN k (by omega)) rfl ?_
        exact x_fret C0 dX5_litShare_38 (Nat.le_of_ble_eq_true rfl) (Nat.le_of_ble_eq_true rfl) ⟨_, rfl, ⟨by rw [hr]; rfl, rfl⟩⟩
      · have zk11 := mt (nI_leI (a := 12) (b := i) (by omega) (by omega)).mpr zk11
        exfalso; omega
    | succ m ih =>
      intro i k hi hk hr
      refine x_iload_n C 9 dX5_litShare_8 rfl rfl ?_
      refine x_bipush (v := (12)) C 11 dX5_litShare_9 (by decide) rfl ?_
      refine x_icmp_ge C 32 14 dX5_litShare_11 (by decide) rfl (fun zk11 => ?_) (fun zk11 => ?_)
      · have zk11 := (nI_leI (a := 12) (b := i) (by omega) (by omega)).mp zk11
        exfalso; omega
      · have zk11 := mt (nI_leI (a := 12) (b := i) (by omega) (by omega)).mpr zk11
        refine x_aload_n C 15 dX5_litShare_14 rfl rfl ?_
        refine xc_get C 18 0 0 (by decide) (show 0 < 1 by decide) rfl fg_X5_litShare_38 rfl dX5_litShare_15 rfl ?_
        refine x_iload_n C 19 dX5_litShare_18 rfl rfl ?_
        refine xc_iald C 20 2 0 i (by decide) (show 0 < 1 by decide) rfl rfl (by omega) dX5_litShare_19 rfl ?_
        refine x_if_le C 26 23 dX5_litShare_20 (by decide) rfl (fun zk20 => ?_) (fun zk20 => ?_)
        · refine x_iinc (v := nI (i + 1)) C 29 rfl dX5_litShare_26 (iinc1 _) (by decide) rfl rfl ?_
          refine x_goto C 8 dX5_litShare_29 (by decide) ?_
          exact ih (i + 1) _ (by omega) (by omega) (by rw [hr, ltL]; first | rw [if_pos zk20] | rw [if_neg zk20])
        · refine x_iinc (v := nI (k + 1)) C 26 rfl dX5_litShare_23 (iinc1 _) (by decide) rfl rfl ?_
          refine x_iinc (v := nI (i + 1)) C 29 rfl dX5_litShare_26 (iinc1 _) (by decide) rfl rfl ?_
          refine x_goto C 8 dX5_litShare_29 (by decide) ?_
          exact ih (i + 1) _ (by omega) (by omega) (by rw [hr, ltL]; first | rw [if_pos zk20] | rw [if_neg zk20])
  exact lp8 12 0 0 rfl (by omega) rfl
theorem fg_X5_meanLevel_25 : gF RX5 wsX5_meanLevel 25 9 3 := ⟨RX5, TX5, 11, "StageConsole", rfl, fun w h => (List.mem_cons_of_mem _ (List.mem_append_left _ (List.mem_append_left _ (List.mem_append_left _ (List.mem_append_left _ (List.mem_append_left _ (List.mem_append_left _ (List.mem_append_left _ (List.mem_append_right _ h))))))))), by decide, (List.mem_cons_of_mem _ (List.mem_append_left _ (List.mem_append_left _ (List.mem_append_left _ (List.mem_append_left _ (List.mem_append_left _ (List.mem_append_left _ (List.mem_append_left _ (List.mem_append_left _ (List.mem_append_left _ (List.mem_of_getElem? (i := 2) rfl))))))))))), Or.inl rfl⟩
theorem fg_X5_meanLevel_239 : gF RX5 wsX5_meanLevel 239 4 8 := ⟨RX0, TX0, 9, "StageConsole$Channel", rfl, fun w h => (List.mem_cons_of_mem _ (List.mem_append_left _ (List.mem_append_left _ (List.mem_append_left _ (List.mem_append_left _ (List.mem_append_left _ (List.mem_append_left _ (List.mem_append_right _ h)))))))), by decide, (List.mem_cons_of_mem _ (List.mem_append_left _ (List.mem_append_left _ (List.mem_append_left _ (List.mem_append_left _ (List.mem_append_left _ (List.mem_append_left _ (List.mem_append_left _ (List.mem_append_left _ (List.mem_append_left _ (List.mem_of_getElem? (i := 3) rfl))))))))))), Or.inl rfl⟩
theorem fg_X5_meanLevel_38 : gF RX5 wsX5_meanLevel 38 9 7 := ⟨RX5, TX5, 11, "StageConsole", rfl, fun w h => (List.mem_cons_of_mem _ (List.mem_append_left _ (List.mem_append_left _ (List.mem_append_left _ (List.mem_append_left _ (List.mem_append_left _ (List.mem_append_left _ (List.mem_append_left _ (List.mem_append_right _ h))))))))), by decide, (List.mem_cons_of_mem _ (List.mem_append_left _ (List.mem_append_left _ (List.mem_append_left _ (List.mem_append_left _ (List.mem_append_left _ (List.mem_append_left _ (List.mem_append_left _ (List.mem_append_left _ (List.mem_append_left _ (List.mem_of_getElem? (i := 4) rfl))))))))))), Or.inl rfl⟩
set_option maxRecDepth 100000 in
set_option maxHeartbeats 4000000 in
theorem cC_meanLevel_1 (hl : l.stackTraces = false) (hN : CN n cap) (hE : CE n g S) (hz : npL (fun i => (flv g (n 1) (n 2) S) 4 i 8) 12 0 0 = 0)  : Ct (gm D a E0) l yX5_meanLevel wsX5_meanLevel { frames := 28, cells := 1, slots := 6, locals := 700 } [.ref (A 0 0)] (wC a E0 n cap A g en S) (qD fun _ _ => False) (fun E w => E = "java/lang/ArithmeticException" ∧ w = wC a E0 n cap A g en (flv g (n 1) (n 2) S)) := by
  refine Ct.of [some (.ref (A 0 0)), none, none, none] rfl hl (by decide) (Nat.le_of_ble_eq_true rfl) rfl (fun φ C0 => ?_)
  have C := C0.1
  refine x_aload_n C 1 dX5_meanLevel_0 rfl rfl ?_
  refine xc_callV_v C 4 0 0 0 0 9 0 (cC_fillLevelRow hl hN hE) rfl gX5_meanLevel_X5_fillLevelRow ⟨rfl, by decide, by decide, rfl⟩ ⟨Nat.le_of_ble_eq_true rfl, Nat.le_of_ble_eq_true rfl⟩ rfl (by decide) (show 0 < 1 by decide) rfl rfl rfl (Nat.le_of_ble_eq_true rfl) ⟨Nat.le_of_ble_eq_true rfl, Nat.le_of_ble_eq_true rfl⟩ dX5_meanLevel_1 rfl rfl rfl (fun w1 h1 => ?_)
  subst h1
  refine x_iconst (v := (0)) C 5 dX5_meanLevel_4 (by decide) rfl ?_
  refine x_istore_n C 6 dX5_meanLevel_5 (by decide) rfl rfl ?_
  refine x_iconst (v := (0)) C 7 dX5_meanLevel_6 (by decide) rfl ?_
  refine x_istore_n C 8 dX5_meanLevel_7 (by decide) rfl rfl ?_
  refine x_iconst (v := (0)) C 9 dX5_meanLevel_8 (by decide) rfl ?_
  refine x_istore_n C 10 dX5_meanLevel_9 (by decide) rfl rfl ?_
  have lp10 : ∀ (m i k : Nat) (u : Int32), i + m = 12 → k ≤ i → npL (fun i => (flv g (n 1) (n 2) S) 4 i 8) 12 0 0 = npL (fun i => (flv g (n 1) (n 2) S) 4 i 8) m i k → spL (fun i => (flv g (n 1) (n 2) S) 4 i 8) ((flv g (n 1) (n 2) S) 2 0) 12 0 0 = spL (fun i => (flv g (n 1) (n 2) S) 4 i 8) ((flv g (n 1) (n 2) S) 2 0) m i u → X φ 10 [some (.ref (A 0 0)), some (.int u), some (.int (nI k)), some (.int (nI i))] [] (wC a E0 n cap A g en (flv g (n 1) (n 2) S)) 0 0 := by
    intro m
    induction m with
    | zero =>
      intro i k u hi hk hr hr2
      refine x_iload_n C 11 dX5_meanLevel_10 rfl rfl ?_
      refine x_bipush (v := (12)) C 13 dX5_meanLevel_11 (by decide) rfl ?_
      refine x_icmp_ge C 47 16 dX5_meanLevel_13 (by decide) rfl (fun zk13 => ?_) (fun zk13 => ?_)
      · have zk13 := (nI_leI (a := 12) (b := i) (by omega) (by omega)).mp zk13
        refine x_iload_n C 48 dX5_meanLevel_47 rfl rfl ?_
        refine x_if_ne C 62 51 dX5_meanLevel_48 (by decide) rfl (fun zk48 => ?_) (fun zk48 => ?_)
        · have zk48 := mt (nI_eq (a := k) (b := 0) (by omega) (by omega)).mpr zk48
          exact absurd (hr.symm.trans hz) zk48
        · have zk48 := (nI_eq (a := k) (b := 0) (by omega) (by omega)).mp zk48
          exact x_throwSW C0 (cls := "java/lang/ArithmeticException") (text := "all channels are parked") (names := ["java/lang/RuntimeException", "java/lang/Exception"]) (List.mem_of_getElem? (i := 21) rfl) (by decide) (by decide) (List.mem_cons_of_mem _ (List.mem_append_left _ (List.mem_append_left _ (List.mem_append_left _ (List.mem_append_left _ (List.mem_append_left _ (List.mem_append_left _ (List.mem_append_left _ (List.mem_append_left _ (List.mem_append_left _ (List.mem_of_getElem? (i := 0) rfl))))))))))) (List.mem_cons_of_mem _ (List.mem_append_left _ (List.mem_append_left _ (List.mem_append_left _ (List.mem_append_left _ (List.mem_append_left _ (List.mem_append_left _ (List.mem_append_left _ (List.mem_append_left _ (List.mem_append_left _ (List.mem_of_getElem? (i := 1) rfl))))))))))) (fun w h => (List.mem_cons_of_mem _ (List.mem_append_left _ (List.mem_append_right _ h)))) (by decide) (by decide +kernel) (by decide +kernel) dX5_meanLevel_51 dX5_meanLevel_54 dX5_meanLevel_55 dX5_meanLevel_58 dX5_meanLevel_61 (Nat.le_of_ble_eq_true rfl) (Nat.le_of_ble_eq_true rfl) (Nat.le_of_ble_eq_true rfl) (Nat.le_of_ble_eq_true rfl) ⟨rfl, rfl⟩   
      · have zk13 := mt (nI_leI (a := 12) (b := i) (by omega) (by omega)).mpr zk13
        exfalso; omega
    | succ m ih =>
      intro i k u hi hk hr hr2
      refine x_iload_n C 11 dX5_meanLevel_10 rfl rfl ?_
      refine x_bipush (v := (12)) C 13 dX5_meanLevel_11 (by decide) rfl ?_
      refine x_icmp_ge C 47 16 dX5_meanLevel_13 (by decide) rfl (fun zk13 => ?_) (fun zk13 => ?_)
      · have zk13 := (nI_leI (a := 12) (b := i) (by omega) (by omega)).mp zk13
        exfalso; omega
      · have zk13 := mt (nI_leI (a := 12) (b := i) (by omega) (by omega)).mpr zk13
        refine x_aload_n C 17 dX5_meanLevel_16 rfl rfl ?_
        refine xc_get C 20 0 0 (by decide) (show 0 < 1 by decide) rfl fg_X5_meanLevel_25 rfl dX5_meanLevel_17 rfl ?_
        refine x_iload_n C 21 dX5_meanLevel_20 rfl rfl ?_
        refine xc_chan C 22 i rfl (by omega) dX5_meanLevel_21 rfl ?_
        refine xc_get C 25 4 i (by decide) (show i < 12 from by omega) rfl fg_X5_meanLevel_239 rfl dX5_meanLevel_22 rfl ?_
        refine x_iconst (v := (-1)) C 26 dX5_meanLevel_25 (by decide) rfl ?_
        refine x_icmp_ne C 41 29 dX5_meanLevel_26 (by decide) rfl (fun zk26 => ?_) (fun zk26 => ?_)
        · refine x_iinc (v := nI (i + 1)) C 44 rfl dX5_meanLevel_41 (iinc1 _) (by decide) rfl rfl ?_
          refine x_goto C 10 dX5_meanLevel_44 (by decide) ?_
          exact ih (i + 1) _ _ (by omega) (by omega) (by rw [hr]; first | exact npL_y zk26 | exact npL_n zk26) (by rw [hr2]; first | (subst es2; exact spL_y zk26) | exact spL_n zk26)
        · refine x_iload_n C 30 dX5_meanLevel_29 rfl rfl ?_
          refine x_aload_n C 31 dX5_meanLevel_30 rfl rfl ?_
          refine xc_get C 34 0 0 (by decide) (show 0 < 1 by decide) rfl fg_X5_meanLevel_38 rfl dX5_meanLevel_31 rfl ?_
          refine x_iload_n C 35 dX5_meanLevel_34 rfl rfl ?_
          refine xc_iald C 36 2 0 i (by decide) (show 0 < 1 by decide) rfl rfl (by omega) dX5_meanLevel_35 rfl ?_
          refine x_iadd C 37 dX5_meanLevel_36 rfl ?_
          refine x_nm (fun s2 es2 => ?_)
          refine x_istore_n C 38 dX5_meanLevel_37 (by decide) rfl rfl ?_
          refine x_iinc (v := nI (k + 1)) C 41 rfl dX5_meanLevel_38 (iinc1 _) (by decide) rfl rfl ?_
          refine x_iinc (v := nI (i + 1)) C 44 rfl dX5_meanLevel_41 (iinc1 _) (by decide) rfl rfl ?_
          refine x_goto C 10 dX5_meanLevel_44 (by decide) ?_
          exact ih (i + 1) _ _ (by omega) (by omega) (by rw [hr]; first | exact npL_y zk26 | exact npL_n zk26) (by rw [hr2]; first | (subst es2; exact spL_y zk26) | exact spL_n zk26)
  exact lp10 12 0 0 _ rfl (by omega) rfl rfl
set_option maxRecDepth 100000 in
set_option maxHeartbeats 4000000 in
theorem cC_meanLevel_0 (hl : l.stackTraces = false) (hN : CN n cap) (hE : CE n g S) (hz : ¬ npL (fun i => (flv g (n 1) (n 2) S) 4 i 8) 12 0 0 = 0) (hNN : vf_n64 (FP.ddiv (FP.i2d (spL (fun i => (flv g (n 1) (n 2) S) 4 i 8) ((flv g (n 1) (n 2) S) 2 0) 12 0 0)) (FP.i2d (nI (npL (fun i => (flv g (n 1) (n 2) S) 4 i 8) 12 0 0)))))  : Ct (gm D a E0) l yX5_meanLevel wsX5_meanLevel { frames := 28, cells := 0, slots := 0, locals := 700 } [.ref (A 0 0)] (wC a E0 n cap A g en S) (qD fun v w => v = FP.ddiv (FP.i2d (spL (fun i => (flv g (n 1) (n 2) S) 4 i 8) ((flv g (n 1) (n 2) S) 2 0) 12 0 0)) (FP.i2d (nI (npL (fun i => (flv g (n 1) (n 2) S) 4 i 8) 12 0 0))) ∧ w = wC a E0 n cap A g en (flv g (n 1) (n 2) S)) noX := by
  refine Ct.of [some (.ref (A 0 0)), none, none, none] rfl hl (by decide) (Nat.le_of_ble_eq_true rfl) rfl (fun φ C0 => ?_)
  have C := C0.1
  refine x_aload_n C 1 dX5_meanLevel_0 rfl rfl ?_
  refine xc_callV_v C 4 0 0 0 0 9 0 (cC_fillLevelRow hl hN hE) rfl gX5_meanLevel_X5_fillLevelRow ⟨rfl, by decide, by decide, rfl⟩ ⟨Nat.le_of_ble_eq_true rfl, Nat.le_of_ble_eq_true rfl⟩ rfl (by decide) (show 0 < 1 by decide) rfl rfl rfl (Nat.le_of_ble_eq_true rfl) ⟨Nat.le_of_ble_eq_true rfl, Nat.le_of_ble_eq_true rfl⟩ dX5_meanLevel_1 rfl rfl rfl (fun w1 h1 => ?_)
  subst h1
  refine x_iconst (v := (0)) C 5 dX5_meanLevel_4 (by decide) rfl ?_
  refine x_istore_n C 6 dX5_meanLevel_5 (by decide) rfl rfl ?_
  refine x_iconst (v := (0)) C 7 dX5_meanLevel_6 (by decide) rfl ?_
  refine x_istore_n C 8 dX5_meanLevel_7 (by decide) rfl rfl ?_
  refine x_iconst (v := (0)) C 9 dX5_meanLevel_8 (by decide) rfl ?_
  refine x_istore_n C 10 dX5_meanLevel_9 (by decide) rfl rfl ?_
  have lp10 : ∀ (m i k : Nat) (u : Int32), i + m = 12 → k ≤ i → npL (fun i => (flv g (n 1) (n 2) S) 4 i 8) 12 0 0 = npL (fun i => (flv g (n 1) (n 2) S) 4 i 8) m i k → spL (fun i => (flv g (n 1) (n 2) S) 4 i 8) ((flv g (n 1) (n 2) S) 2 0) 12 0 0 = spL (fun i => (flv g (n 1) (n 2) S) 4 i 8) ((flv g (n 1) (n 2) S) 2 0) m i u → X φ 10 [some (.ref (A 0 0)), some (.int u), some (.int (nI k)), some (.int (nI i))] [] (wC a E0 n cap A g en (flv g (n 1) (n 2) S)) 0 0 := by
    intro m
    induction m with
    | zero =>
      intro i k u hi hk hr hr2
      refine x_iload_n C 11 dX5_meanLevel_10 rfl rfl ?_
      refine x_bipush (v := (12)) C 13 dX5_meanLevel_11 (by decide) rfl ?_
      refine x_icmp_ge C 47 16 dX5_meanLevel_13 (by decide) rfl (fun zk13 => ?_) (fun zk13 => ?_)
      · have zk13 := (nI_leI (a := 12) (b := i) (by omega) (by omega)).mp zk13
        refine x_iload_n C 48 dX5_meanLevel_47 rfl rfl ?_
        refine x_if_ne C 62 51 dX5_meanLevel_48 (by decide) rfl (fun zk48 => ?_) (fun zk48 => ?_)
        · have zk48 := mt (nI_eq (a := k) (b := 0) (by omega) (by omega)).mpr zk48
          refine x_iload_n C 63 dX5_meanLevel_62 rfl rfl ?_
          refine x_i2d C 64 dX5_meanLevel_63 rfl ?_
          refine x_iload_n C 65 dX5_meanLevel_64 rfl rfl ?_
          refine x_i2d C 66 dX5_meanLevel_65 rfl ?_
          refine x_ddiv C 67 dX5_meanLevel_66 (by rw [hr, hr2] at hNN; exact hNN) rfl ?_
          exact x_dret C0 dX5_meanLevel_67 (Nat.le_of_ble_eq_true rfl) (Nat.le_of_ble_eq_true rfl) ⟨_, rfl, ⟨by rw [hr, hr2]; rfl, rfl⟩⟩
        · have zk48 := (nI_eq (a := k) (b := 0) (by omega) (by omega)).mp zk48
          exact absurd (hr.trans zk48) hz
      · have zk13 := mt (nI_leI (a := 12) (b := i) (by omega) (by omega)).mpr zk13
        exfalso; omega
    | succ m ih =>
      intro i k u hi hk hr hr2
      refine x_iload_n C 11 dX5_meanLevel_10 rfl rfl ?_
      refine x_bipush (v := (12)) C 13 dX5_meanLevel_11 (by decide) rfl ?_
      refine x_icmp_ge C 47 16 dX5_meanLevel_13 (by decide) rfl (fun zk13 => ?_) (fun zk13 => ?_)
      · have zk13 := (nI_leI (a := 12) (b := i) (by omega) (by omega)).mp zk13
        exfalso; omega
      · have zk13 := mt (nI_leI (a := 12) (b := i) (by omega) (by omega)).mpr zk13
        refine x_aload_n C 17 dX5_meanLevel_16 rfl rfl ?_
        refine xc_get C 20 0 0 (by decide) (show 0 < 1 by decide) rfl fg_X5_meanLevel_25 rfl dX5_meanLevel_17 rfl ?_
        refine x_iload_n C 21 dX5_meanLevel_20 rfl rfl ?_
        refine xc_chan C 22 i rfl (by omega) dX5_meanLevel_21 rfl ?_
        refine xc_get C 25 4 i (by decide) (show i < 12 from by omega) rfl fg_X5_meanLevel_239 rfl dX5_meanLevel_22 rfl ?_
        refine x_iconst (v := (-1)) C 26 dX5_meanLevel_25 (by decide) rfl ?_
        refine x_icmp_ne C 41 29 dX5_meanLevel_26 (by decide) rfl (fun zk26 => ?_) (fun zk26 => ?_)
        · refine x_iinc (v := nI (i + 1)) C 44 rfl dX5_meanLevel_41 (iinc1 _) (by decide) rfl rfl ?_
          refine x_goto C 10 dX5_meanLevel_44 (by decide) ?_
          exact ih (i + 1) _ _ (by omega) (by omega) (by rw [hr]; first | exact npL_y zk26 | exact npL_n zk26) (by rw [hr2]; first | (subst es2; exact spL_y zk26) | exact spL_n zk26)
        · refine x_iload_n C 30 dX5_meanLevel_29 rfl rfl ?_
          refine x_aload_n C 31 dX5_meanLevel_30 rfl rfl ?_
          refine xc_get C 34 0 0 (by decide) (show 0 < 1 by decide) rfl fg_X5_meanLevel_38 rfl dX5_meanLevel_31 rfl ?_
          refine x_iload_n C 35 dX5_meanLevel_34 rfl rfl ?_
          refine xc_iald C 36 2 0 i (by decide) (show 0 < 1 by decide) rfl rfl (by omega) dX5_meanLevel_35 rfl ?_
          refine x_iadd C 37 dX5_meanLevel_36 rfl ?_
          refine x_nm (fun s2 es2 => ?_)
          refine x_istore_n C 38 dX5_meanLevel_37 (by decide) rfl rfl ?_
          refine x_iinc (v := nI (k + 1)) C 41 rfl dX5_meanLevel_38 (iinc1 _) (by decide) rfl rfl ?_
          refine x_iinc (v := nI (i + 1)) C 44 rfl dX5_meanLevel_41 (iinc1 _) (by decide) rfl rfl ?_
          refine x_goto C 10 dX5_meanLevel_44 (by decide) ?_
          exact ih (i + 1) _ _ (by omega) (by omega) (by rw [hr]; first | exact npL_y zk26 | exact npL_n zk26) (by rw [hr2]; first | (subst es2; exact spL_y zk26) | exact spL_n zk26)
  exact lp10 12 0 0 _ rfl (by omega) rfl rfl
theorem fg_X5_addStep_46 : gF RX5 wsX5_addStep 46 9 9 := ⟨RX5, TX5, 11, "StageConsole", rfl, fun w h => (List.mem_cons_of_mem _ (List.mem_append_left _ (List.mem_append_left _ (List.mem_append_left _ (List.mem_append_left _ (List.mem_append_right _ h)))))), by decide, (List.mem_cons_of_mem _ (List.mem_append_left _ (List.mem_append_left _ (List.mem_append_left _ (List.mem_append_left _ (List.mem_append_left _ (List.mem_append_left _ (List.mem_of_getElem? (i := 4) rfl)))))))), Or.inl rfl⟩
set_option maxRecDepth 100000 in
set_option maxHeartbeats 4000000 in
theorem cC_addStep_0 (hl : l.stackTraces = false) {s0 s1 s2 : Int32} (hN : CN n cap) (hb : caB s0 = true) (h0 : chK s0) (hn : n 3 < 8) (hcap : n 3 < cap 3 ∨ cap 3 = 0)  : Ct (gm D a E0) l yX5_addStep wsX5_addStep { frames := 28, cells := 2, slots := 25, locals := 700 } [.ref (A 0 0), .int s0, .int s1, .int s2] (wC a E0 n cap A g en S) (qI fun v w => v = nI (n 3 + 1) ∧ ∃ q e c2, CapN (cap 3) (n 3) c2 ∧ w = wC a E0 (updN n 3 (n 3 + 1)) (updN cap 3 c2) (upC (ins1 A 10 (n 3) q) 14 0 e) g en (uS (ins1 S 10 (n 3) (stR s0 s1 s2)) 3 3 0 (S 3 3 0 + 1))) noX := by
  refine Ct.of [some (.ref (A 0 0)), some (.int s0), some (.int s1), some (.int s2)] rfl hl (by decide) (Nat.le_of_ble_eq_true rfl) rfl (fun φ C0 => ?_)
  have C := C0.1
  refine x_iload_n C 1 dX5_addStep_0 rfl rfl ?_
  refine x_callS0_i C 4 0 0 1 (cC_isStepCall hl) rfl gX5_addStep_X5_isStepCall ⟨by decide, by decide, rfl⟩ ⟨Nat.le_of_ble_eq_true rfl, Nat.le_of_ble_eq_true rfl⟩ rfl rfl (Nat.le_of_ble_eq_true rfl) ⟨Nat.le_of_ble_eq_true rfl, Nat.le_of_ble_eq_true rfl⟩ dX5_addStep_1 rfl rfl rfl (fun r1 w1 h1 => ?_)
  obtain ⟨rfl, rfl⟩ := h1
  refine x_top (show _ = (1 : Int32) from (congrArg bI (show caB s0 = true from hb)).trans rfl) ?_
  refine x_if_ne C 18 7 dX5_addStep_4 (by decide) rfl (fun zk4 => ?_) (fun zk4 => ?_)
  · refine x_aload_n C 19 dX5_addStep_18 rfl rfl ?_
    refine xc_get C 22 0 0 (by decide) (show 0 < 1 by decide) rfl fg_X5_addStep_46 rfl dX5_addStep_19 rfl ?_
    refine xc_callV_i C 25 0 0 3 3 3 0 (cC_size hl (j := 3) (by decide)) rfl gX5_addStep_Jx4a65c_size_8abf5 ⟨rfl, by decide, by decide, rfl⟩ ⟨Nat.le_of_ble_eq_true rfl, Nat.le_of_ble_eq_true rfl⟩ rfl (by decide) (show 3 < 4 by decide) rfl rfl rfl (Nat.le_of_ble_eq_true rfl) ⟨Nat.le_of_ble_eq_true rfl, Nat.le_of_ble_eq_true rfl⟩ dX5_addStep_22 rfl rfl rfl (fun r2 w2 h2 => ?_)
    obtain ⟨rfl, rfl⟩ := h2
    refine x_bipush (v := (8)) C 27 dX5_addStep_25 (by decide) rfl ?_
    have h8 := hN.2.2.2.2
    refine x_icmp_lt C 41 30 dX5_addStep_27 (by decide) rfl (fun zk27 => ?_) (fun zk27 => ?_)
    · have zk27 := (nI_ltI (a := (n 3)) (b := 8) (by omega) (by omega)).mp zk27
      refine x_aload_n C 42 dX5_addStep_41 rfl rfl ?_
      refine xc_get C 45 0 0 (by decide) (show 0 < 1 by decide) rfl fg_X5_addStep_46 rfl dX5_addStep_42 rfl ?_
      refine x_new C 48 8 [.int 0, .int 0, .int 0] (fun w h => (List.mem_cons_of_mem _ (List.mem_append_left _ (List.mem_append_left _ (List.mem_append_left _ (List.mem_append_right _ h)))))) tyX4_ok (List.mem_cons_of_mem _ (List.mem_append_left _ (List.mem_append_left _ (List.mem_append_left _ (List.mem_append_left _ (List.mem_append_left _ (List.mem_append_left _ (List.mem_of_getElem? (i := 5) rfl)))))))) (List.mem_cons_of_mem _ (List.mem_append_left _ (List.mem_append_left _ (List.mem_append_left _ (List.mem_append_left _ (List.mem_append_left _ (List.mem_append_left _ (List.mem_of_getElem? (i := 6) rfl)))))))) (List.mem_cons_of_mem _ (List.mem_append_left _ (List.mem_append_left _ (List.mem_append_left _ (List.mem_append_left _ (List.mem_append_left _ (List.mem_append_left _ (List.mem_of_getElem? (i := 7) rfl)))))))) rfl (fun j hj => match j, hj with | 0, _ => rfl | 1, _ => rfl | 2, _ => rfl | z + 3, hz => absurd hz (by omega)) (Nat.le_of_ble_eq_true rfl) (Nat.le_of_ble_eq_true rfl) dX5_addStep_45 rfl (fun q => ?_)
      refine x_dup C 49 dX5_addStep_48 rfl rfl ?_
      refine x_iload_n C 50 dX5_addStep_49 rfl rfl ?_
      refine x_iload_n C 51 dX5_addStep_50 rfl rfl ?_
      refine x_iload_n C 52 dX5_addStep_51 rfl rfl ?_
      refine x_perm (List.perm_append_comm) ?_
      refine x_callI1 C 55 1 3 3 (cC_initSt hl h0) rfl gX5_addStep_X4_init (List.mem_cons_of_mem _ (List.mem_append_left _ (List.mem_append_left _ (List.mem_append_left _ (List.mem_append_left _ (List.mem_append_left _ (List.mem_append_left _ (List.mem_of_getElem? (i := 7) rfl)))))))) (List.mem_cons_of_mem _ (List.mem_append_left _ (List.mem_append_left _ (List.mem_append_left _ (List.mem_append_left _ (List.mem_append_left _ (List.mem_append_left _ (List.mem_of_getElem? (i := 18) rfl)))))))) (List.mem_cons_of_mem _ (List.mem_append_left _ (List.mem_append_left _ (List.mem_append_left _ (List.mem_append_left _ (List.mem_append_left _ (List.mem_append_left _ (List.mem_of_getElem? (i := 19) rfl)))))))) rfl ⟨by decide, by decide, rfl⟩ ⟨Nat.le_of_ble_eq_true rfl, Nat.le_of_ble_eq_true rfl⟩ rfl rfl (Nat.le_of_ble_eq_true rfl) ⟨Nat.le_of_ble_eq_true rfl, Nat.le_of_ble_eq_true rfl⟩ dX5_addStep_52 rfl rfl rfl (fun w h => ?_)
      subst h
      refine x_perm (List.perm_append_comm) ?_
      obtain ⟨q0, fs0, -, hq0⟩ := wC_pos (a := a) (E0 := E0) (n := n) (cap := cap) (A := A) (g := g) (en := en) (S := S) (j := 3) (by decide)
      refine x_callV0_i C 58 2 25 q0 3 1 (cC_add3 hl (hN.1 3 (by decide)).1 (hN.1 3 (by decide)).2 hcap) rfl gX5_addStep_Jx4a65c_add_9ea2d ⟨rfl, by decide, by decide, rfl⟩ ⟨Nat.le_of_ble_eq_true rfl, Nat.le_of_ble_eq_true rfl⟩ rfl (hq0 _) rfl rfl (Nat.le_of_ble_eq_true rfl) ⟨Nat.le_of_ble_eq_true rfl, Nat.le_of_ble_eq_true rfl⟩ dX5_addStep_55 rfl rfl rfl (fun r9 w h => ?_)
      obtain ⟨rfl, e, c2, hcN, rfl⟩ := h
      refine x_pop C 59 dX5_addStep_58 rfl rfl ?_
      refine x_aload_n C 60 dX5_addStep_59 rfl rfl ?_
      refine xc_get C 63 0 0 (by decide) (show 0 < 1 by decide) rfl fg_X5_addStep_46 rfl dX5_addStep_60 rfl ?_
      refine xc_callV_i C 66 2 25 3 3 3 0 (cC_size hl (j := 3) (by decide)) rfl gX5_addStep_Jx4a65c_size_8abf5 ⟨rfl, by decide, by decide, rfl⟩ ⟨Nat.le_of_ble_eq_true rfl, Nat.le_of_ble_eq_true rfl⟩ rfl (by decide) (show 3 < 4 by decide) rfl rfl rfl (Nat.le_of_ble_eq_true rfl) ⟨Nat.le_of_ble_eq_true rfl, Nat.le_of_ble_eq_true rfl⟩ dX5_addStep_63 rfl rfl rfl (fun r3 w3 h3 => ?_)
      obtain ⟨rfl, rfl⟩ := h3
      refine x_top (show _ = nI (n 3 + 1) from by rw [updN_s]) ?_
      exact x_zret C0 dX5_addStep_66 (Nat.le_of_ble_eq_true rfl) (Nat.le_of_ble_eq_true rfl) ⟨_, rfl, ⟨rfl, q, e, c2, hcN, rfl⟩⟩
    · have zk27 := mt (nI_ltI (a := (n 3)) (b := 8) (by omega) (by omega)).mpr zk27
      exfalso; omega
  · exact absurd zk4 (by decide)
set_option maxRecDepth 100000 in
set_option maxHeartbeats 4000000 in
theorem cC_addStep_1 (hl : l.stackTraces = false) {s0 s1 s2 : Int32} (hN : CN n cap) (hb : caB s0 = false)  : Ct (gm D a E0) l yX5_addStep wsX5_addStep { frames := 28, cells := 1, slots := 6, locals := 700 } [.ref (A 0 0), .int s0, .int s1, .int s2] (wC a E0 n cap A g en S) (qI fun _ _ => False) (fun E w => E = "java/lang/IllegalArgumentException" ∧ w = wC a E0 n cap A g en S) := by
  refine Ct.of [some (.ref (A 0 0)), some (.int s0), some (.int s1), some (.int s2)] rfl hl (by decide) (Nat.le_of_ble_eq_true rfl) rfl (fun φ C0 => ?_)
  have C := C0.1
  refine x_iload_n C 1 dX5_addStep_0 rfl rfl ?_
  refine x_callS0_i C 4 0 0 1 (cC_isStepCall hl) rfl gX5_addStep_X5_isStepCall ⟨by decide, by decide, rfl⟩ ⟨Nat.le_of_ble_eq_true rfl, Nat.le_of_ble_eq_true rfl⟩ rfl rfl (Nat.le_of_ble_eq_true rfl) ⟨Nat.le_of_ble_eq_true rfl, Nat.le_of_ble_eq_true rfl⟩ dX5_addStep_1 rfl rfl rfl (fun r1 w1 h1 => ?_)
  obtain ⟨rfl, rfl⟩ := h1
  refine x_top (show _ = (0 : Int32) from (congrArg bI (show caB s0 = false from hb)).trans rfl) ?_
  refine x_if_ne C 18 7 dX5_addStep_4 (by decide) rfl (fun zk4 => ?_) (fun zk4 => ?_)
  · exact absurd zk4 (by decide)
  · exact x_throwSW C0 (cls := "java/lang/IllegalArgumentException") (text := "no such letter") (names := ["java/lang/RuntimeException", "java/lang/Exception"]) (List.mem_of_getElem? (i := 3) rfl) (by decide) (by decide) (List.mem_cons_of_mem _ (List.mem_append_left _ (List.mem_append_left _ (List.mem_append_left _ (List.mem_append_left _ (List.mem_append_left _ (List.mem_append_left _ (List.mem_of_getElem? (i := 0) rfl)))))))) (List.mem_cons_of_mem _ (List.mem_append_left _ (List.mem_append_left _ (List.mem_append_left _ (List.mem_append_left _ (List.mem_append_left _ (List.mem_append_left _ (List.mem_of_getElem? (i := 1) rfl)))))))) (fun w h => (List.mem_cons_of_mem _ (List.mem_append_left _ (List.mem_append_right _ h)))) (by decide) (by decide +kernel) (by decide +kernel) dX5_addStep_7 dX5_addStep_10 dX5_addStep_11 dX5_addStep_14 dX5_addStep_17 (Nat.le_of_ble_eq_true rfl) (Nat.le_of_ble_eq_true rfl) (Nat.le_of_ble_eq_true rfl) (Nat.le_of_ble_eq_true rfl) ⟨rfl, rfl⟩   
set_option maxRecDepth 100000 in
set_option maxHeartbeats 4000000 in
theorem cC_addStep_2 (hl : l.stackTraces = false) {s0 s1 s2 : Int32} (hN : CN n cap) (hb : caB s0 = true) (hn : ¬ n 3 < 8)  : Ct (gm D a E0) l yX5_addStep wsX5_addStep { frames := 28, cells := 1, slots := 6, locals := 700 } [.ref (A 0 0), .int s0, .int s1, .int s2] (wC a E0 n cap A g en S) (qI fun _ _ => False) (fun E w => E = "java/lang/IllegalStateException" ∧ w = wC a E0 n cap A g en S) := by
  refine Ct.of [some (.ref (A 0 0)), some (.int s0), some (.int s1), some (.int s2)] rfl hl (by decide) (Nat.le_of_ble_eq_true rfl) rfl (fun φ C0 => ?_)
  have C := C0.1
  refine x_iload_n C 1 dX5_addStep_0 rfl rfl ?_
  refine x_callS0_i C 4 0 0 1 (cC_isStepCall hl) rfl gX5_addStep_X5_isStepCall ⟨by decide, by decide, rfl⟩ ⟨Nat.le_of_ble_eq_true rfl, Nat.le_of_ble_eq_true rfl⟩ rfl rfl (Nat.le_of_ble_eq_true rfl) ⟨Nat.le_of_ble_eq_true rfl, Nat.le_of_ble_eq_true rfl⟩ dX5_addStep_1 rfl rfl rfl (fun r1 w1 h1 => ?_)
  obtain ⟨rfl, rfl⟩ := h1
  refine x_top (show _ = (1 : Int32) from (congrArg bI (show caB s0 = true from hb)).trans rfl) ?_
  refine x_if_ne C 18 7 dX5_addStep_4 (by decide) rfl (fun zk4 => ?_) (fun zk4 => ?_)
  · refine x_aload_n C 19 dX5_addStep_18 rfl rfl ?_
    refine xc_get C 22 0 0 (by decide) (show 0 < 1 by decide) rfl fg_X5_addStep_46 rfl dX5_addStep_19 rfl ?_
    refine xc_callV_i C 25 0 0 3 3 3 0 (cC_size hl (j := 3) (by decide)) rfl gX5_addStep_Jx4a65c_size_8abf5 ⟨rfl, by decide, by decide, rfl⟩ ⟨Nat.le_of_ble_eq_true rfl, Nat.le_of_ble_eq_true rfl⟩ rfl (by decide) (show 3 < 4 by decide) rfl rfl rfl (Nat.le_of_ble_eq_true rfl) ⟨Nat.le_of_ble_eq_true rfl, Nat.le_of_ble_eq_true rfl⟩ dX5_addStep_22 rfl rfl rfl (fun r2 w2 h2 => ?_)
    obtain ⟨rfl, rfl⟩ := h2
    refine x_bipush (v := (8)) C 27 dX5_addStep_25 (by decide) rfl ?_
    have h8 := hN.2.2.2.2
    refine x_icmp_lt C 41 30 dX5_addStep_27 (by decide) rfl (fun zk27 => ?_) (fun zk27 => ?_)
    · have zk27 := (nI_ltI (a := (n 3)) (b := 8) (by omega) (by omega)).mp zk27
      exfalso; omega
    · have zk27 := mt (nI_ltI (a := (n 3)) (b := 8) (by omega) (by omega)).mpr zk27
      exact x_throwSW C0 (cls := "java/lang/IllegalStateException") (text := "no room for another step") (names := ["java/lang/RuntimeException", "java/lang/Exception"]) (List.mem_of_getElem? (i := 17) rfl) (by decide) (by decide) (List.mem_cons_of_mem _ (List.mem_append_left _ (List.mem_append_left _ (List.mem_append_left _ (List.mem_append_left _ (List.mem_append_left _ (List.mem_append_left _ (List.mem_of_getElem? (i := 2) rfl)))))))) (List.mem_cons_of_mem _ (List.mem_append_left _ (List.mem_append_left _ (List.mem_append_left _ (List.mem_append_left _ (List.mem_append_left _ (List.mem_append_left _ (List.mem_of_getElem? (i := 3) rfl)))))))) (fun w h => (List.mem_cons_of_mem _ (List.mem_append_right _ h))) (by decide) (by decide +kernel) (by decide +kernel) dX5_addStep_30 dX5_addStep_33 dX5_addStep_34 dX5_addStep_37 dX5_addStep_40 (Nat.le_of_ble_eq_true rfl) (Nat.le_of_ble_eq_true rfl) (Nat.le_of_ble_eq_true rfl) (Nat.le_of_ble_eq_true rfl) ⟨rfl, rfl⟩   
  · exact absurd zk4 (by decide)
end CC
