section CC
variable {l : Launch} {Γ : Gm} {D : va_G} {a : Nat → ClassId} {E0 : Nat} {n cap : Nat → Nat} {A : Nat → Nat → Nat} {g : Nat → Nat} {en : Int64} {S : Nat → Nat → Nat → Int32}
set_option maxRecDepth 100000 in
set_option maxHeartbeats 4000000 in
theorem cC_latestSource_1 (hl : l.stackTraces = false) {z : Int32} (hc : chB z = false)  : Ct (gm D a E0) l yX5_latestSource wsX5_latestSource { frames := 16, cells := 1, slots := 6, locals := 400 } [.ref (A 0 0), .int z] (wC a E0 n cap A g en S) (qI fun _ _ => False) (fun E w => E = "java/lang/IndexOutOfBoundsException" ∧ w = wC a E0 n cap A g en S) := by
  refine Ct.of [some (.ref (A 0 0)), some (.int z), none] rfl hl (by decide) (Nat.le_of_ble_eq_true rfl) rfl (fun φ C0 => ?_)
  have C := C0.1
  refine x_iload_n C 1 dX5_latestSource_0 rfl rfl ?_
  exact x_callSx0_v C0 4 1 6 1 (cC_requireChannel_1 hl hc) rfl gX5_latestSource_X5_requireChannel ⟨by decide, by decide, rfl⟩ ⟨Nat.le_of_ble_eq_true rfl, Nat.le_of_ble_eq_true rfl⟩ rfl rfl (Nat.le_of_ble_eq_true rfl) ⟨Nat.le_of_ble_eq_true rfl, Nat.le_of_ble_eq_true rfl⟩ dX5_latestSource_1 rfl rfl rfl (fun _ h => h.elim) (fun E w h => h)
set_option maxRecDepth 100000 in
set_option maxHeartbeats 4000000 in
theorem cC_latestSource_2 (hl : l.stackTraces = false) {c : Nat} (hc : c < 12) (hv : S 4 c 7 = -2)  : Ct (gm D a E0) l yX5_latestSource wsX5_latestSource { frames := 16, cells := 1, slots := 6, locals := 400 } [.ref (A 0 0), .int (nI c)] (wC a E0 n cap A g en S) (qI fun _ _ => False) (fun E w => E = "java/util/NoSuchElementException" ∧ w = wC a E0 n cap A g en S) := by
  refine Ct.of [some (.ref (A 0 0)), some (.int (nI c)), none] rfl hl (by decide) (Nat.le_of_ble_eq_true rfl) rfl (fun φ C0 => ?_)
  have C := C0.1
  refine x_iload_n C 1 dX5_latestSource_0 rfl rfl ?_
  refine x_callS0_v C 4 0 0 1 (cC_requireChannel_0 hl (chB_nI hc)) rfl gX5_latestSource_X5_requireChannel ⟨by decide, by decide, rfl⟩ ⟨Nat.le_of_ble_eq_true rfl, Nat.le_of_ble_eq_true rfl⟩ rfl rfl (Nat.le_of_ble_eq_true rfl) ⟨Nat.le_of_ble_eq_true rfl, Nat.le_of_ble_eq_true rfl⟩ dX5_latestSource_1 rfl rfl rfl (fun w1 h1 => ?_)
  subst h1
  refine x_aload_n C 5 dX5_latestSource_4 rfl rfl ?_
  refine xc_get C 8 0 0 (by decide) (show 0 < 1 by decide) rfl fg_X5_latestSource_25 rfl dX5_latestSource_5 rfl ?_
  refine x_iload_n C 9 dX5_latestSource_8 rfl rfl ?_
  refine xc_chan C 10 c rfl (by omega) dX5_latestSource_9 rfl ?_
  refine xc_get C 13 4 c (by decide) (show c < 12 from by omega) rfl fg_X5_latestSource_196 rfl dX5_latestSource_10 rfl ?_
  refine x_nm (fun sv esv => ?_)
  refine x_istore_n C 14 dX5_latestSource_13 (by decide) rfl rfl ?_
  refine x_iload_n C 15 dX5_latestSource_14 rfl rfl ?_
  refine x_bipush (v := (-2)) C 17 dX5_latestSource_15 (by decide) rfl ?_
  refine x_icmp_ne C 30 20 dX5_latestSource_17 (by decide) rfl (fun zk17 => ?_) (fun zk17 => ?_)
  · exact absurd (esv.trans hv) zk17
  · exact x_throwS C0 (cls := "java/util/NoSuchElementException") (text := "no source was the latest one yet") (names := ["java/lang/RuntimeException", "java/lang/Exception"]) (List.mem_of_getElem? (i := 13) rfl) (by decide) (by decide) (List.mem_cons_of_mem _ (List.mem_append_left _ (List.mem_append_left _ (List.mem_append_left _ (List.mem_append_left _ (List.mem_of_getElem? (i := 0) rfl)))))) (List.mem_cons_of_mem _ (List.mem_append_left _ (List.mem_append_left _ (List.mem_append_left _ (List.mem_append_left _ (List.mem_of_getElem? (i := 1) rfl)))))) (fun w h => (List.mem_cons_of_mem _ (List.mem_append_left _ (List.mem_append_right _ h)))) (by decide) (by decide +kernel) (by decide +kernel) dX5_latestSource_20 dX5_latestSource_23 dX5_latestSource_24 dX5_latestSource_26 dX5_latestSource_29 (Nat.le_of_ble_eq_true rfl) (Nat.le_of_ble_eq_true rfl) (Nat.le_of_ble_eq_true rfl) (Nat.le_of_ble_eq_true rfl) ⟨rfl, rfl⟩   
set_option maxRecDepth 100000 in
set_option maxHeartbeats 4000000 in
theorem cC_baseLevel_0 (hl : l.stackTraces = false) (hN : CN n cap) {c : Nat} (hc : c < 12)  : Ct (gm D a E0) l yX5_baseLevel wsX5_baseLevel { frames := 24, cells := 0, slots := 0, locals := 600 } [.ref (A 0 0), .int (nI c)] (wC a E0 n cap A g en S) (qI fun v w => v = bsC S (n 1) c ∧ w = wC a E0 n cap A g en S) noX := by
  refine Ct.of [some (.ref (A 0 0)), some (.int (nI c))] rfl hl (by decide) (Nat.le_of_ble_eq_true rfl) rfl (fun φ C0 => ?_)
  have C := C0.1
  refine x_iload_n C 1 dX5_baseLevel_0 rfl rfl ?_
  refine x_callS0_v C 4 0 0 1 (cC_requireChannel_0 hl (chB_nI hc)) rfl gX5_baseLevel_X5_requireChannel ⟨by decide, by decide, rfl⟩ ⟨Nat.le_of_ble_eq_true rfl, Nat.le_of_ble_eq_true rfl⟩ rfl rfl (Nat.le_of_ble_eq_true rfl) ⟨Nat.le_of_ble_eq_true rfl, Nat.le_of_ble_eq_true rfl⟩ dX5_baseLevel_1 rfl rfl rfl (fun w1 h1 => ?_)
  subst h1
  refine x_aload_n C 5 dX5_baseLevel_4 rfl rfl ?_
  refine x_iload_n C 6 dX5_baseLevel_5 rfl rfl ?_
  refine xc_callV_i C 9 0 0 0 0 9 1 (cC_baseOf hl hc hN) rfl gX5_baseLevel_X5_baseOf ⟨rfl, by decide, by decide, rfl⟩ ⟨Nat.le_of_ble_eq_true rfl, Nat.le_of_ble_eq_true rfl⟩ rfl (by decide) (show 0 < 1 by decide) rfl rfl rfl (Nat.le_of_ble_eq_true rfl) ⟨Nat.le_of_ble_eq_true rfl, Nat.le_of_ble_eq_true rfl⟩ dX5_baseLevel_6 rfl rfl rfl (fun r2 w2 h2 => ?_)
  obtain ⟨rfl, rfl⟩ := h2
  exact x_zret C0 dX5_baseLevel_9 (Nat.le_of_ble_eq_true rfl) (Nat.le_of_ble_eq_true rfl) ⟨_, rfl, ⟨rfl, rfl⟩⟩
set_option maxRecDepth 100000 in
set_option maxHeartbeats 4000000 in
theorem cC_baseLevel_1 (hl : l.stackTraces = false) {z : Int32} (hc : chB z = false)  : Ct (gm D a E0) l yX5_baseLevel wsX5_baseLevel { frames := 16, cells := 1, slots := 6, locals := 400 } [.ref (A 0 0), .int z] (wC a E0 n cap A g en S) (qI fun _ _ => False) (fun E w => E = "java/lang/IndexOutOfBoundsException" ∧ w = wC a E0 n cap A g en S) := by
  refine Ct.of [some (.ref (A 0 0)), some (.int z)] rfl hl (by decide) (Nat.le_of_ble_eq_true rfl) rfl (fun φ C0 => ?_)
  have C := C0.1
  refine x_iload_n C 1 dX5_baseLevel_0 rfl rfl ?_
  exact x_callSx0_v C0 4 1 6 1 (cC_requireChannel_1 hl hc) rfl gX5_baseLevel_X5_requireChannel ⟨by decide, by decide, rfl⟩ ⟨Nat.le_of_ble_eq_true rfl, Nat.le_of_ble_eq_true rfl⟩ rfl rfl (Nat.le_of_ble_eq_true rfl) ⟨Nat.le_of_ble_eq_true rfl, Nat.le_of_ble_eq_true rfl⟩ dX5_baseLevel_1 rfl rfl rfl (fun _ h => h.elim) (fun E w h => h)
set_option maxRecDepth 100000 in
set_option maxHeartbeats 4000000 in
theorem cC_addEffect_1 (hl : l.stackTraces = false) {z : Int32} {s0 s1 s2 s3 : Int32} (hN : CN n cap) (hx : upB (n 1) z = false)  : Ct (gm D a E0) l yX5_addEffect wsX5_addEffect { frames := 28, cells := 1, slots := 6, locals := 700 } [.ref (A 0 0), .int z, .int s0, .int s1, .int s2, .int s3] (wC a E0 n cap A g en S) (qI fun _ _ => False) (fun E w => E = "java/lang/IndexOutOfBoundsException" ∧ w = wC a E0 n cap A g en S) := by
  refine Ct.of [some (.ref (A 0 0)), some (.int z), some (.int s0), some (.int s1), some (.int s2), some (.int s3)] rfl hl (by decide) (Nat.le_of_ble_eq_true rfl) rfl (fun φ C0 => ?_)
  have C := C0.1
  refine x_aload_n C 1 dX5_addEffect_0 rfl rfl ?_
  refine x_iload_n C 2 dX5_addEffect_1 rfl rfl ?_
  exact xc_callVx_v C0 5 1 6 0 0 9 1 (cC_requireGroup_1 hl hx) rfl gX5_addEffect_X5_requireGroup ⟨rfl, by decide, by decide, rfl⟩ ⟨Nat.le_of_ble_eq_true rfl, Nat.le_of_ble_eq_true rfl⟩ rfl (by decide) (show 0 < 1 by decide) rfl rfl rfl (Nat.le_of_ble_eq_true rfl) ⟨Nat.le_of_ble_eq_true rfl, Nat.le_of_ble_eq_true rfl⟩ dX5_addEffect_2 rfl rfl rfl (fun _ h => h.elim) (fun E w h => h)
set_option maxRecDepth 100000 in
set_option maxHeartbeats 4000000 in
theorem cC_addEffect_2 (hl : l.stackTraces = false) {s0 s1 s2 s3 : Int32} (hN : CN n cap) {G : Nat} (hG : G < n 1) (hb : effB s0 s1 s2 s3 = false)  : Ct (gm D a E0) l yX5_addEffect wsX5_addEffect { frames := 28, cells := 1, slots := 6, locals := 700 } [.ref (A 0 0), .int (nI G), .int s0, .int s1, .int s2, .int s3] (wC a E0 n cap A g en S) (qI fun _ _ => False) (fun E w => E = "java/lang/IllegalArgumentException" ∧ w = wC a E0 n cap A g en S) := by
  refine Ct.of [some (.ref (A 0 0)), some (.int (nI G)), some (.int s0), some (.int s1), some (.int s2), some (.int s3)] rfl hl (by decide) (Nat.le_of_ble_eq_true rfl) rfl (fun φ C0 => ?_)
  have C := C0.1
  refine x_aload_n C 1 dX5_addEffect_0 rfl rfl ?_
  refine x_iload_n C 2 dX5_addEffect_1 rfl rfl ?_
  refine xc_callV_v C 5 0 0 0 0 9 1 (cC_requireGroup_0 hl (upB_nI (by have := hN.2.2.1; omega) hG)) rfl gX5_addEffect_X5_requireGroup ⟨rfl, by decide, by decide, rfl⟩ ⟨Nat.le_of_ble_eq_true rfl, Nat.le_of_ble_eq_true rfl⟩ rfl (by decide) (show 0 < 1 by decide) rfl rfl rfl (Nat.le_of_ble_eq_true rfl) ⟨Nat.le_of_ble_eq_true rfl, Nat.le_of_ble_eq_true rfl⟩ dX5_addEffect_2 rfl rfl rfl (fun w1 h1 => ?_)
  subst h1
  refine x_iload_n C 6 dX5_addEffect_5 rfl rfl ?_
  refine x_callS0_i C 9 0 0 1 (cC_isShape hl) rfl gX5_addEffect_X5_isShape ⟨by decide, by decide, rfl⟩ ⟨Nat.le_of_ble_eq_true rfl, Nat.le_of_ble_eq_true rfl⟩ rfl rfl (Nat.le_of_ble_eq_true rfl) ⟨Nat.le_of_ble_eq_true rfl, Nat.le_of_ble_eq_true rfl⟩ dX5_addEffect_6 rfl rfl rfl (fun r2 w2 h2 => ?_)
  obtain ⟨rfl, rfl⟩ := h2
  refine x_top (show _ = bI (shB s0) from rfl) ?_
  refine x_if_eq C 45 12 dX5_addEffect_9 (by decide) rfl (fun zk9 => ?_) (fun zk9 => ?_)
  · have zk9 := bI_eq0.mp zk9
    exact x_throwS C0 (cls := "java/lang/IllegalArgumentException") (text := "shape, period, size or spread of an effect") (names := ["java/lang/RuntimeException", "java/lang/Exception"]) (List.mem_of_getElem? (i := 19) rfl) (by decide) (by decide) (List.mem_cons_of_mem _ (List.mem_append_left _ (List.mem_append_left _ (List.mem_append_left _ (List.mem_append_left _ (List.mem_append_left _ (List.mem_append_left _ (List.mem_append_left _ (List.mem_of_getElem? (i := 0) rfl))))))))) (List.mem_cons_of_mem _ (List.mem_append_left _ (List.mem_append_left _ (List.mem_append_left _ (List.mem_append_left _ (List.mem_append_left _ (List.mem_append_left _ (List.mem_append_left _ (List.mem_of_getElem? (i := 1) rfl))))))))) (fun w h => (List.mem_cons_of_mem _ (List.mem_append_left _ (List.mem_append_left _ (List.mem_append_right _ h))))) (by decide) (by decide +kernel) (by decide +kernel) dX5_addEffect_45 dX5_addEffect_48 dX5_addEffect_49 dX5_addEffect_51 dX5_addEffect_54 (Nat.le_of_ble_eq_true rfl) (Nat.le_of_ble_eq_true rfl) (Nat.le_of_ble_eq_true rfl) (Nat.le_of_ble_eq_true rfl) ⟨rfl, rfl⟩   
  · have zk9 := bI_ne0.mp zk9
    refine x_iload_n C 13 dX5_addEffect_12 rfl rfl ?_
    refine x_iconst (v := (2)) C 14 dX5_addEffect_13 (by decide) rfl ?_
    refine x_bipush (v := (40)) C 16 dX5_addEffect_14 (by decide) rfl ?_
    refine x_callS0_i C 19 0 0 3 (cC_isWithin hl) rfl gX5_addEffect_X5_isWithin ⟨by decide, by decide, rfl⟩ ⟨Nat.le_of_ble_eq_true rfl, Nat.le_of_ble_eq_true rfl⟩ rfl rfl (Nat.le_of_ble_eq_true rfl) ⟨Nat.le_of_ble_eq_true rfl, Nat.le_of_ble_eq_true rfl⟩ dX5_addEffect_16 rfl rfl rfl (fun r3 w3 h3 => ?_)
    obtain ⟨rfl, rfl⟩ := h3
    refine x_top (show _ = bI (inB s1.toInt64 2 40) from rfl) ?_
    refine x_if_eq C 45 22 dX5_addEffect_19 (by decide) rfl (fun zk19 => ?_) (fun zk19 => ?_)
    · have zk19 := bI_eq0.mp zk19
      exact x_throwS C0 (cls := "java/lang/IllegalArgumentException") (text := "shape, period, size or spread of an effect") (names := ["java/lang/RuntimeException", "java/lang/Exception"]) (List.mem_of_getElem? (i := 19) rfl) (by decide) (by decide) (List.mem_cons_of_mem _ (List.mem_append_left _ (List.mem_append_left _ (List.mem_append_left _ (List.mem_append_left _ (List.mem_append_left _ (List.mem_append_left _ (List.mem_append_left _ (List.mem_of_getElem? (i := 0) rfl))))))))) (List.mem_cons_of_mem _ (List.mem_append_left _ (List.mem_append_left _ (List.mem_append_left _ (List.mem_append_left _ (List.mem_append_left _ (List.mem_append_left _ (List.mem_append_left _ (List.mem_of_getElem? (i := 1) rfl))))))))) (fun w h => (List.mem_cons_of_mem _ (List.mem_append_left _ (List.mem_append_left _ (List.mem_append_right _ h))))) (by decide) (by decide +kernel) (by decide +kernel) dX5_addEffect_45 dX5_addEffect_48 dX5_addEffect_49 dX5_addEffect_51 dX5_addEffect_54 (Nat.le_of_ble_eq_true rfl) (Nat.le_of_ble_eq_true rfl) (Nat.le_of_ble_eq_true rfl) (Nat.le_of_ble_eq_true rfl) ⟨rfl, rfl⟩   
    · have zk19 := bI_ne0.mp zk19
      refine x_iload C 24 dX5_addEffect_22 rfl rfl ?_
      refine x_iconst (v := (1)) C 25 dX5_addEffect_24 (by decide) rfl ?_
      refine x_sipush (v := (255)) C 28 dX5_addEffect_25 (by decide) rfl ?_
      refine x_callS0_i C 31 0 0 3 (cC_isWithin hl) rfl gX5_addEffect_X5_isWithin ⟨by decide, by decide, rfl⟩ ⟨Nat.le_of_ble_eq_true rfl, Nat.le_of_ble_eq_true rfl⟩ rfl rfl (Nat.le_of_ble_eq_true rfl) ⟨Nat.le_of_ble_eq_true rfl, Nat.le_of_ble_eq_true rfl⟩ dX5_addEffect_28 rfl rfl rfl (fun r4 w4 h4 => ?_)
      obtain ⟨rfl, rfl⟩ := h4
      refine x_top (show _ = bI (inB s2.toInt64 1 255) from rfl) ?_
      refine x_if_eq C 45 34 dX5_addEffect_31 (by decide) rfl (fun zk31 => ?_) (fun zk31 => ?_)
      · have zk31 := bI_eq0.mp zk31
        exact x_throwS C0 (cls := "java/lang/IllegalArgumentException") (text := "shape, period, size or spread of an effect") (names := ["java/lang/RuntimeException", "java/lang/Exception"]) (List.mem_of_getElem? (i := 19) rfl) (by decide) (by decide) (List.mem_cons_of_mem _ (List.mem_append_left _ (List.mem_append_left _ (List.mem_append_left _ (List.mem_append_left _ (List.mem_append_left _ (List.mem_append_left _ (List.mem_append_left _ (List.mem_of_getElem? (i := 0) rfl))))))))) (List.mem_cons_of_mem _ (List.mem_append_left _ (List.mem_append_left _ (List.mem_append_left _ (List.mem_append_left _ (List.mem_append_left _ (List.mem_append_left _ (List.mem_append_left _ (List.mem_of_getElem? (i := 1) rfl))))))))) (fun w h => (List.mem_cons_of_mem _ (List.mem_append_left _ (List.mem_append_left _ (List.mem_append_right _ h))))) (by decide) (by decide +kernel) (by decide +kernel) dX5_addEffect_45 dX5_addEffect_48 dX5_addEffect_49 dX5_addEffect_51 dX5_addEffect_54 (Nat.le_of_ble_eq_true rfl) (Nat.le_of_ble_eq_true rfl) (Nat.le_of_ble_eq_true rfl) (Nat.le_of_ble_eq_true rfl) ⟨rfl, rfl⟩   
      · have zk31 := bI_ne0.mp zk31
        refine x_iload C 36 dX5_addEffect_34 rfl rfl ?_
        refine x_iconst (v := (0)) C 37 dX5_addEffect_36 (by decide) rfl ?_
        refine x_bipush (v := (39)) C 39 dX5_addEffect_37 (by decide) rfl ?_
        refine x_callS0_i C 42 0 0 3 (cC_isWithin hl) rfl gX5_addEffect_X5_isWithin ⟨by decide, by decide, rfl⟩ ⟨Nat.le_of_ble_eq_true rfl, Nat.le_of_ble_eq_true rfl⟩ rfl rfl (Nat.le_of_ble_eq_true rfl) ⟨Nat.le_of_ble_eq_true rfl, Nat.le_of_ble_eq_true rfl⟩ dX5_addEffect_39 rfl rfl rfl (fun r5 w5 h5 => ?_)
        obtain ⟨rfl, rfl⟩ := h5
        refine x_top (show _ = bI (inB s3.toInt64 0 39) from rfl) ?_
        refine x_if_ne C 55 45 dX5_addEffect_42 (by decide) rfl (fun zk42 => ?_) (fun zk42 => ?_)
        · have zk42 := bI_ne0.mp zk42
          rw [effB, zk9, zk19, zk31, zk42] at hb; cases hb
        · have zk42 := bI_eq0.mp zk42
          exact x_throwS C0 (cls := "java/lang/IllegalArgumentException") (text := "shape, period, size or spread of an effect") (names := ["java/lang/RuntimeException", "java/lang/Exception"]) (List.mem_of_getElem? (i := 19) rfl) (by decide) (by decide) (List.mem_cons_of_mem _ (List.mem_append_left _ (List.mem_append_left _ (List.mem_append_left _ (List.mem_append_left _ (List.mem_append_left _ (List.mem_append_left _ (List.mem_append_left _ (List.mem_of_getElem? (i := 0) rfl))))))))) (List.mem_cons_of_mem _ (List.mem_append_left _ (List.mem_append_left _ (List.mem_append_left _ (List.mem_append_left _ (List.mem_append_left _ (List.mem_append_left _ (List.mem_append_left _ (List.mem_of_getElem? (i := 1) rfl))))))))) (fun w h => (List.mem_cons_of_mem _ (List.mem_append_left _ (List.mem_append_left _ (List.mem_append_right _ h))))) (by decide) (by decide +kernel) (by decide +kernel) dX5_addEffect_45 dX5_addEffect_48 dX5_addEffect_49 dX5_addEffect_51 dX5_addEffect_54 (Nat.le_of_ble_eq_true rfl) (Nat.le_of_ble_eq_true rfl) (Nat.le_of_ble_eq_true rfl) (Nat.le_of_ble_eq_true rfl) ⟨rfl, rfl⟩   
set_option maxRecDepth 100000 in
set_option maxHeartbeats 4000000 in
theorem cC_addEffect_3 (hl : l.stackTraces = false) {s0 s1 s2 s3 : Int32} (hN : CN n cap) {G : Nat} (hG : G < n 1) (hb : effB s0 s1 s2 s3 = true) (hn : ¬ n 2 < 4)  : Ct (gm D a E0) l yX5_addEffect wsX5_addEffect { frames := 28, cells := 1, slots := 6, locals := 700 } [.ref (A 0 0), .int (nI G), .int s0, .int s1, .int s2, .int s3] (wC a E0 n cap A g en S) (qI fun _ _ => False) (fun E w => E = "java/lang/IllegalStateException" ∧ w = wC a E0 n cap A g en S) := by
  refine Ct.of [some (.ref (A 0 0)), some (.int (nI G)), some (.int s0), some (.int s1), some (.int s2), some (.int s3)] rfl hl (by decide) (Nat.le_of_ble_eq_true rfl) rfl (fun φ C0 => ?_)
  have C := C0.1
  refine x_aload_n C 1 dX5_addEffect_0 rfl rfl ?_
  refine x_iload_n C 2 dX5_addEffect_1 rfl rfl ?_
  refine xc_callV_v C 5 0 0 0 0 9 1 (cC_requireGroup_0 hl (upB_nI (by have := hN.2.2.1; omega) hG)) rfl gX5_addEffect_X5_requireGroup ⟨rfl, by decide, by decide, rfl⟩ ⟨Nat.le_of_ble_eq_true rfl, Nat.le_of_ble_eq_true rfl⟩ rfl (by decide) (show 0 < 1 by decide) rfl rfl rfl (Nat.le_of_ble_eq_true rfl) ⟨Nat.le_of_ble_eq_true rfl, Nat.le_of_ble_eq_true rfl⟩ dX5_addEffect_2 rfl rfl rfl (fun w1 h1 => ?_)
  subst h1
  refine x_iload_n C 6 dX5_addEffect_5 rfl rfl ?_
  refine x_callS0_i C 9 0 0 1 (cC_isShape hl) rfl gX5_addEffect_X5_isShape ⟨by decide, by decide, rfl⟩ ⟨Nat.le_of_ble_eq_true rfl, Nat.le_of_ble_eq_true rfl⟩ rfl rfl (Nat.le_of_ble_eq_true rfl) ⟨Nat.le_of_ble_eq_true rfl, Nat.le_of_ble_eq_true rfl⟩ dX5_addEffect_6 rfl rfl rfl (fun r2 w2 h2 => ?_)
  obtain ⟨rfl, rfl⟩ := h2
  refine x_top (show _ = (1 : Int32) from (congrArg bI (show shB s0 = true from (effB_t hb).1)).trans rfl) ?_
  refine x_if_eq C 45 12 dX5_addEffect_9 (by decide) rfl (fun zk9 => ?_) (fun zk9 => ?_)
  · exact absurd zk9 (by decide)
  · refine x_iload_n C 13 dX5_addEffect_12 rfl rfl ?_
    refine x_iconst (v := (2)) C 14 dX5_addEffect_13 (by decide) rfl ?_
    refine x_bipush (v := (40)) C 16 dX5_addEffect_14 (by decide) rfl ?_
    refine x_callS0_i C 19 0 0 3 (cC_isWithin hl) rfl gX5_addEffect_X5_isWithin ⟨by decide, by decide, rfl⟩ ⟨Nat.le_of_ble_eq_true rfl, Nat.le_of_ble_eq_true rfl⟩ rfl rfl (Nat.le_of_ble_eq_true rfl) ⟨Nat.le_of_ble_eq_true rfl, Nat.le_of_ble_eq_true rfl⟩ dX5_addEffect_16 rfl rfl rfl (fun r3 w3 h3 => ?_)
    obtain ⟨rfl, rfl⟩ := h3
    refine x_top (show _ = (1 : Int32) from (congrArg bI (show inB s1.toInt64 2 40 = true from (effB_t hb).2.1)).trans rfl) ?_
    refine x_if_eq C 45 22 dX5_addEffect_19 (by decide) rfl (fun zk19 => ?_) (fun zk19 => ?_)
    · exact absurd zk19 (by decide)
    · refine x_iload C 24 dX5_addEffect_22 rfl rfl ?_
      refine x_iconst (v := (1)) C 25 dX5_addEffect_24 (by decide) rfl ?_
      refine x_sipush (v := (255)) C 28 dX5_addEffect_25 (by decide) rfl ?_
      refine x_callS0_i C 31 0 0 3 (cC_isWithin hl) rfl gX5_addEffect_X5_isWithin ⟨by decide, by decide, rfl⟩ ⟨Nat.le_of_ble_eq_true rfl, Nat.le_of_ble_eq_true rfl⟩ rfl rfl (Nat.le_of_ble_eq_true rfl) ⟨Nat.le_of_ble_eq_true rfl, Nat.le_of_ble_eq_true rfl⟩ dX5_addEffect_28 rfl rfl rfl (fun r4 w4 h4 => ?_)
      obtain ⟨rfl, rfl⟩ := h4
      refine x_top (show _ = (1 : Int32) from (congrArg bI (show inB s2.toInt64 1 255 = true from (effB_t hb).2.2.1)).trans rfl) ?_
      refine x_if_eq C 45 34 dX5_addEffect_31 (by decide) rfl (fun zk31 => ?_) (fun zk31 => ?_)
      · exact absurd zk31 (by decide)
      · refine x_iload C 36 dX5_addEffect_34 rfl rfl ?_
        refine x_iconst (v := (0)) C 37 dX5_addEffect_36 (by decide) rfl ?_
        refine x_bipush (v := (39)) C 39 dX5_addEffect_37 (by decide) rfl ?_
        refine x_callS0_i C 42 0 0 3 (cC_isWithin hl) rfl gX5_addEffect_X5_isWithin ⟨by decide, by decide, rfl⟩ ⟨Nat.le_of_ble_eq_true rfl, Nat.le_of_ble_eq_true rfl⟩ rfl rfl (Nat.le_of_ble_eq_true rfl) ⟨Nat.le_of_ble_eq_true rfl, Nat.le_of_ble_eq_true rfl⟩ dX5_addEffect_39 rfl rfl rfl (fun r5 w5 h5 => ?_)
        obtain ⟨rfl, rfl⟩ := h5
        refine x_top (show _ = (1 : Int32) from (congrArg bI (show inB s3.toInt64 0 39 = true from (effB_t hb).2.2.2)).trans rfl) ?_
        refine x_if_ne C 55 45 dX5_addEffect_42 (by decide) rfl (fun zk42 => ?_) (fun zk42 => ?_)
        · refine x_aload_n C 56 dX5_addEffect_55 rfl rfl ?_
          refine xc_get C 59 0 0 (by decide) (show 0 < 1 by decide) rfl fg_X5_addEffect_32 rfl dX5_addEffect_56 rfl ?_
          refine xc_callV_i C 62 0 0 3 2 3 0 (cC_size hl (j := 2) (by decide)) rfl gX5_addEffect_Jx4a65c_size_8abf5 ⟨rfl, by decide, by decide, rfl⟩ ⟨Nat.le_of_ble_eq_true rfl, Nat.le_of_ble_eq_true rfl⟩ rfl (by decide) (show 2 < 4 by decide) rfl rfl rfl (Nat.le_of_ble_eq_true rfl) ⟨Nat.le_of_ble_eq_true rfl, Nat.le_of_ble_eq_true rfl⟩ dX5_addEffect_59 rfl rfl rfl (fun r6 w6 h6 => ?_)
          obtain ⟨rfl, rfl⟩ := h6
          refine x_iconst (v := (4)) C 63 dX5_addEffect_62 (by decide) rfl ?_
          have h4 := hN.2.2.2.1
          refine x_icmp_lt C 76 66 dX5_addEffect_63 (by decide) rfl (fun zk63 => ?_) (fun zk63 => ?_)
          · have zk63 := (nI_ltI (a := (n 2)) (b := 4) (by omega) (by omega)).mp zk63
            exfalso; omega
          · have zk63 := mt (nI_ltI (a := (n 2)) (b := 4) (by omega) (by omega)).mpr zk63
            exact x_throwS C0 (cls := "java/lang/IllegalStateException") (text := "no room for another effect") (names := ["java/lang/RuntimeException", "java/lang/Exception"]) (List.mem_of_getElem? (i := 22) rfl) (by decide) (by decide) (List.mem_cons_of_mem _ (List.mem_append_left _ (List.mem_append_left _ (List.mem_append_left _ (List.mem_append_left _ (List.mem_append_left _ (List.mem_append_left _ (List.mem_append_left _ (List.mem_of_getElem? (i := 2) rfl))))))))) (List.mem_cons_of_mem _ (List.mem_append_left _ (List.mem_append_left _ (List.mem_append_left _ (List.mem_append_left _ (List.mem_append_left _ (List.mem_append_left _ (List.mem_append_left _ (List.mem_of_getElem? (i := 3) rfl))))))))) (fun w h => (List.mem_cons_of_mem _ (List.mem_append_left _ (List.mem_append_right _ h)))) (by decide) (by decide +kernel) (by decide +kernel) dX5_addEffect_66 dX5_addEffect_69 dX5_addEffect_70 dX5_addEffect_72 dX5_addEffect_75 (Nat.le_of_ble_eq_true rfl) (Nat.le_of_ble_eq_true rfl) (Nat.le_of_ble_eq_true rfl) (Nat.le_of_ble_eq_true rfl) ⟨rfl, rfl⟩   
        · exact absurd zk42 (by decide)
theorem fg_X5_startEffect_32 : gF RX5 wsX5_startEffect 32 9 5 := ⟨RX5, TX5, 11, "StageConsole", rfl, fun w h => (List.mem_cons_of_mem _ (List.mem_append_left _ (List.mem_append_left _ (List.mem_append_left _ (List.mem_append_left _ (List.mem_append_right _ h)))))), by decide, (List.mem_cons_of_mem _ (List.mem_append_left _ (List.mem_append_left _ (List.mem_append_left _ (List.mem_append_left _ (List.mem_append_left _ (List.mem_append_left _ (List.mem_of_getElem? (i := 2) rfl)))))))), Or.inl rfl⟩
theorem fg_X5_startEffect_219 : gF RX5 wsX5_startEffect 219 6 5 := ⟨RX2, TX2, 7, "StageConsole$Effect", rfl, fun w h => (List.mem_cons_of_mem _ (List.mem_append_left _ (List.mem_append_left _ (List.mem_append_left _ (List.mem_append_right _ h))))), by decide, (List.mem_cons_of_mem _ (List.mem_append_left _ (List.mem_append_left _ (List.mem_append_left _ (List.mem_append_left _ (List.mem_append_left _ (List.mem_append_left _ (List.mem_of_getElem? (i := 4) rfl)))))))), Or.inl rfl⟩
theorem fp_X5_startEffect_219 : pF RX5 wsX5_startEffect 219 6 5 false (.boolean) := ⟨RX2, TX2, 7, "StageConsole$Effect", tyX2, rfl, fun w h => (List.mem_cons_of_mem _ (List.mem_append_left _ (List.mem_append_left _ (List.mem_append_left _ (List.mem_append_right _ h))))), by decide, (List.mem_cons_of_mem _ (List.mem_append_left _ (List.mem_append_left _ (List.mem_append_left _ (List.mem_append_left _ (List.mem_append_left _ (List.mem_append_left _ (List.mem_of_getElem? (i := 4) rfl)))))))), Or.inl rfl, tyX2_ok, nmX2, rfl, rfl, fun h => absurd h (by decide)⟩
theorem fg_X5_startEffect_20 : gF RX5 wsX5_startEffect 20 9 2 := ⟨RX5, TX5, 11, "StageConsole", rfl, fun w h => (List.mem_cons_of_mem _ (List.mem_append_left _ (List.mem_append_left _ (List.mem_append_left _ (List.mem_append_left _ (List.mem_append_right _ h)))))), by decide, (List.mem_cons_of_mem _ (List.mem_append_left _ (List.mem_append_left _ (List.mem_append_left _ (List.mem_append_left _ (List.mem_append_left _ (List.mem_append_left _ (List.mem_of_getElem? (i := 5) rfl)))))))), Or.inl rfl⟩
theorem fp_X5_startEffect_224 : pF RX5 wsX5_startEffect 224 6 6 false (.int) := ⟨RX2, TX2, 7, "StageConsole$Effect", tyX2, rfl, fun w h => (List.mem_cons_of_mem _ (List.mem_append_left _ (List.mem_append_left _ (List.mem_append_left _ (List.mem_append_right _ h))))), by decide, (List.mem_cons_of_mem _ (List.mem_append_left _ (List.mem_append_left _ (List.mem_append_left _ (List.mem_append_left _ (List.mem_append_left _ (List.mem_append_left _ (List.mem_of_getElem? (i := 6) rfl)))))))), Or.inl rfl, tyX2_ok, nmX2, rfl, rfl, fun h => absurd h (by decide)⟩
set_option maxRecDepth 100000 in
set_option maxHeartbeats 4000000 in
theorem cC_startEffect_0 (hl : l.stackTraces = false) (hN : CN n cap) {e : Nat} (he : e < n 2) (hr : S 9 e 4 = 0)  : Ct (gm D a E0) l yX5_startEffect wsX5_startEffect { frames := 24, cells := 0, slots := 0, locals := 600 } [.ref (A 0 0), .int (nI e)] (wC a E0 n cap A g en S) (qI fun v w => v = nI (rnC (uS (uS S 9 e 4 1) 9 e 5 (S 0 0 1)) (n 2) 0 0) ∧ w = wC a E0 n cap A g en (uS (uS S 9 e 4 1) 9 e 5 (S 0 0 1))) noX := by
  refine Ct.of [some (.ref (A 0 0)), some (.int (nI e)), none] rfl hl (by decide) (Nat.le_of_ble_eq_true rfl) rfl (fun φ C0 => ?_)
  have C := C0.1
  refine x_aload_n C 1 dX5_startEffect_0 rfl rfl ?_
  refine x_iload_n C 2 dX5_startEffect_1 rfl rfl ?_
  refine xc_callV_v C 5 0 0 0 0 9 1 (cC_requireEffect_0 hl (upB_nI (by have := hN.2.2.2.1; omega) he)) rfl gX5_startEffect_X5_requireEffect ⟨rfl, by decide, by decide, rfl⟩ ⟨Nat.le_of_ble_eq_true rfl, Nat.le_of_ble_eq_true rfl⟩ rfl (by decide) (show 0 < 1 by decide) rfl rfl rfl (Nat.le_of_ble_eq_true rfl) ⟨Nat.le_of_ble_eq_true rfl, Nat.le_of_ble_eq_true rfl⟩ dX5_startEffect_2 rfl rfl rfl (fun w1 h1 => ?_)
  subst h1
  have h4 := hN.2.2.2.1
  refine x_aload_n C 6 dX5_startEffect_5 rfl rfl ?_
  refine xc_get C 9 0 0 (by decide) (show 0 < 1 by decide) rfl fg_X5_startEffect_32 rfl dX5_startEffect_6 rfl ?_
  refine x_iload_n C 10 dX5_startEffect_9 rfl rfl ?_
  refine xc_callV_q C 13 0 0 3 2 3 1 (cC_get hl (j := 2) (by decide) (i := e) (by omega) (hN.1 2 (by decide)).1 (hN.1 2 (by decide)).2) rfl gX5_startEffect_Jx4a65c_get_915e3 ⟨rfl, by decide, by decide, rfl⟩ ⟨Nat.le_of_ble_eq_true rfl, Nat.le_of_ble_eq_true rfl⟩ rfl (by decide) (show 2 < 4 by decide) rfl rfl rfl (Nat.le_of_ble_eq_true rfl) ⟨Nat.le_of_ble_eq_true rfl, Nat.le_of_ble_eq_true rfl⟩ dX5_startEffect_10 rfl rfl rfl (fun r2 w2 h2 => ?_)
  obtain ⟨rfl, rfl⟩ := h2
  refine x_topq (show _ = Value.ref (A 9 e) from rfl) ?_
  refine xc_castS C 16 9 e (by decide) (show e < n 2 from by omega) rfl rfl (List.mem_cons_of_mem _ (List.mem_append_left _ (List.mem_append_left _ (List.mem_append_left _ (List.mem_append_left _ (List.mem_append_left _ (List.mem_append_left _ (List.mem_of_getElem? (i := 3) rfl)))))))) dX5_startEffect_13 rfl ?_
  refine x_astore_n C 17 dX5_startEffect_16 (by decide) rfl rfl ?_
  refine x_aload_n C 18 dX5_startEffect_17 rfl rfl ?_
  refine xc_get C 21 9 e (by decide) (show e < n 2 from by omega) rfl fg_X5_startEffect_219 rfl dX5_startEffect_18 rfl ?_
  refine x_if_eq C 34 24 dX5_startEffect_21 (by decide) rfl (fun zk21 => ?_) (fun zk21 => ?_)
  · refine x_aload_n C 35 dX5_startEffect_34 rfl rfl ?_
    refine x_iconst (v := (1)) C 36 dX5_startEffect_35 (by decide) rfl ?_
    refine xc_put C 39 9 e 4 (by decide) (show e < n 2 from by omega) rfl fp_X5_startEffect_219 rfl rfl (Nat.le_of_ble_eq_true rfl) rfl dX5_startEffect_36 rfl ?_
    refine x_aload_n C 40 dX5_startEffect_39 rfl rfl ?_
    refine x_aload_n C 41 dX5_startEffect_40 rfl rfl ?_
    refine xc_get C 44 0 0 (by decide) (show 0 < 1 by decide) rfl fg_X5_startEffect_20 rfl dX5_startEffect_41 rfl ?_
    refine x_top (show _ = (S 0 0 1) from by simp [uS, upd]) ?_
    refine xc_put C 47 9 e 5 (by decide) (show e < n 2 from by omega) rfl fp_X5_startEffect_224 rfl rfl (Nat.le_of_ble_eq_true rfl) rfl dX5_startEffect_44 rfl ?_
    refine x_aload_n C 48 dX5_startEffect_47 rfl rfl ?_
    refine xc_callV_i C 51 0 0 0 0 9 0 (cC_runningEffects hl hN) rfl gX5_startEffect_X5_runningEffects ⟨rfl, by decide, by decide, rfl⟩ ⟨Nat.le_of_ble_eq_true rfl, Nat.le_of_ble_eq_true rfl⟩ rfl (by decide) (show 0 < 1 by decide) rfl rfl rfl (Nat.le_of_ble_eq_true rfl) ⟨Nat.le_of_ble_eq_true rfl, Nat.le_of_ble_eq_true rfl⟩ dX5_startEffect_48 rfl rfl rfl (fun r3 w3 h3 => ?_)
    obtain ⟨rfl, rfl⟩ := h3
    exact x_zret C0 dX5_startEffect_51 (Nat.le_of_ble_eq_true rfl) (Nat.le_of_ble_eq_true rfl) ⟨_, rfl, ⟨rfl, rfl⟩⟩
  · exact absurd hr zk21
end CC
