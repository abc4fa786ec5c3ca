section CC
variable {l : Launch} {Γ : Gm} {D : va_G} {a : Nat → ClassId} {E0 : Nat} {n cap : Nat → Nat} {A : Nat → Nat → Nat} {g : Nat → Nat} {en : Int64} {S : Nat → Nat → Nat → Int32}
theorem fg_X5_addCue_10 : gF RX5 wsX5_addCue 10 9 0 := ⟨RX5, TX5, 11, "StageConsole", rfl, fun w h => (List.mem_cons_of_mem _ (List.mem_append_left _ (List.mem_append_left _ (List.mem_append_left _ (List.mem_append_left _ (List.mem_append_left _ (List.mem_append_left _ (List.mem_append_right _ h)))))))), by decide, (List.mem_cons_of_mem _ (List.mem_append_left _ (List.mem_append_left _ (List.mem_append_left _ (List.mem_append_left _ (List.mem_append_left _ (List.mem_append_left _ (List.mem_append_left _ (List.mem_append_left _ (List.mem_of_getElem? (i := 6) rfl)))))))))), Or.inl rfl⟩
theorem fg_X5_removeCue_10 : gF RX5 wsX5_removeCue 10 9 0 := ⟨RX5, TX5, 11, "StageConsole", rfl, fun w h => (List.mem_cons_of_mem _ (List.mem_append_left _ (List.mem_append_left _ (List.mem_append_left _ (List.mem_append_right _ h))))), by decide, (List.mem_cons_of_mem _ (List.mem_append_left _ (List.mem_append_left _ (List.mem_append_left _ (List.mem_append_left _ (List.mem_append_left _ (List.mem_of_getElem? (i := 0) rfl))))))), Or.inl rfl⟩
theorem fg_X5_addGroup_29 : gF RX5 wsX5_addGroup 29 9 4 := ⟨RX5, TX5, 11, "StageConsole", rfl, fun w h => (List.mem_cons_of_mem _ (List.mem_append_left _ (List.mem_append_left _ (List.mem_append_left _ (List.mem_append_right _ h))))), by decide, (List.mem_cons_of_mem _ (List.mem_append_left _ (List.mem_append_left _ (List.mem_append_left _ (List.mem_append_left _ (List.mem_append_left _ (List.mem_of_getElem? (i := 2) rfl))))))), Or.inl rfl⟩
theorem fg_X5_addEffect_32 : gF RX5 wsX5_addEffect 32 9 5 := ⟨RX5, TX5, 11, "StageConsole", rfl, fun w h => (List.mem_cons_of_mem _ (List.mem_append_left _ (List.mem_append_left _ (List.mem_append_left _ (List.mem_append_left _ (List.mem_append_left _ (List.mem_append_right _ h))))))), by decide, (List.mem_cons_of_mem _ (List.mem_append_left _ (List.mem_append_left _ (List.mem_append_left _ (List.mem_append_left _ (List.mem_append_left _ (List.mem_append_left _ (List.mem_append_left _ (List.mem_of_getElem? (i := 4) rfl))))))))), Or.inl rfl⟩
theorem fg_X5_addStep_46 : gF RX5 wsX5_addStep 46 9 9 := ⟨RX5, TX5, 11, "StageConsole", rfl, fun w h => (List.mem_cons_of_mem _ (List.mem_append_left _ (List.mem_append_left _ (List.mem_append_left _ (List.mem_append_left _ (List.mem_append_right _ h)))))), by decide, (List.mem_cons_of_mem _ (List.mem_append_left _ (List.mem_append_left _ (List.mem_append_left _ (List.mem_append_left _ (List.mem_append_left _ (List.mem_append_left _ (List.mem_of_getElem? (i := 4) rfl)))))))), Or.inl rfl⟩
theorem fg_X5_addEffect_29 : gF RX5 wsX5_addEffect 29 9 4 := ⟨RX5, TX5, 11, "StageConsole", rfl, fun w h => (List.mem_cons_of_mem _ (List.mem_append_left _ (List.mem_append_left _ (List.mem_append_left _ (List.mem_append_left _ (List.mem_append_left _ (List.mem_append_right _ h))))))), by decide, (List.mem_cons_of_mem _ (List.mem_append_left _ (List.mem_append_left _ (List.mem_append_left _ (List.mem_append_left _ (List.mem_append_left _ (List.mem_append_left _ (List.mem_append_left _ (List.mem_of_getElem? (i := 8) rfl))))))))), Or.inl rfl⟩
set_option maxRecDepth 100000 in
set_option maxHeartbeats 4000000 in
theorem cC_addCue_1 (hl : l.stackTraces = false) {x t cv : Int32} (hN : CN n cap) (hb : cueB x t cv = false)  : Ct (gm D a E0) l yX5_addCue wsX5_addCue { frames := 28, cells := 1, slots := 6, locals := 700 } [.ref (A 0 0), .int x, .int t, .int cv] (wC a E0 n cap A g en S) (qI fun _ _ => False) (fun E w => E = "java/lang/IllegalArgumentException" ∧ w = wC a E0 n cap A g en S) := by
  refine Ct.of [some (.ref (A 0 0)), some (.int x), some (.int t), some (.int cv)] rfl hl (by decide) (Nat.le_of_ble_eq_true rfl) rfl (fun φ C0 => ?_)
  have C := C0.1
  refine x_iload_n C 1 dX5_addCue_0 rfl rfl ?_
  refine x_iconst (v := (1)) C 2 dX5_addCue_1 (by decide) rfl ?_
  refine x_bipush (v := (99)) C 4 dX5_addCue_2 (by decide) rfl ?_
  refine x_callS0_i C 7 0 0 3 (cC_isWithin hl) rfl gX5_addCue_X5_isWithin ⟨by decide, by decide, rfl⟩ ⟨Nat.le_of_ble_eq_true rfl, Nat.le_of_ble_eq_true rfl⟩ rfl rfl (Nat.le_of_ble_eq_true rfl) ⟨Nat.le_of_ble_eq_true rfl, Nat.le_of_ble_eq_true rfl⟩ dX5_addCue_4 rfl rfl rfl (fun r1 w1 h1 => ?_)
  obtain ⟨rfl, rfl⟩ := h1
  refine x_top (show _ = bI (inB x.toInt64 1 99) from rfl) ?_
  refine x_if_eq C 27 10 dX5_addCue_7 (by decide) rfl (fun zk7 => ?_) (fun zk7 => ?_)
  · have zk7 := bI_eq0.mp zk7
    exact x_throwS C0 (cls := "java/lang/IllegalArgumentException") (text := "number, time or curve of a cue") (names := ["java/lang/RuntimeException", "java/lang/Exception"]) (List.mem_of_getElem? (i := 16) rfl) (by decide) (by decide) (List.mem_cons_of_mem _ (List.mem_append_left _ (List.mem_append_left _ (List.mem_append_left _ (List.mem_append_left _ (List.mem_append_left _ (List.mem_append_left _ (List.mem_append_left _ (List.mem_append_left _ (List.mem_of_getElem? (i := 0) rfl)))))))))) (List.mem_cons_of_mem _ (List.mem_append_left _ (List.mem_append_left _ (List.mem_append_left _ (List.mem_append_left _ (List.mem_append_left _ (List.mem_append_left _ (List.mem_append_left _ (List.mem_append_left _ (List.mem_of_getElem? (i := 1) rfl)))))))))) (fun w h => (List.mem_cons_of_mem _ (List.mem_append_left _ (List.mem_append_left _ (List.mem_append_left _ (List.mem_append_right _ h)))))) (by decide) (by decide +kernel) (by decide +kernel) dX5_addCue_27 dX5_addCue_30 dX5_addCue_31 dX5_addCue_33 dX5_addCue_36 (Nat.le_of_ble_eq_true rfl) (Nat.le_of_ble_eq_true rfl) (Nat.le_of_ble_eq_true rfl) (Nat.le_of_ble_eq_true rfl) ⟨rfl, rfl⟩   
  · have zk7 := bI_ne0.mp zk7
    refine x_iload_n C 11 dX5_addCue_10 rfl rfl ?_
    refine x_iconst (v := (0)) C 12 dX5_addCue_11 (by decide) rfl ?_
    refine x_bipush (v := (40)) C 14 dX5_addCue_12 (by decide) rfl ?_
    refine x_callS0_i C 17 0 0 3 (cC_isWithin hl) rfl gX5_addCue_X5_isWithin ⟨by decide, by decide, rfl⟩ ⟨Nat.le_of_ble_eq_true rfl, Nat.le_of_ble_eq_true rfl⟩ rfl rfl (Nat.le_of_ble_eq_true rfl) ⟨Nat.le_of_ble_eq_true rfl, Nat.le_of_ble_eq_true rfl⟩ dX5_addCue_14 rfl rfl rfl (fun r2 w2 h2 => ?_)
    obtain ⟨rfl, rfl⟩ := h2
    refine x_top (show _ = bI (inB t.toInt64 0 40) from rfl) ?_
    refine x_if_eq C 27 20 dX5_addCue_17 (by decide) rfl (fun zk17 => ?_) (fun zk17 => ?_)
    · have zk17 := bI_eq0.mp zk17
      exact x_throwS C0 (cls := "java/lang/IllegalArgumentException") (text := "number, time or curve of a cue") (names := ["java/lang/RuntimeException", "java/lang/Exception"]) (List.mem_of_getElem? (i := 16) rfl) (by decide) (by decide) (List.mem_cons_of_mem _ (List.mem_append_left _ (List.mem_append_left _ (List.mem_append_left _ (List.mem_append_left _ (List.mem_append_left _ (List.mem_append_left _ (List.mem_append_left _ (List.mem_append_left _ (List.mem_of_getElem? (i := 0) rfl)))))))))) (List.mem_cons_of_mem _ (List.mem_append_left _ (List.mem_append_left _ (List.mem_append_left _ (List.mem_append_left _ (List.mem_append_left _ (List.mem_append_left _ (List.mem_append_left _ (List.mem_append_left _ (List.mem_of_getElem? (i := 1) rfl)))))))))) (fun w h => (List.mem_cons_of_mem _ (List.mem_append_left _ (List.mem_append_left _ (List.mem_append_left _ (List.mem_append_right _ h)))))) (by decide) (by decide +kernel) (by decide +kernel) dX5_addCue_27 dX5_addCue_30 dX5_addCue_31 dX5_addCue_33 dX5_addCue_36 (Nat.le_of_ble_eq_true rfl) (Nat.le_of_ble_eq_true rfl) (Nat.le_of_ble_eq_true rfl) (Nat.le_of_ble_eq_true rfl) ⟨rfl, rfl⟩   
    · have zk17 := bI_ne0.mp zk17
      refine x_iload_n C 21 dX5_addCue_20 rfl rfl ?_
      refine x_callS0_i C 24 0 0 1 (cC_isCurve hl) rfl gX5_addCue_X5_isCurve ⟨by decide, by decide, rfl⟩ ⟨Nat.le_of_ble_eq_true rfl, Nat.le_of_ble_eq_true rfl⟩ rfl rfl (Nat.le_of_ble_eq_true rfl) ⟨Nat.le_of_ble_eq_true rfl, Nat.le_of_ble_eq_true rfl⟩ dX5_addCue_21 rfl rfl rfl (fun r3 w3 h3 => ?_)
      obtain ⟨rfl, rfl⟩ := h3
      refine x_top (show _ = bI (cvB cv) from rfl) ?_
      refine x_if_ne C 37 27 dX5_addCue_24 (by decide) rfl (fun zk24 => ?_) (fun zk24 => ?_)
      · have zk24 := bI_ne0.mp zk24
        rw [cueB, zk7, zk17, zk24] at hb; cases hb
      · have zk24 := bI_eq0.mp zk24
        exact x_throwS C0 (cls := "java/lang/IllegalArgumentException") (text := "number, time or curve of a cue") (names := ["java/lang/RuntimeException", "java/lang/Exception"]) (List.mem_of_getElem? (i := 16) rfl) (by decide) (by decide) (List.mem_cons_of_mem _ (List.mem_append_left _ (List.mem_append_left _ (List.mem_append_left _ (List.mem_append_left _ (List.mem_append_left _ (List.mem_append_left _ (List.mem_append_left _ (List.mem_append_left _ (List.mem_of_getElem? (i := 0) rfl)))))))))) (List.mem_cons_of_mem _ (List.mem_append_left _ (List.mem_append_left _ (List.mem_append_left _ (List.mem_append_left _ (List.mem_append_left _ (List.mem_append_left _ (List.mem_append_left _ (List.mem_append_left _ (List.mem_of_getElem? (i := 1) rfl)))))))))) (fun w h => (List.mem_cons_of_mem _ (List.mem_append_left _ (List.mem_append_left _ (List.mem_append_left _ (List.mem_append_right _ h)))))) (by decide) (by decide +kernel) (by decide +kernel) dX5_addCue_27 dX5_addCue_30 dX5_addCue_31 dX5_addCue_33 dX5_addCue_36 (Nat.le_of_ble_eq_true rfl) (Nat.le_of_ble_eq_true rfl) (Nat.le_of_ble_eq_true rfl) (Nat.le_of_ble_eq_true rfl) ⟨rfl, rfl⟩   
set_option maxRecDepth 100000 in
set_option maxHeartbeats 4000000 in
theorem cC_addCue_2 (hl : l.stackTraces = false) {x t cv : Int32} (hN : CN n cap) (hb : cueB x t cv = true) (hq : hqC S (n 0) x = true)  : Ct (gm D a E0) l yX5_addCue wsX5_addCue { frames := 28, cells := 1, slots := 6, locals := 700 } [.ref (A 0 0), .int x, .int t, .int cv] (wC a E0 n cap A g en S) (qI fun _ _ => False) (fun E w => E = "java/lang/UnsupportedOperationException" ∧ w = wC a E0 n cap A g en S) := by
  refine Ct.of [some (.ref (A 0 0)), some (.int x), some (.int t), some (.int cv)] rfl hl (by decide) (Nat.le_of_ble_eq_true rfl) rfl (fun φ C0 => ?_)
  have C := C0.1
  refine x_iload_n C 1 dX5_addCue_0 rfl rfl ?_
  refine x_iconst (v := (1)) C 2 dX5_addCue_1 (by decide) rfl ?_
  refine x_bipush (v := (99)) C 4 dX5_addCue_2 (by decide) rfl ?_
  refine x_callS0_i C 7 0 0 3 (cC_isWithin hl) rfl gX5_addCue_X5_isWithin ⟨by decide, by decide, rfl⟩ ⟨Nat.le_of_ble_eq_true rfl, Nat.le_of_ble_eq_true rfl⟩ rfl rfl (Nat.le_of_ble_eq_true rfl) ⟨Nat.le_of_ble_eq_true rfl, Nat.le_of_ble_eq_true rfl⟩ dX5_addCue_4 rfl rfl rfl (fun r1 w1 h1 => ?_)
  obtain ⟨rfl, rfl⟩ := h1
  refine x_top (show _ = (1 : Int32) from (congrArg bI (show inB x.toInt64 1 99 = true from (cueB_t hb).1)).trans rfl) ?_
  refine x_if_eq C 27 10 dX5_addCue_7 (by decide) rfl (fun zk7 => ?_) (fun zk7 => ?_)
  · exact absurd zk7 (by decide)
  · refine x_iload_n C 11 dX5_addCue_10 rfl rfl ?_
    refine x_iconst (v := (0)) C 12 dX5_addCue_11 (by decide) rfl ?_
    refine x_bipush (v := (40)) C 14 dX5_addCue_12 (by decide) rfl ?_
    refine x_callS0_i C 17 0 0 3 (cC_isWithin hl) rfl gX5_addCue_X5_isWithin ⟨by decide, by decide, rfl⟩ ⟨Nat.le_of_ble_eq_true rfl, Nat.le_of_ble_eq_true rfl⟩ rfl rfl (Nat.le_of_ble_eq_true rfl) ⟨Nat.le_of_ble_eq_true rfl, Nat.le_of_ble_eq_true rfl⟩ dX5_addCue_14 rfl rfl rfl (fun r2 w2 h2 => ?_)
    obtain ⟨rfl, rfl⟩ := h2
    refine x_top (show _ = (1 : Int32) from (congrArg bI (show inB t.toInt64 0 40 = true from (cueB_t hb).2.1)).trans rfl) ?_
    refine x_if_eq C 27 20 dX5_addCue_17 (by decide) rfl (fun zk17 => ?_) (fun zk17 => ?_)
    · exact absurd zk17 (by decide)
    · refine x_iload_n C 21 dX5_addCue_20 rfl rfl ?_
      refine x_callS0_i C 24 0 0 1 (cC_isCurve hl) rfl gX5_addCue_X5_isCurve ⟨by decide, by decide, rfl⟩ ⟨Nat.le_of_ble_eq_true rfl, Nat.le_of_ble_eq_true rfl⟩ rfl rfl (Nat.le_of_ble_eq_true rfl) ⟨Nat.le_of_ble_eq_true rfl, Nat.le_of_ble_eq_true rfl⟩ dX5_addCue_21 rfl rfl rfl (fun r3 w3 h3 => ?_)
      obtain ⟨rfl, rfl⟩ := h3
      refine x_top (show _ = (1 : Int32) from (congrArg bI (show cvB cv = true from (cueB_t hb).2.2)).trans rfl) ?_
      refine x_if_ne C 37 27 dX5_addCue_24 (by decide) rfl (fun zk24 => ?_) (fun zk24 => ?_)
      · refine x_aload_n C 38 dX5_addCue_37 rfl rfl ?_
        refine x_iload_n C 39 dX5_addCue_38 rfl rfl ?_
        refine xc_callV_i C 42 0 0 0 0 9 1 (cC_hasCue hl hN) rfl gX5_addCue_X5_hasCue ⟨rfl, by decide, by decide, rfl⟩ ⟨Nat.le_of_ble_eq_true rfl, Nat.le_of_ble_eq_true rfl⟩ rfl (by decide) (show 0 < 1 by decide) rfl rfl rfl (Nat.le_of_ble_eq_true rfl) ⟨Nat.le_of_ble_eq_true rfl, Nat.le_of_ble_eq_true rfl⟩ dX5_addCue_39 rfl rfl rfl (fun r4 w4 h4 => ?_)
        obtain ⟨rfl, rfl⟩ := h4
        refine x_top (show _ = (1 : Int32) from (congrArg bI (show hqC S (n 0) x = true from hq)).trans rfl) ?_
        refine x_if_eq C 55 45 dX5_addCue_42 (by decide) rfl (fun zk42 => ?_) (fun zk42 => ?_)
        · exact absurd zk42 (by decide)
        · exact x_throwS C0 (cls := "java/lang/UnsupportedOperationException") (text := "there is a cue with this number") (names := ["java/lang/RuntimeException", "java/lang/Exception"]) (List.mem_of_getElem? (i := 20) rfl) (by decide) (by decide) (List.mem_cons_of_mem _ (List.mem_append_left _ (List.mem_append_left _ (List.mem_append_left _ (List.mem_append_left _ (List.mem_append_left _ (List.mem_append_left _ (List.mem_append_left _ (List.mem_append_left _ (List.mem_of_getElem? (i := 2) rfl)))))))))) (List.mem_cons_of_mem _ (List.mem_append_left _ (List.mem_append_left _ (List.mem_append_left _ (List.mem_append_left _ (List.mem_append_left _ (List.mem_append_left _ (List.mem_append_left _ (List.mem_append_left _ (List.mem_of_getElem? (i := 3) rfl)))))))))) (fun w h => (List.mem_cons_of_mem _ (List.mem_append_left _ (List.mem_append_left _ (List.mem_append_right _ h))))) (by decide) (by decide +kernel) (by decide +kernel) dX5_addCue_45 dX5_addCue_48 dX5_addCue_49 dX5_addCue_51 dX5_addCue_54 (Nat.le_of_ble_eq_true rfl) (Nat.le_of_ble_eq_true rfl) (Nat.le_of_ble_eq_true rfl) (Nat.le_of_ble_eq_true rfl) ⟨rfl, rfl⟩   
      · exact absurd zk24 (by decide)
set_option maxRecDepth 100000 in
set_option maxHeartbeats 4000000 in
theorem cC_addCue_3 (hl : l.stackTraces = false) {x t cv : Int32} (hN : CN n cap) (hb : cueB x t cv = true) (hq : hqC S (n 0) x = false) (hn : ¬ n 0 < 16)  : Ct (gm D a E0) l yX5_addCue wsX5_addCue { frames := 28, cells := 1, slots := 6, locals := 700 } [.ref (A 0 0), .int x, .int t, .int cv] (wC a E0 n cap A g en S) (qI fun _ _ => False) (fun E w => E = "java/lang/IllegalStateException" ∧ w = wC a E0 n cap A g en S) := by
  refine Ct.of [some (.ref (A 0 0)), some (.int x), some (.int t), some (.int cv)] rfl hl (by decide) (Nat.le_of_ble_eq_true rfl) rfl (fun φ C0 => ?_)
  have C := C0.1
  refine x_iload_n C 1 dX5_addCue_0 rfl rfl ?_
  refine x_iconst (v := (1)) C 2 dX5_addCue_1 (by decide) rfl ?_
  refine x_bipush (v := (99)) C 4 dX5_addCue_2 (by decide) rfl ?_
  refine x_callS0_i C 7 0 0 3 (cC_isWithin hl) rfl gX5_addCue_X5_isWithin ⟨by decide, by decide, rfl⟩ ⟨Nat.le_of_ble_eq_true rfl, Nat.le_of_ble_eq_true rfl⟩ rfl rfl (Nat.le_of_ble_eq_true rfl) ⟨Nat.le_of_ble_eq_true rfl, Nat.le_of_ble_eq_true rfl⟩ dX5_addCue_4 rfl rfl rfl (fun r1 w1 h1 => ?_)
  obtain ⟨rfl, rfl⟩ := h1
  refine x_top (show _ = (1 : Int32) from (congrArg bI (show inB x.toInt64 1 99 = true from (cueB_t hb).1)).trans rfl) ?_
  refine x_if_eq C 27 10 dX5_addCue_7 (by decide) rfl (fun zk7 => ?_) (fun zk7 => ?_)
  · exact absurd zk7 (by decide)
  · refine x_iload_n C 11 dX5_addCue_10 rfl rfl ?_
    refine x_iconst (v := (0)) C 12 dX5_addCue_11 (by decide) rfl ?_
    refine x_bipush (v := (40)) C 14 dX5_addCue_12 (by decide) rfl ?_
    refine x_callS0_i C 17 0 0 3 (cC_isWithin hl) rfl gX5_addCue_X5_isWithin ⟨by decide, by decide, rfl⟩ ⟨Nat.le_of_ble_eq_true rfl, Nat.le_of_ble_eq_true rfl⟩ rfl rfl (Nat.le_of_ble_eq_true rfl) ⟨Nat.le_of_ble_eq_true rfl, Nat.le_of_ble_eq_true rfl⟩ dX5_addCue_14 rfl rfl rfl (fun r2 w2 h2 => ?_)
    obtain ⟨rfl, rfl⟩ := h2
    refine x_top (show _ = (1 : Int32) from (congrArg bI (show inB t.toInt64 0 40 = true from (cueB_t hb).2.1)).trans rfl) ?_
    refine x_if_eq C 27 20 dX5_addCue_17 (by decide) rfl (fun zk17 => ?_) (fun zk17 => ?_)
    · exact absurd zk17 (by decide)
    · refine x_iload_n C 21 dX5_addCue_20 rfl rfl ?_
      refine x_callS0_i C 24 0 0 1 (cC_isCurve hl) rfl gX5_addCue_X5_isCurve ⟨by decide, by decide, rfl⟩ ⟨Nat.le_of_ble_eq_true rfl, Nat.le_of_ble_eq_true rfl⟩ rfl rfl (Nat.le_of_ble_eq_true rfl) ⟨Nat.le_of_ble_eq_true rfl, Nat.le_of_ble_eq_true rfl⟩ dX5_addCue_21 rfl rfl rfl (fun r3 w3 h3 => ?_)
      obtain ⟨rfl, rfl⟩ := h3
      refine x_top (show _ = (1 : Int32) from (congrArg bI (show cvB cv = true from (cueB_t hb).2.2)).trans rfl) ?_
      refine x_if_ne C 37 27 dX5_addCue_24 (by decide) rfl (fun zk24 => ?_) (fun zk24 => ?_)
      · refine x_aload_n C 38 dX5_addCue_37 rfl rfl ?_
        refine x_iload_n C 39 dX5_addCue_38 rfl rfl ?_
        refine xc_callV_i C 42 0 0 0 0 9 1 (cC_hasCue hl hN) rfl gX5_addCue_X5_hasCue ⟨rfl, by decide, by decide, rfl⟩ ⟨Nat.le_of_ble_eq_true rfl, Nat.le_of_ble_eq_true rfl⟩ rfl (by decide) (show 0 < 1 by decide) rfl rfl rfl (Nat.le_of_ble_eq_true rfl) ⟨Nat.le_of_ble_eq_true rfl, Nat.le_of_ble_eq_true rfl⟩ dX5_addCue_39 rfl rfl rfl (fun r4 w4 h4 => ?_)
        obtain ⟨rfl, rfl⟩ := h4
        refine x_top (show _ = (0 : Int32) from (congrArg bI (show hqC S (n 0) x = false from hq)).trans rfl) ?_
        refine x_if_eq C 55 45 dX5_addCue_42 (by decide) rfl (fun zk42 => ?_) (fun zk42 => ?_)
        · refine x_aload_n C 56 dX5_addCue_55 rfl rfl ?_
          refine xc_get C 59 0 0 (by decide) (show 0 < 1 by decide) rfl fg_X5_addCue_10 rfl dX5_addCue_56 rfl ?_
          refine xc_callV_i C 62 0 0 3 0 3 0 (cC_size hl (j := 0) (by decide)) rfl gX5_addCue_Jx4a65c_size_8abf5 ⟨rfl, by decide, by decide, rfl⟩ ⟨Nat.le_of_ble_eq_true rfl, Nat.le_of_ble_eq_true rfl⟩ rfl (by decide) (show 0 < 4 by decide) rfl rfl rfl (Nat.le_of_ble_eq_true rfl) ⟨Nat.le_of_ble_eq_true rfl, Nat.le_of_ble_eq_true rfl⟩ dX5_addCue_59 rfl rfl rfl (fun r5 w5 h5 => ?_)
          obtain ⟨rfl, rfl⟩ := h5
          refine x_bipush (v := (16)) C 64 dX5_addCue_62 (by decide) rfl ?_
          have h16 := hN.2.1
          refine x_icmp_lt C 77 67 dX5_addCue_64 (by decide) rfl (fun zk64 => ?_) (fun zk64 => ?_)
          · have zk64 := (nI_ltI (a := (n 0)) (b := 16) (by omega) (by omega)).mp zk64
            exfalso; omega
          · have zk64 := mt (nI_ltI (a := (n 0)) (b := 16) (by omega) (by omega)).mpr zk64
            exact x_throwS C0 (cls := "java/lang/IllegalStateException") (text := "no room for another cue") (names := ["java/lang/RuntimeException", "java/lang/Exception"]) (List.mem_of_getElem? (i := 23) rfl) (by decide) (by decide) (List.mem_cons_of_mem _ (List.mem_append_left _ (List.mem_append_left _ (List.mem_append_left _ (List.mem_append_left _ (List.mem_append_left _ (List.mem_append_left _ (List.mem_append_left _ (List.mem_append_left _ (List.mem_of_getElem? (i := 4) rfl)))))))))) (List.mem_cons_of_mem _ (List.mem_append_left _ (List.mem_append_left _ (List.mem_append_left _ (List.mem_append_left _ (List.mem_append_left _ (List.mem_append_left _ (List.mem_append_left _ (List.mem_append_left _ (List.mem_of_getElem? (i := 5) rfl)))))))))) (fun w h => (List.mem_cons_of_mem _ (List.mem_append_left _ (List.mem_append_right _ h)))) (by decide) (by decide +kernel) (by decide +kernel) dX5_addCue_67 dX5_addCue_70 dX5_addCue_71 dX5_addCue_73 dX5_addCue_76 (Nat.le_of_ble_eq_true rfl) (Nat.le_of_ble_eq_true rfl) (Nat.le_of_ble_eq_true rfl) (Nat.le_of_ble_eq_true rfl) ⟨rfl, rfl⟩   
        · exact absurd zk42 (by decide)
      · exact absurd zk24 (by decide)
set_option maxRecDepth 100000 in
set_option maxHeartbeats 4000000 in
theorem cC_removeCue_0 (hl : l.stackTraces = false) {x : Int32} (hN : CN n cap) (hq : hqC S (n 0) x = true)  : Ct (gm D a E0) l yX5_removeCue wsX5_removeCue { frames := 28, cells := 0, slots := 0, locals := 700 } [.ref (A 0 0), .int x] (wC a E0 n cap A g en S) (qI fun v w => v = nI (n 0 - 1) ∧ w = wC a E0 (updN n 0 (n 0 - 1)) cap (skp (skp A 5 (poC S (n 0) x)) 6 (poC S (n 0) x)) g en (uS (skp (skp S 5 (poC S (n 0) x)) 6 (poC S (n 0) x)) 3 0 0 (S 3 0 0 + 1))) noX := by
  refine Ct.of [some (.ref (A 0 0)), some (.int x)] rfl hl (by decide) (Nat.le_of_ble_eq_true rfl) rfl (fun φ C0 => ?_)
  have C := C0.1
  have tail : ∀ (n2 cap2 : Nat → Nat) (A2 : Nat → Nat → Nat) (g2 : Nat → Nat) (S2 : Nat → Nat → Nat → Int32) (kc ns : Nat) (z : Int32), A2 0 0 = A 0 0 → nI (n2 0) = z → kc ≤ 0 → ns ≤ 0 → (fun v w => v = nI (n 0 - 1) ∧ w = wC a E0 (updN n 0 (n 0 - 1)) cap (skp (skp A 5 (poC S (n 0) x)) 6 (poC S (n 0) x)) g en (uS (skp (skp S 5 (poC S (n 0) x)) 6 (poC S (n 0) x)) 3 0 0 (S 3 0 0 + 1))) z (wC a E0 n2 cap2 A2 g2 en S2) → X φ 13 [some (.ref (A 0 0)), some (.int x)] [] (wC a E0 n2 cap2 A2 g2 en S2) kc ns := by
    intro n2 cap2 A2 g2 S2 kc ns z hA hz h1 h2 h3
    refine x_aload_n C 14 dX5_removeCue_13 rfl rfl ?_
    refine x_topq (show Value.ref (A 0 0) = Value.ref (A2 0 0) from by rw [hA]) ?_
    refine xc_get C 17 0 0 (by decide) (show 0 < 1 by decide) rfl fg_X5_removeCue_10 rfl dX5_removeCue_14 rfl ?_
    refine xc_callV_i C 20 kc ns 3 0 3 0 (cC_size hl (j := 0) (by decide)) rfl gX5_removeCue_Jx4a65c_size_8abf5 ⟨rfl, by decide, by decide, rfl⟩ ⟨Nat.le_of_ble_eq_true rfl, Nat.le_of_ble_eq_true rfl⟩ rfl (by decide) (show 0 < 4 by decide) rfl rfl rfl (Nat.le_of_ble_eq_true rfl) ⟨show kc + 0 ≤ 0 by omega, show ns + 0 ≤ 0 by omega⟩ dX5_removeCue_17 rfl rfl rfl (fun r w h => ?_)
    obtain ⟨rfl, rfl⟩ := h
    refine x_top hz ?_
    exact x_zret C0 dX5_removeCue_20 h1 h2 ⟨_, rfl, h3⟩
  refine x_aload_n C 1 dX5_removeCue_0 rfl rfl ?_
  refine xc_get C 4 0 0 (by decide) (show 0 < 1 by decide) rfl fg_X5_removeCue_10 rfl dX5_removeCue_1 rfl ?_
  refine x_aload_n C 5 dX5_removeCue_4 rfl rfl ?_
  refine x_iload_n C 6 dX5_removeCue_5 rfl rfl ?_
  refine xc_callV_i C 9 0 0 0 0 9 1 (cC_requireCue_0 hl hN hq) rfl gX5_removeCue_X5_requireCue ⟨rfl, by decide, by decide, rfl⟩ ⟨Nat.le_of_ble_eq_true rfl, Nat.le_of_ble_eq_true rfl⟩ rfl (by decide) (show 0 < 1 by decide) rfl rfl rfl (Nat.le_of_ble_eq_true rfl) ⟨Nat.le_of_ble_eq_true rfl, Nat.le_of_ble_eq_true rfl⟩ dX5_removeCue_6 rfl rfl rfl (fun r1 w1 h1 => ?_)
  obtain ⟨rfl, rfl⟩ := h1
  refine xc_callV_q C 12 0 0 3 0 3 1 (cC_rem0 hl (hqC_lt hq).1 (hN.1 0 (by decide)).1 (hN.1 0 (by decide)).2) rfl gX5_removeCue_Jx4a65c_remove_915e3 ⟨rfl, by decide, by decide, rfl⟩ ⟨Nat.le_of_ble_eq_true rfl, Nat.le_of_ble_eq_true rfl⟩ rfl (by decide) (show 0 < 4 by decide) rfl rfl rfl (Nat.le_of_ble_eq_true rfl) ⟨Nat.le_of_ble_eq_true rfl, Nat.le_of_ble_eq_true rfl⟩ dX5_removeCue_9 rfl rfl rfl (fun r2 w2 h2 => ?_)
  obtain ⟨rfl, rfl⟩ := h2
  refine x_topq (show _ = Value.ref (A 5 (poC S (n 0) x)) from rfl) ?_
  refine x_pop C 13 dX5_removeCue_12 rfl rfl ?_
  exact tail _ _ _ _ _ _ _ _ (by simp [skp]) (by rw [updN_s]) (Nat.le_of_ble_eq_true rfl) (Nat.le_of_ble_eq_true rfl) ⟨rfl, rfl⟩
set_option maxRecDepth 100000 in
set_option maxHeartbeats 4000000 in
theorem cC_removeCue_1 (hl : l.stackTraces = false) {x : Int32} (hN : CN n cap) (hq : hqC S (n 0) x = false)  : Ct (gm D a E0) l yX5_removeCue wsX5_removeCue { frames := 28, cells := 1, slots := 6, locals := 700 } [.ref (A 0 0), .int x] (wC a E0 n cap A g en S) (qI fun _ _ => False) (fun E w => E = "java/util/NoSuchElementException" ∧ w = wC a E0 n cap A g en S) := by
  refine Ct.of [some (.ref (A 0 0)), some (.int x)] rfl hl (by decide) (Nat.le_of_ble_eq_true rfl) rfl (fun φ C0 => ?_)
  have C := C0.1
  refine x_aload_n C 1 dX5_removeCue_0 rfl rfl ?_
  refine xc_get C 4 0 0 (by decide) (show 0 < 1 by decide) rfl fg_X5_removeCue_10 rfl dX5_removeCue_1 rfl ?_
  refine x_aload_n C 5 dX5_removeCue_4 rfl rfl ?_
  refine x_iload_n C 6 dX5_removeCue_5 rfl rfl ?_
  exact xc_callVx_i C0 9 1 6 0 0 9 1 (cC_requireCue_1 hl hN hq) rfl gX5_removeCue_X5_requireCue ⟨rfl, by decide, by decide, rfl⟩ ⟨Nat.le_of_ble_eq_true rfl, Nat.le_of_ble_eq_true rfl⟩ rfl (by decide) (show 0 < 1 by decide) rfl rfl rfl (Nat.le_of_ble_eq_true rfl) ⟨Nat.le_of_ble_eq_true rfl, Nat.le_of_ble_eq_true rfl⟩ dX5_removeCue_6 rfl rfl rfl (fun _ _ h => h.elim) (fun E w h => h)
theorem fg_X5_setChange_10 : gF RX5 wsX5_setChange 10 9 0 := ⟨RX5, TX5, 11, "StageConsole", rfl, fun w h => (List.mem_cons_of_mem _ (List.mem_append_left _ (List.mem_append_left _ (List.mem_append_left _ (List.mem_append_left _ (List.mem_append_left _ (List.mem_append_left _ (List.mem_append_right _ h)))))))), by decide, (List.mem_cons_of_mem _ (List.mem_append_left _ (List.mem_append_left _ (List.mem_append_left _ (List.mem_append_left _ (List.mem_append_left _ (List.mem_append_left _ (List.mem_append_left _ (List.mem_append_left _ (List.mem_of_getElem? (i := 0) rfl)))))))))), Or.inl rfl⟩
theorem fg_X5_setChange_117 : gF RX5 wsX5_setChange 117 5 4 := ⟨RX1, TX1, 5, "StageConsole$Cue", rfl, fun w h => (List.mem_cons_of_mem _ (List.mem_append_left _ (List.mem_append_left _ (List.mem_append_left _ (List.mem_append_left _ (List.mem_append_left _ (List.mem_append_right _ h))))))), by decide, (List.mem_cons_of_mem _ (List.mem_append_left _ (List.mem_append_left _ (List.mem_append_left _ (List.mem_append_left _ (List.mem_append_left _ (List.mem_append_left _ (List.mem_append_left _ (List.mem_append_left _ (List.mem_of_getElem? (i := 2) rfl)))))))))), Or.inl rfl⟩
set_option maxRecDepth 100000 in
set_option maxHeartbeats 4000000 in
theorem cC_setChange_0 (hl : l.stackTraces = false) {x y : Int32} (hN : CN n cap) (hq : hqC S (n 0) x = true) {c : Nat} (hc : c < 12) (hv : lvB y = true)  : Ct (gm D a E0) l yX5_setChange wsX5_setChange { frames := 28, cells := 0, slots := 0, locals := 700 } [.ref (A 0 0), .int x, .int (nI c), .int y] (wC a E0 n cap A g en S) (qI fun v w => v = S 6 (poC S (n 0) x) c ∧ w = wC a E0 n cap A g en (uS S 6 (poC S (n 0) x) c y)) noX := by
  refine Ct.of [some (.ref (A 0 0)), some (.int x), some (.int (nI c)), some (.int y), none, none, none] rfl hl (by decide) (Nat.le_of_ble_eq_true rfl) rfl (fun φ C0 => ?_)
  have C := C0.1
  refine x_aload_n C 1 dX5_setChange_0 rfl rfl ?_
  refine x_iload_n C 2 dX5_setChange_1 rfl rfl ?_
  refine xc_callV_i C 5 0 0 0 0 9 1 (cC_requireCue_0 hl hN hq) rfl gX5_setChange_X5_requireCue ⟨rfl, by decide, by decide, rfl⟩ ⟨Nat.le_of_ble_eq_true rfl, Nat.le_of_ble_eq_true rfl⟩ rfl (by decide) (show 0 < 1 by decide) rfl rfl rfl (Nat.le_of_ble_eq_true rfl) ⟨Nat.le_of_ble_eq_true rfl, Nat.le_of_ble_eq_true rfl⟩ dX5_setChange_2 rfl rfl rfl (fun r1 w1 h1 => ?_)
  obtain ⟨rfl, rfl⟩ := h1
  refine x_istore C 7 dX5_setChange_5 (by decide) rfl rfl ?_
  refine x_iload_n C 8 dX5_setChange_7 rfl rfl ?_
  refine x_callS0_v C 11 0 0 1 (cC_requireChannel_0 hl (chB_nI hc)) rfl gX5_setChange_X5_requireChannel ⟨by decide, by decide, rfl⟩ ⟨Nat.le_of_ble_eq_true rfl, Nat.le_of_ble_eq_true rfl⟩ rfl rfl (Nat.le_of_ble_eq_true rfl) ⟨Nat.le_of_ble_eq_true rfl, Nat.le_of_ble_eq_true rfl⟩ dX5_setChange_8 rfl rfl rfl (fun w2 h2 => ?_)
  subst h2
  refine x_iload_n C 12 dX5_setChange_11 rfl rfl ?_
  refine x_callS0_v C 15 0 0 1 (cC_requireLevel_0 hl hv) rfl gX5_setChange_X5_requireLevel ⟨by decide, by decide, rfl⟩ ⟨Nat.le_of_ble_eq_true rfl, Nat.le_of_ble_eq_true rfl⟩ rfl rfl (Nat.le_of_ble_eq_true rfl) ⟨Nat.le_of_ble_eq_true rfl, Nat.le_of_ble_eq_true rfl⟩ dX5_setChange_12 rfl rfl rfl (fun w3 h3 => ?_)
  subst h3
  have hlt := (hqC_lt hq).1
  have h16 := hN.2.1
  refine x_aload_n C 16 dX5_setChange_15 rfl rfl ?_
  refine xc_get C 19 0 0 (by decide) (show 0 < 1 by decide) rfl fg_X5_setChange_10 rfl dX5_setChange_16 rfl ?_
  refine x_iload C 21 dX5_setChange_19 rfl rfl ?_
  refine xc_callV_q C 24 0 0 3 0 3 1 (cC_get hl (j := 0) (by decide) (i := (poC S (n 0) x)) (by omega) (hN.1 0 (by decide)).1 (hN.1 0 (by decide)).2) rfl gX5_setChange_Jx4a65c_get_915e3 ⟨rfl, by decide, by decide, rfl⟩ ⟨Nat.le_of_ble_eq_true rfl, Nat.le_of_ble_eq_true rfl⟩ rfl (by decide) (show 0 < 4 by decide) rfl rfl rfl (Nat.le_of_ble_eq_true rfl) ⟨Nat.le_of_ble_eq_true rfl, Nat.le_of_ble_eq_true rfl⟩ dX5_setChange_21 rfl rfl rfl (fun r4 w4 h4 => ?_)
  obtain ⟨rfl, rfl⟩ := h4
  refine x_topq (show _ = Value.ref (A 5 (poC S (n 0) x)) from rfl) ?_
  refine xc_castS C 27 5 (poC S (n 0) x) (by decide) (show (poC S (n 0) x) < n 0 from by omega) rfl rfl (List.mem_cons_of_mem _ (List.mem_append_left _ (List.mem_append_left _ (List.mem_append_left _ (List.mem_append_left _ (List.mem_append_left _ (List.mem_append_left _ (List.mem_append_left _ (List.mem_append_left _ (List.mem_of_getElem? (i := 1) rfl)))))))))) dX5_setChange_24 rfl ?_
  refine xc_get C 30 5 (poC S (n 0) x) (by decide) (show (poC S (n 0) x) < n 0 from by omega) rfl fg_X5_setChange_117 rfl dX5_setChange_27 rfl ?_
  refine x_astore C 32 dX5_setChange_30 (by decide) rfl rfl ?_
  refine x_aload C 34 dX5_setChange_32 rfl rfl ?_
  refine x_iload_n C 35 dX5_setChange_34 rfl rfl ?_
  refine xc_iald C 36 6 (poC S (n 0) x) c (by decide) (show (poC S (n 0) x) < n 0 from by omega) rfl rfl (by omega) dX5_setChange_35 rfl ?_
  refine x_nm (fun bf ebf => ?_)
  refine x_istore C 38 dX5_setChange_36 (by decide) rfl rfl ?_
  refine x_aload C 40 dX5_setChange_38 rfl rfl ?_
  refine x_iload_n C 41 dX5_setChange_40 rfl rfl ?_
  refine x_iload_n C 42 dX5_setChange_41 rfl rfl ?_
  refine xc_iast C 43 6 (poC S (n 0) x) c (by decide) (show (poC S (n 0) x) < n 0 from by omega) (fun _ => rfl) rfl (by omega) dX5_setChange_42 rfl ?_
  refine x_iload C 45 dX5_setChange_43 rfl rfl ?_
  exact x_zret C0 dX5_setChange_45 (Nat.le_of_ble_eq_true rfl) (Nat.le_of_ble_eq_true rfl) ⟨_, rfl, ⟨ebf, rfl⟩⟩
set_option maxRecDepth 100000 in
set_option maxHeartbeats 4000000 in
theorem cC_setChange_1 (hl : l.stackTraces = false) {x y z : Int32} (hN : CN n cap) (hq : hqC S (n 0) x = false)  : Ct (gm D a E0) l yX5_setChange wsX5_setChange { frames := 28, cells := 1, slots := 6, locals := 700 } [.ref (A 0 0), .int x, .int z, .int y] (wC a E0 n cap A g en S) (qI fun _ _ => False) (fun E w => E = "java/util/NoSuchElementException" ∧ w = wC a E0 n cap A g en S) := by
  refine Ct.of [some (.ref (A 0 0)), some (.int x), some (.int z), some (.int y), none, none, none] rfl hl (by decide) (Nat.le_of_ble_eq_true rfl) rfl (fun φ C0 => ?_)
  have C := C0.1
  refine x_aload_n C 1 dX5_setChange_0 rfl rfl ?_
  refine x_iload_n C 2 dX5_setChange_1 rfl rfl ?_
  exact xc_callVx_i C0 5 1 6 0 0 9 1 (cC_requireCue_1 hl hN hq) rfl gX5_setChange_X5_requireCue ⟨rfl, by decide, by decide, rfl⟩ ⟨Nat.le_of_ble_eq_true rfl, Nat.le_of_ble_eq_true rfl⟩ rfl (by decide) (show 0 < 1 by decide) rfl rfl rfl (Nat.le_of_ble_eq_true rfl) ⟨Nat.le_of_ble_eq_true rfl, Nat.le_of_ble_eq_true rfl⟩ dX5_setChange_2 rfl rfl rfl (fun _ _ h => h.elim) (fun E w h => h)
set_option maxRecDepth 100000 in
set_option maxHeartbeats 4000000 in
theorem cC_setChange_2 (hl : l.stackTraces = false) {x y z : Int32} (hN : CN n cap) (hq : hqC S (n 0) x = true) (hc : chB z = false)  : Ct (gm D a E0) l yX5_setChange wsX5_setChange { frames := 28, cells := 1, slots := 6, locals := 700 } [.ref (A 0 0), .int x, .int z, .int y] (wC a E0 n cap A g en S) (qI fun _ _ => False) (fun E w => E = "java/lang/IndexOutOfBoundsException" ∧ w = wC a E0 n cap A g en S) := by
  refine Ct.of [some (.ref (A 0 0)), some (.int x), some (.int z), some (.int y), none, none, none] rfl hl (by decide) (Nat.le_of_ble_eq_true rfl) rfl (fun φ C0 => ?_)
  have C := C0.1
  refine x_aload_n C 1 dX5_setChange_0 rfl rfl ?_
  refine x_iload_n C 2 dX5_setChange_1 rfl rfl ?_
  refine xc_callV_i C 5 0 0 0 0 9 1 (cC_requireCue_0 hl hN hq) rfl gX5_setChange_X5_requireCue ⟨rfl, by decide, by decide, rfl⟩ ⟨Nat.le_of_ble_eq_true rfl, Nat.le_of_ble_eq_true rfl⟩ rfl (by decide) (show 0 < 1 by decide) rfl rfl rfl (Nat.le_of_ble_eq_true rfl) ⟨Nat.le_of_ble_eq_true rfl, Nat.le_of_ble_eq_true rfl⟩ dX5_setChange_2 rfl rfl rfl (fun r1 w1 h1 => ?_)
  obtain ⟨rfl, rfl⟩ := h1
  refine x_istore C 7 dX5_setChange_5 (by decide) rfl rfl ?_
  refine x_iload_n C 8 dX5_setChange_7 rfl rfl ?_
  exact x_callSx0_v C0 11 1 6 1 (cC_requireChannel_1 hl hc) rfl gX5_setChange_X5_requireChannel ⟨by decide, by decide, rfl⟩ ⟨Nat.le_of_ble_eq_true rfl, Nat.le_of_ble_eq_true rfl⟩ rfl rfl (Nat.le_of_ble_eq_true rfl) ⟨Nat.le_of_ble_eq_true rfl, Nat.le_of_ble_eq_true rfl⟩ dX5_setChange_8 rfl rfl rfl (fun _ h => h.elim) (fun E w h => h)
end CC
