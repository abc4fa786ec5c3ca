section CC
variable {l : Launch} {Γ : Gm} {D : va_G} {a : Nat → ClassId} {E0 : Nat} {n cap : Nat → Nat} {A : Nat → Nat → Nat} {g : Nat → Nat} {en : Int64} {S : Nat → Nat → Nat → Int32}
set_option maxRecDepth 100000 in
set_option maxHeartbeats 4000000 in
theorem cC_setChange_3 (hl : l.stackTraces = false) {x y : Int32} (hN : CN n cap) (hq : hqC S (n 0) x = true) {c : Nat} (hc : c < 12) (hv : lvB y = false)  : Ct (gm D a E0) l yX5_setChange wsX5_setChange { frames := 28, cells := 1, slots := 6, locals := 700 } [.ref (A 0 0), .int x, .int (nI c), .int y] (wC a E0 n cap A g en S) (qI fun _ _ => False) (fun E w => E = "java/lang/IllegalArgumentException" ∧ w = wC a E0 n cap A g en S) := by
  refine Ct.of [some (.ref (A 0 0)), some (.int x), some (.int (nI c)), some (.int y), none, none, none] rfl hl (by decide) (Nat.le_of_ble_eq_true rfl) rfl (fun φ C0 => ?_)
  have C := C0.1
  refine x_aload_n C 1 dX5_setChange_0 rfl rfl ?_
  refine x_iload_n C 2 dX5_setChange_1 rfl rfl ?_
  refine xc_callV_i C 5 0 0 0 0 9 1 (cC_requireCue_0 hl hN hq) rfl gX5_setChange_X5_requireCue ⟨rfl, by decide, by decide, rfl⟩ ⟨Nat.le_of_ble_eq_true rfl, Nat.le_of_ble_eq_true rfl⟩ rfl (by decide) (show 0 < 1 by decide) rfl rfl rfl (Nat.le_of_ble_eq_true rfl) ⟨Nat.le_of_ble_eq_true rfl, Nat.le_of_ble_eq_true rfl⟩ dX5_setChange_2 rfl rfl rfl (fun r1 w1 h1 => ?_)
  obtain ⟨rfl, rfl⟩ := h1
  refine x_istore C 7 dX5_setChange_5 (by decide) rfl rfl ?_
  refine x_iload_n C 8 dX5_setChange_7 rfl rfl ?_
  refine x_callS0_v C 11 0 0 1 (cC_requireChannel_0 hl (chB_nI hc)) rfl gX5_setChange_X5_requireChannel ⟨by decide, by decide, rfl⟩ ⟨Nat.le_of_ble_eq_true rfl, Nat.le_of_ble_eq_true rfl⟩ rfl rfl (Nat.le_of_ble_eq_true rfl) ⟨Nat.le_of_ble_eq_true rfl, Nat.le_of_ble_eq_true rfl⟩ dX5_setChange_8 rfl rfl rfl (fun w2 h2 => ?_)
  subst h2
  refine x_iload_n C 12 dX5_setChange_11 rfl rfl ?_
  exact x_callSx0_v C0 15 1 6 1 (cC_requireLevel_1 hl hv) rfl gX5_setChange_X5_requireLevel ⟨by decide, by decide, rfl⟩ ⟨Nat.le_of_ble_eq_true rfl, Nat.le_of_ble_eq_true rfl⟩ rfl rfl (Nat.le_of_ble_eq_true rfl) ⟨Nat.le_of_ble_eq_true rfl, Nat.le_of_ble_eq_true rfl⟩ dX5_setChange_12 rfl rfl rfl (fun _ h => h.elim) (fun E w h => h)
theorem fg_X5_removeChange_10 : gF RX5 wsX5_removeChange 10 9 0 := ⟨RX5, TX5, 11, "StageConsole", rfl, fun w h => (List.mem_cons_of_mem _ (List.mem_append_left _ (List.mem_append_left _ (List.mem_append_left _ (List.mem_append_left _ (List.mem_append_left _ (List.mem_append_right _ h))))))), by decide, (List.mem_cons_of_mem _ (List.mem_append_left _ (List.mem_append_left _ (List.mem_append_left _ (List.mem_append_left _ (List.mem_append_left _ (List.mem_append_left _ (List.mem_append_left _ (List.mem_of_getElem? (i := 2) rfl))))))))), Or.inl rfl⟩
theorem fg_X5_removeChange_117 : gF RX5 wsX5_removeChange 117 5 4 := ⟨RX1, TX1, 5, "StageConsole$Cue", rfl, fun w h => (List.mem_cons_of_mem _ (List.mem_append_left _ (List.mem_append_left _ (List.mem_append_left _ (List.mem_append_left _ (List.mem_append_right _ h)))))), by decide, (List.mem_cons_of_mem _ (List.mem_append_left _ (List.mem_append_left _ (List.mem_append_left _ (List.mem_append_left _ (List.mem_append_left _ (List.mem_append_left _ (List.mem_append_left _ (List.mem_of_getElem? (i := 4) rfl))))))))), Or.inl rfl⟩
set_option maxRecDepth 100000 in
set_option maxHeartbeats 4000000 in
theorem cC_removeChange_0 (hl : l.stackTraces = false) {x : Int32} (hN : CN n cap) (hq : hqC S (n 0) x = true) {c : Nat} (hc : c < 12) (hv : ¬ S 6 (poC S (n 0) x) c = -1)  : Ct (gm D a E0) l yX5_removeChange wsX5_removeChange { frames := 28, cells := 0, slots := 0, locals := 700 } [.ref (A 0 0), .int x, .int (nI c)] (wC a E0 n cap A g en S) (qI fun v w => v = S 6 (poC S (n 0) x) c ∧ w = wC a E0 n cap A g en (uS S 6 (poC S (n 0) x) c (-1))) noX := by
  refine Ct.of [some (.ref (A 0 0)), some (.int x), some (.int (nI c)), none, none, none] rfl hl (by decide) (Nat.le_of_ble_eq_true rfl) rfl (fun φ C0 => ?_)
  have C := C0.1
  refine x_aload_n C 1 dX5_removeChange_0 rfl rfl ?_
  refine x_iload_n C 2 dX5_removeChange_1 rfl rfl ?_
  refine xc_callV_i C 5 0 0 0 0 9 1 (cC_requireCue_0 hl hN hq) rfl gX5_removeChange_X5_requireCue ⟨rfl, by decide, by decide, rfl⟩ ⟨Nat.le_of_ble_eq_true rfl, Nat.le_of_ble_eq_true rfl⟩ rfl (by decide) (show 0 < 1 by decide) rfl rfl rfl (Nat.le_of_ble_eq_true rfl) ⟨Nat.le_of_ble_eq_true rfl, Nat.le_of_ble_eq_true rfl⟩ dX5_removeChange_2 rfl rfl rfl (fun r1 w1 h1 => ?_)
  obtain ⟨rfl, rfl⟩ := h1
  refine x_istore_n C 6 dX5_removeChange_5 (by decide) rfl rfl ?_
  refine x_iload_n C 7 dX5_removeChange_6 rfl rfl ?_
  refine x_callS0_v C 10 0 0 1 (cC_requireChannel_0 hl (chB_nI hc)) rfl gX5_removeChange_X5_requireChannel ⟨by decide, by decide, rfl⟩ ⟨Nat.le_of_ble_eq_true rfl, Nat.le_of_ble_eq_true rfl⟩ rfl rfl (Nat.le_of_ble_eq_true rfl) ⟨Nat.le_of_ble_eq_true rfl, Nat.le_of_ble_eq_true rfl⟩ dX5_removeChange_7 rfl rfl rfl (fun w2 h2 => ?_)
  subst h2
  have hlt := (hqC_lt hq).1
  have h16 := hN.2.1
  refine x_aload_n C 11 dX5_removeChange_10 rfl rfl ?_
  refine xc_get C 14 0 0 (by decide) (show 0 < 1 by decide) rfl fg_X5_removeChange_10 rfl dX5_removeChange_11 rfl ?_
  refine x_iload_n C 15 dX5_removeChange_14 rfl rfl ?_
  refine xc_callV_q C 18 0 0 3 0 3 1 (cC_get hl (j := 0) (by decide) (i := (poC S (n 0) x)) (by omega) (hN.1 0 (by decide)).1 (hN.1 0 (by decide)).2) rfl gX5_removeChange_Jx4a65c_get_915e3 ⟨rfl, by decide, by decide, rfl⟩ ⟨Nat.le_of_ble_eq_true rfl, Nat.le_of_ble_eq_true rfl⟩ rfl (by decide) (show 0 < 4 by decide) rfl rfl rfl (Nat.le_of_ble_eq_true rfl) ⟨Nat.le_of_ble_eq_true rfl, Nat.le_of_ble_eq_true rfl⟩ dX5_removeChange_15 rfl rfl rfl (fun r3 w3 h3 => ?_)
  obtain ⟨rfl, rfl⟩ := h3
  refine x_topq (show _ = Value.ref (A 5 (poC S (n 0) x)) from rfl) ?_
  refine xc_castS C 21 5 (poC S (n 0) x) (by decide) (show (poC S (n 0) x) < n 0 from by omega) rfl rfl (List.mem_cons_of_mem _ (List.mem_append_left _ (List.mem_append_left _ (List.mem_append_left _ (List.mem_append_left _ (List.mem_append_left _ (List.mem_append_left _ (List.mem_append_left _ (List.mem_of_getElem? (i := 3) rfl))))))))) dX5_removeChange_18 rfl ?_
  refine xc_get C 24 5 (poC S (n 0) x) (by decide) (show (poC S (n 0) x) < n 0 from by omega) rfl fg_X5_removeChange_117 rfl dX5_removeChange_21 rfl ?_
  refine x_astore C 26 dX5_removeChange_24 (by decide) rfl rfl ?_
  refine x_aload C 28 dX5_removeChange_26 rfl rfl ?_
  refine x_iload_n C 29 dX5_removeChange_28 rfl rfl ?_
  refine xc_iald C 30 6 (poC S (n 0) x) c (by decide) (show (poC S (n 0) x) < n 0 from by omega) rfl rfl (by omega) dX5_removeChange_29 rfl ?_
  refine x_nm (fun bf ebf => ?_)
  refine x_istore C 32 dX5_removeChange_30 (by decide) rfl rfl ?_
  refine x_iload C 34 dX5_removeChange_32 rfl rfl ?_
  refine x_iconst (v := (-1)) C 35 dX5_removeChange_34 (by decide) rfl ?_
  refine x_icmp_ne C 48 38 dX5_removeChange_35 (by decide) rfl (fun zk35 => ?_) (fun zk35 => ?_)
  · refine x_aload C 50 dX5_removeChange_48 rfl rfl ?_
    refine x_iload_n C 51 dX5_removeChange_50 rfl rfl ?_
    refine x_iconst (v := (-1)) C 52 dX5_removeChange_51 (by decide) rfl ?_
    refine xc_iast C 53 6 (poC S (n 0) x) c (by decide) (show (poC S (n 0) x) < n 0 from by omega) (fun _ => rfl) rfl (by omega) dX5_removeChange_52 rfl ?_
    refine x_iload C 55 dX5_removeChange_53 rfl rfl ?_
    exact x_zret C0 dX5_removeChange_55 (Nat.le_of_ble_eq_true rfl) (Nat.le_of_ble_eq_true rfl) ⟨_, rfl, ⟨ebf, rfl⟩⟩
  · exact absurd (ebf.symm.trans zk35) hv
set_option maxRecDepth 100000 in
set_option maxHeartbeats 4000000 in
theorem cC_removeChange_1 (hl : l.stackTraces = false) {x z : Int32} (hN : CN n cap) (hq : hqC S (n 0) x = false)  : Ct (gm D a E0) l yX5_removeChange wsX5_removeChange { frames := 28, cells := 1, slots := 6, locals := 700 } [.ref (A 0 0), .int x, .int z] (wC a E0 n cap A g en S) (qI fun _ _ => False) (fun E w => E = "java/util/NoSuchElementException" ∧ w = wC a E0 n cap A g en S) := by
  refine Ct.of [some (.ref (A 0 0)), some (.int x), some (.int z), none, none, none] rfl hl (by decide) (Nat.le_of_ble_eq_true rfl) rfl (fun φ C0 => ?_)
  have C := C0.1
  refine x_aload_n C 1 dX5_removeChange_0 rfl rfl ?_
  refine x_iload_n C 2 dX5_removeChange_1 rfl rfl ?_
  exact xc_callVx_i C0 5 1 6 0 0 9 1 (cC_requireCue_1 hl hN hq) rfl gX5_removeChange_X5_requireCue ⟨rfl, by decide, by decide, rfl⟩ ⟨Nat.le_of_ble_eq_true rfl, Nat.le_of_ble_eq_true rfl⟩ rfl (by decide) (show 0 < 1 by decide) rfl rfl rfl (Nat.le_of_ble_eq_true rfl) ⟨Nat.le_of_ble_eq_true rfl, Nat.le_of_ble_eq_true rfl⟩ dX5_removeChange_2 rfl rfl rfl (fun _ _ h => h.elim) (fun E w h => h)
set_option maxRecDepth 100000 in
set_option maxHeartbeats 4000000 in
theorem cC_removeChange_2 (hl : l.stackTraces = false) {x z : Int32} (hN : CN n cap) (hq : hqC S (n 0) x = true) (hc : chB z = false)  : Ct (gm D a E0) l yX5_removeChange wsX5_removeChange { frames := 28, cells := 1, slots := 6, locals := 700 } [.ref (A 0 0), .int x, .int z] (wC a E0 n cap A g en S) (qI fun _ _ => False) (fun E w => E = "java/lang/IndexOutOfBoundsException" ∧ w = wC a E0 n cap A g en S) := by
  refine Ct.of [some (.ref (A 0 0)), some (.int x), some (.int z), none, none, none] rfl hl (by decide) (Nat.le_of_ble_eq_true rfl) rfl (fun φ C0 => ?_)
  have C := C0.1
  refine x_aload_n C 1 dX5_removeChange_0 rfl rfl ?_
  refine x_iload_n C 2 dX5_removeChange_1 rfl rfl ?_
  refine xc_callV_i C 5 0 0 0 0 9 1 (cC_requireCue_0 hl hN hq) rfl gX5_removeChange_X5_requireCue ⟨rfl, by decide, by decide, rfl⟩ ⟨Nat.le_of_ble_eq_true rfl, Nat.le_of_ble_eq_true rfl⟩ rfl (by decide) (show 0 < 1 by decide) rfl rfl rfl (Nat.le_of_ble_eq_true rfl) ⟨Nat.le_of_ble_eq_true rfl, Nat.le_of_ble_eq_true rfl⟩ dX5_removeChange_2 rfl rfl rfl (fun r1 w1 h1 => ?_)
  obtain ⟨rfl, rfl⟩ := h1
  refine x_istore_n C 6 dX5_removeChange_5 (by decide) rfl rfl ?_
  refine x_iload_n C 7 dX5_removeChange_6 rfl rfl ?_
  exact x_callSx0_v C0 10 1 6 1 (cC_requireChannel_1 hl hc) rfl gX5_removeChange_X5_requireChannel ⟨by decide, by decide, rfl⟩ ⟨Nat.le_of_ble_eq_true rfl, Nat.le_of_ble_eq_true rfl⟩ rfl rfl (Nat.le_of_ble_eq_true rfl) ⟨Nat.le_of_ble_eq_true rfl, Nat.le_of_ble_eq_true rfl⟩ dX5_removeChange_7 rfl rfl rfl (fun _ h => h.elim) (fun E w h => h)
set_option maxRecDepth 100000 in
set_option maxHeartbeats 4000000 in
theorem cC_removeChange_3 (hl : l.stackTraces = false) {x : Int32} (hN : CN n cap) (hq : hqC S (n 0) x = true) {c : Nat} (hc : c < 12) (hv : S 6 (poC S (n 0) x) c = -1)  : Ct (gm D a E0) l yX5_removeChange wsX5_removeChange { frames := 28, cells := 1, slots := 6, locals := 700 } [.ref (A 0 0), .int x, .int (nI c)] (wC a E0 n cap A g en S) (qI fun _ _ => False) (fun E w => E = "java/util/NoSuchElementException" ∧ w = wC a E0 n cap A g en S) := by
  refine Ct.of [some (.ref (A 0 0)), some (.int x), some (.int (nI c)), none, none, none] rfl hl (by decide) (Nat.le_of_ble_eq_true rfl) rfl (fun φ C0 => ?_)
  have C := C0.1
  refine x_aload_n C 1 dX5_removeChange_0 rfl rfl ?_
  refine x_iload_n C 2 dX5_removeChange_1 rfl rfl ?_
  refine xc_callV_i C 5 0 0 0 0 9 1 (cC_requireCue_0 hl hN hq) rfl gX5_removeChange_X5_requireCue ⟨rfl, by decide, by decide, rfl⟩ ⟨Nat.le_of_ble_eq_true rfl, Nat.le_of_ble_eq_true rfl⟩ rfl (by decide) (show 0 < 1 by decide) rfl rfl rfl (Nat.le_of_ble_eq_true rfl) ⟨Nat.le_of_ble_eq_true rfl, Nat.le_of_ble_eq_true rfl⟩ dX5_removeChange_2 rfl rfl rfl (fun r1 w1 h1 => ?_)
  obtain ⟨rfl, rfl⟩ := h1
  refine x_istore_n C 6 dX5_removeChange_5 (by decide) rfl rfl ?_
  refine x_iload_n C 7 dX5_removeChange_6 rfl rfl ?_
  refine x_callS0_v C 10 0 0 1 (cC_requireChannel_0 hl (chB_nI hc)) rfl gX5_removeChange_X5_requireChannel ⟨by decide, by decide, rfl⟩ ⟨Nat.le_of_ble_eq_true rfl, Nat.le_of_ble_eq_true rfl⟩ rfl rfl (Nat.le_of_ble_eq_true rfl) ⟨Nat.le_of_ble_eq_true rfl, Nat.le_of_ble_eq_true rfl⟩ dX5_removeChange_7 rfl rfl rfl (fun w2 h2 => ?_)
  subst h2
  have hlt := (hqC_lt hq).1
  have h16 := hN.2.1
  refine x_aload_n C 11 dX5_removeChange_10 rfl rfl ?_
  refine xc_get C 14 0 0 (by decide) (show 0 < 1 by decide) rfl fg_X5_removeChange_10 rfl dX5_removeChange_11 rfl ?_
  refine x_iload_n C 15 dX5_removeChange_14 rfl rfl ?_
  refine xc_callV_q C 18 0 0 3 0 3 1 (cC_get hl (j := 0) (by decide) (i := (poC S (n 0) x)) (by omega) (hN.1 0 (by decide)).1 (hN.1 0 (by decide)).2) rfl gX5_removeChange_Jx4a65c_get_915e3 ⟨rfl, by decide, by decide, rfl⟩ ⟨Nat.le_of_ble_eq_true rfl, Nat.le_of_ble_eq_true rfl⟩ rfl (by decide) (show 0 < 4 by decide) rfl rfl rfl (Nat.le_of_ble_eq_true rfl) ⟨Nat.le_of_ble_eq_true rfl, Nat.le_of_ble_eq_true rfl⟩ dX5_removeChange_15 rfl rfl rfl (fun r3 w3 h3 => ?_)
  obtain ⟨rfl, rfl⟩ := h3
  refine x_topq (show _ = Value.ref (A 5 (poC S (n 0) x)) from rfl) ?_
  refine xc_castS C 21 5 (poC S (n 0) x) (by decide) (show (poC S (n 0) x) < n 0 from by omega) rfl rfl (List.mem_cons_of_mem _ (List.mem_append_left _ (List.mem_append_left _ (List.mem_append_left _ (List.mem_append_left _ (List.mem_append_left _ (List.mem_append_left _ (List.mem_append_left _ (List.mem_of_getElem? (i := 3) rfl))))))))) dX5_removeChange_18 rfl ?_
  refine xc_get C 24 5 (poC S (n 0) x) (by decide) (show (poC S (n 0) x) < n 0 from by omega) rfl fg_X5_removeChange_117 rfl dX5_removeChange_21 rfl ?_
  refine x_astore C 26 dX5_removeChange_24 (by decide) rfl rfl ?_
  refine x_aload C 28 dX5_removeChange_26 rfl rfl ?_
  refine x_iload_n C 29 dX5_removeChange_28 rfl rfl ?_
  refine xc_iald C 30 6 (poC S (n 0) x) c (by decide) (show (poC S (n 0) x) < n 0 from by omega) rfl rfl (by omega) dX5_removeChange_29 rfl ?_
  refine x_nm (fun bf ebf => ?_)
  refine x_istore C 32 dX5_removeChange_30 (by decide) rfl rfl ?_
  refine x_iload C 34 dX5_removeChange_32 rfl rfl ?_
  refine x_iconst (v := (-1)) C 35 dX5_removeChange_34 (by decide) rfl ?_
  refine x_icmp_ne C 48 38 dX5_removeChange_35 (by decide) rfl (fun zk35 => ?_) (fun zk35 => ?_)
  · exact absurd (ebf.trans hv) zk35
  · exact x_throwS C0 (cls := "java/util/NoSuchElementException") (text := "the cue has no change for this channel") (names := ["java/lang/RuntimeException", "java/lang/Exception"]) (List.mem_of_getElem? (i := 18) rfl) (by decide) (by decide) (List.mem_cons_of_mem _ (List.mem_append_left _ (List.mem_append_left _ (List.mem_append_left _ (List.mem_append_left _ (List.mem_append_left _ (List.mem_append_left _ (List.mem_append_left _ (List.mem_of_getElem? (i := 0) rfl))))))))) (List.mem_cons_of_mem _ (List.mem_append_left _ (List.mem_append_left _ (List.mem_append_left _ (List.mem_append_left _ (List.mem_append_left _ (List.mem_append_left _ (List.mem_append_left _ (List.mem_of_getElem? (i := 1) rfl))))))))) (fun w h => (List.mem_cons_of_mem _ (List.mem_append_left _ (List.mem_append_right _ h)))) (by decide) (by decide +kernel) (by decide +kernel) dX5_removeChange_38 dX5_removeChange_41 dX5_removeChange_42 dX5_removeChange_44 dX5_removeChange_47 (Nat.le_of_ble_eq_true rfl) (Nat.le_of_ble_eq_true rfl) (Nat.le_of_ble_eq_true rfl) (Nat.le_of_ble_eq_true rfl) ⟨rfl, rfl⟩   
theorem fg_X5_setBlock_10 : gF RX5 wsX5_setBlock 10 9 0 := ⟨RX5, TX5, 11, "StageConsole", rfl, fun w h => (List.mem_cons_of_mem _ (List.mem_append_left _ (List.mem_append_left _ (List.mem_append_left _ (List.mem_append_right _ h))))), by decide, (List.mem_cons_of_mem _ (List.mem_append_left _ (List.mem_append_left _ (List.mem_append_left _ (List.mem_append_left _ (List.mem_append_left _ (List.mem_of_getElem? (i := 0) rfl))))))), Or.inl rfl⟩
theorem fg_X5_setBlock_125 : gF RX5 wsX5_setBlock 125 5 3 := ⟨RX1, TX1, 5, "StageConsole$Cue", rfl, fun w h => (List.mem_cons_of_mem _ (List.mem_append_left _ (List.mem_append_left _ (List.mem_append_right _ h)))), by decide, (List.mem_cons_of_mem _ (List.mem_append_left _ (List.mem_append_left _ (List.mem_append_left _ (List.mem_append_left _ (List.mem_append_left _ (List.mem_of_getElem? (i := 2) rfl))))))), Or.inl rfl⟩
theorem fp_X5_setBlock_125 : pF RX5 wsX5_setBlock 125 5 3 false (.boolean) := ⟨RX1, TX1, 5, "StageConsole$Cue", tyX1, rfl, fun w h => (List.mem_cons_of_mem _ (List.mem_append_left _ (List.mem_append_left _ (List.mem_append_right _ h)))), by decide, (List.mem_cons_of_mem _ (List.mem_append_left _ (List.mem_append_left _ (List.mem_append_left _ (List.mem_append_left _ (List.mem_append_left _ (List.mem_of_getElem? (i := 2) rfl))))))), Or.inl rfl, tyX1_ok, nmX1, rfl, rfl, fun h => absurd h (by decide)⟩
set_option maxRecDepth 100000 in
set_option maxHeartbeats 4000000 in
theorem cC_setBlock_0 (hl : l.stackTraces = false) {x : Int32} {b : Bool} (hN : CN n cap) (hq : hqC S (n 0) x = true) (hbo : boK (S 5 (poC S (n 0) x) 3))  : Ct (gm D a E0) l yX5_setBlock wsX5_setBlock { frames := 28, cells := 0, slots := 0, locals := 700 } [.ref (A 0 0), .int x, .int (bI b)] (wC a E0 n cap A g en S) (qI fun v w => v = S 5 (poC S (n 0) x) 3 ∧ w = wC a E0 n cap A g en (uS S 5 (poC S (n 0) x) 3 (bI b))) noX := by
  refine Ct.of [some (.ref (A 0 0)), some (.int x), some (.int (bI b)), none, none] rfl hl (by decide) (Nat.le_of_ble_eq_true rfl) rfl (fun φ C0 => ?_)
  have C := C0.1
  refine x_aload_n C 1 dX5_setBlock_0 rfl rfl ?_
  refine xc_get C 4 0 0 (by decide) (show 0 < 1 by decide) rfl fg_X5_setBlock_10 rfl dX5_setBlock_1 rfl ?_
  refine x_aload_n C 5 dX5_setBlock_4 rfl rfl ?_
  refine x_iload_n C 6 dX5_setBlock_5 rfl rfl ?_
  refine xc_callV_i C 9 0 0 0 0 9 1 (cC_requireCue_0 hl hN hq) rfl gX5_setBlock_X5_requireCue ⟨rfl, by decide, by decide, rfl⟩ ⟨Nat.le_of_ble_eq_true rfl, Nat.le_of_ble_eq_true rfl⟩ rfl (by decide) (show 0 < 1 by decide) rfl rfl rfl (Nat.le_of_ble_eq_true rfl) ⟨Nat.le_of_ble_eq_true rfl, Nat.le_of_ble_eq_true rfl⟩ dX5_setBlock_6 rfl rfl rfl (fun r1 w1 h1 => ?_)
  obtain ⟨rfl, rfl⟩ := h1
  have hlt := (hqC_lt hq).1
  have h16 := hN.2.1
  refine xc_callV_q C 12 0 0 3 0 3 1 (cC_get hl (j := 0) (by decide) (i := (poC S (n 0) x)) (by omega) (hN.1 0 (by decide)).1 (hN.1 0 (by decide)).2) rfl gX5_setBlock_Jx4a65c_get_915e3 ⟨rfl, by decide, by decide, rfl⟩ ⟨Nat.le_of_ble_eq_true rfl, Nat.le_of_ble_eq_true rfl⟩ rfl (by decide) (show 0 < 4 by decide) rfl rfl rfl (Nat.le_of_ble_eq_true rfl) ⟨Nat.le_of_ble_eq_true rfl, Nat.le_of_ble_eq_true rfl⟩ dX5_setBlock_9 rfl rfl rfl (fun r2 w2 h2 => ?_)
  obtain ⟨rfl, rfl⟩ := h2
  refine x_topq (show _ = Value.ref (A 5 (poC S (n 0) x)) from rfl) ?_
  refine xc_castS C 15 5 (poC S (n 0) x) (by decide) (show (poC S (n 0) x) < n 0 from by omega) rfl rfl (List.mem_cons_of_mem _ (List.mem_append_left _ (List.mem_append_left _ (List.mem_append_left _ (List.mem_append_left _ (List.mem_append_left _ (List.mem_of_getElem? (i := 1) rfl))))))) dX5_setBlock_12 rfl ?_
  refine x_astore_n C 16 dX5_setBlock_15 (by decide) rfl rfl ?_
  refine x_aload_n C 17 dX5_setBlock_16 rfl rfl ?_
  refine xc_get C 20 5 (poC S (n 0) x) (by decide) (show (poC S (n 0) x) < n 0 from by omega) rfl fg_X5_setBlock_125 rfl dX5_setBlock_17 rfl ?_
  refine x_nm (fun bf ebf => ?_)
  refine x_istore C 22 dX5_setBlock_20 (by decide) rfl rfl ?_
  refine x_aload_n C 23 dX5_setBlock_22 rfl rfl ?_
  refine x_iload_n C 24 dX5_setBlock_23 rfl rfl ?_
  refine xc_put C 27 5 (poC S (n 0) x) 3 (by decide) (show (poC S (n 0) x) < n 0 from by omega) rfl fp_X5_setBlock_125 (bI_nar _) (bI_fit _) (Nat.le_of_ble_eq_true rfl) rfl dX5_setBlock_24 rfl ?_
  refine x_iload C 29 dX5_setBlock_27 rfl rfl ?_
  exact x_nret C0 rfl (by rw [ebf]; exact hbo.1) dX5_setBlock_29 (Nat.le_of_ble_eq_true rfl) (Nat.le_of_ble_eq_true rfl) ⟨_, rfl, ⟨ebf, rfl⟩⟩
set_option maxRecDepth 100000 in
set_option maxHeartbeats 4000000 in
theorem cC_setBlock_1 (hl : l.stackTraces = false) {x : Int32} {b : Bool} (hN : CN n cap) (hq : hqC S (n 0) x = false)  : Ct (gm D a E0) l yX5_setBlock wsX5_setBlock { frames := 28, cells := 1, slots := 6, locals := 700 } [.ref (A 0 0), .int x, .int (bI b)] (wC a E0 n cap A g en S) (qI fun _ _ => False) (fun E w => E = "java/util/NoSuchElementException" ∧ w = wC a E0 n cap A g en S) := by
  refine Ct.of [some (.ref (A 0 0)), some (.int x), some (.int (bI b)), none, none] rfl hl (by decide) (Nat.le_of_ble_eq_true rfl) rfl (fun φ C0 => ?_)
  have C := C0.1
  refine x_aload_n C 1 dX5_setBlock_0 rfl rfl ?_
  refine xc_get C 4 0 0 (by decide) (show 0 < 1 by decide) rfl fg_X5_setBlock_10 rfl dX5_setBlock_1 rfl ?_
  refine x_aload_n C 5 dX5_setBlock_4 rfl rfl ?_
  refine x_iload_n C 6 dX5_setBlock_5 rfl rfl ?_
  exact xc_callVx_i C0 9 1 6 0 0 9 1 (cC_requireCue_1 hl hN hq) rfl gX5_setBlock_X5_requireCue ⟨rfl, by decide, by decide, rfl⟩ ⟨Nat.le_of_ble_eq_true rfl, Nat.le_of_ble_eq_true rfl⟩ rfl (by decide) (show 0 < 1 by decide) rfl rfl rfl (Nat.le_of_ble_eq_true rfl) ⟨Nat.le_of_ble_eq_true rfl, Nat.le_of_ble_eq_true rfl⟩ dX5_setBlock_6 rfl rfl rfl (fun _ _ h => h.elim) (fun E w h => h)
set_option maxRecDepth 100000 in
set_option maxHeartbeats 4000000 in
theorem cC_trackedLevel_0 (hl : l.stackTraces = false) {x : Int32} (hN : CN n cap) (hq : hqC S (n 0) x = true) {c : Nat} (hc : c < 12)  : Ct (gm D a E0) l yX5_trackedLevel wsX5_trackedLevel { frames := 28, cells := 0, slots := 0, locals := 700 } [.ref (A 0 0), .int x, .int (nI c)] (wC a E0 n cap A g en S) (qI fun v w => v = trC S c ((poC S (n 0) x) + 1) ∧ w = wC a E0 n cap A g en S) noX := by
  refine Ct.of [some (.ref (A 0 0)), some (.int x), some (.int (nI c)), none] rfl hl (by decide) (Nat.le_of_ble_eq_true rfl) rfl (fun φ C0 => ?_)
  have C := C0.1
  refine x_aload_n C 1 dX5_trackedLevel_0 rfl rfl ?_
  refine x_iload_n C 2 dX5_trackedLevel_1 rfl rfl ?_
  refine xc_callV_i C 5 0 0 0 0 9 1 (cC_requireCue_0 hl hN hq) rfl gX5_trackedLevel_X5_requireCue ⟨rfl, by decide, by decide, rfl⟩ ⟨Nat.le_of_ble_eq_true rfl, Nat.le_of_ble_eq_true rfl⟩ rfl (by decide) (show 0 < 1 by decide) rfl rfl rfl (Nat.le_of_ble_eq_true rfl) ⟨Nat.le_of_ble_eq_true rfl, Nat.le_of_ble_eq_true rfl⟩ dX5_trackedLevel_2 rfl rfl rfl (fun r1 w1 h1 => ?_)
  obtain ⟨rfl, rfl⟩ := h1
  refine x_istore_n C 6 dX5_trackedLevel_5 (by decide) rfl rfl ?_
  refine x_iload_n C 7 dX5_trackedLevel_6 rfl rfl ?_
  refine x_callS0_v C 10 0 0 1 (cC_requireChannel_0 hl (chB_nI hc)) rfl gX5_trackedLevel_X5_requireChannel ⟨by decide, by decide, rfl⟩ ⟨Nat.le_of_ble_eq_true rfl, Nat.le_of_ble_eq_true rfl⟩ rfl rfl (Nat.le_of_ble_eq_true rfl) ⟨Nat.le_of_ble_eq_true rfl, Nat.le_of_ble_eq_true rfl⟩ dX5_trackedLevel_7 rfl rfl rfl (fun w2 h2 => ?_)
  subst h2
  refine x_aload_n C 11 dX5_trackedLevel_10 rfl rfl ?_
  refine x_iload_n C 12 dX5_trackedLevel_11 rfl rfl ?_
  refine x_iload_n C 13 dX5_trackedLevel_12 rfl rfl ?_
  refine xc_callV_i C 16 0 0 0 0 9 2 (cC_trackedAt hl hN (hqC_lt hq).1 hc) rfl gX5_trackedLevel_X5_trackedAt ⟨rfl, by decide, by decide, rfl⟩ ⟨Nat.le_of_ble_eq_true rfl, Nat.le_of_ble_eq_true rfl⟩ rfl (by decide) (show 0 < 1 by decide) rfl rfl rfl (Nat.le_of_ble_eq_true rfl) ⟨Nat.le_of_ble_eq_true rfl, Nat.le_of_ble_eq_true rfl⟩ dX5_trackedLevel_13 rfl rfl rfl (fun r3 w3 h3 => ?_)
  obtain ⟨rfl, rfl⟩ := h3
  exact x_zret C0 dX5_trackedLevel_16 (Nat.le_of_ble_eq_true rfl) (Nat.le_of_ble_eq_true rfl) ⟨_, rfl, ⟨rfl, rfl⟩⟩
end CC
