section CC
variable {l : Launch} {Γ : Gm} {D : va_G} {a : Nat → ClassId} {E0 : Nat} {n cap : Nat → Nat} {A : Nat → Nat → Nat} {g : Nat → Nat} {en : Int64} {S : Nat → Nat → Nat → Int32}
set_option maxRecDepth 100000 in
set_option maxHeartbeats 4000000 in
theorem cC_startEffect_1 (hl : l.stackTraces = false) {x : Int32} (hx : upB (n 2) x = false)  : Ct (gm D a E0) l yX5_startEffect wsX5_startEffect { frames := 24, cells := 1, slots := 6, locals := 600 } [.ref (A 0 0), .int x] (wC a E0 n cap A g en S) (qI fun _ _ => False) (fun E w => E = "java/lang/IndexOutOfBoundsException" ∧ w = wC a E0 n cap A g en S) := by
  refine Ct.of [some (.ref (A 0 0)), some (.int x), none] rfl hl (by decide) (Nat.le_of_ble_eq_true rfl) rfl (fun φ C0 => ?_)
  have C := C0.1
  refine x_aload_n C 1 dX5_startEffect_0 rfl rfl ?_
  refine x_iload_n C 2 dX5_startEffect_1 rfl rfl ?_
  exact xc_callVx_v C0 5 1 6 0 0 9 1 (cC_requireEffect_1 hl hx) rfl gX5_startEffect_X5_requireEffect ⟨rfl, by decide, by decide, rfl⟩ ⟨Nat.le_of_ble_eq_true rfl, Nat.le_of_ble_eq_true rfl⟩ rfl (by decide) (show 0 < 1 by decide) rfl rfl rfl (Nat.le_of_ble_eq_true rfl) ⟨Nat.le_of_ble_eq_true rfl, Nat.le_of_ble_eq_true rfl⟩ dX5_startEffect_2 rfl rfl rfl (fun _ h => h.elim) (fun E w h => h)
set_option maxRecDepth 100000 in
set_option maxHeartbeats 4000000 in
theorem cC_startEffect_2 (hl : l.stackTraces = false) (hN : CN n cap) {e : Nat} (he : e < n 2) (hr : ¬ S 9 e 4 = 0)  : Ct (gm D a E0) l yX5_startEffect wsX5_startEffect { frames := 24, cells := 1, slots := 6, locals := 600 } [.ref (A 0 0), .int (nI e)] (wC a E0 n cap A g en S) (qI fun _ _ => False) (fun E w => E = "java/lang/IllegalStateException" ∧ w = wC a E0 n cap A g en S) := by
  refine Ct.of [some (.ref (A 0 0)), some (.int (nI e)), none] rfl hl (by decide) (Nat.le_of_ble_eq_true rfl) rfl (fun φ C0 => ?_)
  have C := C0.1
  refine x_aload_n C 1 dX5_startEffect_0 rfl rfl ?_
  refine x_iload_n C 2 dX5_startEffect_1 rfl rfl ?_
  refine xc_callV_v C 5 0 0 0 0 9 1 (cC_requireEffect_0 hl (upB_nI (by have := hN.2.2.2.1; omega) he)) rfl gX5_startEffect_X5_requireEffect ⟨rfl, by decide, by decide, rfl⟩ ⟨Nat.le_of_ble_eq_true rfl, Nat.le_of_ble_eq_true rfl⟩ rfl (by decide) (show 0 < 1 by decide) rfl rfl rfl (Nat.le_of_ble_eq_true rfl) ⟨Nat.le_of_ble_eq_true rfl, Nat.le_of_ble_eq_true rfl⟩ dX5_startEffect_2 rfl rfl rfl (fun w1 h1 => ?_)
  subst h1
  have h4 := hN.2.2.2.1
  refine x_aload_n C 6 dX5_startEffect_5 rfl rfl ?_
  refine xc_get C 9 0 0 (by decide) (show 0 < 1 by decide) rfl fg_X5_startEffect_32 rfl dX5_startEffect_6 rfl ?_
  refine x_iload_n C 10 dX5_startEffect_9 rfl rfl ?_
  refine xc_callV_q C 13 0 0 3 2 3 1 (cC_get hl (j := 2) (by decide) (i := e) (by omega) (hN.1 2 (by decide)).1 (hN.1 2 (by decide)).2) rfl gX5_startEffect_Jx4a65c_get_915e3 ⟨rfl, by decide, by decide, rfl⟩ ⟨Nat.le_of_ble_eq_true rfl, Nat.le_of_ble_eq_true rfl⟩ rfl (by decide) (show 2 < 4 by decide) rfl rfl rfl (Nat.le_of_ble_eq_true rfl) ⟨Nat.le_of_ble_eq_true rfl, Nat.le_of_ble_eq_true rfl⟩ dX5_startEffect_10 rfl rfl rfl (fun r2 w2 h2 => ?_)
  obtain ⟨rfl, rfl⟩ := h2
  refine x_topq (show _ = Value.ref (A 9 e) from rfl) ?_
  refine xc_castS C 16 9 e (by decide) (show e < n 2 from by omega) rfl rfl (List.mem_cons_of_mem _ (List.mem_append_left _ (List.mem_append_left _ (List.mem_append_left _ (List.mem_append_left _ (List.mem_append_left _ (List.mem_append_left _ (List.mem_of_getElem? (i := 3) rfl)))))))) dX5_startEffect_13 rfl ?_
  refine x_astore_n C 17 dX5_startEffect_16 (by decide) rfl rfl ?_
  refine x_aload_n C 18 dX5_startEffect_17 rfl rfl ?_
  refine xc_get C 21 9 e (by decide) (show e < n 2 from by omega) rfl fg_X5_startEffect_219 rfl dX5_startEffect_18 rfl ?_
  refine x_if_eq C 34 24 dX5_startEffect_21 (by decide) rfl (fun zk21 => ?_) (fun zk21 => ?_)
  · exact absurd zk21 hr
  · exact x_throwS C0 (cls := "java/lang/IllegalStateException") (text := "the effect runs") (names := ["java/lang/RuntimeException", "java/lang/Exception"]) (List.mem_of_getElem? (i := 14) rfl) (by decide) (by decide) (List.mem_cons_of_mem _ (List.mem_append_left _ (List.mem_append_left _ (List.mem_append_left _ (List.mem_append_left _ (List.mem_append_left _ (List.mem_append_left _ (List.mem_of_getElem? (i := 0) rfl)))))))) (List.mem_cons_of_mem _ (List.mem_append_left _ (List.mem_append_left _ (List.mem_append_left _ (List.mem_append_left _ (List.mem_append_left _ (List.mem_append_left _ (List.mem_of_getElem? (i := 1) rfl)))))))) (fun w h => (List.mem_cons_of_mem _ (List.mem_append_left _ (List.mem_append_right _ h)))) (by decide) (by decide +kernel) (by decide +kernel) dX5_startEffect_24 dX5_startEffect_27 dX5_startEffect_28 dX5_startEffect_30 dX5_startEffect_33 (Nat.le_of_ble_eq_true rfl) (Nat.le_of_ble_eq_true rfl) (Nat.le_of_ble_eq_true rfl) (Nat.le_of_ble_eq_true rfl) ⟨rfl, rfl⟩   
theorem fg_X5_stopEffect_32 : gF RX5 wsX5_stopEffect 32 9 5 := ⟨RX5, TX5, 11, "StageConsole", rfl, fun w h => (List.mem_cons_of_mem _ (List.mem_append_left _ (List.mem_append_left _ (List.mem_append_left _ (List.mem_append_left _ (List.mem_append_right _ h)))))), by decide, (List.mem_cons_of_mem _ (List.mem_append_left _ (List.mem_append_left _ (List.mem_append_left _ (List.mem_append_left _ (List.mem_append_left _ (List.mem_append_left _ (List.mem_of_getElem? (i := 2) rfl)))))))), Or.inl rfl⟩
theorem fg_X5_stopEffect_219 : gF RX5 wsX5_stopEffect 219 6 5 := ⟨RX2, TX2, 7, "StageConsole$Effect", rfl, fun w h => (List.mem_cons_of_mem _ (List.mem_append_left _ (List.mem_append_left _ (List.mem_append_left _ (List.mem_append_right _ h))))), by decide, (List.mem_cons_of_mem _ (List.mem_append_left _ (List.mem_append_left _ (List.mem_append_left _ (List.mem_append_left _ (List.mem_append_left _ (List.mem_append_left _ (List.mem_of_getElem? (i := 4) rfl)))))))), Or.inl rfl⟩
theorem fp_X5_stopEffect_219 : pF RX5 wsX5_stopEffect 219 6 5 false (.boolean) := ⟨RX2, TX2, 7, "StageConsole$Effect", tyX2, rfl, fun w h => (List.mem_cons_of_mem _ (List.mem_append_left _ (List.mem_append_left _ (List.mem_append_left _ (List.mem_append_right _ h))))), by decide, (List.mem_cons_of_mem _ (List.mem_append_left _ (List.mem_append_left _ (List.mem_append_left _ (List.mem_append_left _ (List.mem_append_left _ (List.mem_append_left _ (List.mem_of_getElem? (i := 4) rfl)))))))), Or.inl rfl, tyX2_ok, nmX2, rfl, rfl, fun h => absurd h (by decide)⟩
theorem fg_X5_stopEffect_20 : gF RX5 wsX5_stopEffect 20 9 2 := ⟨RX5, TX5, 11, "StageConsole", rfl, fun w h => (List.mem_cons_of_mem _ (List.mem_append_left _ (List.mem_append_left _ (List.mem_append_left _ (List.mem_append_left _ (List.mem_append_right _ h)))))), by decide, (List.mem_cons_of_mem _ (List.mem_append_left _ (List.mem_append_left _ (List.mem_append_left _ (List.mem_append_left _ (List.mem_append_left _ (List.mem_append_left _ (List.mem_of_getElem? (i := 5) rfl)))))))), Or.inl rfl⟩
theorem fg_X5_stopEffect_224 : gF RX5 wsX5_stopEffect 224 6 6 := ⟨RX2, TX2, 7, "StageConsole$Effect", rfl, fun w h => (List.mem_cons_of_mem _ (List.mem_append_left _ (List.mem_append_left _ (List.mem_append_left _ (List.mem_append_right _ h))))), by decide, (List.mem_cons_of_mem _ (List.mem_append_left _ (List.mem_append_left _ (List.mem_append_left _ (List.mem_append_left _ (List.mem_append_left _ (List.mem_append_left _ (List.mem_of_getElem? (i := 6) rfl)))))))), Or.inl rfl⟩
set_option maxRecDepth 100000 in
set_option maxHeartbeats 4000000 in
theorem cC_stopEffect_0 (hl : l.stackTraces = false) (hN : CN n cap) {e : Nat} (he : e < n 2) (hr : ¬ S 9 e 4 = 0)  : Ct (gm D a E0) l yX5_stopEffect wsX5_stopEffect { frames := 24, cells := 0, slots := 0, locals := 600 } [.ref (A 0 0), .int (nI e)] (wC a E0 n cap A g en S) (qI fun v w => v = S 0 0 1 - S 9 e 5 ∧ w = wC a E0 n cap A g en (uS S 9 e 4 0)) noX := by
  refine Ct.of [some (.ref (A 0 0)), some (.int (nI e)), none] rfl hl (by decide) (Nat.le_of_ble_eq_true rfl) rfl (fun φ C0 => ?_)
  have C := C0.1
  refine x_aload_n C 1 dX5_stopEffect_0 rfl rfl ?_
  refine x_iload_n C 2 dX5_stopEffect_1 rfl rfl ?_
  refine xc_callV_v C 5 0 0 0 0 9 1 (cC_requireEffect_0 hl (upB_nI (by have := hN.2.2.2.1; omega) he)) rfl gX5_stopEffect_X5_requireEffect ⟨rfl, by decide, by decide, rfl⟩ ⟨Nat.le_of_ble_eq_true rfl, Nat.le_of_ble_eq_true rfl⟩ rfl (by decide) (show 0 < 1 by decide) rfl rfl rfl (Nat.le_of_ble_eq_true rfl) ⟨Nat.le_of_ble_eq_true rfl, Nat.le_of_ble_eq_true rfl⟩ dX5_stopEffect_2 rfl rfl rfl (fun w1 h1 => ?_)
  subst h1
  have h4 := hN.2.2.2.1
  refine x_aload_n C 6 dX5_stopEffect_5 rfl rfl ?_
  refine xc_get C 9 0 0 (by decide) (show 0 < 1 by decide) rfl fg_X5_stopEffect_32 rfl dX5_stopEffect_6 rfl ?_
  refine x_iload_n C 10 dX5_stopEffect_9 rfl rfl ?_
  refine xc_callV_q C 13 0 0 3 2 3 1 (cC_get hl (j := 2) (by decide) (i := e) (by omega) (hN.1 2 (by decide)).1 (hN.1 2 (by decide)).2) rfl gX5_stopEffect_Jx4a65c_get_915e3 ⟨rfl, by decide, by decide, rfl⟩ ⟨Nat.le_of_ble_eq_true rfl, Nat.le_of_ble_eq_true rfl⟩ rfl (by decide) (show 2 < 4 by decide) rfl rfl rfl (Nat.le_of_ble_eq_true rfl) ⟨Nat.le_of_ble_eq_true rfl, Nat.le_of_ble_eq_true rfl⟩ dX5_stopEffect_10 rfl rfl rfl (fun r2 w2 h2 => ?_)
  obtain ⟨rfl, rfl⟩ := h2
  refine x_topq (show _ = Value.ref (A 9 e) from rfl) ?_
  refine xc_castS C 16 9 e (by decide) (show e < n 2 from by omega) rfl rfl (List.mem_cons_of_mem _ (List.mem_append_left _ (List.mem_append_left _ (List.mem_append_left _ (List.mem_append_left _ (List.mem_append_left _ (List.mem_append_left _ (List.mem_of_getElem? (i := 3) rfl)))))))) dX5_stopEffect_13 rfl ?_
  refine x_astore_n C 17 dX5_stopEffect_16 (by decide) rfl rfl ?_
  refine x_aload_n C 18 dX5_stopEffect_17 rfl rfl ?_
  refine xc_get C 21 9 e (by decide) (show e < n 2 from by omega) rfl fg_X5_stopEffect_219 rfl dX5_stopEffect_18 rfl ?_
  refine x_if_ne C 34 24 dX5_stopEffect_21 (by decide) rfl (fun zk21 => ?_) (fun zk21 => ?_)
  · refine x_aload_n C 35 dX5_stopEffect_34 rfl rfl ?_
    refine x_iconst (v := (0)) C 36 dX5_stopEffect_35 (by decide) rfl ?_
    refine xc_put C 39 9 e 4 (by decide) (show e < n 2 from by omega) rfl fp_X5_stopEffect_219 rfl rfl (Nat.le_of_ble_eq_true rfl) rfl dX5_stopEffect_36 rfl ?_
    refine x_aload_n C 40 dX5_stopEffect_39 rfl rfl ?_
    refine xc_get C 43 0 0 (by decide) (show 0 < 1 by decide) rfl fg_X5_stopEffect_20 rfl dX5_stopEffect_40 rfl ?_
    refine x_top (show _ = (S 0 0 1) from by simp [uS, upd]) ?_
    refine x_aload_n C 44 dX5_stopEffect_43 rfl rfl ?_
    refine xc_get C 47 9 e (by decide) (show e < n 2 from by omega) rfl fg_X5_stopEffect_224 rfl dX5_stopEffect_44 rfl ?_
    refine x_top (show _ = (S 9 e 5) from by simp [uS, upd]) ?_
    refine x_isub C 48 dX5_stopEffect_47 rfl ?_
    exact x_zret C0 dX5_stopEffect_48 (Nat.le_of_ble_eq_true rfl) (Nat.le_of_ble_eq_true rfl) ⟨_, rfl, ⟨rfl, rfl⟩⟩
  · exact absurd zk21 hr
set_option maxRecDepth 100000 in
set_option maxHeartbeats 4000000 in
theorem cC_stopEffect_1 (hl : l.stackTraces = false) {x : Int32} (hx : upB (n 2) x = false)  : Ct (gm D a E0) l yX5_stopEffect wsX5_stopEffect { frames := 24, cells := 1, slots := 6, locals := 600 } [.ref (A 0 0), .int x] (wC a E0 n cap A g en S) (qI fun _ _ => False) (fun E w => E = "java/lang/IndexOutOfBoundsException" ∧ w = wC a E0 n cap A g en S) := by
  refine Ct.of [some (.ref (A 0 0)), some (.int x), none] rfl hl (by decide) (Nat.le_of_ble_eq_true rfl) rfl (fun φ C0 => ?_)
  have C := C0.1
  refine x_aload_n C 1 dX5_stopEffect_0 rfl rfl ?_
  refine x_iload_n C 2 dX5_stopEffect_1 rfl rfl ?_
  exact xc_callVx_v C0 5 1 6 0 0 9 1 (cC_requireEffect_1 hl hx) rfl gX5_stopEffect_X5_requireEffect ⟨rfl, by decide, by decide, rfl⟩ ⟨Nat.le_of_ble_eq_true rfl, Nat.le_of_ble_eq_true rfl⟩ rfl (by decide) (show 0 < 1 by decide) rfl rfl rfl (Nat.le_of_ble_eq_true rfl) ⟨Nat.le_of_ble_eq_true rfl, Nat.le_of_ble_eq_true rfl⟩ dX5_stopEffect_2 rfl rfl rfl (fun _ h => h.elim) (fun E w h => h)
set_option maxRecDepth 100000 in
set_option maxHeartbeats 4000000 in
theorem cC_stopEffect_2 (hl : l.stackTraces = false) (hN : CN n cap) {e : Nat} (he : e < n 2) (hr : S 9 e 4 = 0)  : Ct (gm D a E0) l yX5_stopEffect wsX5_stopEffect { frames := 24, cells := 1, slots := 6, locals := 600 } [.ref (A 0 0), .int (nI e)] (wC a E0 n cap A g en S) (qI fun _ _ => False) (fun E w => E = "java/lang/IllegalStateException" ∧ w = wC a E0 n cap A g en S) := by
  refine Ct.of [some (.ref (A 0 0)), some (.int (nI e)), none] rfl hl (by decide) (Nat.le_of_ble_eq_true rfl) rfl (fun φ C0 => ?_)
  have C := C0.1
  refine x_aload_n C 1 dX5_stopEffect_0 rfl rfl ?_
  refine x_iload_n C 2 dX5_stopEffect_1 rfl rfl ?_
  refine xc_callV_v C 5 0 0 0 0 9 1 (cC_requireEffect_0 hl (upB_nI (by have := hN.2.2.2.1; omega) he)) rfl gX5_stopEffect_X5_requireEffect ⟨rfl, by decide, by decide, rfl⟩ ⟨Nat.le_of_ble_eq_true rfl, Nat.le_of_ble_eq_true rfl⟩ rfl (by decide) (show 0 < 1 by decide) rfl rfl rfl (Nat.le_of_ble_eq_true rfl) ⟨Nat.le_of_ble_eq_true rfl, Nat.le_of_ble_eq_true rfl⟩ dX5_stopEffect_2 rfl rfl rfl (fun w1 h1 => ?_)
  subst h1
  have h4 := hN.2.2.2.1
  refine x_aload_n C 6 dX5_stopEffect_5 rfl rfl ?_
  refine xc_get C 9 0 0 (by decide) (show 0 < 1 by decide) rfl fg_X5_stopEffect_32 rfl dX5_stopEffect_6 rfl ?_
  refine x_iload_n C 10 dX5_stopEffect_9 rfl rfl ?_
  refine xc_callV_q C 13 0 0 3 2 3 1 (cC_get hl (j := 2) (by decide) (i := e) (by omega) (hN.1 2 (by decide)).1 (hN.1 2 (by decide)).2) rfl gX5_stopEffect_Jx4a65c_get_915e3 ⟨rfl, by decide, by decide, rfl⟩ ⟨Nat.le_of_ble_eq_true rfl, Nat.le_of_ble_eq_true rfl⟩ rfl (by decide) (show 2 < 4 by decide) rfl rfl rfl (Nat.le_of_ble_eq_true rfl) ⟨Nat.le_of_ble_eq_true rfl, Nat.le_of_ble_eq_true rfl⟩ dX5_stopEffect_10 rfl rfl rfl (fun r2 w2 h2 => ?_)
  obtain ⟨rfl, rfl⟩ := h2
  refine x_topq (show _ = Value.ref (A 9 e) from rfl) ?_
  refine xc_castS C 16 9 e (by decide) (show e < n 2 from by omega) rfl rfl (List.mem_cons_of_mem _ (List.mem_append_left _ (List.mem_append_left _ (List.mem_append_left _ (List.mem_append_left _ (List.mem_append_left _ (List.mem_append_left _ (List.mem_of_getElem? (i := 3) rfl)))))))) dX5_stopEffect_13 rfl ?_
  refine x_astore_n C 17 dX5_stopEffect_16 (by decide) rfl rfl ?_
  refine x_aload_n C 18 dX5_stopEffect_17 rfl rfl ?_
  refine xc_get C 21 9 e (by decide) (show e < n 2 from by omega) rfl fg_X5_stopEffect_219 rfl dX5_stopEffect_18 rfl ?_
  refine x_if_ne C 34 24 dX5_stopEffect_21 (by decide) rfl (fun zk21 => ?_) (fun zk21 => ?_)
  · exact absurd hr zk21
  · exact x_throwS C0 (cls := "java/lang/IllegalStateException") (text := "the effect does not run") (names := ["java/lang/RuntimeException", "java/lang/Exception"]) (List.mem_of_getElem? (i := 15) rfl) (by decide) (by decide) (List.mem_cons_of_mem _ (List.mem_append_left _ (List.mem_append_left _ (List.mem_append_left _ (List.mem_append_left _ (List.mem_append_left _ (List.mem_append_left _ (List.mem_of_getElem? (i := 0) rfl)))))))) (List.mem_cons_of_mem _ (List.mem_append_left _ (List.mem_append_left _ (List.mem_append_left _ (List.mem_append_left _ (List.mem_append_left _ (List.mem_append_left _ (List.mem_of_getElem? (i := 1) rfl)))))))) (fun w h => (List.mem_cons_of_mem _ (List.mem_append_left _ (List.mem_append_right _ h)))) (by decide) (by decide +kernel) (by decide +kernel) dX5_stopEffect_24 dX5_stopEffect_27 dX5_stopEffect_28 dX5_stopEffect_30 dX5_stopEffect_33 (Nat.le_of_ble_eq_true rfl) (Nat.le_of_ble_eq_true rfl) (Nat.le_of_ble_eq_true rfl) (Nat.le_of_ble_eq_true rfl) ⟨rfl, rfl⟩   
theorem fg_X5_effectOn_32 : gF RX5 wsX5_effectOn 32 9 5 := ⟨RX5, TX5, 11, "StageConsole", rfl, fun w h => (List.mem_cons_of_mem _ (List.mem_append_left _ (List.mem_append_left _ (List.mem_append_left _ (List.mem_append_left _ (List.mem_append_left _ (List.mem_append_left _ (List.mem_append_right _ h)))))))), by decide, (List.mem_cons_of_mem _ (List.mem_append_left _ (List.mem_append_left _ (List.mem_append_left _ (List.mem_append_left _ (List.mem_append_left _ (List.mem_append_left _ (List.mem_append_left _ (List.mem_append_left _ (List.mem_of_getElem? (i := 0) rfl)))))))))), Or.inl rfl⟩
set_option maxRecDepth 100000 in
set_option maxHeartbeats 4000000 in
theorem cC_effectOn_0 (hl : l.stackTraces = false) (hN : CN n cap) {e : Nat} (he : e < n 2) (hE : CE n g S) {c : Nat} (hc : c < 12)  : Ct (gm D a E0) l yX5_effectOn wsX5_effectOn { frames := 24, cells := 0, slots := 0, locals := 600 } [.ref (A 0 0), .int (nI e), .int (nI c)] (wC a E0 n cap A g en S) (qI fun v w => v = gvC S g e c ∧ w = wC a E0 n cap A g en S) noX := by
  refine Ct.of [some (.ref (A 0 0)), some (.int (nI e)), some (.int (nI c))] rfl hl (by decide) (Nat.le_of_ble_eq_true rfl) rfl (fun φ C0 => ?_)
  have C := C0.1
  refine x_aload_n C 1 dX5_effectOn_0 rfl rfl ?_
  refine x_iload_n C 2 dX5_effectOn_1 rfl rfl ?_
  refine xc_callV_v C 5 0 0 0 0 9 1 (cC_requireEffect_0 hl (upB_nI (by have := hN.2.2.2.1; omega) he)) rfl gX5_effectOn_X5_requireEffect ⟨rfl, by decide, by decide, rfl⟩ ⟨Nat.le_of_ble_eq_true rfl, Nat.le_of_ble_eq_true rfl⟩ rfl (by decide) (show 0 < 1 by decide) rfl rfl rfl (Nat.le_of_ble_eq_true rfl) ⟨Nat.le_of_ble_eq_true rfl, Nat.le_of_ble_eq_true rfl⟩ dX5_effectOn_2 rfl rfl rfl (fun w1 h1 => ?_)
  subst h1
  refine x_iload_n C 6 dX5_effectOn_5 rfl rfl ?_
  refine x_callS0_v C 9 0 0 1 (cC_requireChannel_0 hl (chB_nI hc)) rfl gX5_effectOn_X5_requireChannel ⟨by decide, by decide, rfl⟩ ⟨Nat.le_of_ble_eq_true rfl, Nat.le_of_ble_eq_true rfl⟩ rfl rfl (Nat.le_of_ble_eq_true rfl) ⟨Nat.le_of_ble_eq_true rfl, Nat.le_of_ble_eq_true rfl⟩ dX5_effectOn_6 rfl rfl rfl (fun w2 h2 => ?_)
  subst h2
  have h4 := hN.2.2.2.1
  refine x_aload_n C 10 dX5_effectOn_9 rfl rfl ?_
  refine x_aload_n C 11 dX5_effectOn_10 rfl rfl ?_
  refine xc_get C 14 0 0 (by decide) (show 0 < 1 by decide) rfl fg_X5_effectOn_32 rfl dX5_effectOn_11 rfl ?_
  refine x_iload_n C 15 dX5_effectOn_14 rfl rfl ?_
  refine xc_callV_q C 18 0 0 3 2 3 1 (cC_get hl (j := 2) (by decide) (i := e) (by omega) (hN.1 2 (by decide)).1 (hN.1 2 (by decide)).2) rfl gX5_effectOn_Jx4a65c_get_915e3 ⟨rfl, by decide, by decide, rfl⟩ ⟨Nat.le_of_ble_eq_true rfl, Nat.le_of_ble_eq_true rfl⟩ rfl (by decide) (show 2 < 4 by decide) rfl rfl rfl (Nat.le_of_ble_eq_true rfl) ⟨Nat.le_of_ble_eq_true rfl, Nat.le_of_ble_eq_true rfl⟩ dX5_effectOn_15 rfl rfl rfl (fun r3 w3 h3 => ?_)
  obtain ⟨rfl, rfl⟩ := h3
  refine x_topq (show _ = Value.ref (A 9 e) from rfl) ?_
  refine xc_castS C 21 9 e (by decide) (show e < n 2 from by omega) rfl rfl (List.mem_cons_of_mem _ (List.mem_append_left _ (List.mem_append_left _ (List.mem_append_left _ (List.mem_append_left _ (List.mem_append_left _ (List.mem_append_left _ (List.mem_append_left _ (List.mem_append_left _ (List.mem_of_getElem? (i := 1) rfl)))))))))) dX5_effectOn_18 rfl ?_
  refine x_iload_n C 22 dX5_effectOn_21 rfl rfl ?_
  refine xc_callV_i C 25 0 0 0 0 9 2 (cC_givenBy hl he hE hc) rfl gX5_effectOn_X5_givenBy ⟨rfl, by decide, by decide, rfl⟩ ⟨Nat.le_of_ble_eq_true rfl, Nat.le_of_ble_eq_true rfl⟩ rfl (by decide) (show 0 < 1 by decide) rfl rfl rfl (Nat.le_of_ble_eq_true rfl) ⟨Nat.le_of_ble_eq_true rfl, Nat.le_of_ble_eq_true rfl⟩ dX5_effectOn_22 rfl rfl rfl (fun r4 w4 h4 => ?_)
  obtain ⟨rfl, rfl⟩ := h4
  exact x_zret C0 dX5_effectOn_25 (Nat.le_of_ble_eq_true rfl) (Nat.le_of_ble_eq_true rfl) ⟨_, rfl, ⟨rfl, rfl⟩⟩
set_option maxRecDepth 100000 in
set_option maxHeartbeats 4000000 in
theorem cC_effectOn_1 (hl : l.stackTraces = false) {x z : Int32} (hx : upB (n 2) x = false)  : Ct (gm D a E0) l yX5_effectOn wsX5_effectOn { frames := 24, cells := 1, slots := 6, locals := 600 } [.ref (A 0 0), .int x, .int z] (wC a E0 n cap A g en S) (qI fun _ _ => False) (fun E w => E = "java/lang/IndexOutOfBoundsException" ∧ w = wC a E0 n cap A g en S) := by
  refine Ct.of [some (.ref (A 0 0)), some (.int x), some (.int z)] rfl hl (by decide) (Nat.le_of_ble_eq_true rfl) rfl (fun φ C0 => ?_)
  have C := C0.1
  refine x_aload_n C 1 dX5_effectOn_0 rfl rfl ?_
  refine x_iload_n C 2 dX5_effectOn_1 rfl rfl ?_
  exact xc_callVx_v C0 5 1 6 0 0 9 1 (cC_requireEffect_1 hl hx) rfl gX5_effectOn_X5_requireEffect ⟨rfl, by decide, by decide, rfl⟩ ⟨Nat.le_of_ble_eq_true rfl, Nat.le_of_ble_eq_true rfl⟩ rfl (by decide) (show 0 < 1 by decide) rfl rfl rfl (Nat.le_of_ble_eq_true rfl) ⟨Nat.le_of_ble_eq_true rfl, Nat.le_of_ble_eq_true rfl⟩ dX5_effectOn_2 rfl rfl rfl (fun _ h => h.elim) (fun E w h => h)
set_option maxRecDepth 100000 in
set_option maxHeartbeats 4000000 in
theorem cC_effectOn_2 (hl : l.stackTraces = false) {z : Int32} (hN : CN n cap) {e : Nat} (he : e < n 2) (hc : chB z = false)  : Ct (gm D a E0) l yX5_effectOn wsX5_effectOn { frames := 24, cells := 1, slots := 6, locals := 600 } [.ref (A 0 0), .int (nI e), .int z] (wC a E0 n cap A g en S) (qI fun _ _ => False) (fun E w => E = "java/lang/IndexOutOfBoundsException" ∧ w = wC a E0 n cap A g en S) := by
  refine Ct.of [some (.ref (A 0 0)), some (.int (nI e)), some (.int z)] rfl hl (by decide) (Nat.le_of_ble_eq_true rfl) rfl (fun φ C0 => ?_)
  have C := C0.1
  refine x_aload_n C 1 dX5_effectOn_0 rfl rfl ?_
  refine x_iload_n C 2 dX5_effectOn_1 rfl rfl ?_
  refine xc_callV_v C 5 0 0 0 0 9 1 (cC_requireEffect_0 hl (upB_nI (by have := hN.2.2.2.1; omega) he)) rfl gX5_effectOn_X5_requireEffect ⟨rfl, by decide, by decide, rfl⟩ ⟨Nat.le_of_ble_eq_true rfl, Nat.le_of_ble_eq_true rfl⟩ rfl (by decide) (show 0 < 1 by decide) rfl rfl rfl (Nat.le_of_ble_eq_true rfl) ⟨Nat.le_of_ble_eq_true rfl, Nat.le_of_ble_eq_true rfl⟩ dX5_effectOn_2 rfl rfl rfl (fun w1 h1 => ?_)
  subst h1
  refine x_iload_n C 6 dX5_effectOn_5 rfl rfl ?_
  exact x_callSx0_v C0 9 1 6 1 (cC_requireChannel_1 hl hc) rfl gX5_effectOn_X5_requireChannel ⟨by decide, by decide, rfl⟩ ⟨Nat.le_of_ble_eq_true rfl, Nat.le_of_ble_eq_true rfl⟩ rfl rfl (Nat.le_of_ble_eq_true rfl) ⟨Nat.le_of_ble_eq_true rfl, Nat.le_of_ble_eq_true rfl⟩ dX5_effectOn_6 rfl rfl rfl (fun _ h => h.elim) (fun E w h => h)
end CC
