section CC
variable {l : Launch} {Γ : Gm} {D : va_G} {a : Nat → ClassId} {E0 : Nat} {n cap : Nat → Nat} {A : Nat → Nat → Nat} {g : Nat → Nat} {en : Int64} {S : Nat → Nat → Nat → Int32}
theorem fg_X5_level_38 : gF RX5 wsX5_level 38 9 7 := ⟨RX5, TX5, 11, "StageConsole", rfl, fun w h => (List.mem_cons_of_mem _ (List.mem_append_left _ (List.mem_append_left _ (List.mem_append_left _ (List.mem_append_left _ (List.mem_append_left _ (List.mem_append_left _ (List.mem_append_left _ (List.mem_append_right _ h))))))))), by decide, (List.mem_cons_of_mem _ (List.mem_append_left _ (List.mem_append_left _ (List.mem_append_left _ (List.mem_append_left _ (List.mem_append_left _ (List.mem_append_left _ (List.mem_append_left _ (List.mem_append_left _ (List.mem_append_left _ (List.mem_of_getElem? (i := 0) rfl))))))))))), Or.inl rfl⟩
set_option maxRecDepth 100000 in
set_option maxHeartbeats 4000000 in
theorem cC_level_0 (hl : l.stackTraces = false) (hN : CN n cap) (hE : CE n g S) {c : Nat} (hc : c < 12)  : Ct (gm D a E0) l yX5_level wsX5_level { frames := 28, cells := 0, slots := 0, locals := 700 } [.ref (A 0 0), .int (nI c)] (wC a E0 n cap A g en S) (qI fun v w => v = (flv g (n 1) (n 2) S) 2 0 c ∧ w = wC a E0 n cap A g en (flv g (n 1) (n 2) S)) noX := by
  refine Ct.of [some (.ref (A 0 0)), some (.int (nI c))] rfl hl (by decide) (Nat.le_of_ble_eq_true rfl) rfl (fun φ C0 => ?_)
  have C := C0.1
  refine x_iload_n C 1 dX5_level_0 rfl rfl ?_
  refine x_callS0_v C 4 0 0 1 (cC_requireChannel_0 hl (chB_nI hc)) rfl gX5_level_X5_requireChannel ⟨by decide, by decide, rfl⟩ ⟨Nat.le_of_ble_eq_true rfl, Nat.le_of_ble_eq_true rfl⟩ rfl rfl (Nat.le_of_ble_eq_true rfl) ⟨Nat.le_of_ble_eq_true rfl, Nat.le_of_ble_eq_true rfl⟩ dX5_level_1 rfl rfl rfl (fun w1 h1 => ?_)
  subst h1
  refine x_aload_n C 5 dX5_level_4 rfl rfl ?_
  refine xc_callV_v C 8 0 0 0 0 9 0 (cC_fillLevelRow hl hN hE) rfl gX5_level_X5_fillLevelRow ⟨rfl, by decide, by decide, rfl⟩ ⟨Nat.le_of_ble_eq_true rfl, Nat.le_of_ble_eq_true rfl⟩ rfl (by decide) (show 0 < 1 by decide) rfl rfl rfl (Nat.le_of_ble_eq_true rfl) ⟨Nat.le_of_ble_eq_true rfl, Nat.le_of_ble_eq_true rfl⟩ dX5_level_5 rfl rfl rfl (fun w2 h2 => ?_)
  subst h2
  refine x_aload_n C 9 dX5_level_8 rfl rfl ?_
  refine xc_get C 12 0 0 (by decide) (show 0 < 1 by decide) rfl fg_X5_level_38 rfl dX5_level_9 rfl ?_
  refine x_iload_n C 13 dX5_level_12 rfl rfl ?_
  refine xc_iald C 14 2 0 c (by decide) (show 0 < 1 by decide) rfl rfl (by omega) dX5_level_13 rfl ?_
  exact x_zret C0 dX5_level_14 (Nat.le_of_ble_eq_true rfl) (Nat.le_of_ble_eq_true rfl) ⟨_, rfl, ⟨rfl, rfl⟩⟩
set_option maxRecDepth 100000 in
set_option maxHeartbeats 4000000 in
theorem cC_level_1 (hl : l.stackTraces = false) {z : Int32} (hc : chB z = false)  : Ct (gm D a E0) l yX5_level wsX5_level { frames := 16, cells := 1, slots := 6, locals := 400 } [.ref (A 0 0), .int z] (wC a E0 n cap A g en S) (qI fun _ _ => False) (fun E w => E = "java/lang/IndexOutOfBoundsException" ∧ w = wC a E0 n cap A g en S) := by
  refine Ct.of [some (.ref (A 0 0)), some (.int z)] rfl hl (by decide) (Nat.le_of_ble_eq_true rfl) rfl (fun φ C0 => ?_)
  have C := C0.1
  refine x_iload_n C 1 dX5_level_0 rfl rfl ?_
  exact x_callSx0_v C0 4 1 6 1 (cC_requireChannel_1 hl hc) rfl gX5_level_X5_requireChannel ⟨by decide, by decide, rfl⟩ ⟨Nat.le_of_ble_eq_true rfl, Nat.le_of_ble_eq_true rfl⟩ rfl rfl (Nat.le_of_ble_eq_true rfl) ⟨Nat.le_of_ble_eq_true rfl, Nat.le_of_ble_eq_true rfl⟩ dX5_level_1 rfl rfl rfl (fun _ h => h.elim) (fun E w h => h)
theorem fg_X5_levelAlone_32 : gF RX5 wsX5_levelAlone 32 9 5 := ⟨RX5, TX5, 11, "StageConsole", rfl, fun w h => (List.mem_cons_of_mem _ (List.mem_append_left _ (List.mem_append_left _ (List.mem_append_left _ (List.mem_append_left _ (List.mem_append_left _ (List.mem_append_left _ (List.mem_append_left _ (List.mem_append_right _ h))))))))), by decide, (List.mem_cons_of_mem _ (List.mem_append_left _ (List.mem_append_left _ (List.mem_append_left _ (List.mem_append_left _ (List.mem_append_left _ (List.mem_append_left _ (List.mem_append_left _ (List.mem_append_left _ (List.mem_append_left _ (List.mem_of_getElem? (i := 0) rfl))))))))))), Or.inl rfl⟩
set_option maxRecDepth 100000 in
set_option maxHeartbeats 4000000 in
theorem cC_levelAlone_0 (hl : l.stackTraces = false) (hN : CN n cap) (hE : CE n g S) {c : Nat} (hc : c < 12)  : Ct (gm D a E0) l yX5_levelAlone wsX5_levelAlone { frames := 24, cells := 0, slots := 0, locals := 600 } [.ref (A 0 0), .int (nI c)] (wC a E0 n cap A g en S) (qI fun v w => v = ouC S c (saL S g c (n 2) 0 (bsC S (n 1) c)) ∧ w = wC a E0 n cap A g en S) noX := by
  refine Ct.of [some (.ref (A 0 0)), some (.int (nI c)), none, none] rfl hl (by decide) (Nat.le_of_ble_eq_true rfl) rfl (fun φ C0 => ?_)
  have C := C0.1
  refine x_iload_n C 1 dX5_levelAlone_0 rfl rfl ?_
  refine x_callS0_v C 4 0 0 1 (cC_requireChannel_0 hl (chB_nI hc)) rfl gX5_levelAlone_X5_requireChannel ⟨by decide, by decide, rfl⟩ ⟨Nat.le_of_ble_eq_true rfl, Nat.le_of_ble_eq_true rfl⟩ rfl rfl (Nat.le_of_ble_eq_true rfl) ⟨Nat.le_of_ble_eq_true rfl, Nat.le_of_ble_eq_true rfl⟩ dX5_levelAlone_1 rfl rfl rfl (fun w1 h1 => ?_)
  subst h1
  refine x_aload_n C 5 dX5_levelAlone_4 rfl rfl ?_
  refine x_iload_n C 6 dX5_levelAlone_5 rfl rfl ?_
  refine xc_callV_i C 9 0 0 0 0 9 1 (cC_baseOf hl hc hN) rfl gX5_levelAlone_X5_baseOf ⟨rfl, by decide, by decide, rfl⟩ ⟨Nat.le_of_ble_eq_true rfl, Nat.le_of_ble_eq_true rfl⟩ rfl (by decide) (show 0 < 1 by decide) rfl rfl rfl (Nat.le_of_ble_eq_true rfl) ⟨Nat.le_of_ble_eq_true rfl, Nat.le_of_ble_eq_true rfl⟩ dX5_levelAlone_6 rfl rfl rfl (fun r2 w2 h2 => ?_)
  obtain ⟨rfl, rfl⟩ := h2
  refine x_nm (fun v0 ev0 => ?_)
  refine x_istore_n C 10 dX5_levelAlone_9 (by decide) rfl rfl ?_
  refine x_iconst (v := (0)) C 11 dX5_levelAlone_10 (by decide) rfl ?_
  refine x_istore_n C 12 dX5_levelAlone_11 (by decide) rfl rfl ?_
  have lp12 : ∀ (m i : Nat) (v : Int32), i + m = n 2 → saL S g c (n 2) 0 (bsC S (n 1) c) = saL S g c m i v → X φ 12 [some (.ref (A 0 0)), some (.int (nI c)), some (.int v), some (.int (nI i))] [] (wC a E0 n cap A g en S) 0 0 := by
    intro m
    induction m with
    | zero =>
      intro i v hi hr
      refine x_iload_n C 13 dX5_levelAlone_12 rfl rfl ?_
      refine x_aload_n C 14 dX5_levelAlone_13 rfl rfl ?_
      refine xc_get C 17 0 0 (by decide) (show 0 < 1 by decide) rfl fg_X5_levelAlone_32 rfl dX5_levelAlone_14 rfl ?_
      refine xc_callV_i C 20 0 0 3 2 3 0 (cC_size hl (j := 2) (by decide)) rfl gX5_levelAlone_Jx4a65c_size_8abf5 ⟨rfl, by decide, by decide, rfl⟩ ⟨Nat.le_of_ble_eq_true rfl, Nat.le_of_ble_eq_true rfl⟩ rfl (by decide) (show 2 < 4 by decide) rfl rfl rfl (Nat.le_of_ble_eq_true rfl) ⟨Nat.le_of_ble_eq_true rfl, Nat.le_of_ble_eq_true rfl⟩ dX5_levelAlone_17 rfl rfl rfl (fun r4 w4 h4 => ?_)
      obtain ⟨rfl, rfl⟩ := h4
      have h4 := hN.2.2.2.1
      refine x_icmp_ge C 48 23 dX5_levelAlone_20 (by decide) rfl (fun zk20 => ?_) (fun zk20 => ?_)
      · have zk20 := (nI_leI (a := (n 2)) (b := i) (by omega) (by omega)).mp zk20
        refine x_aload_n C 49 dX5_levelAlone_48 rfl rfl ?_
        refine x_iload_n C 50 dX5_levelAlone_49 rfl rfl ?_
        refine x_iload_n C 51 dX5_levelAlone_50 rfl rfl ?_
        refine xc_callV_i C 54 0 0 0 0 9 2 (cC_outputOf hl hc) rfl gX5_levelAlone_X5_outputOf ⟨rfl, by decide, by decide, rfl⟩ ⟨Nat.le_of_ble_eq_true rfl, Nat.le_of_ble_eq_true rfl⟩ rfl (by decide) (show 0 < 1 by decide) rfl rfl rfl (Nat.le_of_ble_eq_true rfl) ⟨Nat.le_of_ble_eq_true rfl, Nat.le_of_ble_eq_true rfl⟩ dX5_levelAlone_51 rfl rfl rfl (fun r5 w5 h5 => ?_)
        obtain ⟨rfl, rfl⟩ := h5
        exact x_zret C0 dX5_levelAlone_54 (Nat.le_of_ble_eq_true rfl) (Nat.le_of_ble_eq_true rfl) ⟨_, rfl, ⟨by rw [show saL S g c (n 2) 0 (bsC S (n 1) c) = v from hr], rfl⟩⟩
      · have zk20 := mt (nI_leI (a := (n 2)) (b := i) (by omega) (by omega)).mpr zk20
        exfalso; omega
    | succ m ih =>
      intro i v hi hr
      refine x_iload_n C 13 dX5_levelAlone_12 rfl rfl ?_
      refine x_aload_n C 14 dX5_levelAlone_13 rfl rfl ?_
      refine xc_get C 17 0 0 (by decide) (show 0 < 1 by decide) rfl fg_X5_levelAlone_32 rfl dX5_levelAlone_14 rfl ?_
      refine xc_callV_i C 20 0 0 3 2 3 0 (cC_size hl (j := 2) (by decide)) rfl gX5_levelAlone_Jx4a65c_size_8abf5 ⟨rfl, by decide, by decide, rfl⟩ ⟨Nat.le_of_ble_eq_true rfl, Nat.le_of_ble_eq_true rfl⟩ rfl (by decide) (show 2 < 4 by decide) rfl rfl rfl (Nat.le_of_ble_eq_true rfl) ⟨Nat.le_of_ble_eq_true rfl, Nat.le_of_ble_eq_true rfl⟩ dX5_levelAlone_17 rfl rfl rfl (fun r6 w6 h6 => ?_)
      obtain ⟨rfl, rfl⟩ := h6
      have h4 := hN.2.2.2.1
      refine x_icmp_ge C 48 23 dX5_levelAlone_20 (by decide) rfl (fun zk20 => ?_) (fun zk20 => ?_)
      · have zk20 := (nI_leI (a := (n 2)) (b := i) (by omega) (by omega)).mp zk20
        exfalso; omega
      · have zk20 := mt (nI_leI (a := (n 2)) (b := i) (by omega) (by omega)).mpr zk20
        refine x_iload_n C 24 dX5_levelAlone_23 rfl rfl ?_
        refine x_aload_n C 25 dX5_levelAlone_24 rfl rfl ?_
        refine x_aload_n C 26 dX5_levelAlone_25 rfl rfl ?_
        refine xc_get C 29 0 0 (by decide) (show 0 < 1 by decide) rfl fg_X5_levelAlone_32 rfl dX5_levelAlone_26 rfl ?_
        refine x_iload_n C 30 dX5_levelAlone_29 rfl rfl ?_
        refine xc_callV_q C 33 0 0 3 2 3 1 (cC_get hl (j := 2) (by decide) (i := i) (by omega) (hN.1 2 (by decide)).1 (hN.1 2 (by decide)).2) rfl gX5_levelAlone_Jx4a65c_get_915e3 ⟨rfl, by decide, by decide, rfl⟩ ⟨Nat.le_of_ble_eq_true rfl, Nat.le_of_ble_eq_true rfl⟩ rfl (by decide) (show 2 < 4 by decide) rfl rfl rfl (Nat.le_of_ble_eq_true rfl) ⟨Nat.le_of_ble_eq_true rfl, Nat.le_of_ble_eq_true rfl⟩ dX5_levelAlone_30 rfl rfl rfl (fun r7 w7 h7 => ?_)
        obtain ⟨rfl, rfl⟩ := h7
        refine x_topq (show _ = Value.ref (A 9 i) from rfl) ?_
        refine xc_castS C 36 9 i (by decide) (show i < n 2 from by omega) rfl rfl (List.mem_cons_of_mem _ (List.mem_append_left _ (List.mem_append_left _ (List.mem_append_left _ (List.mem_append_left _ (List.mem_append_left _ (List.mem_append_left _ (List.mem_append_left _ (List.mem_append_left _ (List.mem_append_left _ (List.mem_of_getElem? (i := 1) rfl))))))))))) dX5_levelAlone_33 rfl ?_
        refine x_iload_n C 37 dX5_levelAlone_36 rfl rfl ?_
        refine xc_callV_i C 40 0 0 0 0 9 2 (cC_givenBy hl (e := i) (show i < n 2 by omega) hE hc) rfl gX5_levelAlone_X5_givenBy ⟨rfl, by decide, by decide, rfl⟩ ⟨Nat.le_of_ble_eq_true rfl, Nat.le_of_ble_eq_true rfl⟩ rfl (by decide) (show 0 < 1 by decide) rfl rfl rfl (Nat.le_of_ble_eq_true rfl) ⟨Nat.le_of_ble_eq_true rfl, Nat.le_of_ble_eq_true rfl⟩ dX5_levelAlone_37 rfl rfl rfl (fun r8 w8 h8 => ?_)
        obtain ⟨rfl, rfl⟩ := h8
        refine x_iadd C 41 dX5_levelAlone_40 rfl ?_
        refine x_nm (fun v2 ev2 => ?_)
        refine x_istore_n C 42 dX5_levelAlone_41 (by decide) rfl rfl ?_
        refine x_iinc (v := nI (i + 1)) C 45 rfl dX5_levelAlone_42 (iinc1 _) (by decide) rfl rfl ?_
        refine x_goto C 12 dX5_levelAlone_45 (by decide) ?_
        exact ih (i + 1) _ (by omega) (by rw [hr, saL]; subst ev2; rfl)
  exact lp12 (n 2) 0 _ (by omega) (by rw [ev0])
set_option maxRecDepth 100000 in
set_option maxHeartbeats 4000000 in
theorem cC_levelAlone_1 (hl : l.stackTraces = false) {z : Int32} (hc : chB z = false)  : Ct (gm D a E0) l yX5_levelAlone wsX5_levelAlone { frames := 16, cells := 1, slots := 6, locals := 400 } [.ref (A 0 0), .int z] (wC a E0 n cap A g en S) (qI fun _ _ => False) (fun E w => E = "java/lang/IndexOutOfBoundsException" ∧ w = wC a E0 n cap A g en S) := by
  refine Ct.of [some (.ref (A 0 0)), some (.int z), none, none] rfl hl (by decide) (Nat.le_of_ble_eq_true rfl) rfl (fun φ C0 => ?_)
  have C := C0.1
  refine x_iload_n C 1 dX5_levelAlone_0 rfl rfl ?_
  exact x_callSx0_v C0 4 1 6 1 (cC_requireChannel_1 hl hc) rfl gX5_levelAlone_X5_requireChannel ⟨by decide, by decide, rfl⟩ ⟨Nat.le_of_ble_eq_true rfl, Nat.le_of_ble_eq_true rfl⟩ rfl rfl (Nat.le_of_ble_eq_true rfl) ⟨Nat.le_of_ble_eq_true rfl, Nat.le_of_ble_eq_true rfl⟩ dX5_levelAlone_1 rfl rfl rfl (fun _ h => h.elim) (fun E w h => h)
set_option maxRecDepth 100000 in
set_option maxHeartbeats 4000000 in
theorem cC_channelByLevel_1 (hl : l.stackTraces = false) {x : Int32} (hc : chB x = false)  : Ct (gm D a E0) l yX5_channelByLevel wsX5_channelByLevel { frames := 28, cells := 1, slots := 6, locals := 700 } [.ref (A 0 0), .int x] (wC a E0 n cap A g en S) (qI fun _ _ => False) (fun E w => E = "java/lang/IndexOutOfBoundsException" ∧ w = wC a E0 n cap A g en S) := by
  refine Ct.of [some (.ref (A 0 0)), some (.int x), none, none] rfl hl (by decide) (Nat.le_of_ble_eq_true rfl) rfl (fun φ C0 => ?_)
  have C := C0.1
  refine x_iload_n C 1 dX5_channelByLevel_0 rfl rfl ?_
  refine x_iconst (v := (0)) C 2 dX5_channelByLevel_1 (by decide) rfl ?_
  refine x_bipush (v := (11)) C 4 dX5_channelByLevel_2 (by decide) rfl ?_
  refine x_callS0_i C 7 0 0 3 (cC_isWithin hl) rfl gX5_channelByLevel_X5_isWithin ⟨by decide, by decide, rfl⟩ ⟨Nat.le_of_ble_eq_true rfl, Nat.le_of_ble_eq_true rfl⟩ rfl rfl (Nat.le_of_ble_eq_true rfl) ⟨Nat.le_of_ble_eq_true rfl, Nat.le_of_ble_eq_true rfl⟩ dX5_channelByLevel_4 rfl rfl rfl (fun r1 w1 h1 => ?_)
  obtain ⟨rfl, rfl⟩ := h1
  refine x_top (show _ = (0 : Int32) from (congrArg bI (show chB x = false from hc)).trans rfl) ?_
  refine x_if_ne C 20 10 dX5_channelByLevel_7 (by decide) rfl (fun zk7 => ?_) (fun zk7 => ?_)
  · exact absurd zk7 (by decide)
  · exact x_throwS C0 (cls := "java/lang/IndexOutOfBoundsException") (text := "no such rank") (names := ["java/lang/RuntimeException", "java/lang/Exception"]) (List.mem_of_getElem? (i := 9) rfl) (by decide) (by decide) (List.mem_cons_of_mem _ (List.mem_append_left _ (List.mem_append_left _ (List.mem_append_left _ (List.mem_append_left _ (List.mem_append_left _ (List.mem_append_left _ (List.mem_append_left _ (List.mem_append_left _ (List.mem_append_left _ (List.mem_of_getElem? (i := 0) rfl))))))))))) (List.mem_cons_of_mem _ (List.mem_append_left _ (List.mem_append_left _ (List.mem_append_left _ (List.mem_append_left _ (List.mem_append_left _ (List.mem_append_left _ (List.mem_append_left _ (List.mem_append_left _ (List.mem_append_left _ (List.mem_of_getElem? (i := 1) rfl))))))))))) (fun w h => (List.mem_cons_of_mem _ (List.mem_append_left _ (List.mem_append_left _ (List.mem_append_right _ h))))) (by decide) (by decide +kernel) (by decide +kernel) dX5_channelByLevel_10 dX5_channelByLevel_13 dX5_channelByLevel_14 dX5_channelByLevel_16 dX5_channelByLevel_19 (Nat.le_of_ble_eq_true rfl) (Nat.le_of_ble_eq_true rfl) (Nat.le_of_ble_eq_true rfl) (Nat.le_of_ble_eq_true rfl) ⟨rfl, rfl⟩   
set_option maxRecDepth 100000 in
set_option maxHeartbeats 4000000 in
theorem cC_channelByLevel_0 (hl : l.stackTraces = false) (hN : CN n cap) (hE : CE n g S) {r : Nat} (hr0 : r < 12)  : Ct (gm D a E0) l yX5_channelByLevel wsX5_channelByLevel { frames := 28, cells := 0, slots := 0, locals := 700 } [.ref (A 0 0), .int (nI r)] (wC a E0 n cap A g en S) (qI fun v w => v = cbL ((flv g (n 1) (n 2) S) 2 0) r 12 0 0 ∧ w = wC a E0 n cap A g en (flv g (n 1) (n 2) S)) noX := by
  refine Ct.of [some (.ref (A 0 0)), some (.int (nI r)), none, none] rfl hl (by decide) (Nat.le_of_ble_eq_true rfl) rfl (fun φ C0 => ?_)
  have C := C0.1
  refine x_iload_n C 1 dX5_channelByLevel_0 rfl rfl ?_
  refine x_iconst (v := (0)) C 2 dX5_channelByLevel_1 (by decide) rfl ?_
  refine x_bipush (v := (11)) C 4 dX5_channelByLevel_2 (by decide) rfl ?_
  refine x_callS0_i C 7 0 0 3 (cC_isWithin hl) rfl gX5_channelByLevel_X5_isWithin ⟨by decide, by decide, rfl⟩ ⟨Nat.le_of_ble_eq_true rfl, Nat.le_of_ble_eq_true rfl⟩ rfl rfl (Nat.le_of_ble_eq_true rfl) ⟨Nat.le_of_ble_eq_true rfl, Nat.le_of_ble_eq_true rfl⟩ dX5_channelByLevel_4 rfl rfl rfl (fun r1 w1 h1 => ?_)
  obtain ⟨rfl, rfl⟩ := h1
  refine x_top (show _ = (1 : Int32) from (congrArg bI (show chB (nI r) = true from chB_nI hr0)).trans rfl) ?_
  refine x_if_ne C 20 10 dX5_channelByLevel_7 (by decide) rfl (fun zk7 => ?_) (fun zk7 => ?_)
  · refine x_aload_n C 21 dX5_channelByLevel_20 rfl rfl ?_
    refine xc_callV_v C 24 0 0 0 0 9 0 (cC_fillLevelRow hl hN hE) rfl gX5_channelByLevel_X5_fillLevelRow ⟨rfl, by decide, by decide, rfl⟩ ⟨Nat.le_of_ble_eq_true rfl, Nat.le_of_ble_eq_true rfl⟩ rfl (by decide) (show 0 < 1 by decide) rfl rfl rfl (Nat.le_of_ble_eq_true rfl) ⟨Nat.le_of_ble_eq_true rfl, Nat.le_of_ble_eq_true rfl⟩ dX5_channelByLevel_21 rfl rfl rfl (fun w2 h2 => ?_)
    subst h2
    refine x_iconst (v := (0)) C 25 dX5_channelByLevel_24 (by decide) rfl ?_
    refine x_istore_n C 26 dX5_channelByLevel_25 (by decide) rfl rfl ?_
    refine x_iconst (v := (0)) C 27 dX5_channelByLevel_26 (by decide) rfl ?_
    refine x_istore_n C 28 dX5_channelByLevel_27 (by decide) rfl rfl ?_
    have lp28 : ∀ (m i : Nat) (v : Int32), i + m = 12 → cbL ((flv g (n 1) (n 2) S) 2 0) r 12 0 0 = cbL ((flv g (n 1) (n 2) S) 2 0) r m i v → X φ 28 [some (.ref (A 0 0)), some (.int (nI r)), some (.int v), some (.int (nI i))] [] (wC a E0 n cap A g en (flv g (n 1) (n 2) S)) 0 0 := by
      intro m
      induction m with
      | zero =>
        intro i v hi hr
        refine x_iload_n C 29 dX5_channelByLevel_28 rfl rfl ?_
        refine x_bipush (v := (12)) C 31 dX5_channelByLevel_29 (by decide) rfl ?_
        refine x_icmp_ge C 51 34 dX5_channelByLevel_31 (by decide) rfl (fun zk31 => ?_) (fun zk31 => ?_)
        · have zk31 := (nI_leI (a := 12) (b := i) (by omega) (by omega)).mp zk31
          refine x_iload_n C 52 dX5_channelByLevel_51 rfl rfl ?_
          exact x_zret C0 dX5_channelByLevel_52 (Nat.le_of_ble_eq_true rfl) (Nat.le_of_ble_eq_true rfl) ⟨_, rfl, ⟨by rw [hr]; rfl, rfl⟩⟩
        · have zk31 := mt (nI_leI (a := 12) (b := i) (by omega) (by omega)).mpr zk31
          exfalso; omega
      | succ m ih =>
        intro i v hi hr
        refine x_iload_n C 29 dX5_channelByLevel_28 rfl rfl ?_
        refine x_bipush (v := (12)) C 31 dX5_channelByLevel_29 (by decide) rfl ?_
        refine x_icmp_ge C 51 34 dX5_channelByLevel_31 (by decide) rfl (fun zk31 => ?_) (fun zk31 => ?_)
        · have zk31 := (nI_leI (a := 12) (b := i) (by omega) (by omega)).mp zk31
          exfalso; omega
        · have zk31 := mt (nI_leI (a := 12) (b := i) (by omega) (by omega)).mpr zk31
          refine x_aload_n C 35 dX5_channelByLevel_34 rfl rfl ?_
          refine x_iload_n C 36 dX5_channelByLevel_35 rfl rfl ?_
          refine xc_callV_i C 39 0 0 0 0 9 1 (cC_rankInRow hl (S := (flv g (n 1) (n 2) S)) (c := i) (by omega)) rfl gX5_channelByLevel_X5_rankInRow ⟨rfl, by decide, by decide, rfl⟩ ⟨Nat.le_of_ble_eq_true rfl, Nat.le_of_ble_eq_true rfl⟩ rfl (by decide) (show 0 < 1 by decide) rfl rfl rfl (Nat.le_of_ble_eq_true rfl) ⟨Nat.le_of_ble_eq_true rfl, Nat.le_of_ble_eq_true rfl⟩ dX5_channelByLevel_36 rfl rfl rfl (fun r3 w3 h3 => ?_)
          obtain ⟨rfl, rfl⟩ := h3
          have hrk := rkL_le ((flv g (n 1) (n 2) S) 2 0) i 12 0 0
          refine x_iload_n C 40 dX5_channelByLevel_39 rfl rfl ?_
          refine x_icmp_ne C 45 43 dX5_channelByLevel_40 (by decide) rfl (fun zk40 => ?_) (fun zk40 => ?_)
          · have zk40 := mt (nI_eq (a := (rkL ((flv g (n 1) (n 2) S) 2 0) i 12 0 0)) (b := r) (by omega) (by omega)).mpr zk40
            refine x_iinc (v := nI (i + 1)) C 48 rfl dX5_channelByLevel_45 (iinc1 _) (by decide) rfl rfl ?_
            refine x_goto C 28 dX5_channelByLevel_48 (by decide) ?_
            exact ih (i + 1) _ (by omega) (by rw [hr, cbL]; first | rw [if_pos zk40] | rw [if_neg zk40])
          · have zk40 := (nI_eq (a := (rkL ((flv g (n 1) (n 2) S) 2 0) i 12 0 0)) (b := r) (by omega) (by omega)).mp zk40
            refine x_iload_n C 44 dX5_channelByLevel_43 rfl rfl ?_
            refine x_istore_n C 45 dX5_channelByLevel_44 (by decide) rfl rfl ?_
            refine x_iinc (v := nI (i + 1)) C 48 rfl dX5_channelByLevel_45 (iinc1 _) (by decide) rfl rfl ?_
            refine x_goto C 28 dX5_channelByLevel_48 (by decide) ?_
            exact ih (i + 1) _ (by omega) (by rw [hr, cbL]; first | rw [if_pos zk40] | rw [if_neg zk40])
    exact lp28 12 0 _ rfl rfl
  · exact absurd zk7 (by decide)
theorem fg_X5_energy_42 : gF RX5 wsX5_energy 42 9 8 := ⟨RX5, TX5, 11, "StageConsole", rfl, fun w h => (List.mem_cons_of_mem _ (List.mem_append_right _ h)), by decide, (List.mem_cons_of_mem _ (List.mem_append_left _ (List.mem_of_getElem? (i := 0) rfl))), Or.inl rfl⟩
set_option maxRecDepth 100000 in
set_option maxHeartbeats 4000000 in
theorem cC_energy (hl : l.stackTraces = false)  : Ct (gm D a E0) l yX5_energy wsX5_energy { frames := 4, cells := 0, slots := 0, locals := 100 } [.ref (A 0 0)] (wC a E0 n cap A g en S) (qJ fun v w => v = en ∧ w = wC a E0 n cap A g en S) noX := by
  refine Ct.of [some (.ref (A 0 0))] rfl hl (by decide) (Nat.le_of_ble_eq_true rfl) rfl (fun φ C0 => ?_)
  have C := C0.1
  refine x_aload_n C 1 dX5_energy_0 rfl rfl ?_
  refine xc_get C 4 0 0 (by decide) (show 0 < 1 by decide) rfl fg_X5_energy_42 rfl dX5_energy_1 rfl ?_
  exact x_lret C0 dX5_energy_4 (Nat.le_of_ble_eq_true rfl) (Nat.le_of_ble_eq_true rfl) ⟨_, rfl, ⟨rfl, rfl⟩⟩
theorem fg_X5_litShare_38 : gF RX5 wsX5_litShare 38 9 7 := ⟨RX5, TX5, 11, "StageConsole", rfl, fun w h => (List.mem_cons_of_mem _ (List.mem_append_left _ (List.mem_append_left _ (List.mem_append_left _ (List.mem_append_left _ (List.mem_append_left _ (List.mem_append_left _ (List.mem_append_right _ h)))))))), by decide, (List.mem_cons_of_mem _ (List.mem_append_left _ (List.mem_append_left _ (List.mem_append_left _ (List.mem_append_left _ (List.mem_append_left _ (List.mem_append_left _ (List.mem_append_left _ (List.mem_append_left _ (List.mem_of_getElem? (i := 0) rfl)))))))))), Or.inl rfl⟩
set_option maxRecDepth 100000 in
set_option maxHeartbeats 4000000 in
theorem cC_litShare (hl : l.stackTraces = false) (hN : CN n cap) (hE : CE n g S)  : Ct (gm D a E0) l yX5_litShare wsX5_litShare { frames := 28, cells := 0, slots := 0, locals := 700 } [.ref (A 0 0)] (wC a E0 n cap A g en S) (qF fun v w => v = FP.fdiv (FP.i2f (nI (ltL ((flv g (n 1) (n 2) S) 2 0) 12 0 0))) 1094713344 ∧ w = wC a E0 n cap A g en (flv g (n 1) (n 2) S)) noX := by
  refine Ct.of [some (.ref (A 0 0)), none, none] rfl hl (by decide) (Nat.le_of_ble_eq_true rfl) rfl (fun φ C0 => ?_)
  have C := C0.1
  refine x_aload_n C 1 dX5_litShare_0 rfl rfl ?_
  refine xc_callV_v C 4 0 0 0 0 9 0 (cC_fillLevelRow hl hN hE) rfl gX5_litShare_X5_fillLevelRow ⟨rfl, by decide, by decide, rfl⟩ ⟨Nat.le_of_ble_eq_true rfl, Nat.le_of_ble_eq_true rfl⟩ rfl (by decide) (show 0 < 1 by decide) rfl rfl rfl (Nat.le_of_ble_eq_true rfl) ⟨Nat.le_of_ble_eq_true rfl, Nat.le_of_ble_eq_true rfl⟩ dX5_litShare_1 rfl rfl rfl (fun w1 h1 => ?_)
  subst h1
  refine x_iconst (v := (0)) C 5 dX5_litShare_4 (by decide) rfl ?_
  refine x_istore_n C 6 dX5_litShare_5 (by decide) rfl rfl ?_
  refine x_iconst (v := (0)) C 7 dX5_litShare_6 (by decide) rfl ?_
  refine x_istore_n C 8 dX5_litShare_7 (by decide) rfl rfl ?_
  have lp8 : ∀ (m i k : Nat), i + m = 12 → k ≤ i → ltL ((flv g (n 1) (n 2) S) 2 0) 12 0 0 = ltL ((flv g (n 1) (n 2) S) 2 0) m i k → X φ 8 [some (.ref (A 0 0)), some (.int (nI k)), some (.int (nI i))] [] (wC a E0 n cap A g en (flv g (n 1) (n 2) S)) 0 0 := by
    intro m
    induction m with
    | zero =>
      intro i k hi hk hr
      refine x_iload_n C 9 dX5_litShare_8 rfl rfl ?_
      refine x_bipush (v := (12)) C 11 dX5_litShare_9 (by decide) rfl ?_
      refine x_icmp_ge C 32 14 dX5_litShare_11 (by decide) rfl (fun zk11 => ?_) (fun zk11 => ?_)
      · have zk11 := (nI_leI (a := 12) (b := i) (by omega) (by omega)).mp zk11
        refine x_iload_n C 33 dX5_litShare_32 rfl rfl ?_
        refine x_i2f C 34 dX5_litShare_33 rfl ?_
        refine x_ldcwf C 37 (List.mem_cons_of_mem _ (List.mem_append_left _ (List.mem_append_left _ (List.mem_append_left _ (List.mem_append_left _ (List.mem_append_left _ (List.mem_append_left _ (List.mem_append_left _ (List.mem_append_left _ (List.mem_of_getElem? (i := 1) rfl)))))))))) dX5_litShare_34 rfl ?_
        refine x_fdiv C 38 dX5_litShare_37 (litNN k (by omega)) rfl ?_
        exact x_fret C0 dX5_litShare_38 (Nat.le_of_ble_eq_true rfl) (Nat.le_of_ble_eq_true rfl) ⟨_, rfl, ⟨by rw [hr]; rfl, rfl⟩⟩
      · have zk11 := mt (nI_leI (a := 12) (b := i) (by omega) (by omega)).mpr zk11
        exfalso; omega
    | succ m ih =>
      intro i k hi hk hr
      refine x_iload_n C 9 dX5_litShare_8 rfl rfl ?_
      refine x_bipush (v := (12)) C 11 dX5_litShare_9 (by decide) rfl ?_
      refine x_icmp_ge C 32 14 dX5_litShare_11 (by decide) rfl (fun zk11 => ?_) (fun zk11 => ?_)
      · have zk11 := (nI_leI (a := 12) (b := i) (by omega) (by omega)).mp zk11
        exfalso; omega
      · have zk11 := mt (nI_leI (a := 12) (b := i) (by omega) (by omega)).mpr zk11
        refine x_aload_n C 15 dX5_litShare_14 rfl rfl ?_
        refine xc_get C 18 0 0 (by decide) (show 0 < 1 by decide) rfl fg_X5_litShare_38 rfl dX5_litShare_15 rfl ?_
        refine x_iload_n C 19 dX5_litShare_18 rfl rfl ?_
        refine xc_iald C 20 2 0 i (by decide) (show 0 < 1 by decide) rfl rfl (by omega) dX5_litShare_19 rfl ?_
        refine x_if_le C 26 23 dX5_litShare_20 (by decide) rfl (fun zk20 => ?_) (fun zk20 => ?_)
        · refine x_iinc (v := nI (i + 1)) C 29 rfl dX5_litShare_26 (iinc1 _) (by decide) rfl rfl ?_
          refine x_goto C 8 dX5_litShare_29 (by decide) ?_
          exact ih (i + 1) _ (by omega) (by omega) (by rw [hr, ltL]; first | rw [if_pos zk20] | rw [if_neg zk20])
        · refine x_iinc (v := nI (k + 1)) C 26 rfl dX5_litShare_23 (iinc1 _) (by decide) rfl rfl ?_
          refine x_iinc (v := nI (i + 1)) C 29 rfl dX5_litShare_26 (iinc1 _) (by decide) rfl rfl ?_
          refine x_goto C 8 dX5_litShare_29 (by decide) ?_
          exact ih (i + 1) _ (by omega) (by omega) (by rw [hr, ltL]; first | rw [if_pos zk20] | rw [if_neg zk20])
  exact lp8 12 0 0 rfl (by omega) rfl
end CC
