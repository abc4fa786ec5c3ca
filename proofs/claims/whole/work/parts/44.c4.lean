section CC
variable {l : Launch} {Γ : Gm} {D : va_G} {a : Nat → ClassId} {E0 : Nat} {n cap : Nat → Nat} {A : Nat → Nat → Nat} {g : Nat → Nat} {en : Int64} {S : Nat → Nat → Nat → Int32}
theorem fg_X5_playPlace_10 : gF RX5 wsX5_playPlace 10 9 0 := ⟨RX5, TX5, 11, "StageConsole", rfl, fun w h => (List.mem_cons_of_mem _ (List.mem_append_left _ (List.mem_append_left _ (List.mem_append_left _ (List.mem_append_left _ (List.mem_append_right _ h)))))), by decide, (List.mem_cons_of_mem _ (List.mem_append_left _ (List.mem_append_left _ (List.mem_append_left _ (List.mem_append_left _ (List.mem_append_left _ (List.mem_append_left _ (List.mem_of_getElem? (i := 0) rfl)))))))), Or.inl rfl⟩
theorem fg_X5_playPlace_311 : gF RX5 wsX5_playPlace 311 5 0 := ⟨RX1, TX1, 5, "StageConsole$Cue", rfl, fun w h => (List.mem_cons_of_mem _ (List.mem_append_left _ (List.mem_append_left _ (List.mem_append_left _ (List.mem_append_right _ h))))), by decide, (List.mem_cons_of_mem _ (List.mem_append_left _ (List.mem_append_left _ (List.mem_append_left _ (List.mem_append_left _ (List.mem_append_left _ (List.mem_append_left _ (List.mem_of_getElem? (i := 5) rfl)))))))), Or.inl rfl⟩
theorem fp_X5_playPlace_16 : pF RX5 wsX5_playPlace 16 9 1 false (.int) := ⟨RX5, TX5, 11, "StageConsole", tyX5, rfl, fun w h => (List.mem_cons_of_mem _ (List.mem_append_left _ (List.mem_append_left _ (List.mem_append_left _ (List.mem_append_left _ (List.mem_append_right _ h)))))), by decide, (List.mem_cons_of_mem _ (List.mem_append_left _ (List.mem_append_left _ (List.mem_append_left _ (List.mem_append_left _ (List.mem_append_left _ (List.mem_append_left _ (List.mem_of_getElem? (i := 6) rfl)))))))), Or.inl rfl, tyX5_ok, nmX5, rfl, rfl, fun h => absurd h (by decide)⟩
theorem fg_X5_playPlace_25 : gF RX5 wsX5_playPlace 25 9 3 := ⟨RX5, TX5, 11, "StageConsole", rfl, fun w h => (List.mem_cons_of_mem _ (List.mem_append_left _ (List.mem_append_left _ (List.mem_append_left _ (List.mem_append_left _ (List.mem_append_right _ h)))))), by decide, (List.mem_cons_of_mem _ (List.mem_append_left _ (List.mem_append_left _ (List.mem_append_left _ (List.mem_append_left _ (List.mem_append_left _ (List.mem_append_left _ (List.mem_of_getElem? (i := 2) rfl)))))))), Or.inl rfl⟩
theorem fg_X5_playPlace_314 : gF RX5 wsX5_playPlace 314 5 1 := ⟨RX1, TX1, 5, "StageConsole$Cue", rfl, fun w h => (List.mem_cons_of_mem _ (List.mem_append_left _ (List.mem_append_left _ (List.mem_append_left _ (List.mem_append_right _ h))))), by decide, (List.mem_cons_of_mem _ (List.mem_append_left _ (List.mem_append_left _ (List.mem_append_left _ (List.mem_append_left _ (List.mem_append_left _ (List.mem_append_left _ (List.mem_of_getElem? (i := 3) rfl)))))))), Or.inl rfl⟩
theorem fg_X5_playPlace_317 : gF RX5 wsX5_playPlace 317 5 2 := ⟨RX1, TX1, 5, "StageConsole$Cue", rfl, fun w h => (List.mem_cons_of_mem _ (List.mem_append_left _ (List.mem_append_left _ (List.mem_append_left _ (List.mem_append_right _ h))))), by decide, (List.mem_cons_of_mem _ (List.mem_append_left _ (List.mem_append_left _ (List.mem_append_left _ (List.mem_append_left _ (List.mem_append_left _ (List.mem_append_left _ (List.mem_of_getElem? (i := 4) rfl)))))))), Or.inl rfl⟩
set_option maxRecDepth 100000 in
set_option maxHeartbeats 4000000 in
theorem cC_playPlace (hl : l.stackTraces = false) {p : Nat} (hN : CN n cap) (hp : p < n 0) (hK : chK (S 5 p 2))  : Ct (gm D a E0) l yX5_playPlace wsX5_playPlace { frames := 20, cells := 0, slots := 0, locals := 500 } [.ref (A 0 0), .int (nI p)] (wC a E0 n cap A g en S) (qV fun w => w = wC a E0 n cap A g en (ppS p S)) noX := by
  refine Ct.of [some (.ref (A 0 0)), some (.int (nI p)), none, none] rfl hl (by decide) (Nat.le_of_ble_eq_true rfl) rfl (fun φ C0 => ?_)
  have C := C0.1
  refine x_aload_n C 1 dX5_playPlace_0 rfl rfl ?_
  refine xc_get C 4 0 0 (by decide) (show 0 < 1 by decide) rfl fg_X5_playPlace_10 rfl dX5_playPlace_1 rfl ?_
  refine x_iload_n C 5 dX5_playPlace_4 rfl rfl ?_
  have h16 := hN.2.1
  refine xc_callV_q C 8 0 0 3 0 3 1 (cC_get hl (j := 0) (by decide) (i := p) (by omega) (hN.1 0 (by decide)).1 (hN.1 0 (by decide)).2) rfl gX5_playPlace_Jx4a65c_get_915e3 ⟨rfl, by decide, by decide, rfl⟩ ⟨Nat.le_of_ble_eq_true rfl, Nat.le_of_ble_eq_true rfl⟩ rfl (by decide) (show 0 < 4 by decide) rfl rfl rfl (Nat.le_of_ble_eq_true rfl) ⟨Nat.le_of_ble_eq_true rfl, Nat.le_of_ble_eq_true rfl⟩ dX5_playPlace_5 rfl rfl rfl (fun r1 w1 h1 => ?_)
  obtain ⟨rfl, rfl⟩ := h1
  refine x_topq (show _ = Value.ref (A 5 p) from rfl) ?_
  refine xc_castS C 11 5 p (by decide) (show p < n 0 from by omega) rfl rfl (List.mem_cons_of_mem _ (List.mem_append_left _ (List.mem_append_left _ (List.mem_append_left _ (List.mem_append_left _ (List.mem_append_left _ (List.mem_append_left _ (List.mem_of_getElem? (i := 1) rfl)))))))) dX5_playPlace_8 rfl ?_
  refine x_astore_n C 12 dX5_playPlace_11 (by decide) rfl rfl ?_
  refine x_iconst (v := (0)) C 13 dX5_playPlace_12 (by decide) rfl ?_
  refine x_istore_n C 14 dX5_playPlace_13 (by decide) rfl rfl ?_
  have lp14 : ∀ (m i : Nat) (T : Nat → Nat → Nat → Int32), i + m = 12 → chK (T 5 p 2) → ppL p 12 0 S = ppL p m i T → X φ 14 [some (.ref (A 0 0)), some (.int (nI p)), some (.ref (A 5 p)), some (.int (nI i))] [] (wC a E0 n cap A g en T) 0 0 := by
    intro m
    induction m with
    | zero =>
      intro i T hi hT hr
      refine x_iload_n C 15 dX5_playPlace_14 rfl rfl ?_
      refine x_bipush (v := (12)) C 17 dX5_playPlace_15 (by decide) rfl ?_
      refine x_icmp_ge C 49 20 dX5_playPlace_17 (by decide) rfl (fun zk17 => ?_) (fun zk17 => ?_)
      · have zk17 := (nI_leI (a := 12) (b := i) (by omega) (by omega)).mp zk17
        refine x_aload_n C 50 dX5_playPlace_49 rfl rfl ?_
        refine x_aload_n C 51 dX5_playPlace_50 rfl rfl ?_
        refine xc_get C 54 5 p (by decide) (show p < n 0 from by omega) rfl fg_X5_playPlace_311 rfl dX5_playPlace_51 rfl ?_
        refine xc_put C 57 0 0 0 (by decide) (show 0 < 1 by decide) rfl fp_X5_playPlace_16 rfl rfl (Nat.le_of_ble_eq_true rfl) rfl dX5_playPlace_54 rfl ?_
        exact x_vret C0 dX5_playPlace_57 (Nat.le_of_ble_eq_true rfl) (Nat.le_of_ble_eq_true rfl) ⟨rfl, by rw [ppS, show ppL p 12 0 S = T from hr]⟩
      · have zk17 := mt (nI_leI (a := 12) (b := i) (by omega) (by omega)).mpr zk17
        exfalso; omega
    | succ m ih =>
      intro i T hi hT hr
      refine x_iload_n C 15 dX5_playPlace_14 rfl rfl ?_
      refine x_bipush (v := (12)) C 17 dX5_playPlace_15 (by decide) rfl ?_
      refine x_icmp_ge C 49 20 dX5_playPlace_17 (by decide) rfl (fun zk17 => ?_) (fun zk17 => ?_)
      · have zk17 := (nI_leI (a := 12) (b := i) (by omega) (by omega)).mp zk17
        exfalso; omega
      · have zk17 := mt (nI_leI (a := 12) (b := i) (by omega) (by omega)).mpr zk17
        refine x_aload_n C 21 dX5_playPlace_20 rfl rfl ?_
        refine xc_get C 24 0 0 (by decide) (show 0 < 1 by decide) rfl fg_X5_playPlace_25 rfl dX5_playPlace_21 rfl ?_
        refine x_iload_n C 25 dX5_playPlace_24 rfl rfl ?_
        refine xc_chan C 26 i rfl (by omega) dX5_playPlace_25 rfl ?_
        refine x_aload_n C 27 dX5_playPlace_26 rfl rfl ?_
        refine x_iload_n C 28 dX5_playPlace_27 rfl rfl ?_
        refine x_iload_n C 29 dX5_playPlace_28 rfl rfl ?_
        refine xc_callV_i C 32 0 0 0 0 9 2 (cC_trackedAt hl (S := T) hN hp (show i < 12 by omega)) rfl gX5_playPlace_X5_trackedAt ⟨rfl, by decide, by decide, rfl⟩ ⟨Nat.le_of_ble_eq_true rfl, Nat.le_of_ble_eq_true rfl⟩ rfl (by decide) (show 0 < 1 by decide) rfl rfl rfl (Nat.le_of_ble_eq_true rfl) ⟨Nat.le_of_ble_eq_true rfl, Nat.le_of_ble_eq_true rfl⟩ dX5_playPlace_29 rfl rfl rfl (fun r2 w2 h2 => ?_)
        obtain ⟨rfl, rfl⟩ := h2
        refine x_aload_n C 33 dX5_playPlace_32 rfl rfl ?_
        refine xc_get C 36 5 p (by decide) (show p < n 0 from by omega) rfl fg_X5_playPlace_314 rfl dX5_playPlace_33 rfl ?_
        refine x_aload_n C 37 dX5_playPlace_36 rfl rfl ?_
        refine xc_get C 40 5 p (by decide) (show p < n 0 from by omega) rfl fg_X5_playPlace_317 rfl dX5_playPlace_37 rfl ?_
        refine xc_callV_v C 43 0 0 4 i 4 3 (cC_follow hl (S := T) (show i < 12 by omega) hT) rfl gX5_playPlace_X0_follow ⟨rfl, by decide, by decide, rfl⟩ ⟨Nat.le_of_ble_eq_true rfl, Nat.le_of_ble_eq_true rfl⟩ rfl (by decide) (show i < 12 from by omega) rfl rfl rfl (Nat.le_of_ble_eq_true rfl) ⟨Nat.le_of_ble_eq_true rfl, Nat.le_of_ble_eq_true rfl⟩ dX5_playPlace_40 rfl rfl rfl (fun w3 h3 => ?_)
        subst h3
        refine x_iinc (v := nI (i + 1)) C 46 rfl dX5_playPlace_43 (iinc1 _) (by decide) rfl rfl ?_
        refine x_goto C 14 dX5_playPlace_46 (by decide) ?_
        exact ih (i + 1) _ (by omega) (by rw [flS_n _ _ _ _ _ (by decide)]; exact hT) (by rw [hr, ppL])
  exact lp14 12 0 _ rfl hK rfl
theorem fg_X5_fadingChannels_25 : gF RX5 wsX5_fadingChannels 25 9 3 := ⟨RX5, TX5, 11, "StageConsole", rfl, fun w h => (List.mem_cons_of_mem _ (List.mem_append_left _ (List.mem_append_right _ h))), by decide, (List.mem_cons_of_mem _ (List.mem_append_left _ (List.mem_append_left _ (List.mem_of_getElem? (i := 0) rfl)))), Or.inl rfl⟩
set_option maxRecDepth 100000 in
set_option maxHeartbeats 4000000 in
theorem cC_fadingChannels (hl : l.stackTraces = false)  : Ct (gm D a E0) l yX5_fadingChannels wsX5_fadingChannels { frames := 8, cells := 0, slots := 0, locals := 200 } [.ref (A 0 0)] (wC a E0 n cap A g en S) (qI fun v w => v = nI (fcL S 12 0 0) ∧ w = wC a E0 n cap A g en S) noX := by
  refine Ct.of [some (.ref (A 0 0)), none, none] rfl hl (by decide) (Nat.le_of_ble_eq_true rfl) rfl (fun φ C0 => ?_)
  have C := C0.1
  refine x_iconst (v := (0)) C 1 dX5_fadingChannels_0 (by decide) rfl ?_
  refine x_istore_n C 2 dX5_fadingChannels_1 (by decide) rfl rfl ?_
  refine x_iconst (v := (0)) C 3 dX5_fadingChannels_2 (by decide) rfl ?_
  refine x_istore_n C 4 dX5_fadingChannels_3 (by decide) rfl rfl ?_
  have lp4 : ∀ (m i k : Nat), i + m = 12 → k ≤ i → fcL S 12 0 0 = fcL S m i k → X φ 4 [some (.ref (A 0 0)), some (.int (nI k)), some (.int (nI i))] [] (wC a E0 n cap A g en S) 0 0 := by
    intro m
    induction m with
    | zero =>
      intro i k hi hk hr
      refine x_iload_n C 5 dX5_fadingChannels_4 rfl rfl ?_
      refine x_bipush (v := (12)) C 7 dX5_fadingChannels_5 (by decide) rfl ?_
      refine x_icmp_ge C 31 10 dX5_fadingChannels_7 (by decide) rfl (fun zk7 => ?_) (fun zk7 => ?_)
      · have zk7 := (nI_leI (a := 12) (b := i) (by omega) (by omega)).mp zk7
        refine x_iload_n C 32 dX5_fadingChannels_31 rfl rfl ?_
        exact x_zret C0 dX5_fadingChannels_32 (Nat.le_of_ble_eq_true rfl) (Nat.le_of_ble_eq_true rfl) ⟨_, rfl, ⟨by rw [hr]; rfl, rfl⟩⟩
      · have zk7 := mt (nI_leI (a := 12) (b := i) (by omega) (by omega)).mpr zk7
        exfalso; omega
    | succ m ih =>
      intro i k hi hk hr
      refine x_iload_n C 5 dX5_fadingChannels_4 rfl rfl ?_
      refine x_bipush (v := (12)) C 7 dX5_fadingChannels_5 (by decide) rfl ?_
      refine x_icmp_ge C 31 10 dX5_fadingChannels_7 (by decide) rfl (fun zk7 => ?_) (fun zk7 => ?_)
      · have zk7 := (nI_leI (a := 12) (b := i) (by omega) (by omega)).mp zk7
        exfalso; omega
      · have zk7 := mt (nI_leI (a := 12) (b := i) (by omega) (by omega)).mpr zk7
        refine x_aload_n C 11 dX5_fadingChannels_10 rfl rfl ?_
        refine xc_get C 14 0 0 (by decide) (show 0 < 1 by decide) rfl fg_X5_fadingChannels_25 rfl dX5_fadingChannels_11 rfl ?_
        refine x_iload_n C 15 dX5_fadingChannels_14 rfl rfl ?_
        refine xc_chan C 16 i rfl (by omega) dX5_fadingChannels_15 rfl ?_
        refine xc_callV_i C 19 0 0 4 i 4 0 (cC_fadeTicksLeft hl (show i < 12 by omega)) rfl gX5_fadingChannels_X0_fadeTicksLeft ⟨rfl, by decide, by decide, rfl⟩ ⟨Nat.le_of_ble_eq_true rfl, Nat.le_of_ble_eq_true rfl⟩ rfl (by decide) (show i < 12 from by omega) rfl rfl rfl (Nat.le_of_ble_eq_true rfl) ⟨Nat.le_of_ble_eq_true rfl, Nat.le_of_ble_eq_true rfl⟩ dX5_fadingChannels_16 rfl rfl rfl (fun r1 w1 h1 => ?_)
        obtain ⟨rfl, rfl⟩ := h1
        refine x_if_le C 25 22 dX5_fadingChannels_19 (by decide) rfl (fun zk19 => ?_) (fun zk19 => ?_)
        · refine x_iinc (v := nI (i + 1)) C 28 rfl dX5_fadingChannels_25 (iinc1 _) (by decide) rfl rfl ?_
          refine x_goto C 4 dX5_fadingChannels_28 (by decide) ?_
          exact ih (i + 1) _ (by omega) (by omega) (by rw [hr, fcL]; first | rw [if_pos zk19] | rw [if_neg zk19])
        · refine x_iinc (v := nI (k + 1)) C 25 rfl dX5_fadingChannels_22 (iinc1 _) (by decide) rfl rfl ?_
          refine x_iinc (v := nI (i + 1)) C 28 rfl dX5_fadingChannels_25 (iinc1 _) (by decide) rfl rfl ?_
          refine x_goto C 4 dX5_fadingChannels_28 (by decide) ?_
          exact ih (i + 1) _ (by omega) (by omega) (by rw [hr, fcL]; first | rw [if_pos zk19] | rw [if_neg zk19])
  exact lp4 12 0 0 rfl (by omega) rfl
theorem fg_X5_ticksLeft_25 : gF RX5 wsX5_ticksLeft 25 9 3 := ⟨RX5, TX5, 11, "StageConsole", rfl, fun w h => (List.mem_cons_of_mem _ (List.mem_append_left _ (List.mem_append_right _ h))), by decide, (List.mem_cons_of_mem _ (List.mem_append_left _ (List.mem_append_left _ (List.mem_of_getElem? (i := 0) rfl)))), Or.inl rfl⟩
set_option maxRecDepth 100000 in
set_option maxHeartbeats 4000000 in
theorem cC_ticksLeft (hl : l.stackTraces = false)  : Ct (gm D a E0) l yX5_ticksLeft wsX5_ticksLeft { frames := 8, cells := 0, slots := 0, locals := 200 } [.ref (A 0 0)] (wC a E0 n cap A g en S) (qI fun v w => v = ldL S 12 0 0 ∧ w = wC a E0 n cap A g en S) noX := by
  refine Ct.of [some (.ref (A 0 0)), none, none] rfl hl (by decide) (Nat.le_of_ble_eq_true rfl) rfl (fun φ C0 => ?_)
  have C := C0.1
  refine x_iconst (v := (0)) C 1 dX5_ticksLeft_0 (by decide) rfl ?_
  refine x_istore_n C 2 dX5_ticksLeft_1 (by decide) rfl rfl ?_
  refine x_iconst (v := (0)) C 3 dX5_ticksLeft_2 (by decide) rfl ?_
  refine x_istore_n C 4 dX5_ticksLeft_3 (by decide) rfl rfl ?_
  have lp4 : ∀ (m i : Nat) (v : Int32), i + m = 12 → ldL S 12 0 0 = ldL S m i v → X φ 4 [some (.ref (A 0 0)), some (.int v), some (.int (nI i))] [] (wC a E0 n cap A g en S) 0 0 := by
    intro m
    induction m with
    | zero =>
      intro i v hi hr
      refine x_iload_n C 5 dX5_ticksLeft_4 rfl rfl ?_
      refine x_bipush (v := (12)) C 7 dX5_ticksLeft_5 (by decide) rfl ?_
      refine x_icmp_ge C 30 10 dX5_ticksLeft_7 (by decide) rfl (fun zk7 => ?_) (fun zk7 => ?_)
      · have zk7 := (nI_leI (a := 12) (b := i) (by omega) (by omega)).mp zk7
        refine x_iload_n C 31 dX5_ticksLeft_30 rfl rfl ?_
        exact x_zret C0 dX5_ticksLeft_31 (Nat.le_of_ble_eq_true rfl) (Nat.le_of_ble_eq_true rfl) ⟨_, rfl, ⟨by rw [hr]; rfl, rfl⟩⟩
      · have zk7 := mt (nI_leI (a := 12) (b := i) (by omega) (by omega)).mpr zk7
        exfalso; omega
    | succ m ih =>
      intro i v hi hr
      refine x_iload_n C 5 dX5_ticksLeft_4 rfl rfl ?_
      refine x_bipush (v := (12)) C 7 dX5_ticksLeft_5 (by decide) rfl ?_
      refine x_icmp_ge C 30 10 dX5_ticksLeft_7 (by decide) rfl (fun zk7 => ?_) (fun zk7 => ?_)
      · have zk7 := (nI_leI (a := 12) (b := i) (by omega) (by omega)).mp zk7
        exfalso; omega
      · have zk7 := mt (nI_leI (a := 12) (b := i) (by omega) (by omega)).mpr zk7
        refine x_iload_n C 11 dX5_ticksLeft_10 rfl rfl ?_
        refine x_aload_n C 12 dX5_ticksLeft_11 rfl rfl ?_
        refine xc_get C 15 0 0 (by decide) (show 0 < 1 by decide) rfl fg_X5_ticksLeft_25 rfl dX5_ticksLeft_12 rfl ?_
        refine x_iload_n C 16 dX5_ticksLeft_15 rfl rfl ?_
        refine xc_chan C 17 i rfl (by omega) dX5_ticksLeft_16 rfl ?_
        refine xc_callV_i C 20 0 0 4 i 4 0 (cC_fadeTicksLeft hl (show i < 12 by omega)) rfl gX5_ticksLeft_X0_fadeTicksLeft ⟨rfl, by decide, by decide, rfl⟩ ⟨Nat.le_of_ble_eq_true rfl, Nat.le_of_ble_eq_true rfl⟩ rfl (by decide) (show i < 12 from by omega) rfl rfl rfl (Nat.le_of_ble_eq_true rfl) ⟨Nat.le_of_ble_eq_true rfl, Nat.le_of_ble_eq_true rfl⟩ dX5_ticksLeft_17 rfl rfl rfl (fun r1 w1 h1 => ?_)
        obtain ⟨rfl, rfl⟩ := h1
        refine x_mmax C 23 (List.mem_cons_of_mem _ (List.mem_append_left _ (List.mem_append_left _ (List.mem_of_getElem? (i := 1) rfl)))) (List.mem_cons_of_mem _ (List.mem_append_left _ (List.mem_append_left _ (List.mem_of_getElem? (i := 2) rfl)))) (List.mem_cons_of_mem _ (List.mem_append_left _ (List.mem_append_left _ (List.mem_of_getElem? (i := 3) rfl)))) (List.mem_cons_of_mem _ (List.mem_append_left _ (List.mem_append_left _ (List.mem_of_getElem? (i := 4) rfl)))) (Nat.le_of_ble_eq_true rfl) (Nat.le_of_ble_eq_true rfl) (Nat.le_of_ble_eq_true rfl) (Nat.le_of_ble_eq_true rfl) dX5_ticksLeft_20 rfl ?_
        refine x_nm (fun v2 ev2 => ?_)
        refine x_istore_n C 24 dX5_ticksLeft_23 (by decide) rfl rfl ?_
        refine x_iinc (v := nI (i + 1)) C 27 rfl dX5_ticksLeft_24 (iinc1 _) (by decide) rfl rfl ?_
        refine x_goto C 4 dX5_ticksLeft_27 (by decide) ?_
        exact ih (i + 1) _ (by omega) (by rw [hr, ldL]; subst ev2; rfl)
  exact lp4 12 0 _ rfl rfl
theorem fg_X5_moveFader_29 : gF RX5 wsX5_moveFader 29 9 4 := ⟨RX5, TX5, 11, "StageConsole", rfl, fun w h => (List.mem_cons_of_mem _ (List.mem_append_left _ (List.mem_append_left _ (List.mem_append_left _ (List.mem_append_left _ (List.mem_append_right _ h)))))), by decide, (List.mem_cons_of_mem _ (List.mem_append_left _ (List.mem_append_left _ (List.mem_append_left _ (List.mem_append_left _ (List.mem_append_left _ (List.mem_append_left _ (List.mem_of_getElem? (i := 0) rfl)))))))), Or.inl rfl⟩
theorem fg_X5_moveFader_326 : gF RX5 wsX5_moveFader 326 7 1 := ⟨RX3, TX3, 2, "StageConsole$Group", rfl, fun w h => (List.mem_cons_of_mem _ (List.mem_append_left _ (List.mem_append_left _ (List.mem_append_left _ (List.mem_append_right _ h))))), by decide, (List.mem_cons_of_mem _ (List.mem_append_left _ (List.mem_append_left _ (List.mem_append_left _ (List.mem_append_left _ (List.mem_append_left _ (List.mem_append_left _ (List.mem_of_getElem? (i := 5) rfl)))))))), Or.inl rfl⟩
theorem fp_X5_moveFader_326 : pF RX5 wsX5_moveFader 326 7 1 false (.int) := ⟨RX3, TX3, 2, "StageConsole$Group", tyX3, rfl, fun w h => (List.mem_cons_of_mem _ (List.mem_append_left _ (List.mem_append_left _ (List.mem_append_left _ (List.mem_append_right _ h))))), by decide, (List.mem_cons_of_mem _ (List.mem_append_left _ (List.mem_append_left _ (List.mem_append_left _ (List.mem_append_left _ (List.mem_append_left _ (List.mem_append_left _ (List.mem_of_getElem? (i := 5) rfl)))))))), Or.inl rfl, tyX3_ok, nmX3, rfl, rfl, fun h => absurd h (by decide)⟩
theorem fg_X5_moveFader_186 : gF RX5 wsX5_moveFader 186 7 0 := ⟨RX3, TX3, 2, "StageConsole$Group", rfl, fun w h => (List.mem_cons_of_mem _ (List.mem_append_left _ (List.mem_append_left _ (List.mem_append_left _ (List.mem_append_right _ h))))), by decide, (List.mem_cons_of_mem _ (List.mem_append_left _ (List.mem_append_left _ (List.mem_append_left _ (List.mem_append_left _ (List.mem_append_left _ (List.mem_append_left _ (List.mem_of_getElem? (i := 2) rfl)))))))), Or.inl rfl⟩
theorem fg_X5_moveFader_25 : gF RX5 wsX5_moveFader 25 9 3 := ⟨RX5, TX5, 11, "StageConsole", rfl, fun w h => (List.mem_cons_of_mem _ (List.mem_append_left _ (List.mem_append_left _ (List.mem_append_left _ (List.mem_append_left _ (List.mem_append_right _ h)))))), by decide, (List.mem_cons_of_mem _ (List.mem_append_left _ (List.mem_append_left _ (List.mem_append_left _ (List.mem_append_left _ (List.mem_append_left _ (List.mem_append_left _ (List.mem_of_getElem? (i := 3) rfl)))))))), Or.inl rfl⟩
theorem fp_X5_moveFader_196 : pF RX5 wsX5_moveFader 196 4 7 false (.int) := ⟨RX0, TX0, 9, "StageConsole$Channel", tyX0, rfl, fun w h => (List.mem_cons_of_mem _ (List.mem_append_left _ (List.mem_append_left _ (List.mem_append_right _ h)))), by decide, (List.mem_cons_of_mem _ (List.mem_append_left _ (List.mem_append_left _ (List.mem_append_left _ (List.mem_append_left _ (List.mem_append_left _ (List.mem_append_left _ (List.mem_of_getElem? (i := 4) rfl)))))))), Or.inl rfl, tyX0_ok, nmX0, rfl, rfl, fun h => absurd h (by decide)⟩
set_option maxRecDepth 100000 in
set_option maxHeartbeats 4000000 in
theorem cC_moveFader (hl : l.stackTraces = false) {G : Nat} {x : Int32} (hN : CN n cap) (hG : G < n 1)  : Ct (gm D a E0) l yX5_moveFader wsX5_moveFader { frames := 16, cells := 0, slots := 0, locals := 400 } [.ref (A 0 0), .int (nI G), .int x] (wC a E0 n cap A g en S) (qI fun v w => v = S 7 G 0 ∧ w = wC a E0 n cap A g en (mfS G x S)) noX := by
  refine Ct.of [some (.ref (A 0 0)), some (.int (nI G)), some (.int x), none, none] rfl hl (by decide) (Nat.le_of_ble_eq_true rfl) rfl (fun φ C0 => ?_)
  have C := C0.1
  refine x_aload_n C 1 dX5_moveFader_0 rfl rfl ?_
  refine xc_get C 4 0 0 (by decide) (show 0 < 1 by decide) rfl fg_X5_moveFader_29 rfl dX5_moveFader_1 rfl ?_
  refine x_iload_n C 5 dX5_moveFader_4 rfl rfl ?_
  have h5 := hN.2.2.1
  refine xc_callV_q C 8 0 0 3 1 3 1 (cC_get hl (j := 1) (by decide) (i := G) (by omega) (hN.1 1 (by decide)).1 (hN.1 1 (by decide)).2) rfl gX5_moveFader_Jx4a65c_get_915e3 ⟨rfl, by decide, by decide, rfl⟩ ⟨Nat.le_of_ble_eq_true rfl, Nat.le_of_ble_eq_true rfl⟩ rfl (by decide) (show 1 < 4 by decide) rfl rfl rfl (Nat.le_of_ble_eq_true rfl) ⟨Nat.le_of_ble_eq_true rfl, Nat.le_of_ble_eq_true rfl⟩ dX5_moveFader_5 rfl rfl rfl (fun r1 w1 h1 => ?_)
  obtain ⟨rfl, rfl⟩ := h1
  refine x_topq (show _ = Value.ref (A 7 G) from rfl) ?_
  refine xc_castS C 11 7 G (by decide) (show G < n 1 from by omega) rfl rfl (List.mem_cons_of_mem _ (List.mem_append_left _ (List.mem_append_left _ (List.mem_append_left _ (List.mem_append_left _ (List.mem_append_left _ (List.mem_append_left _ (List.mem_of_getElem? (i := 1) rfl)))))))) dX5_moveFader_8 rfl ?_
  refine x_astore_n C 12 dX5_moveFader_11 (by decide) rfl rfl ?_
  refine x_iconst (v := (0)) C 13 dX5_moveFader_12 (by decide) rfl ?_
  refine x_istore C 15 dX5_moveFader_13 (by decide) rfl rfl ?_
  have lp15 : ∀ (m i : Nat) (T : Nat → Nat → Nat → Int32), i + m = 12 → T 7 = S 7 → mfL G 12 0 S = mfL G m i T → X φ 15 [some (.ref (A 0 0)), some (.int (nI G)), some (.int x), some (.ref (A 7 G)), some (.int (nI i))] [] (wC a E0 n cap A g en T) 0 0 := by
    intro m
    induction m with
    | zero =>
      intro i T hi hT hr
      refine x_iload C 17 dX5_moveFader_15 rfl rfl ?_
      refine x_bipush (v := (12)) C 19 dX5_moveFader_17 (by decide) rfl ?_
      refine x_icmp_ge C 49 22 dX5_moveFader_19 (by decide) rfl (fun zk19 => ?_) (fun zk19 => ?_)
      · have zk19 := (nI_leI (a := 12) (b := i) (by omega) (by omega)).mp zk19
        refine x_aload_n C 50 dX5_moveFader_49 rfl rfl ?_
        refine xc_get C 53 7 G (by decide) (show G < n 1 from by omega) rfl fg_X5_moveFader_326 rfl dX5_moveFader_50 rfl ?_
        refine x_nm (fun bf ebf => ?_)
        refine x_istore C 55 dX5_moveFader_53 (by decide) rfl rfl ?_
        refine x_aload_n C 56 dX5_moveFader_55 rfl rfl ?_
        refine x_iload_n C 57 dX5_moveFader_56 rfl rfl ?_
        refine xc_put C 60 7 G 0 (by decide) (show G < n 1 from by omega) rfl fp_X5_moveFader_326 rfl rfl (Nat.le_of_ble_eq_true rfl) rfl dX5_moveFader_57 rfl ?_
        refine x_iload C 62 dX5_moveFader_60 rfl rfl ?_
        exact x_zret C0 dX5_moveFader_62 (Nat.le_of_ble_eq_true rfl) (Nat.le_of_ble_eq_true rfl) ⟨_, rfl, ⟨by rw [ebf, hT], by rw [mfS, show mfL G 12 0 S = T from hr]⟩⟩
      · have zk19 := mt (nI_leI (a := 12) (b := i) (by omega) (by omega)).mpr zk19
        exfalso; omega
    | succ m ih =>
      intro i T hi hT hr
      refine x_iload C 17 dX5_moveFader_15 rfl rfl ?_
      refine x_bipush (v := (12)) C 19 dX5_moveFader_17 (by decide) rfl ?_
      refine x_icmp_ge C 49 22 dX5_moveFader_19 (by decide) rfl (fun zk19 => ?_) (fun zk19 => ?_)
      · have zk19 := (nI_leI (a := 12) (b := i) (by omega) (by omega)).mp zk19
        exfalso; omega
      · have zk19 := mt (nI_leI (a := 12) (b := i) (by omega) (by omega)).mpr zk19
        refine x_aload_n C 23 dX5_moveFader_22 rfl rfl ?_
        refine xc_get C 26 7 G (by decide) (show G < n 1 from by omega) rfl fg_X5_moveFader_186 rfl dX5_moveFader_23 rfl ?_
        refine x_iload C 28 dX5_moveFader_26 rfl rfl ?_
        refine xc_zald C 29 8 G i (by decide) (show G < n 1 from by omega) rfl rfl (by omega) dX5_moveFader_28 rfl ?_
        refine x_if_eq C 43 32 dX5_moveFader_29 (by decide) rfl (fun zk29 => ?_) (fun zk29 => ?_)
        · refine x_iinc (v := nI (i + 1)) C 46 rfl dX5_moveFader_43 (iinc1 _) (by decide) rfl rfl ?_
          refine x_goto C 15 dX5_moveFader_46 (by decide) ?_
          exact ih (i + 1) _ (by omega) (by first | exact hT | (rw [uS_row _ _ _ _ (by decide)]; exact hT)) (by rw [hr, mfL]; first | rw [if_pos zk29] | rw [if_neg zk29])
        · refine x_aload_n C 33 dX5_moveFader_32 rfl rfl ?_
          refine xc_get C 36 0 0 (by decide) (show 0 < 1 by decide) rfl fg_X5_moveFader_25 rfl dX5_moveFader_33 rfl ?_
          refine x_iload C 38 dX5_moveFader_36 rfl rfl ?_
          refine xc_chan C 39 i rfl (by omega) dX5_moveFader_38 rfl ?_
          refine x_iload_n C 40 dX5_moveFader_39 rfl rfl ?_
          refine xc_put C 43 4 i 7 (by decide) (show i < 12 from by omega) rfl fp_X5_moveFader_196 rfl rfl (Nat.le_of_ble_eq_true rfl) rfl dX5_moveFader_40 rfl ?_
          refine x_iinc (v := nI (i + 1)) C 46 rfl dX5_moveFader_43 (iinc1 _) (by decide) rfl rfl ?_
          refine x_goto C 15 dX5_moveFader_46 (by decide) ?_
          exact ih (i + 1) _ (by omega) (by first | exact hT | (rw [uS_row _ _ _ _ (by decide)]; exact hT)) (by rw [hr, mfL]; first | rw [if_pos zk29] | rw [if_neg zk29])
  exact lp15 12 0 _ rfl rfl rfl
theorem fg_X5_runningEffects_32 : gF RX5 wsX5_runningEffects 32 9 5 := ⟨RX5, TX5, 11, "StageConsole", rfl, fun w h => (List.mem_cons_of_mem _ (List.mem_append_left _ (List.mem_append_left _ (List.mem_append_right _ h)))), by decide, (List.mem_cons_of_mem _ (List.mem_append_left _ (List.mem_append_left _ (List.mem_append_left _ (List.mem_append_left _ (List.mem_of_getElem? (i := 0) rfl)))))), Or.inl rfl⟩
theorem fg_X5_runningEffects_219 : gF RX5 wsX5_runningEffects 219 6 5 := ⟨RX2, TX2, 7, "StageConsole$Effect", rfl, fun w h => (List.mem_cons_of_mem _ (List.mem_append_left _ (List.mem_append_right _ h))), by decide, (List.mem_cons_of_mem _ (List.mem_append_left _ (List.mem_append_left _ (List.mem_append_left _ (List.mem_append_left _ (List.mem_of_getElem? (i := 2) rfl)))))), Or.inl rfl⟩
set_option maxRecDepth 100000 in
set_option maxHeartbeats 4000000 in
theorem cC_runningEffects (hl : l.stackTraces = false) (hN : CN n cap)  : Ct (gm D a E0) l yX5_runningEffects wsX5_runningEffects { frames := 16, cells := 0, slots := 0, locals := 400 } [.ref (A 0 0)] (wC a E0 n cap A g en S) (qI fun v w => v = nI (rnC S (n 2) 0 0) ∧ w = wC a E0 n cap A g en S) noX := by
  refine Ct.of [some (.ref (A 0 0)), none, none] rfl hl (by decide) (Nat.le_of_ble_eq_true rfl) rfl (fun φ C0 => ?_)
  have C := C0.1
  refine x_iconst (v := (0)) C 1 dX5_runningEffects_0 (by decide) rfl ?_
  refine x_istore_n C 2 dX5_runningEffects_1 (by decide) rfl rfl ?_
  refine x_iconst (v := (0)) C 3 dX5_runningEffects_2 (by decide) rfl ?_
  refine x_istore_n C 4 dX5_runningEffects_3 (by decide) rfl rfl ?_
  have lp4 : ∀ (m i k : Nat), i + m = n 2 → k ≤ i → rnC S (n 2) 0 0 = rnC S m i k → X φ 4 [some (.ref (A 0 0)), some (.int (nI k)), some (.int (nI i))] [] (wC a E0 n cap A g en S) 0 0 := by
    intro m
    induction m with
    | zero =>
      intro i k hi hk hr
      refine x_iload_n C 5 dX5_runningEffects_4 rfl rfl ?_
      refine x_aload_n C 6 dX5_runningEffects_5 rfl rfl ?_
      refine xc_get C 9 0 0 (by decide) (show 0 < 1 by decide) rfl fg_X5_runningEffects_32 rfl dX5_runningEffects_6 rfl ?_
      refine xc_callV_i C 12 0 0 3 2 3 0 (cC_size hl (j := 2) (by decide)) rfl gX5_runningEffects_Jx4a65c_size_8abf5 ⟨rfl, by decide, by decide, rfl⟩ ⟨Nat.le_of_ble_eq_true rfl, Nat.le_of_ble_eq_true rfl⟩ rfl (by decide) (show 2 < 4 by decide) rfl rfl rfl (Nat.le_of_ble_eq_true rfl) ⟨Nat.le_of_ble_eq_true rfl, Nat.le_of_ble_eq_true rfl⟩ dX5_runningEffects_9 rfl rfl rfl (fun r1 w1 h1 => ?_)
      obtain ⟨rfl, rfl⟩ := h1
      have h4 := hN.2.2.2.1
      refine x_icmp_ge C 41 15 dX5_runningEffects_12 (by decide) rfl (fun zk12 => ?_) (fun zk12 => ?_)
      · have zk12 := (nI_leI (a := (n 2)) (b := i) (by omega) (by omega)).mp zk12
        refine x_iload_n C 42 dX5_runningEffects_41 rfl rfl ?_
        exact x_zret C0 dX5_runningEffects_42 (Nat.le_of_ble_eq_true rfl) (Nat.le_of_ble_eq_true rfl) ⟨_, rfl, ⟨by rw [hr]; rfl, rfl⟩⟩
      · have zk12 := mt (nI_leI (a := (n 2)) (b := i) (by omega) (by omega)).mpr zk12
        exfalso; omega
    | succ m ih =>
      intro i k hi hk hr
      refine x_iload_n C 5 dX5_runningEffects_4 rfl rfl ?_
      refine x_aload_n C 6 dX5_runningEffects_5 rfl rfl ?_
      refine xc_get C 9 0 0 (by decide) (show 0 < 1 by decide) rfl fg_X5_runningEffects_32 rfl dX5_runningEffects_6 rfl ?_
      refine xc_callV_i C 12 0 0 3 2 3 0 (cC_size hl (j := 2) (by decide)) rfl gX5_runningEffects_Jx4a65c_size_8abf5 ⟨rfl, by decide, by decide, rfl⟩ ⟨Nat.le_of_ble_eq_true rfl, Nat.le_of_ble_eq_true rfl⟩ rfl (by decide) (show 2 < 4 by decide) rfl rfl rfl (Nat.le_of_ble_eq_true rfl) ⟨Nat.le_of_ble_eq_true rfl, Nat.le_of_ble_eq_true rfl⟩ dX5_runningEffects_9 rfl rfl rfl (fun r2 w2 h2 => ?_)
      obtain ⟨rfl, rfl⟩ := h2
      have h4 := hN.2.2.2.1
      refine x_icmp_ge C 41 15 dX5_runningEffects_12 (by decide) rfl (fun zk12 => ?_) (fun zk12 => ?_)
      · have zk12 := (nI_leI (a := (n 2)) (b := i) (by omega) (by omega)).mp zk12
        exfalso; omega
      · have zk12 := mt (nI_leI (a := (n 2)) (b := i) (by omega) (by omega)).mpr zk12
        refine x_aload_n C 16 dX5_runningEffects_15 rfl rfl ?_
        refine xc_get C 19 0 0 (by decide) (show 0 < 1 by decide) rfl fg_X5_runningEffects_32 rfl dX5_runningEffects_16 rfl ?_
        refine x_iload_n C 20 dX5_runningEffects_19 rfl rfl ?_
        refine xc_callV_q C 23 0 0 3 2 3 1 (cC_get hl (j := 2) (by decide) (i := i) (by omega) (hN.1 2 (by decide)).1 (hN.1 2 (by decide)).2) rfl gX5_runningEffects_Jx4a65c_get_915e3 ⟨rfl, by decide, by decide, rfl⟩ ⟨Nat.le_of_ble_eq_true rfl, Nat.le_of_ble_eq_true rfl⟩ rfl (by decide) (show 2 < 4 by decide) rfl rfl rfl (Nat.le_of_ble_eq_true rfl) ⟨Nat.le_of_ble_eq_true rfl, Nat.le_of_ble_eq_true rfl⟩ dX5_runningEffects_20 rfl rfl rfl (fun r3 w3 h3 => ?_)
        obtain ⟨rfl, rfl⟩ := h3
        refine x_topq (show _ = Value.ref (A 9 i) from rfl) ?_
        refine xc_castS C 26 9 i (by decide) (show i < n 2 from by omega) rfl rfl (List.mem_cons_of_mem _ (List.mem_append_left _ (List.mem_append_left _ (List.mem_append_left _ (List.mem_append_left _ (List.mem_of_getElem? (i := 1) rfl)))))) dX5_runningEffects_23 rfl ?_
        refine xc_get C 29 9 i (by decide) (show i < n 2 from by omega) rfl fg_X5_runningEffects_219 rfl dX5_runningEffects_26 rfl ?_
        refine x_if_eq C 35 32 dX5_runningEffects_29 (by decide) rfl (fun zk29 => ?_) (fun zk29 => ?_)
        · refine x_iinc (v := nI (i + 1)) C 38 rfl dX5_runningEffects_35 (iinc1 _) (by decide) rfl rfl ?_
          refine x_goto C 4 dX5_runningEffects_38 (by decide) ?_
          exact ih (i + 1) _ (by omega) (by omega) (by rw [hr, rnC]; first | rw [if_pos zk29] | rw [if_neg zk29])
        · refine x_iinc (v := nI (k + 1)) C 35 rfl dX5_runningEffects_32 (iinc1 _) (by decide) rfl rfl ?_
          refine x_iinc (v := nI (i + 1)) C 38 rfl dX5_runningEffects_35 (iinc1 _) (by decide) rfl rfl ?_
          refine x_goto C 4 dX5_runningEffects_38 (by decide) ?_
          exact ih (i + 1) _ (by omega) (by omega) (by rw [hr, rnC]; first | rw [if_pos zk29] | rw [if_neg zk29])
  exact lp4 (n 2) 0 0 (by omega) (by omega) rfl
theorem fg_X5_passTicks_20 : gF RX5 wsX5_passTicks 20 9 2 := ⟨RX5, TX5, 11, "StageConsole", rfl, fun w h => (List.mem_cons_of_mem _ (List.mem_append_left _ (List.mem_append_left _ (List.mem_append_left _ (List.mem_append_left _ (List.mem_append_left _ (List.mem_append_left _ (List.mem_append_right _ h)))))))), by decide, (List.mem_cons_of_mem _ (List.mem_append_left _ (List.mem_append_left _ (List.mem_append_left _ (List.mem_append_left _ (List.mem_append_left _ (List.mem_append_left _ (List.mem_append_left _ (List.mem_append_left _ (List.mem_of_getElem? (i := 0) rfl)))))))))), Or.inl rfl⟩
theorem fp_X5_passTicks_20 : pF RX5 wsX5_passTicks 20 9 2 false (.int) := ⟨RX5, TX5, 11, "StageConsole", tyX5, rfl, fun w h => (List.mem_cons_of_mem _ (List.mem_append_left _ (List.mem_append_left _ (List.mem_append_left _ (List.mem_append_left _ (List.mem_append_left _ (List.mem_append_left _ (List.mem_append_right _ h)))))))), by decide, (List.mem_cons_of_mem _ (List.mem_append_left _ (List.mem_append_left _ (List.mem_append_left _ (List.mem_append_left _ (List.mem_append_left _ (List.mem_append_left _ (List.mem_append_left _ (List.mem_append_left _ (List.mem_of_getElem? (i := 0) rfl)))))))))), Or.inl rfl, tyX5_ok, nmX5, rfl, rfl, fun h => absurd h (by decide)⟩
theorem fg_X5_passTicks_42 : gF RX5 wsX5_passTicks 42 9 8 := ⟨RX5, TX5, 11, "StageConsole", rfl, fun w h => (List.mem_cons_of_mem _ (List.mem_append_left _ (List.mem_append_left _ (List.mem_append_left _ (List.mem_append_left _ (List.mem_append_left _ (List.mem_append_left _ (List.mem_append_right _ h)))))))), by decide, (List.mem_cons_of_mem _ (List.mem_append_left _ (List.mem_append_left _ (List.mem_append_left _ (List.mem_append_left _ (List.mem_append_left _ (List.mem_append_left _ (List.mem_append_left _ (List.mem_append_left _ (List.mem_of_getElem? (i := 2) rfl)))))))))), Or.inl rfl⟩
theorem fg_X5_passTicks_38 : gF RX5 wsX5_passTicks 38 9 7 := ⟨RX5, TX5, 11, "StageConsole", rfl, fun w h => (List.mem_cons_of_mem _ (List.mem_append_left _ (List.mem_append_left _ (List.mem_append_left _ (List.mem_append_left _ (List.mem_append_left _ (List.mem_append_left _ (List.mem_append_right _ h)))))))), by decide, (List.mem_cons_of_mem _ (List.mem_append_left _ (List.mem_append_left _ (List.mem_append_left _ (List.mem_append_left _ (List.mem_append_left _ (List.mem_append_left _ (List.mem_append_left _ (List.mem_append_left _ (List.mem_of_getElem? (i := 3) rfl)))))))))), Or.inl rfl⟩
theorem fp_X5_passTicks_42 : pF RX5 wsX5_passTicks 42 9 8 false (.long) := ⟨RX5, TX5, 11, "StageConsole", tyX5, rfl, fun w h => (List.mem_cons_of_mem _ (List.mem_append_left _ (List.mem_append_left _ (List.mem_append_left _ (List.mem_append_left _ (List.mem_append_left _ (List.mem_append_left _ (List.mem_append_right _ h)))))))), by decide, (List.mem_cons_of_mem _ (List.mem_append_left _ (List.mem_append_left _ (List.mem_append_left _ (List.mem_append_left _ (List.mem_append_left _ (List.mem_append_left _ (List.mem_append_left _ (List.mem_append_left _ (List.mem_of_getElem? (i := 2) rfl)))))))))), Or.inl rfl, tyX5_ok, nmX5, rfl, rfl, fun h => absurd h (by decide)⟩
theorem fg_X5_passTicks_25 : gF RX5 wsX5_passTicks 25 9 3 := ⟨RX5, TX5, 11, "StageConsole", rfl, fun w h => (List.mem_cons_of_mem _ (List.mem_append_left _ (List.mem_append_left _ (List.mem_append_left _ (List.mem_append_left _ (List.mem_append_left _ (List.mem_append_left _ (List.mem_append_right _ h)))))))), by decide, (List.mem_cons_of_mem _ (List.mem_append_left _ (List.mem_append_left _ (List.mem_append_left _ (List.mem_append_left _ (List.mem_append_left _ (List.mem_append_left _ (List.mem_append_left _ (List.mem_append_left _ (List.mem_of_getElem? (i := 1) rfl)))))))))), Or.inl rfl⟩
set_option maxRecDepth 100000 in
set_option maxHeartbeats 4000000 in
theorem cC_passTicks (hl : l.stackTraces = false) {t : Nat} (ht : t ≤ 100) (hN : CN n cap) (hE : CE n g S) (hF : CF S)  : Ct (gm D a E0) l yX5_passTicks wsX5_passTicks { frames := 28, cells := 0, slots := 0, locals := 700 } [.ref (A 0 0), .int (nI t)] (wC a E0 n cap A g en S) (qV fun w => w = wC a E0 n cap A g (tcL g (n 1) (n 2) t S en).2 (tcL g (n 1) (n 2) t S en).1) noX := by
  refine Ct.of [some (.ref (A 0 0)), some (.int (nI t)), none, none] rfl hl (by decide) (Nat.le_of_ble_eq_true rfl) rfl (fun φ C0 => ?_)
  have C := C0.1
  refine x_iconst (v := (0)) C 1 dX5_passTicks_0 (by decide) rfl ?_
  refine x_istore_n C 2 dX5_passTicks_1 (by decide) rfl rfl ?_
  have lp2 : ∀ (m i : Nat) (T : Nat → Nat → Nat → Int32) (e2 : Int64), i + m = t → CE n g T → CF T → tcL g (n 1) (n 2) t S en = tcL g (n 1) (n 2) m T e2 → X φ 2 [some (.ref (A 0 0)), some (.int (nI t)), some (.int (nI i)), none] [] (wC a E0 n cap A g e2 T) 0 0 := by
    intro m
    induction m with
    | zero =>
      intro i T e2 hi hET hFT hr
      refine x_iload_n C 3 dX5_passTicks_2 rfl rfl ?_
      refine x_iload_n C 4 dX5_passTicks_3 rfl rfl ?_
      refine x_icmp_ge C 80 7 dX5_passTicks_4 (by decide) rfl (fun zk4 => ?_) (fun zk4 => ?_)
      · have zk4 := (nI_leI (a := t) (b := i) (by omega) (by omega)).mp zk4
        exact x_vret C0 dX5_passTicks_80 (Nat.le_of_ble_eq_true rfl) (Nat.le_of_ble_eq_true rfl) ⟨rfl, by rw [hr]; rfl⟩
      · have zk4 := mt (nI_leI (a := t) (b := i) (by omega) (by omega)).mpr zk4
        exfalso; omega
    | succ m ih =>
      intro i T e2 hi hET hFT hr
      refine x_iload_n C 3 dX5_passTicks_2 rfl rfl ?_
      refine x_iload_n C 4 dX5_passTicks_3 rfl rfl ?_
      refine x_icmp_ge C 80 7 dX5_passTicks_4 (by decide) rfl (fun zk4 => ?_) (fun zk4 => ?_)
      · have zk4 := (nI_leI (a := t) (b := i) (by omega) (by omega)).mp zk4
        exfalso; omega
      · have zk4 := mt (nI_leI (a := t) (b := i) (by omega) (by omega)).mpr zk4
        refine x_aload_n C 8 dX5_passTicks_7 rfl rfl ?_
        refine x_dup C 9 dX5_passTicks_8 rfl rfl ?_
        refine xc_get C 12 0 0 (by decide) (show 0 < 1 by decide) rfl fg_X5_passTicks_20 rfl dX5_passTicks_9 rfl ?_
        refine x_iconst (v := (1)) C 13 dX5_passTicks_12 (by decide) rfl ?_
        refine x_iadd C 14 dX5_passTicks_13 rfl ?_
        refine xc_put C 17 0 0 1 (by decide) (show 0 < 1 by decide) rfl fp_X5_passTicks_20 rfl rfl (Nat.le_of_ble_eq_true rfl) rfl dX5_passTicks_14 rfl ?_
        refine x_iconst (v := (0)) C 18 dX5_passTicks_17 (by decide) rfl ?_
        refine x_istore_n C 19 dX5_passTicks_18 (by decide) rfl rfl ?_
        have lp19 : ∀ (m2 c : Nat) (T2 : Nat → Nat → Nat → Int32), c + m2 = 12 → CE n g T2 → CF T2 → foL 12 0 (uS T 0 0 1 (T 0 0 1 + 1)) = foL m2 c T2 → X φ 19 [some (.ref (A 0 0)), some (.int (nI t)), some (.int (nI i)), some (.int (nI c))] [] (wC a E0 n cap A g e2 T2) 0 0 := by
          intro m2
          induction m2 with
          | zero =>
            intro c T2 hc hE2 hF2 hr2
            refine x_iload_n C 20 dX5_passTicks_19 rfl rfl ?_
            refine x_bipush (v := (12)) C 22 dX5_passTicks_20 (by decide) rfl ?_
            refine x_icmp_ge C 40 25 dX5_passTicks_22 (by decide) rfl (fun zk22 => ?_) (fun zk22 => ?_)
            · have zk22 := (nI_leI (a := 12) (b := c) (by omega) (by omega)).mp zk22
              refine x_aload_n C 41 dX5_passTicks_40 rfl rfl ?_
              refine xc_callV_v C 44 0 0 0 0 9 0 (cC_fillLevelRow hl (S := T2) hN hE2) rfl gX5_passTicks_X5_fillLevelRow ⟨rfl, by decide, by decide, rfl⟩ ⟨Nat.le_of_ble_eq_true rfl, Nat.le_of_ble_eq_true rfl⟩ rfl (by decide) (show 0 < 1 by decide) rfl rfl rfl (Nat.le_of_ble_eq_true rfl) ⟨Nat.le_of_ble_eq_true rfl, Nat.le_of_ble_eq_true rfl⟩ dX5_passTicks_41 rfl rfl rfl (fun w1 h1 => ?_)
              subst h1
              refine x_iconst (v := (0)) C 45 dX5_passTicks_44 (by decide) rfl ?_
              refine x_istore_n C 46 dX5_passTicks_45 (by decide) rfl rfl ?_
              have lp46 : ∀ (m3 d : Nat) (e3 : Int64), d + m3 = 12 → esL (flv g (n 1) (n 2) T2) 12 0 e2 = esL (flv g (n 1) (n 2) T2) m3 d e3 → X φ 46 [some (.ref (A 0 0)), some (.int (nI t)), some (.int (nI i)), some (.int (nI d))] [] (wC a E0 n cap A g e3 (flv g (n 1) (n 2) T2)) 0 0 := by
                intro m3
                induction m3 with
                | zero =>
                  intro d e3 hd hr3
                  refine x_iload_n C 47 dX5_passTicks_46 rfl rfl ?_
                  refine x_bipush (v := (12)) C 49 dX5_passTicks_47 (by decide) rfl ?_
                  refine x_icmp_ge C 74 52 dX5_passTicks_49 (by decide) rfl (fun zk49 => ?_) (fun zk49 => ?_)
                  · have zk49 := (nI_leI (a := 12) (b := d) (by omega) (by omega)).mp zk49
                    refine x_iinc (v := nI (i + 1)) C 77 rfl dX5_passTicks_74 (iinc1 _) (by decide) rfl rfl ?_
                    refine x_goto C 2 dX5_passTicks_77 (by decide) ?_
                    refine x_dropn 3 ?_
                    have e4 : tcS g (n 1) (n 2) T = (flv g (n 1) (n 2) T2) := by rw [tcS, show foL 12 0 (uS T 0 0 1 (T 0 0 1 + 1)) = T2 from hr2]
                    exact ih (i + 1) _ _ (by omega) (by rw [← e4]; exact CE_tcS _ _ hET) (by rw [← e4]; exact CF_tcS g _ _ hFT) (by rw [hr, tcL, e4, show esL (flv g (n 1) (n 2) T2) 12 0 e2 = e3 from hr3])
                  · have zk49 := mt (nI_leI (a := 12) (b := d) (by omega) (by omega)).mpr zk49
                    exfalso; omega
                | succ m3 ih3 =>
                  intro d e3 hd hr3
                  refine x_iload_n C 47 dX5_passTicks_46 rfl rfl ?_
                  refine x_bipush (v := (12)) C 49 dX5_passTicks_47 (by decide) rfl ?_
                  refine x_icmp_ge C 74 52 dX5_passTicks_49 (by decide) rfl (fun zk49 => ?_) (fun zk49 => ?_)
                  · have zk49 := (nI_leI (a := 12) (b := d) (by omega) (by omega)).mp zk49
                    exfalso; omega
                  · have zk49 := mt (nI_leI (a := 12) (b := d) (by omega) (by omega)).mpr zk49
                    refine x_aload_n C 53 dX5_passTicks_52 rfl rfl ?_
                    refine x_dup C 54 dX5_passTicks_53 rfl rfl ?_
                    refine xc_get C 57 0 0 (by decide) (show 0 < 1 by decide) rfl fg_X5_passTicks_42 rfl dX5_passTicks_54 rfl ?_
                    refine x_aload_n C 58 dX5_passTicks_57 rfl rfl ?_
                    refine xc_get C 61 0 0 (by decide) (show 0 < 1 by decide) rfl fg_X5_passTicks_38 rfl dX5_passTicks_58 rfl ?_
                    refine x_iload_n C 62 dX5_passTicks_61 rfl rfl ?_
                    refine xc_iald C 63 2 0 d (by decide) (show 0 < 1 by decide) rfl rfl (by omega) dX5_passTicks_62 rfl ?_
                    refine x_i2l C 64 dX5_passTicks_63 rfl rfl ?_
                    refine x_ladd C 65 dX5_passTicks_64 rfl ?_
                    refine xc_putJ C 68 fp_X5_passTicks_42 dX5_passTicks_65 rfl ?_
                    refine x_iinc (v := nI (d + 1)) C 71 rfl dX5_passTicks_68 (iinc1 _) (by decide) rfl rfl ?_
                    refine x_goto C 46 dX5_passTicks_71 (by decide) ?_
                    exact ih3 (d + 1) _ (by omega) (by rw [hr3, esL])
              exact lp46 12 0 _ rfl rfl
            · have zk22 := mt (nI_leI (a := 12) (b := c) (by omega) (by omega)).mpr zk22
              exfalso; omega
          | succ m2 ih2 =>
            intro c T2 hc hE2 hF2 hr2
            refine x_iload_n C 20 dX5_passTicks_19 rfl rfl ?_
            refine x_bipush (v := (12)) C 22 dX5_passTicks_20 (by decide) rfl ?_
            refine x_icmp_ge C 40 25 dX5_passTicks_22 (by decide) rfl (fun zk22 => ?_) (fun zk22 => ?_)
            · have zk22 := (nI_leI (a := 12) (b := c) (by omega) (by omega)).mp zk22
              exfalso; omega
            · have zk22 := mt (nI_leI (a := 12) (b := c) (by omega) (by omega)).mpr zk22
              refine x_aload_n C 26 dX5_passTicks_25 rfl rfl ?_
              refine xc_get C 29 0 0 (by decide) (show 0 < 1 by decide) rfl fg_X5_passTicks_25 rfl dX5_passTicks_26 rfl ?_
              refine x_iload_n C 30 dX5_passTicks_29 rfl rfl ?_
              refine xc_chan C 31 c rfl (by omega) dX5_passTicks_30 rfl ?_
              refine xc_callV_v C 34 0 0 4 c 4 0 (cC_fadeOneTick hl (S := T2) (show c < 12 by omega) hF2) rfl gX5_passTicks_X0_fadeOneTick ⟨rfl, by decide, by decide, rfl⟩ ⟨Nat.le_of_ble_eq_true rfl, Nat.le_of_ble_eq_true rfl⟩ rfl (by decide) (show c < 12 from by omega) rfl rfl rfl (Nat.le_of_ble_eq_true rfl) ⟨Nat.le_of_ble_eq_true rfl, Nat.le_of_ble_eq_true rfl⟩ dX5_passTicks_31 rfl rfl rfl (fun w2 h2 => ?_)
              subst h2
              refine x_iinc (v := nI (c + 1)) C 37 rfl dX5_passTicks_34 (iinc1 _) (by decide) rfl rfl ?_
              refine x_goto C 19 dX5_passTicks_37 (by decide) ?_
              exact ih2 (c + 1) _ (by omega) (hE2.to (foS_n _ _ (by decide))) (CF_foS hF2 c) (by rw [hr2, foL])
        exact lp19 12 0 _ rfl (hET.to (uS_row _ _ _ _ (by decide))) (hFT.to (uS_row _ _ _ _ (by decide))) rfl
  exact lp2 t 0 _ _ (by omega) hE hF rfl
end CC
