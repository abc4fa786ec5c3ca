section CC
variable {l : Launch} {Γ : Gm} {D : va_G} {a : Nat → ClassId} {E0 : Nat} {n cap : Nat → Nat} {A : Nat → Nat → Nat} {g : Nat → Nat} {en : Int64} {S : Nat → Nat → Nat → Int32}
theorem fg_X5_addCue_10 : gF RX5 wsX5_addCue 10 9 0 := ⟨RX5, TX5, 11, "StageConsole", rfl, fun w h => (List.mem_cons_of_mem _ (List.mem_append_left _ (List.mem_append_left _ (List.mem_append_left _ (List.mem_append_left _ (List.mem_append_left _ (List.mem_append_left _ (List.mem_append_right _ h)))))))), by decide, (List.mem_cons_of_mem _ (List.mem_append_left _ (List.mem_append_left _ (List.mem_append_left _ (List.mem_append_left _ (List.mem_append_left _ (List.mem_append_left _ (List.mem_append_left _ (List.mem_append_left _ (List.mem_of_getElem? (i := 6) rfl)))))))))), Or.inl rfl⟩
set_option maxRecDepth 100000 in
set_option maxHeartbeats 4000000 in
theorem cC_addCue_0 (hl : l.stackTraces = false) {x t cv : Int32} (hN : CN n cap) (hb : cueB x t cv = true) (hcv : chK cv) (hq : hqC S (n 0) x = false) (hn : n 0 < 16) (hcap : n 0 < cap 0 ∨ cap 0 = 0 ∨ (2 ≤ cap 0 ∧ cap 0 + cap 0 / 2 ≤ 22))  : Ct (gm D a E0) l yX5_addCue wsX5_addCue { frames := 28, cells := 3, slots := 39, locals := 700 } [.ref (A 0 0), .int x, .int t, .int cv] (wC a E0 n cap A g en S) (qI fun v w => v = nI (n 0 + 1) ∧ ∃ q r f e c2, (∀ i, i < 12 → f i = -1) ∧ CapN (cap 0) (n 0) c2 ∧ w = wC a E0 (updN n 0 (n 0 + 1)) (updN cap 0 c2) (upC (ins1 (ins1 A 5 (poC S (n 0) x) q) 6 (poC S (n 0) x) r) 11 0 e) g en (uS (ins1 (ins1 S 5 (poC S (n 0) x) (cuR x t cv)) 6 (poC S (n 0) x) f) 3 0 0 (S 3 0 0 + 1))) noX := by
  refine Ct.of [some (.ref (A 0 0)), some (.int x), some (.int t), some (.int cv)] rfl hl (by decide) (Nat.le_of_ble_eq_true rfl) rfl (fun φ C0 => ?_)
  have C := C0.1
  refine x_iload_n C 1 dX5_addCue_0 rfl rfl ?_
  refine x_iconst (v := (1)) C 2 dX5_addCue_1 (by decide) rfl ?_
  refine x_bipush (v := (99)) C 4 dX5_addCue_2 (by decide) rfl ?_
  refine x_callS0_i C 7 0 0 3 (cC_isWithin hl) rfl gX5_addCue_X5_isWithin ⟨by decide, by decide, rfl⟩ ⟨Nat.le_of_ble_eq_true rfl, Nat.le_of_ble_eq_true rfl⟩ rfl rfl (Nat.le_of_ble_eq_true rfl) ⟨Nat.le_of_ble_eq_true rfl, Nat.le_of_ble_eq_true rfl⟩ dX5_addCue_4 rfl rfl rfl (fun r1 w1 h1 => ?_)
  obtain ⟨rfl, rfl⟩ := h1
  refine x_top (show _ = (1 : Int32) from (congrArg bI (show inB x.toInt64 1 99 = true from (cueB_t hb).1)).trans rfl) ?_
  refine x_if_eq C 27 10 dX5_addCue_7 (by decide) rfl (fun zk7 => ?_) (fun zk7 => ?_)
  · exact absurd zk7 (by decide)
  · refine x_iload_n C 11 dX5_addCue_10 rfl rfl ?_
    refine x_iconst (v := (0)) C 12 dX5_addCue_11 (by decide) rfl ?_
    refine x_bipush (v := (40)) C 14 dX5_addCue_12 (by decide) rfl ?_
    refine x_callS0_i C 17 0 0 3 (cC_isWithin hl) rfl gX5_addCue_X5_isWithin ⟨by decide, by decide, rfl⟩ ⟨Nat.le_of_ble_eq_true rfl, Nat.le_of_ble_eq_true rfl⟩ rfl rfl (Nat.le_of_ble_eq_true rfl) ⟨Nat.le_of_ble_eq_true rfl, Nat.le_of_ble_eq_true rfl⟩ dX5_addCue_14 rfl rfl rfl (fun r2 w2 h2 => ?_)
    obtain ⟨rfl, rfl⟩ := h2
    refine x_top (show _ = (1 : Int32) from (congrArg bI (show inB t.toInt64 0 40 = true from (cueB_t hb).2.1)).trans rfl) ?_
    refine x_if_eq C 27 20 dX5_addCue_17 (by decide) rfl (fun zk17 => ?_) (fun zk17 => ?_)
    · exact absurd zk17 (by decide)
    · refine x_iload_n C 21 dX5_addCue_20 rfl rfl ?_
      refine x_callS0_i C 24 0 0 1 (cC_isCurve hl) rfl gX5_addCue_X5_isCurve ⟨by decide, by decide, rfl⟩ ⟨Nat.le_of_ble_eq_true rfl, Nat.le_of_ble_eq_true rfl⟩ rfl rfl (Nat.le_of_ble_eq_true rfl) ⟨Nat.le_of_ble_eq_true rfl, Nat.le_of_ble_eq_true rfl⟩ dX5_addCue_21 rfl rfl rfl (fun r3 w3 h3 => ?_)
      obtain ⟨rfl, rfl⟩ := h3
      refine x_top (show _ = (1 : Int32) from (congrArg bI (show cvB cv = true from (cueB_t hb).2.2)).trans rfl) ?_
      refine x_if_ne C 37 27 dX5_addCue_24 (by decide) rfl (fun zk24 => ?_) (fun zk24 => ?_)
      · refine x_aload_n C 38 dX5_addCue_37 rfl rfl ?_
        refine x_iload_n C 39 dX5_addCue_38 rfl rfl ?_
        refine xc_callV_i C 42 0 0 0 0 9 1 (cC_hasCue hl hN) rfl gX5_addCue_X5_hasCue ⟨rfl, by decide, by decide, rfl⟩ ⟨Nat.le_of_ble_eq_true rfl, Nat.le_of_ble_eq_true rfl⟩ rfl (by decide) (show 0 < 1 by decide) rfl rfl rfl (Nat.le_of_ble_eq_true rfl) ⟨Nat.le_of_ble_eq_true rfl, Nat.le_of_ble_eq_true rfl⟩ dX5_addCue_39 rfl rfl rfl (fun r4 w4 h4 => ?_)
        obtain ⟨rfl, rfl⟩ := h4
        refine x_top (show _ = (0 : Int32) from (congrArg bI (show hqC S (n 0) x = false from hq)).trans rfl) ?_
        refine x_if_eq C 55 45 dX5_addCue_42 (by decide) rfl (fun zk42 => ?_) (fun zk42 => ?_)
        · refine x_aload_n C 56 dX5_addCue_55 rfl rfl ?_
          refine xc_get C 59 0 0 (by decide) (show 0 < 1 by decide) rfl fg_X5_addCue_10 rfl dX5_addCue_56 rfl ?_
          refine xc_callV_i C 62 0 0 3 0 3 0 (cC_size hl (j := 0) (by decide)) rfl gX5_addCue_Jx4a65c_size_8abf5 ⟨rfl, by decide, by decide, rfl⟩ ⟨Nat.le_of_ble_eq_true rfl, Nat.le_of_ble_eq_true rfl⟩ rfl (by decide) (show 0 < 4 by decide) rfl rfl rfl (Nat.le_of_ble_eq_true rfl) ⟨Nat.le_of_ble_eq_true rfl, Nat.le_of_ble_eq_true rfl⟩ dX5_addCue_59 rfl rfl rfl (fun r5 w5 h5 => ?_)
          obtain ⟨rfl, rfl⟩ := h5
          refine x_bipush (v := (16)) C 64 dX5_addCue_62 (by decide) rfl ?_
          have h16 := hN.2.1
          refine x_icmp_lt C 77 67 dX5_addCue_64 (by decide) rfl (fun zk64 => ?_) (fun zk64 => ?_)
          · have zk64 := (nI_ltI (a := (n 0)) (b := 16) (by omega) (by omega)).mp zk64
            refine x_aload_n C 78 dX5_addCue_77 rfl rfl ?_
            refine xc_get C 81 0 0 (by decide) (show 0 < 1 by decide) rfl fg_X5_addCue_10 rfl dX5_addCue_78 rfl ?_
            refine x_aload_n C 82 dX5_addCue_81 rfl rfl ?_
            refine x_iload_n C 83 dX5_addCue_82 rfl rfl ?_
            refine xc_callV_i C 86 0 0 0 0 9 1 (cC_placeOf hl hN) rfl gX5_addCue_X5_placeOf ⟨rfl, by decide, by decide, rfl⟩ ⟨Nat.le_of_ble_eq_true rfl, Nat.le_of_ble_eq_true rfl⟩ rfl (by decide) (show 0 < 1 by decide) rfl rfl rfl (Nat.le_of_ble_eq_true rfl) ⟨Nat.le_of_ble_eq_true rfl, Nat.le_of_ble_eq_true rfl⟩ dX5_addCue_83 rfl rfl rfl (fun r6 w6 h6 => ?_)
            obtain ⟨rfl, rfl⟩ := h6
            refine x_new C 89 5 [.int 0, .int 0, .int 0, .int 0, .null] (fun w h => (List.mem_cons_of_mem _ (List.mem_append_left _ (List.mem_append_left _ (List.mem_append_left _ (List.mem_append_left _ (List.mem_append_left _ (List.mem_append_right _ h)))))))) tyX1_ok (List.mem_cons_of_mem _ (List.mem_append_left _ (List.mem_append_left _ (List.mem_append_left _ (List.mem_append_left _ (List.mem_append_left _ (List.mem_append_left _ (List.mem_append_left _ (List.mem_append_left _ (List.mem_of_getElem? (i := 7) rfl)))))))))) (List.mem_cons_of_mem _ (List.mem_append_left _ (List.mem_append_left _ (List.mem_append_left _ (List.mem_append_left _ (List.mem_append_left _ (List.mem_append_left _ (List.mem_append_left _ (List.mem_append_left _ (List.mem_of_getElem? (i := 8) rfl)))))))))) (List.mem_cons_of_mem _ (List.mem_append_left _ (List.mem_append_left _ (List.mem_append_left _ (List.mem_append_left _ (List.mem_append_left _ (List.mem_append_left _ (List.mem_append_left _ (List.mem_append_left _ (List.mem_of_getElem? (i := 9) rfl)))))))))) rfl (fun j hj => match j, hj with | 0, _ => rfl | 1, _ => rfl | 2, _ => rfl | 3, _ => rfl | 4, _ => rfl | z + 5, hz => absurd hz (by omega)) (Nat.le_of_ble_eq_true rfl) (Nat.le_of_ble_eq_true rfl) dX5_addCue_86 rfl (fun q => ?_)
            refine x_dup C 90 dX5_addCue_89 rfl rfl ?_
            refine x_iload_n C 91 dX5_addCue_90 rfl rfl ?_
            refine x_iload_n C 92 dX5_addCue_91 rfl rfl ?_
            refine x_iload_n C 93 dX5_addCue_92 rfl rfl ?_
            refine x_perm (List.perm_append_comm) ?_
            refine x_callI1 C 96 2 17 3 (cC_initCue hl hcv) rfl gX5_addCue_X1_init (List.mem_cons_of_mem _ (List.mem_append_left _ (List.mem_append_left _ (List.mem_append_left _ (List.mem_append_left _ (List.mem_append_left _ (List.mem_append_left _ (List.mem_append_left _ (List.mem_append_left _ (List.mem_of_getElem? (i := 9) rfl)))))))))) (List.mem_cons_of_mem _ (List.mem_append_left _ (List.mem_append_left _ (List.mem_append_left _ (List.mem_append_left _ (List.mem_append_left _ (List.mem_append_left _ (List.mem_append_left _ (List.mem_append_right _ (List.mem_append_right _ (List.mem_append_left _ (List.mem_of_getElem? (i := 2) rfl)))))))))))) (List.mem_cons_of_mem _ (List.mem_append_left _ (List.mem_append_left _ (List.mem_append_left _ (List.mem_append_left _ (List.mem_append_left _ (List.mem_append_left _ (List.mem_append_left _ (List.mem_append_right _ (List.mem_append_right _ (List.mem_append_left _ (List.mem_of_getElem? (i := 3) rfl)))))))))))) rfl ⟨by decide, by decide, rfl⟩ ⟨Nat.le_of_ble_eq_true rfl, Nat.le_of_ble_eq_true rfl⟩ rfl rfl (Nat.le_of_ble_eq_true rfl) ⟨Nat.le_of_ble_eq_true rfl, Nat.le_of_ble_eq_true rfl⟩ dX5_addCue_93 rfl rfl rfl (fun w h => ?_)
            obtain ⟨r, f, hf, rfl⟩ := h
            refine x_perm (List.perm_append_comm) ?_
            obtain ⟨q0, fs0, -, hq0⟩ := wC_pos (a := a) (E0 := E0) (n := n) (cap := cap) (A := A) (g := g) (en := en) (S := S) (j := 0) (by decide)
            refine x_callV0_v C 99 3 39 q0 3 2 (cC_add0 hl (hN.1 0 (by decide)).1 (hN.1 0 (by decide)).2 hcap (poC_le S (n 0) x)) rfl gX5_addCue_Jx4a65c_add_7a177 ⟨rfl, by decide, by decide, rfl⟩ ⟨Nat.le_of_ble_eq_true rfl, Nat.le_of_ble_eq_true rfl⟩ rfl (hq0 _) rfl rfl (Nat.le_of_ble_eq_true rfl) ⟨Nat.le_of_ble_eq_true rfl, Nat.le_of_ble_eq_true rfl⟩ dX5_addCue_96 rfl rfl rfl (fun w h => ?_)
            obtain ⟨e, c2, hcN, rfl⟩ := h
            refine x_aload_n C 100 dX5_addCue_99 rfl rfl ?_
            refine xc_get C 103 0 0 (by decide) (show 0 < 1 by decide) rfl fg_X5_addCue_10 rfl dX5_addCue_100 rfl ?_
            refine xc_callV_i C 106 3 39 3 0 3 0 (cC_size hl (j := 0) (by decide)) rfl gX5_addCue_Jx4a65c_size_8abf5 ⟨rfl, by decide, by decide, rfl⟩ ⟨Nat.le_of_ble_eq_true rfl, Nat.le_of_ble_eq_true rfl⟩ rfl (by decide) (show 0 < 4 by decide) rfl rfl rfl (Nat.le_of_ble_eq_true rfl) ⟨Nat.le_of_ble_eq_true rfl, Nat.le_of_ble_eq_true rfl⟩ dX5_addCue_103 rfl rfl rfl (fun r7 w7 h7 => ?_)
            obtain ⟨rfl, rfl⟩ := h7
            refine x_top (show _ = nI (n 0 + 1) from by rw [updN_s]) ?_
            exact x_zret C0 dX5_addCue_106 (Nat.le_of_ble_eq_true rfl) (Nat.le_of_ble_eq_true rfl) ⟨_, rfl, ⟨rfl, q, r, f, e, c2, hf, hcN, rfl⟩⟩
          · have zk64 := mt (nI_ltI (a := (n 0)) (b := 16) (by omega) (by omega)).mpr zk64
            exfalso; omega
        · exact absurd zk42 (by decide)
      · exact absurd zk24 (by decide)
set_option maxRecDepth 100000 in
set_option maxHeartbeats 4000000 in
theorem cC_addCue_1 (hl : l.stackTraces = false) {x t cv : Int32} (hN : CN n cap) (hb : cueB x t cv = false)  : Ct (gm D a E0) l yX5_addCue wsX5_addCue { frames := 28, cells := 1, slots := 6, locals := 700 } [.ref (A 0 0), .int x, .int t, .int cv] (wC a E0 n cap A g en S) (qI fun _ _ => False) (fun E w => E = "java/lang/IllegalArgumentException" ∧ w = wC a E0 n cap A g en S) := by
  refine Ct.of [some (.ref (A 0 0)), some (.int x), some (.int t), some (.int cv)] rfl hl (by decide) (Nat.le_of_ble_eq_true rfl) rfl (fun φ C0 => ?_)
  have C := C0.1
  refine x_iload_n C 1 dX5_addCue_0 rfl rfl ?_
  refine x_iconst (v := (1)) C 2 dX5_addCue_1 (by decide) rfl ?_
  refine x_bipush (v := (99)) C 4 dX5_addCue_2 (by decide) rfl ?_
  refine x_callS0_i C 7 0 0 3 (cC_isWithin hl) rfl gX5_addCue_X5_isWithin ⟨by decide, by decide, rfl⟩ ⟨Nat.le_of_ble_eq_true rfl, Nat.le_of_ble_eq_true rfl⟩ rfl rfl (Nat.le_of_ble_eq_true rfl) ⟨Nat.le_of_ble_eq_true rfl, Nat.le_of_ble_eq_true rfl⟩ dX5_addCue_4 rfl rfl rfl (fun r1 w1 h1 => ?_)
  obtain ⟨rfl, rfl⟩ := h1
  refine x_top (show _ = bI (inB x.toInt64 1 99) from rfl) ?_
  refine x_if_eq C 27 10 dX5_addCue_7 (by decide) rfl (fun zk7 => ?_) (fun zk7 => ?_)
  · have zk7 := bI_eq0.mp zk7
    exact x_throwS C0 (cls := "java/lang/IllegalArgumentException") (text := "number, time or curve of a cue") (names := ["java/lang/RuntimeException", "java/lang/Exception"]) (List.mem_of_getElem? (i := 16) rfl) (by decide) (by decide) (List.mem_cons_of_mem _ (List.mem_append_left _ (List.mem_append_left _ (List.mem_append_left _ (List.mem_append_left _ (List.mem_append_left _ (List.mem_append_left _ (List.mem_append_left _ (List.mem_append_left _ (List.mem_of_getElem? (i := 0) rfl)))))))))) (List.mem_cons_of_mem _ (List.mem_append_left _ (List.mem_append_left _ (List.mem_append_left _ (List.mem_append_left _ (List.mem_append_left _ (List.mem_append_left _ (List.mem_append_left _ (List.mem_append_left _ (List.mem_of_getElem? (i := 1) rfl)))))))))) (fun w h => (List.mem_cons_of_mem _ (List.mem_append_left _ (List.mem_append_left _ (List.mem_append_left _ (List.mem_append_right _ h)))))) (by decide) (by decide +kernel) (by decide +kernel) dX5_addCue_27 dX5_addCue_30 dX5_addCue_31 dX5_addCue_33 dX5_addCue_36 (Nat.le_of_ble_eq_true rfl) (Nat.le_of_ble_eq_true rfl) (Nat.le_of_ble_eq_true rfl) (Nat.le_of_ble_eq_true rfl) ⟨rfl, rfl⟩   
  · have zk7 := bI_ne0.mp zk7
    refine x_iload_n C 11 dX5_addCue_10 rfl rfl ?_
    refine x_iconst (v := (0)) C 12 dX5_addCue_11 (by decide) rfl ?_
    refine x_bipush (v := (40)) C 14 dX5_addCue_12 (by decide) rfl ?_
    refine x_callS0_i C 17 0 0 3 (cC_isWithin hl) rfl gX5_addCue_X5_isWithin ⟨by decide, by decide, rfl⟩ ⟨Nat.le_of_ble_eq_true rfl, Nat.le_of_ble_eq_true rfl⟩ rfl rfl (Nat.le_of_ble_eq_true rfl) ⟨Nat.le_of_ble_eq_true rfl, Nat.le_of_ble_eq_true rfl⟩ dX5_addCue_14 rfl rfl rfl (fun r2 w2 h2 => ?_)
    obtain ⟨rfl, rfl⟩ := h2
    refine x_top (show _ = bI (inB t.toInt64 0 40) from rfl) ?_
    refine x_if_eq C 27 20 dX5_addCue_17 (by decide) rfl (fun zk17 => ?_) (fun zk17 => ?_)
    · have zk17 := bI_eq0.mp zk17
      exact x_throwS C0 (cls := "java/lang/IllegalArgumentException") (text := "number, time or curve of a cue") (names := ["java/lang/RuntimeException", "java/lang/Exception"]) (List.mem_of_getElem? (i := 16) rfl) (by decide) (by decide) (List.mem_cons_of_mem _ (List.mem_append_left _ (List.mem_append_left _ (List.mem_append_left _ (List.mem_append_left _ (List.mem_append_left _ (List.mem_append_left _ (List.mem_append_left _ (List.mem_append_left _ (List.mem_of_getElem? (i := 0) rfl)))))))))) (List.mem_cons_of_mem _ (List.mem_append_left _ (List.mem_append_left _ (List.mem_append_left _ (List.mem_append_left _ (List.mem_append_left _ (List.mem_append_left _ (List.mem_append_left _ (List.mem_append_left _ (List.mem_of_getElem? (i := 1) rfl)))))))))) (fun w h => (List.mem_cons_of_mem _ (List.mem_append_left _ (List.mem_append_left _ (List.mem_append_left _ (List.mem_append_right _ h)))))) (by decide) (by decide +kernel) (by decide +kernel) dX5_addCue_27 dX5_addCue_30 dX5_addCue_31 dX5_addCue_33 dX5_addCue_36 (Nat.le_of_ble_eq_true rfl) (Nat.le_of_ble_eq_true rfl) (Nat.le_of_ble_eq_true rfl) (Nat.le_of_ble_eq_true rfl) ⟨rfl, rfl⟩   
    · have zk17 := bI_ne0.mp zk17
      refine x_iload_n C 21 dX5_addCue_20 rfl rfl ?_
      refine x_callS0_i C 24 0 0 1 (cC_isCurve hl) rfl gX5_addCue_X5_isCurve ⟨by decide, by decide, rfl⟩ ⟨Nat.le_of_ble_eq_true rfl, Nat.le_of_ble_eq_true rfl⟩ rfl rfl (Nat.le_of_ble_eq_true rfl) ⟨Nat.le_of_ble_eq_true rfl, Nat.le_of_ble_eq_true rfl⟩ dX5_addCue_21 rfl rfl rfl (fun r3 w3 h3 => ?_)
      obtain ⟨rfl, rfl⟩ := h3
      refine x_top (show _ = bI (cvB cv) from rfl) ?_
      refine x_if_ne C 37 27 dX5_addCue_24 (by decide) rfl (fun zk24 => ?_) (fun zk24 => ?_)
      · have zk24 := bI_ne0.mp zk24
        rw [cueB, zk7, zk17, zk24] at hb; cases hb
      · have zk24 := bI_eq0.mp zk24
        exact x_throwS C0 (cls := "java/lang/IllegalArgumentException") (text := "number, time or curve of a cue") (names := ["java/lang/RuntimeException", "java/lang/Exception"]) (List.mem_of_getElem? (i := 16) rfl) (by decide) (by decide) (List.mem_cons_of_mem _ (List.mem_append_left _ (List.mem_append_left _ (List.mem_append_left _ (List.mem_append_left _ (List.mem_append_left _ (List.mem_append_left _ (List.mem_append_left _ (List.mem_append_left _ (List.mem_of_getElem? (i := 0) rfl)))))))))) (List.mem_cons_of_mem _ (List.mem_append_left _ (List.mem_append_left _ (List.mem_append_left _ (List.mem_append_left _ (List.mem_append_left _ (List.mem_append_left _ (List.mem_append_left _ (List.mem_append_left _ (List.mem_of_getElem? (i := 1) rfl)))))))))) (fun w h => (List.mem_cons_of_mem _ (List.mem_append_left _ (List.mem_append_left _ (List.mem_append_left _ (List.mem_append_right _ h)))))) (by decide) (by decide +kernel) (by decide +kernel) dX5_addCue_27 dX5_addCue_30 dX5_addCue_31 dX5_addCue_33 dX5_addCue_36 (Nat.le_of_ble_eq_true rfl) (Nat.le_of_ble_eq_true rfl) (Nat.le_of_ble_eq_true rfl) (Nat.le_of_ble_eq_true rfl) ⟨rfl, rfl⟩   
set_option maxRecDepth 100000 in
set_option maxHeartbeats 4000000 in
theorem cC_addCue_2 (hl : l.stackTraces = false) {x t cv : Int32} (hN : CN n cap) (hb : cueB x t cv = true) (hq : hqC S (n 0) x = true)  : Ct (gm D a E0) l yX5_addCue wsX5_addCue { frames := 28, cells := 1, slots := 6, locals := 700 } [.ref (A 0 0), .int x, .int t, .int cv] (wC a E0 n cap A g en S) (qI fun _ _ => False) (fun E w => E = "java/lang/UnsupportedOperationException" ∧ w = wC a E0 n cap A g en S) := by
  refine Ct.of [some (.ref (A 0 0)), some (.int x), some (.int t), some (.int cv)] rfl hl (by decide) (Nat.le_of_ble_eq_true rfl) rfl (fun φ C0 => ?_)
  have C := C0.1
  refine x_iload_n C 1 dX5_addCue_0 rfl rfl ?_
  refine x_iconst (v := (1)) C 2 dX5_addCue_1 (by decide) rfl ?_
  refine x_bipush (v := (99)) C 4 dX5_addCue_2 (by decide) rfl ?_
  refine x_callS0_i C 7 0 0 3 (cC_isWithin hl) rfl gX5_addCue_X5_isWithin ⟨by decide, by decide, rfl⟩ ⟨Nat.le_of_ble_eq_true rfl, Nat.le_of_ble_eq_true rfl⟩ rfl rfl (Nat.le_of_ble_eq_true rfl) ⟨Nat.le_of_ble_eq_true rfl, Nat.le_of_ble_eq_true rfl⟩ dX5_addCue_4 rfl rfl rfl (fun r1 w1 h1 => ?_)
  obtain ⟨rfl, rfl⟩ := h1
  refine x_top (show _ = (1 : Int32) from (congrArg bI (show inB x.toInt64 1 99 = true from (cueB_t hb).1)).trans rfl) ?_
  refine x_if_eq C 27 10 dX5_addCue_7 (by decide) rfl (fun zk7 => ?_) (fun zk7 => ?_)
  · exact absurd zk7 (by decide)
  · refine x_iload_n C 11 dX5_addCue_10 rfl rfl ?_
    refine x_iconst (v := (0)) C 12 dX5_addCue_11 (by decide) rfl ?_
    refine x_bipush (v := (40)) C 14 dX5_addCue_12 (by decide) rfl ?_
    refine x_callS0_i C 17 0 0 3 (cC_isWithin hl) rfl gX5_addCue_X5_isWithin ⟨by decide, by decide, rfl⟩ ⟨Nat.le_of_ble_eq_true rfl, Nat.le_of_ble_eq_true rfl⟩ rfl rfl (Nat.le_of_ble_eq_true rfl) ⟨Nat.le_of_ble_eq_true rfl, Nat.le_of_ble_eq_true rfl⟩ dX5_addCue_14 rfl rfl rfl (fun r2 w2 h2 => ?_)
    obtain ⟨rfl, rfl⟩ := h2
    refine x_top (show _ = (1 : Int32) from (congrArg bI (show inB t.toInt64 0 40 = true from (cueB_t hb).2.1)).trans rfl) ?_
    refine x_if_eq C 27 20 dX5_addCue_17 (by decide) rfl (fun zk17 => ?_) (fun zk17 => ?_)
    · exact absurd zk17 (by decide)
    · refine x_iload_n C 21 dX5_addCue_20 rfl rfl ?_
      refine x_callS0_i C 24 0 0 1 (cC_isCurve hl) rfl gX5_addCue_X5_isCurve ⟨by decide, by decide, rfl⟩ ⟨Nat.le_of_ble_eq_true rfl, Nat.le_of_ble_eq_true rfl⟩ rfl rfl (Nat.le_of_ble_eq_true rfl) ⟨Nat.le_of_ble_eq_true rfl, Nat.le_of_ble_eq_true rfl⟩ dX5_addCue_21 rfl rfl rfl (fun r3 w3 h3 => ?_)
      obtain ⟨rfl, rfl⟩ := h3
      refine x_top (show _ = (1 : Int32) from (congrArg bI (show cvB cv = true from (cueB_t hb).2.2)).trans rfl) ?_
      refine x_if_ne C 37 27 dX5_addCue_24 (by decide) rfl (fun zk24 => ?_) (fun zk24 => ?_)
      · refine x_aload_n C 38 dX5_addCue_37 rfl rfl ?_
        refine x_iload_n C 39 dX5_addCue_38 rfl rfl ?_
        refine xc_callV_i C 42 0 0 0 0 9 1 (cC_hasCue hl hN) rfl gX5_addCue_X5_hasCue ⟨rfl, by decide, by decide, rfl⟩ ⟨Nat.le_of_ble_eq_true rfl, Nat.le_of_ble_eq_true rfl⟩ rfl (by decide) (show 0 < 1 by decide) rfl rfl rfl (Nat.le_of_ble_eq_true rfl) ⟨Nat.le_of_ble_eq_true rfl, Nat.le_of_ble_eq_true rfl⟩ dX5_addCue_39 rfl rfl rfl (fun r4 w4 h4 => ?_)
        obtain ⟨rfl, rfl⟩ := h4
        refine x_top (show _ = (1 : Int32) from (congrArg bI (show hqC S (n 0) x = true from hq)).trans rfl) ?_
        refine x_if_eq C 55 45 dX5_addCue_42 (by decide) rfl (fun zk42 => ?_) (fun zk42 => ?_)
        · exact absurd zk42 (by decide)
        · exact x_throwS C0 (cls := "java/lang/UnsupportedOperationException") (text := "there is a cue with this number") (names := ["java/lang/RuntimeException", "java/lang/Exception"]) (List.mem_of_getElem? (i := 20) rfl) (by decide) (by decide) (List.mem_cons_of_mem _ (List.mem_append_left _ (List.mem_append_left _ (List.mem_append_left _ (List.mem_append_left _ (List.mem_append_left _ (List.mem_append_left _ (List.mem_append_left _ (List.mem_append_left _ (List.mem_of_getElem? (i := 2) rfl)))))))))) (List.mem_cons_of_mem _ (List.mem_append_left _ (List.mem_append_left _ (List.mem_append_left _ (List.mem_append_left _ (List.mem_append_left _ (List.mem_append_left _ (List.mem_append_left _ (List.mem_append_left _ (List.mem_of_getElem? (i := 3) rfl)))))))))) (fun w h => (List.mem_cons_of_mem _ (List.mem_append_left _ (List.mem_append_left _ (List.mem_append_right _ h))))) (by decide) (by decide +kernel) (by decide +kernel) dX5_addCue_45 dX5_addCue_48 dX5_addCue_49 dX5_addCue_51 dX5_addCue_54 (Nat.le_of_ble_eq_true rfl) (Nat.le_of_ble_eq_true rfl) (Nat.le_of_ble_eq_true rfl) (Nat.le_of_ble_eq_true rfl) ⟨rfl, rfl⟩   
      · exact absurd zk24 (by decide)
set_option maxRecDepth 100000 in
set_option maxHeartbeats 4000000 in
theorem cC_addCue_3 (hl : l.stackTraces = false) {x t cv : Int32} (hN : CN n cap) (hb : cueB x t cv = true) (hq : hqC S (n 0) x = false) (hn : ¬ n 0 < 16)  : Ct (gm D a E0) l yX5_addCue wsX5_addCue { frames := 28, cells := 1, slots := 6, locals := 700 } [.ref (A 0 0), .int x, .int t, .int cv] (wC a E0 n cap A g en S) (qI fun _ _ => False) (fun E w => E = "java/lang/IllegalStateException" ∧ w = wC a E0 n cap A g en S) := by
  refine Ct.of [some (.ref (A 0 0)), some (.int x), some (.int t), some (.int cv)] rfl hl (by decide) (Nat.le_of_ble_eq_true rfl) rfl (fun φ C0 => ?_)
  have C := C0.1
  refine x_iload_n C 1 dX5_addCue_0 rfl rfl ?_
  refine x_iconst (v := (1)) C 2 dX5_addCue_1 (by decide) rfl ?_
  refine x_bipush (v := (99)) C 4 dX5_addCue_2 (by decide) rfl ?_
  refine x_callS0_i C 7 0 0 3 (cC_isWithin hl) rfl gX5_addCue_X5_isWithin ⟨by decide, by decide, rfl⟩ ⟨Nat.le_of_ble_eq_true rfl, Nat.le_of_ble_eq_true rfl⟩ rfl rfl (Nat.le_of_ble_eq_true rfl) ⟨Nat.le_of_ble_eq_true rfl, Nat.le_of_ble_eq_true rfl⟩ dX5_addCue_4 rfl rfl rfl (fun r1 w1 h1 => ?_)
  obtain ⟨rfl, rfl⟩ := h1
  refine x_top (show _ = (1 : Int32) from (congrArg bI (show inB x.toInt64 1 99 = true from (cueB_t hb).1)).trans rfl) ?_
  refine x_if_eq C 27 10 dX5_addCue_7 (by decide) rfl (fun zk7 => ?_) (fun zk7 => ?_)
  · exact absurd zk7 (by decide)
  · refine x_iload_n C 11 dX5_addCue_10 rfl rfl ?_
    refine x_iconst (v := (0)) C 12 dX5_addCue_11 (by decide) rfl ?_
    refine x_bipush (v := (40)) C 14 dX5_addCue_12 (by decide) rfl ?_
    refine x_callS0_i C 17 0 0 3 (cC_isWithin hl) rfl gX5_addCue_X5_isWithin ⟨by decide, by decide, rfl⟩ ⟨Nat.le_of_ble_eq_true rfl, Nat.le_of_ble_eq_true rfl⟩ rfl rfl (Nat.le_of_ble_eq_true rfl) ⟨Nat.le_of_ble_eq_true rfl, Nat.le_of_ble_eq_true rfl⟩ dX5_addCue_14 rfl rfl rfl (fun r2 w2 h2 => ?_)
    obtain ⟨rfl, rfl⟩ := h2
    refine x_top (show _ = (1 : Int32) from (congrArg bI (show inB t.toInt64 0 40 = true from (cueB_t hb).2.1)).trans rfl) ?_
    refine x_if_eq C 27 20 dX5_addCue_17 (by decide) rfl (fun zk17 => ?_) (fun zk17 => ?_)
    · exact absurd zk17 (by decide)
    · refine x_iload_n C 21 dX5_addCue_20 rfl rfl ?_
      refine x_callS0_i C 24 0 0 1 (cC_isCurve hl) rfl gX5_addCue_X5_isCurve ⟨by decide, by decide, rfl⟩ ⟨Nat.le_of_ble_eq_true rfl, Nat.le_of_ble_eq_true rfl⟩ rfl rfl (Nat.le_of_ble_eq_true rfl) ⟨Nat.le_of_ble_eq_true rfl, Nat.le_of_ble_eq_true rfl⟩ dX5_addCue_21 rfl rfl rfl (fun r3 w3 h3 => ?_)
      obtain ⟨rfl, rfl⟩ := h3
      refine x_top (show _ = (1 : Int32) from (congrArg bI (show cvB cv = true from (cueB_t hb).2.2)).trans rfl) ?_
      refine x_if_ne C 37 27 dX5_addCue_24 (by decide) rfl (fun zk24 => ?_) (fun zk24 => ?_)
      · refine x_aload_n C 38 dX5_addCue_37 rfl rfl ?_
        refine x_iload_n C 39 dX5_addCue_38 rfl rfl ?_
        refine xc_callV_i C 42 0 0 0 0 9 1 (cC_hasCue hl hN) rfl gX5_addCue_X5_hasCue ⟨rfl, by decide, by decide, rfl⟩ ⟨Nat.le_of_ble_eq_true rfl, Nat.le_of_ble_eq_true rfl⟩ rfl (by decide) (show 0 < 1 by decide) rfl rfl rfl (Nat.le_of_ble_eq_true rfl) ⟨Nat.le_of_ble_eq_true rfl, Nat.le_of_ble_eq_true rfl⟩ dX5_addCue_39 rfl rfl rfl (fun r4 w4 h4 => ?_)
        obtain ⟨rfl, rfl⟩ := h4
        refine x_top (show _ = (0 : Int32) from (congrArg bI (show hqC S (n 0) x = false from hq)).trans rfl) ?_
        refine x_if_eq C 55 45 dX5_addCue_42 (by decide) rfl (fun zk42 => ?_) (fun zk42 => ?_)
        · refine x_aload_n C 56 dX5_addCue_55 rfl rfl ?_
          refine xc_get C 59 0 0 (by decide) (show 0 < 1 by decide) rfl fg_X5_addCue_10 rfl dX5_addCue_56 rfl ?_
          refine xc_callV_i C 62 0 0 3 0 3 0 (cC_size hl (j := 0) (by decide)) rfl gX5_addCue_Jx4a65c_size_8abf5 ⟨rfl, by decide, by decide, rfl⟩ ⟨Nat.le_of_ble_eq_true rfl, Nat.le_of_ble_eq_true rfl⟩ rfl (by decide) (show 0 < 4 by decide) rfl rfl rfl (Nat.le_of_ble_eq_true rfl) ⟨Nat.le_of_ble_eq_true rfl, Nat.le_of_ble_eq_true rfl⟩ dX5_addCue_59 rfl rfl rfl (fun r5 w5 h5 => ?_)
          obtain ⟨rfl, rfl⟩ := h5
          refine x_bipush (v := (16)) C 64 dX5_addCue_62 (by decide) rfl ?_
          have h16 := hN.2.1
          refine x_icmp_lt C 77 67 dX5_addCue_64 (by decide) rfl (fun zk64 => ?_) (fun zk64 => ?_)
          · have zk64 := (nI_ltI (a := (n 0)) (b := 16) (by omega) (by omega)).mp zk64
            exfalso; omega
          · have zk64 := mt (nI_ltI (a := (n 0)) (b := 16) (by omega) (by omega)).mpr zk64
            exact x_throwS C0 (cls := "java/lang/IllegalStateException") (text := "no room for another cue") (names := ["java/lang/RuntimeException", "java/lang/Exception"]) (List.mem_of_getElem? (i := 23) rfl) (by decide) (by decide) (List.mem_cons_of_mem _ (List.mem_append_left _ (List.mem_append_left _ (List.mem_append_left _ (List.mem_append_left _ (List.mem_append_left _ (List.mem_append_left _ (List.mem_append_left _ (List.mem_append_left _ (List.mem_of_getElem? (i := 4) rfl)))))))))) (List.mem_cons_of_mem _ (List.mem_append_left _ (List.mem_append_left _ (List.mem_append_left _ (List.mem_append_left _ (List.mem_append_left _ (List.mem_append_left _ (List.mem_append_left _ (List.mem_append_left _ (List.mem_of_getElem? (i := 5) rfl)))))))))) (fun w h => (List.mem_cons_of_mem _ (List.mem_append_left _ (List.mem_append_right _ h)))) (by decide) (by decide +kernel) (by decide +kernel) dX5_addCue_67 dX5_addCue_70 dX5_addCue_71 dX5_addCue_73 dX5_addCue_76 (Nat.le_of_ble_eq_true rfl) (Nat.le_of_ble_eq_true rfl) (Nat.le_of_ble_eq_true rfl) (Nat.le_of_ble_eq_true rfl) ⟨rfl, rfl⟩   
        · exact absurd zk42 (by decide)
      · exact absurd zk24 (by decide)
theorem fg_X5_removeCue_10 : gF RX5 wsX5_removeCue 10 9 0 := ⟨RX5, TX5, 11, "StageConsole", rfl, fun w h => (List.mem_cons_of_mem _ (List.mem_append_left _ (List.mem_append_left _ (List.mem_append_left _ (List.mem_append_right _ h))))), by decide, (List.mem_cons_of_mem _ (List.mem_append_left _ (List.mem_append_left _ (List.mem_append_left _ (List.mem_append_left _ (List.mem_append_left _ (List.mem_of_getElem? (i := 0) rfl))))))), Or.inl rfl⟩
set_option maxRecDepth 100000 in
set_option maxHeartbeats 4000000 in
theorem cC_removeCue_0 (hl : l.stackTraces = false) {x : Int32} (hN : CN n cap) (hq : hqC S (n 0) x = true)  : Ct (gm D a E0) l yX5_removeCue wsX5_removeCue { frames := 28, cells := 0, slots := 0, locals := 700 } [.ref (A 0 0), .int x] (wC a E0 n cap A g en S) (qI fun v w => v = nI (n 0 - 1) ∧ w = wC a E0 (updN n 0 (n 0 - 1)) cap (skp (skp A 5 (poC S (n 0) x)) 6 (poC S (n 0) x)) g en (uS (skp (skp S 5 (poC S (n 0) x)) 6 (poC S (n 0) x)) 3 0 0 (S 3 0 0 + 1))) noX := by
  refine Ct.of [some (.ref (A 0 0)), some (.int x)] rfl hl (by decide) (Nat.le_of_ble_eq_true rfl) rfl (fun φ C0 => ?_)
  have C := C0.1
  refine x_aload_n C 1 dX5_removeCue_0 rfl rfl ?_
  refine xc_get C 4 0 0 (by decide) (show 0 < 1 by decide) rfl fg_X5_removeCue_10 rfl dX5_removeCue_1 rfl ?_
  refine x_aload_n C 5 dX5_removeCue_4 rfl rfl ?_
  refine x_iload_n C 6 dX5_removeCue_5 rfl rfl ?_
  refine xc_callV_i C 9 0 0 0 0 9 1 (cC_requireCue_0 hl hN hq) rfl gX5_removeCue_X5_requireCue ⟨rfl, by decide, by decide, rfl⟩ ⟨Nat.le_of_ble_eq_true rfl, Nat.le_of_ble_eq_true rfl⟩ rfl (by decide) (show 0 < 1 by decide) rfl rfl rfl (Nat.le_of_ble_eq_true rfl) ⟨Nat.le_of_ble_eq_true rfl, Nat.le_of_ble_eq_true rfl⟩ dX5_removeCue_6 rfl rfl rfl (fun r1 w1 h1 => ?_)
  obtain ⟨rfl, rfl⟩ := h1
  refine xc_callV_q C 12 0 0 3 0 3 1 (cC_rem0 hl (hqC_lt hq).1 (hN.1 0 (by decide)).1 (hN.1 0 (by decide)).2) rfl gX5_removeCue_Jx4a65c_remove_915e3 ⟨rfl, by decide, by decide, rfl⟩ ⟨Nat.le_of_ble_eq_true rfl, Nat.le_of_ble_eq_true rfl⟩ rfl (by decide) (show 0 < 4 by decide) rfl rfl rfl (Nat.le_of_ble_eq_true rfl) ⟨Nat.le_of_ble_eq_true rfl, Nat.le_of_ble_eq_true rfl⟩ dX5_removeCue_9 rfl rfl rfl (fun r2 w2 h2 => ?_)
  obtain ⟨rfl, rfl⟩ := h2
  refine x_topq (show _ = Value.ref (A 5 (poC S (n 0) x)) from rfl) ?_
  refine x_pop C 13 dX5_removeCue_12 rfl rfl ?_
  refine x_aload_n C 14 dX5_removeCue_13 rfl rfl ?_
  refine xc_get C 17 0 0 (by decide) (show 0 < 1 by decide) rfl fg_X5_removeCue_10 rfl dX5_removeCue_14 rfl ?_
  refine xc_callV_i C 20 0 0 3 0 3 0 (cC_size hl (j := 0) (by decide)) rfl gX5_removeCue_Jx4a65c_size_8abf5 ⟨rfl, by decide, by decide, rfl⟩ ⟨Nat.le_of_ble_eq_true rfl, Nat.le_of_ble_eq_true rfl⟩ rfl (by decide) (show 0 < 4 by decide) rfl rfl rfl (Nat.le_of_ble_eq_true rfl) ⟨Nat.le_of_ble_eq_true rfl, Nat.le_of_ble_eq_true rfl⟩ dX5_removeCue_17 rfl rfl rfl (fun r3 w3 h3 => ?_)
  obtain ⟨rfl, rfl⟩ := h3
  refine x_top (show _ = nI (n 0 - 1) from by rw [updN_s]) ?_
  exact x_zret C0 dX5_removeCue_20 (Nat.le_of_ble_eq_true rfl) (Nat.le_of_ble_eq_true rfl) ⟨_, rfl, ⟨rfl, rfl⟩⟩
set_option maxRecDepth 100000 in
set_option maxHeartbeats 4000000 in
theorem cC_removeCue_1 (hl : l.stackTraces = false) {x : Int32} (hN : CN n cap) (hq : hqC S (n 0) x = false)  : Ct (gm D a E0) l yX5_removeCue wsX5_removeCue { frames := 28, cells := 1, slots := 6, locals := 700 } [.ref (A 0 0), .int x] (wC a E0 n cap A g en S) (qI fun _ _ => False) (fun E w => E = "java/util/NoSuchElementException" ∧ w = wC a E0 n cap A g en S) := by
  refine Ct.of [some (.ref (A 0 0)), some (.int x)] rfl hl (by decide) (Nat.le_of_ble_eq_true rfl) rfl (fun φ C0 => ?_)
  have C := C0.1
  refine x_aload_n C 1 dX5_removeCue_0 rfl rfl ?_
  refine xc_get C 4 0 0 (by decide) (show 0 < 1 by decide) rfl fg_X5_removeCue_10 rfl dX5_removeCue_1 rfl ?_
  refine x_aload_n C 5 dX5_removeCue_4 rfl rfl ?_
  refine x_iload_n C 6 dX5_removeCue_5 rfl rfl ?_
  exact xc_callVx_i C0 9 1 6 0 0 9 1 (cC_requireCue_1 hl hN hq) rfl gX5_removeCue_X5_requireCue ⟨rfl, by decide, by decide, rfl⟩ ⟨Nat.le_of_ble_eq_true rfl, Nat.le_of_ble_eq_true rfl⟩ rfl (by decide) (show 0 < 1 by decide) rfl rfl rfl (Nat.le_of_ble_eq_true rfl) ⟨Nat.le_of_ble_eq_true rfl, Nat.le_of_ble_eq_true rfl⟩ dX5_removeCue_6 rfl rfl rfl (fun _ _ h => h.elim) (fun E w h => h)
theorem fg_X5_setChange_10 : gF RX5 wsX5_setChange 10 9 0 := ⟨RX5, TX5, 11, "StageConsole", rfl, fun w h => (List.mem_cons_of_mem _ (List.mem_append_left _ (List.mem_append_left _ (List.mem_append_left _ (List.mem_append_left _ (List.mem_append_left _ (List.mem_append_left _ (List.mem_append_right _ h)))))))), by decide, (List.mem_cons_of_mem _ (List.mem_append_left _ (List.mem_append_left _ (List.mem_append_left _ (List.mem_append_left _ (List.mem_append_left _ (List.mem_append_left _ (List.mem_append_left _ (List.mem_append_left _ (List.mem_of_getElem? (i := 0) rfl)))))))))), Or.inl rfl⟩
theorem fg_X5_setChange_117 : gF RX5 wsX5_setChange 117 5 4 := ⟨RX1, TX1, 5, "StageConsole$Cue", rfl, fun w h => (List.mem_cons_of_mem _ (List.mem_append_left _ (List.mem_append_left _ (List.mem_append_left _ (List.mem_append_left _ (List.mem_append_left _ (List.mem_append_right _ h))))))), by decide, (List.mem_cons_of_mem _ (List.mem_append_left _ (List.mem_append_left _ (List.mem_append_left _ (List.mem_append_left _ (List.mem_append_left _ (List.mem_append_left _ (List.mem_append_left _ (List.mem_append_left _ (List.mem_of_getElem? (i := 2) rfl)))))))))), Or.inl rfl⟩
set_option maxRecDepth 100000 in
set_option maxHeartbeats 4000000 in
theorem cC_setChange_0 (hl : l.stackTraces = false) {x y : Int32} (hN : CN n cap) (hq : hqC S (n 0) x = true) {c : Nat} (hc : c < 12) (hv : lvB y = true)  : Ct (gm D a E0) l yX5_setChange wsX5_setChange { frames := 28, cells := 0, slots := 0, locals := 700 } [.ref (A 0 0), .int x, .int (nI c), .int y] (wC a E0 n cap A g en S) (qI fun v w => v = S 6 (poC S (n 0) x) c ∧ w = wC a E0 n cap A g en (uS S 6 (poC S (n 0) x) c y)) noX := by
  refine Ct.of [some (.ref (A 0 0)), some (.int x), some (.int (nI c)), some (.int y), none, none, none] rfl hl (by decide) (Nat.le_of_ble_eq_true rfl) rfl (fun φ C0 => ?_)
  have C := C0.1
  refine x_aload_n C 1 dX5_setChange_0 rfl rfl ?_
  refine x_iload_n C 2 dX5_setChange_1 rfl rfl ?_
  refine xc_callV_i C 5 0 0 0 0 9 1 (cC_requireCue_0 hl hN hq) rfl gX5_setChange_X5_requireCue ⟨rfl, by decide, by decide, rfl⟩ ⟨Nat.le_of_ble_eq_true rfl, Nat.le_of_ble_eq_true rfl⟩ rfl (by decide) (show 0 < 1 by decide) rfl rfl rfl (Nat.le_of_ble_eq_true rfl) ⟨Nat.le_of_ble_eq_true rfl, Nat.le_of_ble_eq_true rfl⟩ dX5_setChange_2 rfl rfl rfl (fun r1 w1 h1 => ?_)
  obtain ⟨rfl, rfl⟩ := h1
  refine x_istore C 7 dX5_setChange_5 (by decide) rfl rfl ?_
  refine x_iload_n C 8 dX5_setChange_7 rfl rfl ?_
  refine x_callS0_v C 11 0 0 1 (cC_requireChannel_0 hl (chB_nI hc)) rfl gX5_setChange_X5_requireChannel ⟨by decide, by decide, rfl⟩ ⟨Nat.le_of_ble_eq_true rfl, Nat.le_of_ble_eq_true rfl⟩ rfl rfl (Nat.le_of_ble_eq_true rfl) ⟨Nat.le_of_ble_eq_true rfl, Nat.le_of_ble_eq_true rfl⟩ dX5_setChange_8 rfl rfl rfl (fun w2 h2 => ?_)
  subst h2
  refine x_iload_n C 12 dX5_setChange_11 rfl rfl ?_
  refine x_callS0_v C 15 0 0 1 (cC_requireLevel_0 hl hv) rfl gX5_setChange_X5_requireLevel ⟨by decide, by decide, rfl⟩ ⟨Nat.le_of_ble_eq_true rfl, Nat.le_of_ble_eq_true rfl⟩ rfl rfl (Nat.le_of_ble_eq_true rfl) ⟨Nat.le_of_ble_eq_true rfl, Nat.le_of_ble_eq_true rfl⟩ dX5_setChange_12 rfl rfl rfl (fun w3 h3 => ?_)
  subst h3
  have hlt := (hqC_lt hq).1
  have h16 := hN.2.1
  refine x_aload_n C 16 dX5_setChange_15 rfl rfl ?_
  refine xc_get C 19 0 0 (by decide) (show 0 < 1 by decide) rfl fg_X5_setChange_10 rfl dX5_setChange_16 rfl ?_
  refine x_iload C 21 dX5_setChange_19 rfl rfl ?_
  refine xc_callV_q C 24 0 0 3 0 3 1 (cC_get hl (j := 0) (by decide) (i := (poC S (n 0) x)) (by omega) (hN.1 0 (by decide)).1 (hN.1 0 (by decide)).2) rfl gX5_setChange_Jx4a65c_get_915e3 ⟨rfl, by decide, by decide, rfl⟩ ⟨Nat.le_of_ble_eq_true rfl, Nat.le_of_ble_eq_true rfl⟩ rfl (by decide) (show 0 < 4 by decide) rfl rfl rfl (Nat.le_of_ble_eq_true rfl) ⟨Nat.le_of_ble_eq_true rfl, Nat.le_of_ble_eq_true rfl⟩ dX5_setChange_21 rfl rfl rfl (fun r4 w4 h4 => ?_)
  obtain ⟨rfl, rfl⟩ := h4
  refine x_topq (show _ = Value.ref (A 5 (poC S (n 0) x)) from rfl) ?_
  refine xc_castS C 27 5 (poC S (n 0) x) (by decide) (show (poC S (n 0) x) < n 0 from by omega) rfl rfl (List.mem_cons_of_mem _ (List.mem_append_left _ (List.mem_append_left _ (List.mem_append_left _ (List.mem_append_left _ (List.mem_append_left _ (List.mem_append_left _ (List.mem_append_left _ (List.mem_append_left _ (List.mem_of_getElem? (i := 1) rfl)))))))))) dX5_setChange_24 rfl ?_
  refine xc_get C 30 5 (poC S (n 0) x) (by decide) (show (poC S (n 0) x) < n 0 from by omega) rfl fg_X5_setChange_117 rfl dX5_setChange_27 rfl ?_
  refine x_astore C 32 dX5_setChange_30 (by decide) rfl rfl ?_
  refine x_aload C 34 dX5_setChange_32 rfl rfl ?_
  refine x_iload_n C 35 dX5_setChange_34 rfl rfl ?_
  refine xc_iald C 36 6 (poC S (n 0) x) c (by decide) (show (poC S (n 0) x) < n 0 from by omega) rfl rfl (by omega) dX5_setChange_35 rfl ?_
  refine x_nm (fun bf ebf => ?_)
  refine x_istore C 38 dX5_setChange_36 (by decide) rfl rfl ?_
  refine x_aload C 40 dX5_setChange_38 rfl rfl ?_
  refine x_iload_n C 41 dX5_setChange_40 rfl rfl ?_
  refine x_iload_n C 42 dX5_setChange_41 rfl rfl ?_
  refine xc_iast C 43 6 (poC S (n 0) x) c (by decide) (show (poC S (n 0) x) < n 0 from by omega) (fun _ => rfl) rfl (by omega) dX5_setChange_42 rfl ?_
  refine x_iload C 45 dX5_setChange_43 rfl rfl ?_
  exact x_zret C0 dX5_setChange_45 (Nat.le_of_ble_eq_true rfl) (Nat.le_of_ble_eq_true rfl) ⟨_, rfl, ⟨ebf, rfl⟩⟩
set_option maxRecDepth 100000 in
set_option maxHeartbeats 4000000 in
theorem cC_setChange_1 (hl : l.stackTraces = false) {x y z : Int32} (hN : CN n cap) (hq : hqC S (n 0) x = false)  : Ct (gm D a E0) l yX5_setChange wsX5_setChange { frames := 28, cells := 1, slots := 6, locals := 700 } [.ref (A 0 0), .int x, .int z, .int y] (wC a E0 n cap A g en S) (qI fun _ _ => False) (fun E w => E = "java/util/NoSuchElementException" ∧ w = wC a E0 n cap A g en S) := by
  refine Ct.of [some (.ref (A 0 0)), some (.int x), some (.int z), some (.int y), none, none, none] rfl hl (by decide) (Nat.le_of_ble_eq_true rfl) rfl (fun φ C0 => ?_)
  have C := C0.1
  refine x_aload_n C 1 dX5_setChange_0 rfl rfl ?_
  refine x_iload_n C 2 dX5_setChange_1 rfl rfl ?_
  exact xc_callVx_i C0 5 1 6 0 0 9 1 (cC_requireCue_1 hl hN hq) rfl gX5_setChange_X5_requireCue ⟨rfl, by decide, by decide, rfl⟩ ⟨Nat.le_of_ble_eq_true rfl, Nat.le_of_ble_eq_true rfl⟩ rfl (by decide) (show 0 < 1 by decide) rfl rfl rfl (Nat.le_of_ble_eq_true rfl) ⟨Nat.le_of_ble_eq_true rfl, Nat.le_of_ble_eq_true rfl⟩ dX5_setChange_2 rfl rfl rfl (fun _ _ h => h.elim) (fun E w h => h)
set_option maxRecDepth 100000 in
set_option maxHeartbeats 4000000 in
theorem cC_setChange_2 (hl : l.stackTraces = false) {x y z : Int32} (hN : CN n cap) (hq : hqC S (n 0) x = true) (hc : chB z = false)  : Ct (gm D a E0) l yX5_setChange wsX5_setChange { frames := 28, cells := 1, slots := 6, locals := 700 } [.ref (A 0 0), .int x, .int z, .int y] (wC a E0 n cap A g en S) (qI fun _ _ => False) (fun E w => E = "java/lang/IndexOutOfBoundsException" ∧ w = wC a E0 n cap A g en S) := by
  refine Ct.of [some (.ref (A 0 0)), some (.int x), some (.int z), some (.int y), none, none, none] rfl hl (by decide) (Nat.le_of_ble_eq_true rfl) rfl (fun φ C0 => ?_)
  have C := C0.1
  refine x_aload_n C 1 dX5_setChange_0 rfl rfl ?_
  refine x_iload_n C 2 dX5_setChange_1 rfl rfl ?_
  refine xc_callV_i C 5 0 0 0 0 9 1 (cC_requireCue_0 hl hN hq) rfl gX5_setChange_X5_requireCue ⟨rfl, by decide, by decide, rfl⟩ ⟨Nat.le_of_ble_eq_true rfl, Nat.le_of_ble_eq_true rfl⟩ rfl (by decide) (show 0 < 1 by decide) rfl rfl rfl (Nat.le_of_ble_eq_true rfl) ⟨Nat.le_of_ble_eq_true rfl, Nat.le_of_ble_eq_true rfl⟩ dX5_setChange_2 rfl rfl rfl (fun r1 w1 h1 => ?_)
  obtain ⟨rfl, rfl⟩ := h1
  refine x_istore C 7 dX5_setChange_5 (by decide) rfl rfl ?_
  refine x_iload_n C 8 dX5_setChange_7 rfl rfl ?_
  exact x_callSx0_v C0 11 1 6 1 (cC_requireChannel_1 hl hc) rfl gX5_setChange_X5_requireChannel ⟨by decide, by decide, rfl⟩ ⟨Nat.le_of_ble_eq_true rfl, Nat.le_of_ble_eq_true rfl⟩ rfl rfl (Nat.le_of_ble_eq_true rfl) ⟨Nat.le_of_ble_eq_true rfl, Nat.le_of_ble_eq_true rfl⟩ dX5_setChange_8 rfl rfl rfl (fun _ h => h.elim) (fun E w h => h)
set_option maxRecDepth 100000 in
set_option maxHeartbeats 4000000 in
theorem cC_setChange_3 (hl : l.stackTraces = false) {x y : Int32} (hN : CN n cap) (hq : hqC S (n 0) x = true) {c : Nat} (hc : c < 12) (hv : lvB y = false)  : Ct (gm D a E0) l yX5_setChange wsX5_setChange { frames := 28, cells := 1, slots := 6, locals := 700 } [.ref (A 0 0), .int x, .int (nI c), .int y] (wC a E0 n cap A g en S) (qI fun _ _ => False) (fun E w => E = "java/lang/IllegalArgumentException" ∧ w = wC a E0 n cap A g en S) := by
  refine Ct.of [some (.ref (A 0 0)), some (.int x), some (.int (nI c)), some (.int y), none, none, none] rfl hl (by decide) (Nat.le_of_ble_eq_true rfl) rfl (fun φ C0 => ?_)
  have C := C0.1
  refine x_aload_n C 1 dX5_setChange_0 rfl rfl ?_
  refine x_iload_n C 2 dX5_setChange_1 rfl rfl ?_
  refine xc_callV_i C 5 0 0 0 0 9 1 (cC_requireCue_0 hl hN hq) rfl gX5_setChange_X5_requireCue ⟨rfl, by decide, by decide, rfl⟩ ⟨Nat.le_of_ble_eq_true rfl, Nat.le_of_ble_eq_true rfl⟩ rfl (by decide) (show 0 < 1 by decide) rfl rfl rfl (Nat.le_of_ble_eq_true rfl) ⟨Nat.le_of_ble_eq_true rfl, Nat.le_of_ble_eq_true rfl⟩ dX5_setChange_2 rfl rfl rfl (fun r1 w1 h1 => ?_)
  obtain ⟨rfl, rfl⟩ := h1
  refine x_istore C 7 dX5_setChange_5 (by decide) rfl rfl ?_
  refine x_iload_n C 8 dX5_setChange_7 rfl rfl ?_
  refine x_callS0_v C 11 0 0 1 (cC_requireChannel_0 hl (chB_nI hc)) rfl gX5_setChange_X5_requireChannel ⟨by decide, by decide, rfl⟩ ⟨Nat.le_of_ble_eq_true rfl, Nat.le_of_ble_eq_true rfl⟩ rfl rfl (Nat.le_of_ble_eq_true rfl) ⟨Nat.le_of_ble_eq_true rfl, Nat.le_of_ble_eq_true rfl⟩ dX5_setChange_8 rfl rfl rfl (fun w2 h2 => ?_)
  subst h2
  refine x_iload_n C 12 dX5_setChange_11 rfl rfl ?_
  exact x_callSx0_v C0 15 1 6 1 (cC_requireLevel_1 hl hv) rfl gX5_setChange_X5_requireLevel ⟨by decide, by decide, rfl⟩ ⟨Nat.le_of_ble_eq_true rfl, Nat.le_of_ble_eq_true rfl⟩ rfl rfl (Nat.le_of_ble_eq_true rfl) ⟨Nat.le_of_ble_eq_true rfl, Nat.le_of_ble_eq_true rfl⟩ dX5_setChange_12 rfl rfl rfl (fun _ h => h.elim) (fun E w h => h)
theorem fg_X5_removeChange_10 : gF RX5 wsX5_removeChange 10 9 0 := ⟨RX5, TX5, 11, "StageConsole", rfl, fun w h => (List.mem_cons_of_mem _ (List.mem_append_left _ (List.mem_append_left _ (List.mem_append_left _ (List.mem_append_left _ (List.mem_append_left _ (List.mem_append_right _ h))))))), by decide, (List.mem_cons_of_mem _ (List.mem_append_left _ (List.mem_append_left _ (List.mem_append_left _ (List.mem_append_left _ (List.mem_append_left _ (List.mem_append_left _ (List.mem_append_left _ (List.mem_of_getElem? (i := 2) rfl))))))))), Or.inl rfl⟩
theorem fg_X5_removeChange_117 : gF RX5 wsX5_removeChange 117 5 4 := ⟨RX1, TX1, 5, "StageConsole$Cue", rfl, fun w h => (List.mem_cons_of_mem _ (List.mem_append_left _ (List.mem_append_left _ (List.mem_append_left _ (List.mem_append_left _ (List.mem_append_right _ h)))))), by decide, (List.mem_cons_of_mem _ (List.mem_append_left _ (List.mem_append_left _ (List.mem_append_left _ (List.mem_append_left _ (List.mem_append_left _ (List.mem_append_left _ (List.mem_append_left _ (List.mem_of_getElem? (i := 4) rfl))))))))), Or.inl rfl⟩
set_option maxRecDepth 100000 in
set_option maxHeartbeats 4000000 in
theorem cC_removeChange_0 (hl : l.stackTraces = false) {x : Int32} (hN : CN n cap) (hq : hqC S (n 0) x = true) {c : Nat} (hc : c < 12) (hv : ¬ S 6 (poC S (n 0) x) c = -1)  : Ct (gm D a E0) l yX5_removeChange wsX5_removeChange { frames := 28, cells := 0, slots := 0, locals := 700 } [.ref (A 0 0), .int x, .int (nI c)] (wC a E0 n cap A g en S) (qI fun v w => v = S 6 (poC S (n 0) x) c ∧ w = wC a E0 n cap A g en (uS S 6 (poC S (n 0) x) c (-1))) noX := by
  refine Ct.of [some (.ref (A 0 0)), some (.int x), some (.int (nI c)), none, none, none] rfl hl (by decide) (Nat.le_of_ble_eq_true rfl) rfl (fun φ C0 => ?_)
  have C := C0.1
  refine x_aload_n C 1 dX5_removeChange_0 rfl rfl ?_
  refine x_iload_n C 2 dX5_removeChange_1 rfl rfl ?_
  refine xc_callV_i C 5 0 0 0 0 9 1 (cC_requireCue_0 hl hN hq) rfl gX5_removeChange_X5_requireCue ⟨rfl, by decide, by decide, rfl⟩ ⟨Nat.le_of_ble_eq_true rfl, Nat.le_of_ble_eq_true rfl⟩ rfl (by decide) (show 0 < 1 by decide) rfl rfl rfl (Nat.le_of_ble_eq_true rfl) ⟨Nat.le_of_ble_eq_true rfl, Nat.le_of_ble_eq_true rfl⟩ dX5_removeChange_2 rfl rfl rfl (fun r1 w1 h1 => ?_)
  obtain ⟨rfl, rfl⟩ := h1
  refine x_istore_n C 6 dX5_removeChange_5 (by decide) rfl rfl ?_
  refine x_iload_n C 7 dX5_removeChange_6 rfl rfl ?_
  refine x_callS0_v C 10 0 0 1 (cC_requireChannel_0 hl (chB_nI hc)) rfl gX5_removeChange_X5_requireChannel ⟨by decide, by decide, rfl⟩ ⟨Nat.le_of_ble_eq_true rfl, Nat.le_of_ble_eq_true rfl⟩ rfl rfl (Nat.le_of_ble_eq_true rfl) ⟨Nat.le_of_ble_eq_true rfl, Nat.le_of_ble_eq_true rfl⟩ dX5_removeChange_7 rfl rfl rfl (fun w2 h2 => ?_)
  subst h2
  have hlt := (hqC_lt hq).1
  have h16 := hN.2.1
  refine x_aload_n C 11 dX5_removeChange_10 rfl rfl ?_
  refine xc_get C 14 0 0 (by decide) (show 0 < 1 by decide) rfl fg_X5_removeChange_10 rfl dX5_removeChange_11 rfl ?_
  refine x_iload_n C 15 dX5_removeChange_14 rfl rfl ?_
  refine xc_callV_q C 18 0 0 3 0 3 1 (cC_get hl (j := 0) (by decide) (i := (poC S (n 0) x)) (by omega) (hN.1 0 (by decide)).1 (hN.1 0 (by decide)).2) rfl gX5_removeChange_Jx4a65c_get_915e3 ⟨rfl, by decide, by decide, rfl⟩ ⟨Nat.le_of_ble_eq_true rfl, Nat.le_of_ble_eq_true rfl⟩ rfl (by decide) (show 0 < 4 by decide) rfl rfl rfl (Nat.le_of_ble_eq_true rfl) ⟨Nat.le_of_ble_eq_true rfl, Nat.le_of_ble_eq_true rfl⟩ dX5_removeChange_15 rfl rfl rfl (fun r3 w3 h3 => ?_)
  obtain ⟨rfl, rfl⟩ := h3
  refine x_topq (show _ = Value.ref (A 5 (poC S (n 0) x)) from rfl) ?_
  refine xc_castS C 21 5 (poC S (n 0) x) (by decide) (show (poC S (n 0) x) < n 0 from by omega) rfl rfl (List.mem_cons_of_mem _ (List.mem_append_left _ (List.mem_append_left _ (List.mem_append_left _ (List.mem_append_left _ (List.mem_append_left _ (List.mem_append_left _ (List.mem_append_left _ (List.mem_of_getElem? (i := 3) rfl))))))))) dX5_removeChange_18 rfl ?_
  refine xc_get C 24 5 (poC S (n 0) x) (by decide) (show (poC S (n 0) x) < n 0 from by omega) rfl fg_X5_removeChange_117 rfl dX5_removeChange_21 rfl ?_
  refine x_astore C 26 dX5_removeChange_24 (by decide) rfl rfl ?_
  refine x_aload C 28 dX5_removeChange_26 rfl rfl ?_
  refine x_iload_n C 29 dX5_removeChange_28 rfl rfl ?_
  refine xc_iald C 30 6 (poC S (n 0) x) c (by decide) (show (poC S (n 0) x) < n 0 from by omega) rfl rfl (by omega) dX5_removeChange_29 rfl ?_
  refine x_nm (fun bf ebf => ?_)
  refine x_istore C 32 dX5_removeChange_30 (by decide) rfl rfl ?_
  refine x_iload C 34 dX5_removeChange_32 rfl rfl ?_
  refine x_iconst (v := (-1)) C 35 dX5_removeChange_34 (by decide) rfl ?_
  refine x_icmp_ne C 48 38 dX5_removeChange_35 (by decide) rfl (fun zk35 => ?_) (fun zk35 => ?_)
  · refine x_aload C 50 dX5_removeChange_48 rfl rfl ?_
    refine x_iload_n C 51 dX5_removeChange_50 rfl rfl ?_
    refine x_iconst (v := (-1)) C 52 dX5_removeChange_51 (by decide) rfl ?_
    refine xc_iast C 53 6 (poC S (n 0) x) c (by decide) (show (poC S (n 0) x) < n 0 from by omega) (fun _ => rfl) rfl (by omega) dX5_removeChange_52 rfl ?_
    refine x_iload C 55 dX5_removeChange_53 rfl rfl ?_
    exact x_zret C0 dX5_removeChange_55 (Nat.le_of_ble_eq_true rfl) (Nat.le_of_ble_eq_true rfl) ⟨_, rfl, ⟨ebf, rfl⟩⟩
  · exact absurd (ebf.symm.trans zk35) hv
set_option maxRecDepth 100000 in
set_option maxHeartbeats 4000000 in
theorem cC_removeChange_1 (hl : l.stackTraces = false) {x z : Int32} (hN : CN n cap) (hq : hqC S (n 0) x = false)  : Ct (gm D a E0) l yX5_removeChange wsX5_removeChange { frames := 28, cells := 1, slots := 6, locals := 700 } [.ref (A 0 0), .int x, .int z] (wC a E0 n cap A g en S) (qI fun _ _ => False) (fun E w => E = "java/util/NoSuchElementException" ∧ w = wC a E0 n cap A g en S) := by
  refine Ct.of [some (.ref (A 0 0)), some (.int x), some (.int z), none, none, none] rfl hl (by decide) (Nat.le_of_ble_eq_true rfl) rfl (fun φ C0 => ?_)
  have C := C0.1
  refine x_aload_n C 1 dX5_removeChange_0 rfl rfl ?_
  refine x_iload_n C 2 dX5_removeChange_1 rfl rfl ?_
  exact xc_callVx_i C0 5 1 6 0 0 9 1 (cC_requireCue_1 hl hN hq) rfl gX5_removeChange_X5_requireCue ⟨rfl, by decide, by decide, rfl⟩ ⟨Nat.le_of_ble_eq_true rfl, Nat.le_of_ble_eq_true rfl⟩ rfl (by decide) (show 0 < 1 by decide) rfl rfl rfl (Nat.le_of_ble_eq_true rfl) ⟨Nat.le_of_ble_eq_true rfl, Nat.le_of_ble_eq_true rfl⟩ dX5_removeChange_2 rfl rfl rfl (fun _ _ h => h.elim) (fun E w h => h)
set_option maxRecDepth 100000 in
set_option maxHeartbeats 4000000 in
theorem cC_removeChange_2 (hl : l.stackTraces = false) {x z : Int32} (hN : CN n cap) (hq : hqC S (n 0) x = true) (hc : chB z = false)  : Ct (gm D a E0) l yX5_removeChange wsX5_removeChange { frames := 28, cells := 1, slots := 6, locals := 700 } [.ref (A 0 0), .int x, .int z] (wC a E0 n cap A g en S) (qI fun _ _ => False) (fun E w => E = "java/lang/IndexOutOfBoundsException" ∧ w = wC a E0 n cap A g en S) := by
  refine Ct.of [some (.ref (A 0 0)), some (.int x), some (.int z), none, none, none] rfl hl (by decide) (Nat.le_of_ble_eq_true rfl) rfl (fun φ C0 => ?_)
  have C := C0.1
  refine x_aload_n C 1 dX5_removeChange_0 rfl rfl ?_
  refine x_iload_n C 2 dX5_removeChange_1 rfl rfl ?_
  refine xc_callV_i C 5 0 0 0 0 9 1 (cC_requireCue_0 hl hN hq) rfl gX5_removeChange_X5_requireCue ⟨rfl, by decide, by decide, rfl⟩ ⟨Nat.le_of_ble_eq_true rfl, Nat.le_of_ble_eq_true rfl⟩ rfl (by decide) (show 0 < 1 by decide) rfl rfl rfl (Nat.le_of_ble_eq_true rfl) ⟨Nat.le_of_ble_eq_true rfl, Nat.le_of_ble_eq_true rfl⟩ dX5_removeChange_2 rfl rfl rfl (fun r1 w1 h1 => ?_)
  obtain ⟨rfl, rfl⟩ := h1
  refine x_istore_n C 6 dX5_removeChange_5 (by decide) rfl rfl ?_
  refine x_iload_n C 7 dX5_removeChange_6 rfl rfl ?_
  exact x_callSx0_v C0 10 1 6 1 (cC_requireChannel_1 hl hc) rfl gX5_removeChange_X5_requireChannel ⟨by decide, by decide, rfl⟩ ⟨Nat.le_of_ble_eq_true rfl, Nat.le_of_ble_eq_true rfl⟩ rfl rfl (Nat.le_of_ble_eq_true rfl) ⟨Nat.le_of_ble_eq_true rfl, Nat.le_of_ble_eq_true rfl⟩ dX5_removeChange_7 rfl rfl rfl (fun _ h => h.elim) (fun E w h => h)
set_option maxRecDepth 100000 in
set_option maxHeartbeats 4000000 in
theorem cC_removeChange_3 (hl : l.stackTraces = false) {x : Int32} (hN : CN n cap) (hq : hqC S (n 0) x = true) {c : Nat} (hc : c < 12) (hv : S 6 (poC S (n 0) x) c = -1)  : Ct (gm D a E0) l yX5_removeChange wsX5_removeChange { frames := 28, cells := 1, slots := 6, locals := 700 } [.ref (A 0 0), .int x, .int (nI c)] (wC a E0 n cap A g en S) (qI fun _ _ => False) (fun E w => E = "java/util/NoSuchElementException" ∧ w = wC a E0 n cap A g en S) := by
  refine Ct.of [some (.ref (A 0 0)), some (.int x), some (.int (nI c)), none, none, none] rfl hl (by decide) (Nat.le_of_ble_eq_true rfl) rfl (fun φ C0 => ?_)
  have C := C0.1
  refine x_aload_n C 1 dX5_removeChange_0 rfl rfl ?_
  refine x_iload_n C 2 dX5_removeChange_1 rfl rfl ?_
  refine xc_callV_i C 5 0 0 0 0 9 1 (cC_requireCue_0 hl hN hq) rfl gX5_removeChange_X5_requireCue ⟨rfl, by decide, by decide, rfl⟩ ⟨Nat.le_of_ble_eq_true rfl, Nat.le_of_ble_eq_true rfl⟩ rfl (by decide) (show 0 < 1 by decide) rfl rfl rfl (Nat.le_of_ble_eq_true rfl) ⟨Nat.le_of_ble_eq_true rfl, Nat.le_of_ble_eq_true rfl⟩ dX5_removeChange_2 rfl rfl rfl (fun r1 w1 h1 => ?_)
  obtain ⟨rfl, rfl⟩ := h1
  refine x_istore_n C 6 dX5_removeChange_5 (by decide) rfl rfl ?_
  refine x_iload_n C 7 dX5_removeChange_6 rfl rfl ?_
  refine x_callS0_v C 10 0 0 1 (cC_requireChannel_0 hl (chB_nI hc)) rfl gX5_removeChange_X5_requireChannel ⟨by decide, by decide, rfl⟩ ⟨Nat.le_of_ble_eq_true rfl, Nat.le_of_ble_eq_true rfl⟩ rfl rfl (Nat.le_of_ble_eq_true rfl) ⟨Nat.le_of_ble_eq_true rfl, Nat.le_of_ble_eq_true rfl⟩ dX5_removeChange_7 rfl rfl rfl (fun w2 h2 => ?_)
  subst h2
  have hlt := (hqC_lt hq).1
  have h16 := hN.2.1
  refine x_aload_n C 11 dX5_removeChange_10 rfl rfl ?_
  refine xc_get C 14 0 0 (by decide) (show 0 < 1 by decide) rfl fg_X5_removeChange_10 rfl dX5_removeChange_11 rfl ?_
  refine x_iload_n C 15 dX5_removeChange_14 rfl rfl ?_
  refine xc_callV_q C 18 0 0 3 0 3 1 (cC_get hl (j := 0) (by decide) (i := (poC S (n 0) x)) (by omega) (hN.1 0 (by decide)).1 (hN.1 0 (by decide)).2) rfl gX5_removeChange_Jx4a65c_get_915e3 ⟨rfl, by decide, by decide, rfl⟩ ⟨Nat.le_of_ble_eq_true rfl, Nat.le_of_ble_eq_true rfl⟩ rfl (by decide) (show 0 < 4 by decide) rfl rfl rfl (Nat.le_of_ble_eq_true rfl) ⟨Nat.le_of_ble_eq_true rfl, Nat.le_of_ble_eq_true rfl⟩ dX5_removeChange_15 rfl rfl rfl (fun r3 w3 h3 => ?_)
  obtain ⟨rfl, rfl⟩ := h3
  refine x_topq (show _ = Value.ref (A 5 (poC S (n 0) x)) from rfl) ?_
  refine xc_castS C 21 5 (poC S (n 0) x) (by decide) (show (poC S (n 0) x) < n 0 from by omega) rfl rfl (List.mem_cons_of_mem _ (List.mem_append_left _ (List.mem_append_left _ (List.mem_append_left _ (List.mem_append_left _ (List.mem_append_left _ (List.mem_append_left _ (List.mem_append_left _ (List.mem_of_getElem? (i := 3) rfl))))))))) dX5_removeChange_18 rfl ?_
  refine xc_get C 24 5 (poC S (n 0) x) (by decide) (show (poC S (n 0) x) < n 0 from by omega) rfl fg_X5_removeChange_117 rfl dX5_removeChange_21 rfl ?_
  refine x_astore C 26 dX5_removeChange_24 (by decide) rfl rfl ?_
  refine x_aload C 28 dX5_removeChange_26 rfl rfl ?_
  refine x_iload_n C 29 dX5_removeChange_28 rfl rfl ?_
  refine xc_iald C 30 6 (poC S (n 0) x) c (by decide) (show (poC S (n 0) x) < n 0 from by omega) rfl rfl (by omega) dX5_removeChange_29 rfl ?_
  refine x_nm (fun bf ebf => ?_)
  refine x_istore C 32 dX5_removeChange_30 (by decide) rfl rfl ?_
  refine x_iload C 34 dX5_removeChange_32 rfl rfl ?_
  refine x_iconst (v := (-1)) C 35 dX5_removeChange_34 (by decide) rfl ?_
  refine x_icmp_ne C 48 38 dX5_removeChange_35 (by decide) rfl (fun zk35 => ?_) (fun zk35 => ?_)
  · exact absurd (ebf.trans hv) zk35
  · exact x_throwS C0 (cls := "java/util/NoSuchElementException") (text := "the cue has no change for this channel") (names := ["java/lang/RuntimeException", "java/lang/Exception"]) (List.mem_of_getElem? (i := 18) rfl) (by decide) (by decide) (List.mem_cons_of_mem _ (List.mem_append_left _ (List.mem_append_left _ (List.mem_append_left _ (List.mem_append_left _ (List.mem_append_left _ (List.mem_append_left _ (List.mem_append_left _ (List.mem_of_getElem? (i := 0) rfl))))))))) (List.mem_cons_of_mem _ (List.mem_append_left _ (List.mem_append_left _ (List.mem_append_left _ (List.mem_append_left _ (List.mem_append_left _ (List.mem_append_left _ (List.mem_append_left _ (List.mem_of_getElem? (i := 1) rfl))))))))) (fun w h => (List.mem_cons_of_mem _ (List.mem_append_left _ (List.mem_append_right _ h)))) (by decide) (by decide +kernel) (by decide +kernel) dX5_removeChange_38 dX5_removeChange_41 dX5_removeChange_42 dX5_removeChange_44 dX5_removeChange_47 (Nat.le_of_ble_eq_true rfl) (Nat.le_of_ble_eq_true rfl) (Nat.le_of_ble_eq_true rfl) (Nat.le_of_ble_eq_true rfl) ⟨rfl, rfl⟩   
theorem fg_X5_setBlock_10 : gF RX5 wsX5_setBlock 10 9 0 := ⟨RX5, TX5, 11, "StageConsole", rfl, fun w h => (List.mem_cons_of_mem _ (List.mem_append_left _ (List.mem_append_left _ (List.mem_append_left _ (List.mem_append_right _ h))))), by decide, (List.mem_cons_of_mem _ (List.mem_append_left _ (List.mem_append_left _ (List.mem_append_left _ (List.mem_append_left _ (List.mem_append_left _ (List.mem_of_getElem? (i := 0) rfl))))))), Or.inl rfl⟩
theorem fg_X5_setBlock_125 : gF RX5 wsX5_setBlock 125 5 3 := ⟨RX1, TX1, 5, "StageConsole$Cue", rfl, fun w h => (List.mem_cons_of_mem _ (List.mem_append_left _ (List.mem_append_left _ (List.mem_append_right _ h)))), by decide, (List.mem_cons_of_mem _ (List.mem_append_left _ (List.mem_append_left _ (List.mem_append_left _ (List.mem_append_left _ (List.mem_append_left _ (List.mem_of_getElem? (i := 2) rfl))))))), Or.inl rfl⟩
theorem fp_X5_setBlock_125 : pF RX5 wsX5_setBlock 125 5 3 false (.boolean) := ⟨RX1, TX1, 5, "StageConsole$Cue", tyX1, rfl, fun w h => (List.mem_cons_of_mem _ (List.mem_append_left _ (List.mem_append_left _ (List.mem_append_right _ h)))), by decide, (List.mem_cons_of_mem _ (List.mem_append_left _ (List.mem_append_left _ (List.mem_append_left _ (List.mem_append_left _ (List.mem_append_left _ (List.mem_of_getElem? (i := 2) rfl))))))), Or.inl rfl, tyX1_ok, nmX1, rfl, rfl, fun h => absurd h (by decide)⟩
set_option maxRecDepth 100000 in
set_option maxHeartbeats 4000000 in
theorem cC_setBlock_0 (hl : l.stackTraces = false) {x : Int32} {b : Bool} (hN : CN n cap) (hq : hqC S (n 0) x = true) (hbo : boK (S 5 (poC S (n 0) x) 3))  : Ct (gm D a E0) l yX5_setBlock wsX5_setBlock { frames := 28, cells := 0, slots := 0, locals := 700 } [.ref (A 0 0), .int x, .int (bI b)] (wC a E0 n cap A g en S) (qI fun v w => v = S 5 (poC S (n 0) x) 3 ∧ w = wC a E0 n cap A g en (uS S 5 (poC S (n 0) x) 3 (bI b))) noX := by
  refine Ct.of [some (.ref (A 0 0)), some (.int x), some (.int (bI b)), none, none] rfl hl (by decide) (Nat.le_of_ble_eq_true rfl) rfl (fun φ C0 => ?_)
  have C := C0.1
  refine x_aload_n C 1 dX5_setBlock_0 rfl rfl ?_
  refine xc_get C 4 0 0 (by decide) (show 0 < 1 by decide) rfl fg_X5_setBlock_10 rfl dX5_setBlock_1 rfl ?_
  refine x_aload_n C 5 dX5_setBlock_4 rfl rfl ?_
  refine x_iload_n C 6 dX5_setBlock_5 rfl rfl ?_
  refine xc_callV_i C 9 0 0 0 0 9 1 (cC_requireCue_0 hl hN hq) rfl gX5_setBlock_X5_requireCue ⟨rfl, by decide, by decide, rfl⟩ ⟨Nat.le_of_ble_eq_true rfl, Nat.le_of_ble_eq_true rfl⟩ rfl (by decide) (show 0 < 1 by decide) rfl rfl rfl (Nat.le_of_ble_eq_true rfl) ⟨Nat.le_of_ble_eq_true rfl, Nat.le_of_ble_eq_true rfl⟩ dX5_setBlock_6 rfl rfl rfl (fun r1 w1 h1 => ?_)
  obtain ⟨rfl, rfl⟩ := h1
  have hlt := (hqC_lt hq).1
  have h16 := hN.2.1
  refine xc_callV_q C 12 0 0 3 0 3 1 (cC_get hl (j := 0) (by decide) (i := (poC S (n 0) x)) (by omega) (hN.1 0 (by decide)).1 (hN.1 0 (by decide)).2) rfl gX5_setBlock_Jx4a65c_get_915e3 ⟨rfl, by decide, by decide, rfl⟩ ⟨Nat.le_of_ble_eq_true rfl, Nat.le_of_ble_eq_true rfl⟩ rfl (by decide) (show 0 < 4 by decide) rfl rfl rfl (Nat.le_of_ble_eq_true rfl) ⟨Nat.le_of_ble_eq_true rfl, Nat.le_of_ble_eq_true rfl⟩ dX5_setBlock_9 rfl rfl rfl (fun r2 w2 h2 => ?_)
  obtain ⟨rfl, rfl⟩ := h2
  refine x_topq (show _ = Value.ref (A 5 (poC S (n 0) x)) from rfl) ?_
  refine xc_castS C 15 5 (poC S (n 0) x) (by decide) (show (poC S (n 0) x) < n 0 from by omega) rfl rfl (List.mem_cons_of_mem _ (List.mem_append_left _ (List.mem_append_left _ (List.mem_append_left _ (List.mem_append_left _ (List.mem_append_left _ (List.mem_of_getElem? (i := 1) rfl))))))) dX5_setBlock_12 rfl ?_
  refine x_astore_n C 16 dX5_setBlock_15 (by decide) rfl rfl ?_
  refine x_aload_n C 17 dX5_setBlock_16 rfl rfl ?_
  refine xc_get C 20 5 (poC S (n 0) x) (by decide) (show (poC S (n 0) x) < n 0 from by omega) rfl fg_X5_setBlock_125 rfl dX5_setBlock_17 rfl ?_
  refine x_nm (fun bf ebf => ?_)
  refine x_istore C 22 dX5_setBlock_20 (by decide) rfl rfl ?_
  refine x_aload_n C 23 dX5_setBlock_22 rfl rfl ?_
  refine x_iload_n C 24 dX5_setBlock_23 rfl rfl ?_
  refine xc_put C 27 5 (poC S (n 0) x) 3 (by decide) (show (poC S (n 0) x) < n 0 from by omega) rfl fp_X5_setBlock_125 (bI_nar _) (bI_fit _) (Nat.le_of_ble_eq_true rfl) rfl dX5_setBlock_24 rfl ?_
  refine x_iload C 29 dX5_setBlock_27 rfl rfl ?_
  exact x_nret C0 rfl (by rw [ebf]; exact hbo.1) dX5_setBlock_29 (Nat.le_of_ble_eq_true rfl) (Nat.le_of_ble_eq_true rfl) ⟨_, rfl, ⟨ebf, rfl⟩⟩
set_option maxRecDepth 100000 in
set_option maxHeartbeats 4000000 in
theorem cC_setBlock_1 (hl : l.stackTraces = false) {x : Int32} {b : Bool} (hN : CN n cap) (hq : hqC S (n 0) x = false)  : Ct (gm D a E0) l yX5_setBlock wsX5_setBlock { frames := 28, cells := 1, slots := 6, locals := 700 } [.ref (A 0 0), .int x, .int (bI b)] (wC a E0 n cap A g en S) (qI fun _ _ => False) (fun E w => E = "java/util/NoSuchElementException" ∧ w = wC a E0 n cap A g en S) := by
  refine Ct.of [some (.ref (A 0 0)), some (.int x), some (.int (bI b)), none, none] rfl hl (by decide) (Nat.le_of_ble_eq_true rfl) rfl (fun φ C0 => ?_)
  have C := C0.1
  refine x_aload_n C 1 dX5_setBlock_0 rfl rfl ?_
  refine xc_get C 4 0 0 (by decide) (show 0 < 1 by decide) rfl fg_X5_setBlock_10 rfl dX5_setBlock_1 rfl ?_
  refine x_aload_n C 5 dX5_setBlock_4 rfl rfl ?_
  refine x_iload_n C 6 dX5_setBlock_5 rfl rfl ?_
  exact xc_callVx_i C0 9 1 6 0 0 9 1 (cC_requireCue_1 hl hN hq) rfl gX5_setBlock_X5_requireCue ⟨rfl, by decide, by decide, rfl⟩ ⟨Nat.le_of_ble_eq_true rfl, Nat.le_of_ble_eq_true rfl⟩ rfl (by decide) (show 0 < 1 by decide) rfl rfl rfl (Nat.le_of_ble_eq_true rfl) ⟨Nat.le_of_ble_eq_true rfl, Nat.le_of_ble_eq_true rfl⟩ dX5_setBlock_6 rfl rfl rfl (fun _ _ h => h.elim) (fun E w h => h)
set_option maxRecDepth 100000 in
set_option maxHeartbeats 4000000 in
theorem cC_trackedLevel_0 (hl : l.stackTraces = false) {x : Int32} (hN : CN n cap) (hq : hqC S (n 0) x = true) {c : Nat} (hc : c < 12)  : Ct (gm D a E0) l yX5_trackedLevel wsX5_trackedLevel { frames := 28, cells := 0, slots := 0, locals := 700 } [.ref (A 0 0), .int x, .int (nI c)] (wC a E0 n cap A g en S) (qI fun v w => v = trC S c ((poC S (n 0) x) + 1) ∧ w = wC a E0 n cap A g en S) noX := by
  refine Ct.of [some (.ref (A 0 0)), some (.int x), some (.int (nI c)), none] rfl hl (by decide) (Nat.le_of_ble_eq_true rfl) rfl (fun φ C0 => ?_)
  have C := C0.1
  refine x_aload_n C 1 dX5_trackedLevel_0 rfl rfl ?_
  refine x_iload_n C 2 dX5_trackedLevel_1 rfl rfl ?_
  refine xc_callV_i C 5 0 0 0 0 9 1 (cC_requireCue_0 hl hN hq) rfl gX5_trackedLevel_X5_requireCue ⟨rfl, by decide, by decide, rfl⟩ ⟨Nat.le_of_ble_eq_true rfl, Nat.le_of_ble_eq_true rfl⟩ rfl (by decide) (show 0 < 1 by decide) rfl rfl rfl (Nat.le_of_ble_eq_true rfl) ⟨Nat.le_of_ble_eq_true rfl, Nat.le_of_ble_eq_true rfl⟩ dX5_trackedLevel_2 rfl rfl rfl (fun r1 w1 h1 => ?_)
  obtain ⟨rfl, rfl⟩ := h1
  refine x_istore_n C 6 dX5_trackedLevel_5 (by decide) rfl rfl ?_
  refine x_iload_n C 7 dX5_trackedLevel_6 rfl rfl ?_
  refine x_callS0_v C 10 0 0 1 (cC_requireChannel_0 hl (chB_nI hc)) rfl gX5_trackedLevel_X5_requireChannel ⟨by decide, by decide, rfl⟩ ⟨Nat.le_of_ble_eq_true rfl, Nat.le_of_ble_eq_true rfl⟩ rfl rfl (Nat.le_of_ble_eq_true rfl) ⟨Nat.le_of_ble_eq_true rfl, Nat.le_of_ble_eq_true rfl⟩ dX5_trackedLevel_7 rfl rfl rfl (fun w2 h2 => ?_)
  subst h2
  refine x_aload_n C 11 dX5_trackedLevel_10 rfl rfl ?_
  refine x_iload_n C 12 dX5_trackedLevel_11 rfl rfl ?_
  refine x_iload_n C 13 dX5_trackedLevel_12 rfl rfl ?_
  refine xc_callV_i C 16 0 0 0 0 9 2 (cC_trackedAt hl hN (hqC_lt hq).1 hc) rfl gX5_trackedLevel_X5_trackedAt ⟨rfl, by decide, by decide, rfl⟩ ⟨Nat.le_of_ble_eq_true rfl, Nat.le_of_ble_eq_true rfl⟩ rfl (by decide) (show 0 < 1 by decide) rfl rfl rfl (Nat.le_of_ble_eq_true rfl) ⟨Nat.le_of_ble_eq_true rfl, Nat.le_of_ble_eq_true rfl⟩ dX5_trackedLevel_13 rfl rfl rfl (fun r3 w3 h3 => ?_)
  obtain ⟨rfl, rfl⟩ := h3
  exact x_zret C0 dX5_trackedLevel_16 (Nat.le_of_ble_eq_true rfl) (Nat.le_of_ble_eq_true rfl) ⟨_, rfl, ⟨rfl, rfl⟩⟩
set_option maxRecDepth 100000 in
set_option maxHeartbeats 4000000 in
theorem cC_trackedLevel_1 (hl : l.stackTraces = false) {x z : Int32} (hN : CN n cap) (hq : hqC S (n 0) x = false)  : Ct (gm D a E0) l yX5_trackedLevel wsX5_trackedLevel { frames := 28, cells := 1, slots := 6, locals := 700 } [.ref (A 0 0), .int x, .int z] (wC a E0 n cap A g en S) (qI fun _ _ => False) (fun E w => E = "java/util/NoSuchElementException" ∧ w = wC a E0 n cap A g en S) := by
  refine Ct.of [some (.ref (A 0 0)), some (.int x), some (.int z), none] rfl hl (by decide) (Nat.le_of_ble_eq_true rfl) rfl (fun φ C0 => ?_)
  have C := C0.1
  refine x_aload_n C 1 dX5_trackedLevel_0 rfl rfl ?_
  refine x_iload_n C 2 dX5_trackedLevel_1 rfl rfl ?_
  exact xc_callVx_i C0 5 1 6 0 0 9 1 (cC_requireCue_1 hl hN hq) rfl gX5_trackedLevel_X5_requireCue ⟨rfl, by decide, by decide, rfl⟩ ⟨Nat.le_of_ble_eq_true rfl, Nat.le_of_ble_eq_true rfl⟩ rfl (by decide) (show 0 < 1 by decide) rfl rfl rfl (Nat.le_of_ble_eq_true rfl) ⟨Nat.le_of_ble_eq_true rfl, Nat.le_of_ble_eq_true rfl⟩ dX5_trackedLevel_2 rfl rfl rfl (fun _ _ h => h.elim) (fun E w h => h)
set_option maxRecDepth 100000 in
set_option maxHeartbeats 4000000 in
theorem cC_trackedLevel_2 (hl : l.stackTraces = false) {x z : Int32} (hN : CN n cap) (hq : hqC S (n 0) x = true) (hc : chB z = false)  : Ct (gm D a E0) l yX5_trackedLevel wsX5_trackedLevel { frames := 28, cells := 1, slots := 6, locals := 700 } [.ref (A 0 0), .int x, .int z] (wC a E0 n cap A g en S) (qI fun _ _ => False) (fun E w => E = "java/lang/IndexOutOfBoundsException" ∧ w = wC a E0 n cap A g en S) := by
  refine Ct.of [some (.ref (A 0 0)), some (.int x), some (.int z), none] rfl hl (by decide) (Nat.le_of_ble_eq_true rfl) rfl (fun φ C0 => ?_)
  have C := C0.1
  refine x_aload_n C 1 dX5_trackedLevel_0 rfl rfl ?_
  refine x_iload_n C 2 dX5_trackedLevel_1 rfl rfl ?_
  refine xc_callV_i C 5 0 0 0 0 9 1 (cC_requireCue_0 hl hN hq) rfl gX5_trackedLevel_X5_requireCue ⟨rfl, by decide, by decide, rfl⟩ ⟨Nat.le_of_ble_eq_true rfl, Nat.le_of_ble_eq_true rfl⟩ rfl (by decide) (show 0 < 1 by decide) rfl rfl rfl (Nat.le_of_ble_eq_true rfl) ⟨Nat.le_of_ble_eq_true rfl, Nat.le_of_ble_eq_true rfl⟩ dX5_trackedLevel_2 rfl rfl rfl (fun r1 w1 h1 => ?_)
  obtain ⟨rfl, rfl⟩ := h1
  refine x_istore_n C 6 dX5_trackedLevel_5 (by decide) rfl rfl ?_
  refine x_iload_n C 7 dX5_trackedLevel_6 rfl rfl ?_
  exact x_callSx0_v C0 10 1 6 1 (cC_requireChannel_1 hl hc) rfl gX5_trackedLevel_X5_requireChannel ⟨by decide, by decide, rfl⟩ ⟨Nat.le_of_ble_eq_true rfl, Nat.le_of_ble_eq_true rfl⟩ rfl rfl (Nat.le_of_ble_eq_true rfl) ⟨Nat.le_of_ble_eq_true rfl, Nat.le_of_ble_eq_true rfl⟩ dX5_trackedLevel_7 rfl rfl rfl (fun _ h => h.elim) (fun E w h => h)
theorem fg_X5_cues_10 : gF RX5 wsX5_cues 10 9 0 := ⟨RX5, TX5, 11, "StageConsole", rfl, fun w h => (List.mem_cons_of_mem _ (List.mem_append_left _ (List.mem_append_right _ h))), by decide, (List.mem_cons_of_mem _ (List.mem_append_left _ (List.mem_append_left _ (List.mem_of_getElem? (i := 0) rfl)))), Or.inl rfl⟩
set_option maxRecDepth 100000 in
set_option maxHeartbeats 4000000 in
theorem cC_cues (hl : l.stackTraces = false)  : Ct (gm D a E0) l yX5_cues wsX5_cues { frames := 8, cells := 0, slots := 0, locals := 200 } [.ref (A 0 0)] (wC a E0 n cap A g en S) (qI fun v w => v = nI (n 0) ∧ w = wC a E0 n cap A g en S) noX := by
  refine Ct.of [some (.ref (A 0 0))] rfl hl (by decide) (Nat.le_of_ble_eq_true rfl) rfl (fun φ C0 => ?_)
  have C := C0.1
  refine x_aload_n C 1 dX5_cues_0 rfl rfl ?_
  refine xc_get C 4 0 0 (by decide) (show 0 < 1 by decide) rfl fg_X5_cues_10 rfl dX5_cues_1 rfl ?_
  refine xc_callV_i C 7 0 0 3 0 3 0 (cC_size hl (j := 0) (by decide)) rfl gX5_cues_Jx4a65c_size_8abf5 ⟨rfl, by decide, by decide, rfl⟩ ⟨Nat.le_of_ble_eq_true rfl, Nat.le_of_ble_eq_true rfl⟩ rfl (by decide) (show 0 < 4 by decide) rfl rfl rfl (Nat.le_of_ble_eq_true rfl) ⟨Nat.le_of_ble_eq_true rfl, Nat.le_of_ble_eq_true rfl⟩ dX5_cues_4 rfl rfl rfl (fun r1 w1 h1 => ?_)
  obtain ⟨rfl, rfl⟩ := h1
  exact x_zret C0 dX5_cues_7 (Nat.le_of_ble_eq_true rfl) (Nat.le_of_ble_eq_true rfl) ⟨_, rfl, ⟨rfl, rfl⟩⟩
theorem fg_X5_go_16 : gF RX5 wsX5_go 16 9 1 := ⟨RX5, TX5, 11, "StageConsole", rfl, fun w h => (List.mem_cons_of_mem _ (List.mem_append_left _ (List.mem_append_left _ (List.mem_append_left _ (List.mem_append_left _ (List.mem_append_left _ (List.mem_append_right _ h))))))), by decide, (List.mem_cons_of_mem _ (List.mem_append_left _ (List.mem_append_left _ (List.mem_append_left _ (List.mem_append_left _ (List.mem_append_left _ (List.mem_append_left _ (List.mem_append_left _ (List.mem_of_getElem? (i := 2) rfl))))))))), Or.inl rfl⟩
set_option maxRecDepth 100000 in
set_option maxHeartbeats 4000000 in
theorem cC_go_0 (hl : l.stackTraces = false) (hN : CN n cap) (hp : (poC S (n 0) (S 0 0 0 + 1)) < n 0) (hK : chK (S 5 (poC S (n 0) (S 0 0 0 + 1)) 2))  : Ct (gm D a E0) l yX5_go wsX5_go { frames := 28, cells := 0, slots := 0, locals := 700 } [.ref (A 0 0)] (wC a E0 n cap A g en S) (qI fun v w => v = ppS (poC S (n 0) (S 0 0 0 + 1)) S 0 0 0 ∧ w = wC a E0 n cap A g en (ppS (poC S (n 0) (S 0 0 0 + 1)) S)) noX := by
  refine Ct.of [some (.ref (A 0 0))] rfl hl (by decide) (Nat.le_of_ble_eq_true rfl) rfl (fun φ C0 => ?_)
  have C := C0.1
  refine x_aload_n C 1 dX5_go_0 rfl rfl ?_
  refine xc_callV_i C 4 0 0 0 0 9 0 (cC_hasCueAbove hl hN) rfl gX5_go_X5_hasCueAbove ⟨rfl, by decide, by decide, rfl⟩ ⟨Nat.le_of_ble_eq_true rfl, Nat.le_of_ble_eq_true rfl⟩ rfl (by decide) (show 0 < 1 by decide) rfl rfl rfl (Nat.le_of_ble_eq_true rfl) ⟨Nat.le_of_ble_eq_true rfl, Nat.le_of_ble_eq_true rfl⟩ dX5_go_1 rfl rfl rfl (fun r1 w1 h1 => ?_)
  obtain ⟨rfl, rfl⟩ := h1
  refine x_top (show _ = (1 : Int32) from (congrArg bI (show decide ((poC S (n 0) (S 0 0 0 + 1)) < n 0) = true from decide_eq_true hp)).trans rfl) ?_
  refine x_if_ne C 17 7 dX5_go_4 (by decide) rfl (fun zk4 => ?_) (fun zk4 => ?_)
  · refine x_aload_n C 18 dX5_go_17 rfl rfl ?_
    refine x_aload_n C 19 dX5_go_18 rfl rfl ?_
    refine xc_callV_i C 22 0 0 0 0 9 0 (cC_placeAbove hl hN) rfl gX5_go_X5_placeAbove ⟨rfl, by decide, by decide, rfl⟩ ⟨Nat.le_of_ble_eq_true rfl, Nat.le_of_ble_eq_true rfl⟩ rfl (by decide) (show 0 < 1 by decide) rfl rfl rfl (Nat.le_of_ble_eq_true rfl) ⟨Nat.le_of_ble_eq_true rfl, Nat.le_of_ble_eq_true rfl⟩ dX5_go_19 rfl rfl rfl (fun r2 w2 h2 => ?_)
    obtain ⟨rfl, rfl⟩ := h2
    refine xc_callV_v C 25 0 0 0 0 9 1 (cC_playPlace hl hN hp hK) rfl gX5_go_X5_playPlace ⟨rfl, by decide, by decide, rfl⟩ ⟨Nat.le_of_ble_eq_true rfl, Nat.le_of_ble_eq_true rfl⟩ rfl (by decide) (show 0 < 1 by decide) rfl rfl rfl (Nat.le_of_ble_eq_true rfl) ⟨Nat.le_of_ble_eq_true rfl, Nat.le_of_ble_eq_true rfl⟩ dX5_go_22 rfl rfl rfl (fun w3 h3 => ?_)
    subst h3
    refine x_aload_n C 26 dX5_go_25 rfl rfl ?_
    refine xc_get C 29 0 0 (by decide) (show 0 < 1 by decide) rfl fg_X5_go_16 rfl dX5_go_26 rfl ?_
    exact x_zret C0 dX5_go_29 (Nat.le_of_ble_eq_true rfl) (Nat.le_of_ble_eq_true rfl) ⟨_, rfl, ⟨rfl, rfl⟩⟩
  · exact absurd zk4 (by decide)
set_option maxRecDepth 100000 in
set_option maxHeartbeats 4000000 in
theorem cC_go_1 (hl : l.stackTraces = false) (hN : CN n cap) (hp : ¬ (poC S (n 0) (S 0 0 0 + 1)) < n 0)  : Ct (gm D a E0) l yX5_go wsX5_go { frames := 28, cells := 1, slots := 6, locals := 700 } [.ref (A 0 0)] (wC a E0 n cap A g en S) (qI fun _ _ => False) (fun E w => E = "java/util/NoSuchElementException" ∧ w = wC a E0 n cap A g en S) := by
  refine Ct.of [some (.ref (A 0 0))] rfl hl (by decide) (Nat.le_of_ble_eq_true rfl) rfl (fun φ C0 => ?_)
  have C := C0.1
  refine x_aload_n C 1 dX5_go_0 rfl rfl ?_
  refine xc_callV_i C 4 0 0 0 0 9 0 (cC_hasCueAbove hl hN) rfl gX5_go_X5_hasCueAbove ⟨rfl, by decide, by decide, rfl⟩ ⟨Nat.le_of_ble_eq_true rfl, Nat.le_of_ble_eq_true rfl⟩ rfl (by decide) (show 0 < 1 by decide) rfl rfl rfl (Nat.le_of_ble_eq_true rfl) ⟨Nat.le_of_ble_eq_true rfl, Nat.le_of_ble_eq_true rfl⟩ dX5_go_1 rfl rfl rfl (fun r1 w1 h1 => ?_)
  obtain ⟨rfl, rfl⟩ := h1
  refine x_top (show _ = (0 : Int32) from (congrArg bI (show decide ((poC S (n 0) (S 0 0 0 + 1)) < n 0) = false from decide_eq_false hp)).trans rfl) ?_
  refine x_if_ne C 17 7 dX5_go_4 (by decide) rfl (fun zk4 => ?_) (fun zk4 => ?_)
  · exact absurd zk4 (by decide)
  · exact x_throwS C0 (cls := "java/util/NoSuchElementException") (text := "no cue above the current one") (names := ["java/lang/RuntimeException", "java/lang/Exception"]) (List.mem_of_getElem? (i := 0) rfl) (by decide) (by decide) (List.mem_cons_of_mem _ (List.mem_append_left _ (List.mem_append_left _ (List.mem_append_left _ (List.mem_append_left _ (List.mem_append_left _ (List.mem_append_left _ (List.mem_append_left _ (List.mem_of_getElem? (i := 0) rfl))))))))) (List.mem_cons_of_mem _ (List.mem_append_left _ (List.mem_append_left _ (List.mem_append_left _ (List.mem_append_left _ (List.mem_append_left _ (List.mem_append_left _ (List.mem_append_left _ (List.mem_of_getElem? (i := 1) rfl))))))))) (fun w h => (List.mem_cons_of_mem _ (List.mem_append_left _ (List.mem_append_right _ h)))) (by decide) (by decide +kernel) (by decide +kernel) dX5_go_7 dX5_go_10 dX5_go_11 dX5_go_13 dX5_go_16 (Nat.le_of_ble_eq_true rfl) (Nat.le_of_ble_eq_true rfl) (Nat.le_of_ble_eq_true rfl) (Nat.le_of_ble_eq_true rfl) ⟨rfl, rfl⟩   
theorem fg_X5_back_16 : gF RX5 wsX5_back 16 9 1 := ⟨RX5, TX5, 11, "StageConsole", rfl, fun w h => (List.mem_cons_of_mem _ (List.mem_append_left _ (List.mem_append_left _ (List.mem_append_left _ (List.mem_append_left _ (List.mem_append_left _ (List.mem_append_right _ h))))))), by decide, (List.mem_cons_of_mem _ (List.mem_append_left _ (List.mem_append_left _ (List.mem_append_left _ (List.mem_append_left _ (List.mem_append_left _ (List.mem_append_left _ (List.mem_append_left _ (List.mem_of_getElem? (i := 2) rfl))))))))), Or.inl rfl⟩
set_option maxRecDepth 100000 in
set_option maxHeartbeats 4000000 in
theorem cC_back_0 (hl : l.stackTraces = false) (hN : CN n cap) (hp : 0 < (poC S (n 0) (S 0 0 0))) (hK : chK (S 5 ((poC S (n 0) (S 0 0 0)) - 1) 2))  : Ct (gm D a E0) l yX5_back wsX5_back { frames := 28, cells := 0, slots := 0, locals := 700 } [.ref (A 0 0)] (wC a E0 n cap A g en S) (qI fun v w => v = ppS ((poC S (n 0) (S 0 0 0)) - 1) S 0 0 0 ∧ w = wC a E0 n cap A g en (ppS ((poC S (n 0) (S 0 0 0)) - 1) S)) noX := by
  refine Ct.of [some (.ref (A 0 0))] rfl hl (by decide) (Nat.le_of_ble_eq_true rfl) rfl (fun φ C0 => ?_)
  have C := C0.1
  refine x_aload_n C 1 dX5_back_0 rfl rfl ?_
  refine xc_callV_i C 4 0 0 0 0 9 0 (cC_hasCueBelow hl hN) rfl gX5_back_X5_hasCueBelow ⟨rfl, by decide, by decide, rfl⟩ ⟨Nat.le_of_ble_eq_true rfl, Nat.le_of_ble_eq_true rfl⟩ rfl (by decide) (show 0 < 1 by decide) rfl rfl rfl (Nat.le_of_ble_eq_true rfl) ⟨Nat.le_of_ble_eq_true rfl, Nat.le_of_ble_eq_true rfl⟩ dX5_back_1 rfl rfl rfl (fun r1 w1 h1 => ?_)
  obtain ⟨rfl, rfl⟩ := h1
  refine x_top (show _ = (1 : Int32) from (congrArg bI (show decide (0 < (poC S (n 0) (S 0 0 0))) = true from decide_eq_true hp)).trans rfl) ?_
  refine x_if_ne C 17 7 dX5_back_4 (by decide) rfl (fun zk4 => ?_) (fun zk4 => ?_)
  · refine x_aload_n C 18 dX5_back_17 rfl rfl ?_
    refine x_aload_n C 19 dX5_back_18 rfl rfl ?_
    refine xc_callV_i C 22 0 0 0 0 9 0 (cC_placeBelow hl hN) rfl gX5_back_X5_placeBelow ⟨rfl, by decide, by decide, rfl⟩ ⟨Nat.le_of_ble_eq_true rfl, Nat.le_of_ble_eq_true rfl⟩ rfl (by decide) (show 0 < 1 by decide) rfl rfl rfl (Nat.le_of_ble_eq_true rfl) ⟨Nat.le_of_ble_eq_true rfl, Nat.le_of_ble_eq_true rfl⟩ dX5_back_19 rfl rfl rfl (fun r2 w2 h2 => ?_)
    obtain ⟨rfl, rfl⟩ := h2
    refine x_top (show _ = nI ((poC S (n 0) (S 0 0 0)) - 1) from kd_pos hp) ?_
    refine xc_callV_v C 25 0 0 0 0 9 1 (cC_playPlace hl hN (by have := poC_le S (n 0) (S 0 0 0); omega) hK) rfl gX5_back_X5_playPlace ⟨rfl, by decide, by decide, rfl⟩ ⟨Nat.le_of_ble_eq_true rfl, Nat.le_of_ble_eq_true rfl⟩ rfl (by decide) (show 0 < 1 by decide) rfl rfl rfl (Nat.le_of_ble_eq_true rfl) ⟨Nat.le_of_ble_eq_true rfl, Nat.le_of_ble_eq_true rfl⟩ dX5_back_22 rfl rfl rfl (fun w3 h3 => ?_)
    subst h3
    refine x_aload_n C 26 dX5_back_25 rfl rfl ?_
    refine xc_get C 29 0 0 (by decide) (show 0 < 1 by decide) rfl fg_X5_back_16 rfl dX5_back_26 rfl ?_
    exact x_zret C0 dX5_back_29 (Nat.le_of_ble_eq_true rfl) (Nat.le_of_ble_eq_true rfl) ⟨_, rfl, ⟨rfl, rfl⟩⟩
  · exact absurd zk4 (by decide)
set_option maxRecDepth 100000 in
set_option maxHeartbeats 4000000 in
theorem cC_back_1 (hl : l.stackTraces = false) (hN : CN n cap) (hp : ¬ 0 < (poC S (n 0) (S 0 0 0)))  : Ct (gm D a E0) l yX5_back wsX5_back { frames := 28, cells := 1, slots := 6, locals := 700 } [.ref (A 0 0)] (wC a E0 n cap A g en S) (qI fun _ _ => False) (fun E w => E = "java/util/NoSuchElementException" ∧ w = wC a E0 n cap A g en S) := by
  refine Ct.of [some (.ref (A 0 0))] rfl hl (by decide) (Nat.le_of_ble_eq_true rfl) rfl (fun φ C0 => ?_)
  have C := C0.1
  refine x_aload_n C 1 dX5_back_0 rfl rfl ?_
  refine xc_callV_i C 4 0 0 0 0 9 0 (cC_hasCueBelow hl hN) rfl gX5_back_X5_hasCueBelow ⟨rfl, by decide, by decide, rfl⟩ ⟨Nat.le_of_ble_eq_true rfl, Nat.le_of_ble_eq_true rfl⟩ rfl (by decide) (show 0 < 1 by decide) rfl rfl rfl (Nat.le_of_ble_eq_true rfl) ⟨Nat.le_of_ble_eq_true rfl, Nat.le_of_ble_eq_true rfl⟩ dX5_back_1 rfl rfl rfl (fun r1 w1 h1 => ?_)
  obtain ⟨rfl, rfl⟩ := h1
  refine x_top (show _ = (0 : Int32) from (congrArg bI (show decide (0 < (poC S (n 0) (S 0 0 0))) = false from decide_eq_false hp)).trans rfl) ?_
  refine x_if_ne C 17 7 dX5_back_4 (by decide) rfl (fun zk4 => ?_) (fun zk4 => ?_)
  · exact absurd zk4 (by decide)
  · exact x_throwS C0 (cls := "java/util/NoSuchElementException") (text := "no cue below the current one") (names := ["java/lang/RuntimeException", "java/lang/Exception"]) (List.mem_of_getElem? (i := 1) rfl) (by decide) (by decide) (List.mem_cons_of_mem _ (List.mem_append_left _ (List.mem_append_left _ (List.mem_append_left _ (List.mem_append_left _ (List.mem_append_left _ (List.mem_append_left _ (List.mem_append_left _ (List.mem_of_getElem? (i := 0) rfl))))))))) (List.mem_cons_of_mem _ (List.mem_append_left _ (List.mem_append_left _ (List.mem_append_left _ (List.mem_append_left _ (List.mem_append_left _ (List.mem_append_left _ (List.mem_append_left _ (List.mem_of_getElem? (i := 1) rfl))))))))) (fun w h => (List.mem_cons_of_mem _ (List.mem_append_left _ (List.mem_append_right _ h)))) (by decide) (by decide +kernel) (by decide +kernel) dX5_back_7 dX5_back_10 dX5_back_11 dX5_back_13 dX5_back_16 (Nat.le_of_ble_eq_true rfl) (Nat.le_of_ble_eq_true rfl) (Nat.le_of_ble_eq_true rfl) (Nat.le_of_ble_eq_true rfl) ⟨rfl, rfl⟩   
set_option maxRecDepth 100000 in
set_option maxHeartbeats 4000000 in
theorem cC_goTo_0 (hl : l.stackTraces = false) {x : Int32} (hN : CN n cap) (hq : hqC S (n 0) x = true) (hK : chK (S 5 (poC S (n 0) x) 2))  : Ct (gm D a E0) l yX5_goTo wsX5_goTo { frames := 28, cells := 0, slots := 0, locals := 700 } [.ref (A 0 0), .int x] (wC a E0 n cap A g en S) (qI fun v w => v = nI (fcL (ppS (poC S (n 0) x) S) 12 0 0) ∧ w = wC a E0 n cap A g en (ppS (poC S (n 0) x) S)) noX := by
  refine Ct.of [some (.ref (A 0 0)), some (.int x)] rfl hl (by decide) (Nat.le_of_ble_eq_true rfl) rfl (fun φ C0 => ?_)
  have C := C0.1
  refine x_aload_n C 1 dX5_goTo_0 rfl rfl ?_
  refine x_aload_n C 2 dX5_goTo_1 rfl rfl ?_
  refine x_iload_n C 3 dX5_goTo_2 rfl rfl ?_
  refine xc_callV_i C 6 0 0 0 0 9 1 (cC_requireCue_0 hl hN hq) rfl gX5_goTo_X5_requireCue ⟨rfl, by decide, by decide, rfl⟩ ⟨Nat.le_of_ble_eq_true rfl, Nat.le_of_ble_eq_true rfl⟩ rfl (by decide) (show 0 < 1 by decide) rfl rfl rfl (Nat.le_of_ble_eq_true rfl) ⟨Nat.le_of_ble_eq_true rfl, Nat.le_of_ble_eq_true rfl⟩ dX5_goTo_3 rfl rfl rfl (fun r1 w1 h1 => ?_)
  obtain ⟨rfl, rfl⟩ := h1
  refine xc_callV_v C 9 0 0 0 0 9 1 (cC_playPlace hl hN (hqC_lt hq).1 hK) rfl gX5_goTo_X5_playPlace ⟨rfl, by decide, by decide, rfl⟩ ⟨Nat.le_of_ble_eq_true rfl, Nat.le_of_ble_eq_true rfl⟩ rfl (by decide) (show 0 < 1 by decide) rfl rfl rfl (Nat.le_of_ble_eq_true rfl) ⟨Nat.le_of_ble_eq_true rfl, Nat.le_of_ble_eq_true rfl⟩ dX5_goTo_6 rfl rfl rfl (fun w2 h2 => ?_)
  subst h2
  refine x_aload_n C 10 dX5_goTo_9 rfl rfl ?_
  refine xc_callV_i C 13 0 0 0 0 9 0 (cC_fadingChannels hl) rfl gX5_goTo_X5_fadingChannels ⟨rfl, by decide, by decide, rfl⟩ ⟨Nat.le_of_ble_eq_true rfl, Nat.le_of_ble_eq_true rfl⟩ rfl (by decide) (show 0 < 1 by decide) rfl rfl rfl (Nat.le_of_ble_eq_true rfl) ⟨Nat.le_of_ble_eq_true rfl, Nat.le_of_ble_eq_true rfl⟩ dX5_goTo_10 rfl rfl rfl (fun r3 w3 h3 => ?_)
  obtain ⟨rfl, rfl⟩ := h3
  exact x_zret C0 dX5_goTo_13 (Nat.le_of_ble_eq_true rfl) (Nat.le_of_ble_eq_true rfl) ⟨_, rfl, ⟨rfl, rfl⟩⟩
set_option maxRecDepth 100000 in
set_option maxHeartbeats 4000000 in
theorem cC_goTo_1 (hl : l.stackTraces = false) {x : Int32} (hN : CN n cap) (hq : hqC S (n 0) x = false)  : Ct (gm D a E0) l yX5_goTo wsX5_goTo { frames := 28, cells := 1, slots := 6, locals := 700 } [.ref (A 0 0), .int x] (wC a E0 n cap A g en S) (qI fun _ _ => False) (fun E w => E = "java/util/NoSuchElementException" ∧ w = wC a E0 n cap A g en S) := by
  refine Ct.of [some (.ref (A 0 0)), some (.int x)] rfl hl (by decide) (Nat.le_of_ble_eq_true rfl) rfl (fun φ C0 => ?_)
  have C := C0.1
  refine x_aload_n C 1 dX5_goTo_0 rfl rfl ?_
  refine x_aload_n C 2 dX5_goTo_1 rfl rfl ?_
  refine x_iload_n C 3 dX5_goTo_2 rfl rfl ?_
  exact xc_callVx_i C0 6 1 6 0 0 9 1 (cC_requireCue_1 hl hN hq) rfl gX5_goTo_X5_requireCue ⟨rfl, by decide, by decide, rfl⟩ ⟨Nat.le_of_ble_eq_true rfl, Nat.le_of_ble_eq_true rfl⟩ rfl (by decide) (show 0 < 1 by decide) rfl rfl rfl (Nat.le_of_ble_eq_true rfl) ⟨Nat.le_of_ble_eq_true rfl, Nat.le_of_ble_eq_true rfl⟩ dX5_goTo_3 rfl rfl rfl (fun _ _ h => h.elim) (fun E w h => h)
theorem fg_X5_pass_20 : gF RX5 wsX5_pass 20 9 2 := ⟨RX5, TX5, 11, "StageConsole", rfl, fun w h => (List.mem_cons_of_mem _ (List.mem_append_left _ (List.mem_append_left _ (List.mem_append_left _ (List.mem_append_left _ (List.mem_append_left _ (List.mem_append_left _ (List.mem_append_left _ (List.mem_append_right _ h))))))))), by decide, (List.mem_cons_of_mem _ (List.mem_append_left _ (List.mem_append_left _ (List.mem_append_left _ (List.mem_append_left _ (List.mem_append_left _ (List.mem_append_left _ (List.mem_append_left _ (List.mem_append_left _ (List.mem_append_left _ (List.mem_of_getElem? (i := 2) rfl))))))))))), Or.inl rfl⟩
set_option maxRecDepth 100000 in
set_option maxHeartbeats 4000000 in
theorem cC_pass_0 (hl : l.stackTraces = false) {t : Nat} (ht : t ≤ 100) (hb : tkB (nI t) = true) (hN : CN n cap) (hE : CE n g S) (hF : CF S)  : Ct (gm D a E0) l yX5_pass wsX5_pass { frames := 32, cells := 0, slots := 0, locals := 800 } [.ref (A 0 0), .int (nI t)] (wC a E0 n cap A g en S) (qI fun v w => v = (tcL g (n 1) (n 2) t S en).1 0 0 1 ∧ w = wC a E0 n cap A g (tcL g (n 1) (n 2) t S en).2 (tcL g (n 1) (n 2) t S en).1) noX := by
  refine Ct.of [some (.ref (A 0 0)), some (.int (nI t))] rfl hl (by decide) (Nat.le_of_ble_eq_true rfl) rfl (fun φ C0 => ?_)
  have C := C0.1
  refine x_iload_n C 1 dX5_pass_0 rfl rfl ?_
  refine x_callS0_i C 4 0 0 1 (cC_isPassing hl) rfl gX5_pass_X5_isPassing ⟨by decide, by decide, rfl⟩ ⟨Nat.le_of_ble_eq_true rfl, Nat.le_of_ble_eq_true rfl⟩ rfl rfl (Nat.le_of_ble_eq_true rfl) ⟨Nat.le_of_ble_eq_true rfl, Nat.le_of_ble_eq_true rfl⟩ dX5_pass_1 rfl rfl rfl (fun r1 w1 h1 => ?_)
  obtain ⟨rfl, rfl⟩ := h1
  refine x_top (show _ = (1 : Int32) from (congrArg bI (show tkB (nI t) = true from hb)).trans rfl) ?_
  refine x_if_ne C 17 7 dX5_pass_4 (by decide) rfl (fun zk4 => ?_) (fun zk4 => ?_)
  · refine x_aload_n C 18 dX5_pass_17 rfl rfl ?_
    refine x_iload_n C 19 dX5_pass_18 rfl rfl ?_
    refine xc_callV_v C 22 0 0 0 0 9 1 (cC_passTicks hl ht hN hE hF) rfl gX5_pass_X5_passTicks ⟨rfl, by decide, by decide, rfl⟩ ⟨Nat.le_of_ble_eq_true rfl, Nat.le_of_ble_eq_true rfl⟩ rfl (by decide) (show 0 < 1 by decide) rfl rfl rfl (Nat.le_of_ble_eq_true rfl) ⟨Nat.le_of_ble_eq_true rfl, Nat.le_of_ble_eq_true rfl⟩ dX5_pass_19 rfl rfl rfl (fun w2 h2 => ?_)
    subst h2
    refine x_aload_n C 23 dX5_pass_22 rfl rfl ?_
    refine xc_get C 26 0 0 (by decide) (show 0 < 1 by decide) rfl fg_X5_pass_20 rfl dX5_pass_23 rfl ?_
    exact x_zret C0 dX5_pass_26 (Nat.le_of_ble_eq_true rfl) (Nat.le_of_ble_eq_true rfl) ⟨_, rfl, ⟨rfl, rfl⟩⟩
  · exact absurd zk4 (by decide)
set_option maxRecDepth 100000 in
set_option maxHeartbeats 4000000 in
theorem cC_pass_1 (hl : l.stackTraces = false) {x : Int32} (hb : tkB x = false)  : Ct (gm D a E0) l yX5_pass wsX5_pass { frames := 32, cells := 1, slots := 6, locals := 800 } [.ref (A 0 0), .int x] (wC a E0 n cap A g en S) (qI fun _ _ => False) (fun E w => E = "java/lang/IllegalArgumentException" ∧ w = wC a E0 n cap A g en S) := by
  refine Ct.of [some (.ref (A 0 0)), some (.int x)] rfl hl (by decide) (Nat.le_of_ble_eq_true rfl) rfl (fun φ C0 => ?_)
  have C := C0.1
  refine x_iload_n C 1 dX5_pass_0 rfl rfl ?_
  refine x_callS0_i C 4 0 0 1 (cC_isPassing hl) rfl gX5_pass_X5_isPassing ⟨by decide, by decide, rfl⟩ ⟨Nat.le_of_ble_eq_true rfl, Nat.le_of_ble_eq_true rfl⟩ rfl rfl (Nat.le_of_ble_eq_true rfl) ⟨Nat.le_of_ble_eq_true rfl, Nat.le_of_ble_eq_true rfl⟩ dX5_pass_1 rfl rfl rfl (fun r1 w1 h1 => ?_)
  obtain ⟨rfl, rfl⟩ := h1
  refine x_top (show _ = (0 : Int32) from (congrArg bI (show tkB x = false from hb)).trans rfl) ?_
  refine x_if_ne C 17 7 dX5_pass_4 (by decide) rfl (fun zk4 => ?_) (fun zk4 => ?_)
  · exact absurd zk4 (by decide)
  · exact x_throwS C0 (cls := "java/lang/IllegalArgumentException") (text := "number of ticks") (names := ["java/lang/RuntimeException", "java/lang/Exception"]) (List.mem_of_getElem? (i := 2) rfl) (by decide) (by decide) (List.mem_cons_of_mem _ (List.mem_append_left _ (List.mem_append_left _ (List.mem_append_left _ (List.mem_append_left _ (List.mem_append_left _ (List.mem_append_left _ (List.mem_append_left _ (List.mem_append_left _ (List.mem_append_left _ (List.mem_of_getElem? (i := 0) rfl))))))))))) (List.mem_cons_of_mem _ (List.mem_append_left _ (List.mem_append_left _ (List.mem_append_left _ (List.mem_append_left _ (List.mem_append_left _ (List.mem_append_left _ (List.mem_append_left _ (List.mem_append_left _ (List.mem_append_left _ (List.mem_of_getElem? (i := 1) rfl))))))))))) (fun w h => (List.mem_cons_of_mem _ (List.mem_append_left _ (List.mem_append_left _ (List.mem_append_right _ h))))) (by decide) (by decide +kernel) (by decide +kernel) dX5_pass_7 dX5_pass_10 dX5_pass_11 dX5_pass_13 dX5_pass_16 (Nat.le_of_ble_eq_true rfl) (Nat.le_of_ble_eq_true rfl) (Nat.le_of_ble_eq_true rfl) (Nat.le_of_ble_eq_true rfl) ⟨rfl, rfl⟩   
theorem fg_X5_currentCue_16 : gF RX5 wsX5_currentCue 16 9 1 := ⟨RX5, TX5, 11, "StageConsole", rfl, fun w h => (List.mem_cons_of_mem _ (List.mem_append_right _ h)), by decide, (List.mem_cons_of_mem _ (List.mem_append_left _ (List.mem_of_getElem? (i := 0) rfl))), Or.inl rfl⟩
set_option maxRecDepth 100000 in
set_option maxHeartbeats 4000000 in
theorem cC_currentCue (hl : l.stackTraces = false)  : Ct (gm D a E0) l yX5_currentCue wsX5_currentCue { frames := 4, cells := 0, slots := 0, locals := 100 } [.ref (A 0 0)] (wC a E0 n cap A g en S) (qI fun v w => v = S 0 0 0 ∧ w = wC a E0 n cap A g en S) noX := by
  refine Ct.of [some (.ref (A 0 0))] rfl hl (by decide) (Nat.le_of_ble_eq_true rfl) rfl (fun φ C0 => ?_)
  have C := C0.1
  refine x_aload_n C 1 dX5_currentCue_0 rfl rfl ?_
  refine xc_get C 4 0 0 (by decide) (show 0 < 1 by decide) rfl fg_X5_currentCue_16 rfl dX5_currentCue_1 rfl ?_
  exact x_zret C0 dX5_currentCue_4 (Nat.le_of_ble_eq_true rfl) (Nat.le_of_ble_eq_true rfl) ⟨_, rfl, ⟨rfl, rfl⟩⟩
theorem fg_X5_cueLevel_25 : gF RX5 wsX5_cueLevel 25 9 3 := ⟨RX5, TX5, 11, "StageConsole", rfl, fun w h => (List.mem_cons_of_mem _ (List.mem_append_left _ (List.mem_append_left _ (List.mem_append_right _ h)))), by decide, (List.mem_cons_of_mem _ (List.mem_append_left _ (List.mem_append_left _ (List.mem_append_left _ (List.mem_of_getElem? (i := 0) rfl))))), Or.inl rfl⟩
theorem fg_X5_cueLevel_164 : gF RX5 wsX5_cueLevel 164 4 0 := ⟨RX0, TX0, 9, "StageConsole$Channel", rfl, fun w h => (List.mem_cons_of_mem _ (List.mem_append_left _ (List.mem_append_right _ h))), by decide, (List.mem_cons_of_mem _ (List.mem_append_left _ (List.mem_append_left _ (List.mem_append_left _ (List.mem_of_getElem? (i := 1) rfl))))), Or.inl rfl⟩
set_option maxRecDepth 100000 in
set_option maxHeartbeats 4000000 in
theorem cC_cueLevel_0 (hl : l.stackTraces = false) {c : Nat} (hc : c < 12)  : Ct (gm D a E0) l yX5_cueLevel wsX5_cueLevel { frames := 16, cells := 0, slots := 0, locals := 400 } [.ref (A 0 0), .int (nI c)] (wC a E0 n cap A g en S) (qI fun v w => v = S 4 c 0 ∧ w = wC a E0 n cap A g en S) noX := by
  refine Ct.of [some (.ref (A 0 0)), some (.int (nI c))] rfl hl (by decide) (Nat.le_of_ble_eq_true rfl) rfl (fun φ C0 => ?_)
  have C := C0.1
  refine x_iload_n C 1 dX5_cueLevel_0 rfl rfl ?_
  refine x_callS0_v C 4 0 0 1 (cC_requireChannel_0 hl (chB_nI hc)) rfl gX5_cueLevel_X5_requireChannel ⟨by decide, by decide, rfl⟩ ⟨Nat.le_of_ble_eq_true rfl, Nat.le_of_ble_eq_true rfl⟩ rfl rfl (Nat.le_of_ble_eq_true rfl) ⟨Nat.le_of_ble_eq_true rfl, Nat.le_of_ble_eq_true rfl⟩ dX5_cueLevel_1 rfl rfl rfl (fun w1 h1 => ?_)
  subst h1
  refine x_aload_n C 5 dX5_cueLevel_4 rfl rfl ?_
  refine xc_get C 8 0 0 (by decide) (show 0 < 1 by decide) rfl fg_X5_cueLevel_25 rfl dX5_cueLevel_5 rfl ?_
  refine x_iload_n C 9 dX5_cueLevel_8 rfl rfl ?_
  refine xc_chan C 10 c rfl (by omega) dX5_cueLevel_9 rfl ?_
  refine xc_get C 13 4 c (by decide) (show c < 12 from by omega) rfl fg_X5_cueLevel_164 rfl dX5_cueLevel_10 rfl ?_
  exact x_zret C0 dX5_cueLevel_13 (Nat.le_of_ble_eq_true rfl) (Nat.le_of_ble_eq_true rfl) ⟨_, rfl, ⟨rfl, rfl⟩⟩
set_option maxRecDepth 100000 in
set_option maxHeartbeats 4000000 in
theorem cC_cueLevel_1 (hl : l.stackTraces = false) {z : Int32} (hc : chB z = false)  : Ct (gm D a E0) l yX5_cueLevel wsX5_cueLevel { frames := 16, cells := 1, slots := 6, locals := 400 } [.ref (A 0 0), .int z] (wC a E0 n cap A g en S) (qI fun _ _ => False) (fun E w => E = "java/lang/IndexOutOfBoundsException" ∧ w = wC a E0 n cap A g en S) := by
  refine Ct.of [some (.ref (A 0 0)), some (.int z)] rfl hl (by decide) (Nat.le_of_ble_eq_true rfl) rfl (fun φ C0 => ?_)
  have C := C0.1
  refine x_iload_n C 1 dX5_cueLevel_0 rfl rfl ?_
  exact x_callSx0_v C0 4 1 6 1 (cC_requireChannel_1 hl hc) rfl gX5_cueLevel_X5_requireChannel ⟨by decide, by decide, rfl⟩ ⟨Nat.le_of_ble_eq_true rfl, Nat.le_of_ble_eq_true rfl⟩ rfl rfl (Nat.le_of_ble_eq_true rfl) ⟨Nat.le_of_ble_eq_true rfl, Nat.le_of_ble_eq_true rfl⟩ dX5_cueLevel_1 rfl rfl rfl (fun _ h => h.elim) (fun E w h => h)
theorem fg_X5_addGroup_29 : gF RX5 wsX5_addGroup 29 9 4 := ⟨RX5, TX5, 11, "StageConsole", rfl, fun w h => (List.mem_cons_of_mem _ (List.mem_append_left _ (List.mem_append_left _ (List.mem_append_left _ (List.mem_append_right _ h))))), by decide, (List.mem_cons_of_mem _ (List.mem_append_left _ (List.mem_append_left _ (List.mem_append_left _ (List.mem_append_left _ (List.mem_append_left _ (List.mem_of_getElem? (i := 2) rfl))))))), Or.inl rfl⟩
set_option maxRecDepth 100000 in
set_option maxHeartbeats 4000000 in
theorem cC_addGroup_0 (hl : l.stackTraces = false) (hN : CN n cap) (hn : n 1 < 5) (hcap : n 1 < cap 1 ∨ cap 1 = 0) (hg : ∀ i, i < n 2 → g i < n 1)  : Ct (gm D a E0) l yX5_addGroup wsX5_addGroup { frames := 28, cells := 3, slots := 36, locals := 700 } [.ref (A 0 0)] (wC a E0 n cap A g en S) (qI fun v w => v = nI (n 1) ∧ ∃ q r e c2, CapN (cap 1) (n 1) c2 ∧ w = wC a E0 (updN n 1 (n 1 + 1)) (updN cap 1 c2) (upC (ins1 (ins1 A 7 (n 1) q) 8 (n 1) r) 12 0 e) g en (uS (ins1 (ins1 S 7 (n 1) (fun _ => 0)) 8 (n 1) (fun _ => 0)) 3 1 0 (S 3 1 0 + 1))) noX := by
  refine Ct.of [some (.ref (A 0 0))] rfl hl (by decide) (Nat.le_of_ble_eq_true rfl) rfl (fun φ C0 => ?_)
  have C := C0.1
  refine x_aload_n C 1 dX5_addGroup_0 rfl rfl ?_
  refine xc_get C 4 0 0 (by decide) (show 0 < 1 by decide) rfl fg_X5_addGroup_29 rfl dX5_addGroup_1 rfl ?_
  refine xc_callV_i C 7 0 0 3 1 3 0 (cC_size hl (j := 1) (by decide)) rfl gX5_addGroup_Jx4a65c_size_8abf5 ⟨rfl, by decide, by decide, rfl⟩ ⟨Nat.le_of_ble_eq_true rfl, Nat.le_of_ble_eq_true rfl⟩ rfl (by decide) (show 1 < 4 by decide) rfl rfl rfl (Nat.le_of_ble_eq_true rfl) ⟨Nat.le_of_ble_eq_true rfl, Nat.le_of_ble_eq_true rfl⟩ dX5_addGroup_4 rfl rfl rfl (fun r1 w1 h1 => ?_)
  obtain ⟨rfl, rfl⟩ := h1
  refine x_iconst (v := (5)) C 8 dX5_addGroup_7 (by decide) rfl ?_
  have h5 := hN.2.2.1
  refine x_icmp_lt C 21 11 dX5_addGroup_8 (by decide) rfl (fun zk8 => ?_) (fun zk8 => ?_)
  · have zk8 := (nI_ltI (a := (n 1)) (b := 5) (by omega) (by omega)).mp zk8
    refine x_aload_n C 22 dX5_addGroup_21 rfl rfl ?_
    refine xc_get C 25 0 0 (by decide) (show 0 < 1 by decide) rfl fg_X5_addGroup_29 rfl dX5_addGroup_22 rfl ?_
    refine x_new C 28 7 [.null, .int 0] (fun w h => (List.mem_cons_of_mem _ (List.mem_append_left _ (List.mem_append_left _ (List.mem_append_right _ h))))) tyX3_ok (List.mem_cons_of_mem _ (List.mem_append_left _ (List.mem_append_left _ (List.mem_append_left _ (List.mem_append_left _ (List.mem_append_left _ (List.mem_of_getElem? (i := 3) rfl))))))) (List.mem_cons_of_mem _ (List.mem_append_left _ (List.mem_append_left _ (List.mem_append_left _ (List.mem_append_left _ (List.mem_append_left _ (List.mem_of_getElem? (i := 4) rfl))))))) (List.mem_cons_of_mem _ (List.mem_append_left _ (List.mem_append_left _ (List.mem_append_left _ (List.mem_append_left _ (List.mem_append_left _ (List.mem_of_getElem? (i := 5) rfl))))))) rfl (fun j hj => match j, hj with | 0, _ => rfl | 1, _ => rfl | z + 2, hz => absurd hz (by omega)) (Nat.le_of_ble_eq_true rfl) (Nat.le_of_ble_eq_true rfl) dX5_addGroup_25 rfl (fun q => ?_)
    refine x_dup C 29 dX5_addGroup_28 rfl rfl ?_
    refine x_perm (List.perm_append_comm) ?_
    refine x_callN1 C 32 2 14 0 (cC_initGr hl) rfl gX5_addGroup_X3_init_n179 (List.mem_cons_of_mem _ (List.mem_append_left _ (List.mem_append_left _ (List.mem_append_left _ (List.mem_append_left _ (List.mem_append_left _ (List.mem_of_getElem? (i := 5) rfl))))))) (fun U h => h.2.2.2.2.2.2.2.2.2) (List.mem_cons_of_mem _ (List.mem_append_left _ (List.mem_append_left _ (List.mem_append_left _ (List.mem_append_left _ (List.mem_append_left _ (List.mem_of_getElem? (i := 12) rfl))))))) rfl ⟨by decide, by decide, rfl⟩ ⟨Nat.le_of_ble_eq_true rfl, Nat.le_of_ble_eq_true rfl⟩ rfl rfl (Nat.le_of_ble_eq_true rfl) ⟨Nat.le_of_ble_eq_true rfl, Nat.le_of_ble_eq_true rfl⟩ dX5_addGroup_29 rfl rfl rfl (fun w h => ?_)
    obtain ⟨r, rfl⟩ := h
    refine x_perm (List.perm_append_comm) ?_
    obtain ⟨q0, fs0, -, hq0⟩ := wC_pos (a := a) (E0 := E0) (n := n) (cap := cap) (A := A) (g := g) (en := en) (S := S) (j := 1) (by decide)
    refine x_callV0_i C 35 3 36 q0 3 1 (cC_add1 hl (hN.1 1 (by decide)).1 (hN.1 1 (by decide)).2 hcap hg) rfl gX5_addGroup_Jx4a65c_add_9ea2d ⟨rfl, by decide, by decide, rfl⟩ ⟨Nat.le_of_ble_eq_true rfl, Nat.le_of_ble_eq_true rfl⟩ rfl (hq0 _) rfl rfl (Nat.le_of_ble_eq_true rfl) ⟨Nat.le_of_ble_eq_true rfl, Nat.le_of_ble_eq_true rfl⟩ dX5_addGroup_32 rfl rfl rfl (fun r9 w h => ?_)
    obtain ⟨rfl, e, c2, hcN, rfl⟩ := h
    refine x_pop C 36 dX5_addGroup_35 rfl rfl ?_
    refine x_aload_n C 37 dX5_addGroup_36 rfl rfl ?_
    refine xc_get C 40 0 0 (by decide) (show 0 < 1 by decide) rfl fg_X5_addGroup_29 rfl dX5_addGroup_37 rfl ?_
    refine xc_callV_i C 43 3 36 3 1 3 0 (cC_size hl (j := 1) (by decide)) rfl gX5_addGroup_Jx4a65c_size_8abf5 ⟨rfl, by decide, by decide, rfl⟩ ⟨Nat.le_of_ble_eq_true rfl, Nat.le_of_ble_eq_true rfl⟩ rfl (by decide) (show 1 < 4 by decide) rfl rfl rfl (Nat.le_of_ble_eq_true rfl) ⟨Nat.le_of_ble_eq_true rfl, Nat.le_of_ble_eq_true rfl⟩ dX5_addGroup_40 rfl rfl rfl (fun r2 w2 h2 => ?_)
    obtain ⟨rfl, rfl⟩ := h2
    refine x_top (show _ = nI (n 1 + 1) from by rw [updN_s]) ?_
    refine x_iconst (v := (1)) C 44 dX5_addGroup_43 (by decide) rfl ?_
    refine x_isub C 45 dX5_addGroup_44 rfl ?_
    refine x_top (show _ = nI (n 1) from (pk_sub (a := n 1 + 1) (b := 1) (by omega)).trans (by rw [Nat.add_sub_cancel])) ?_
    exact x_zret C0 dX5_addGroup_45 (Nat.le_of_ble_eq_true rfl) (Nat.le_of_ble_eq_true rfl) ⟨_, rfl, ⟨rfl, q, r, e, c2, hcN, rfl⟩⟩
  · have zk8 := mt (nI_ltI (a := (n 1)) (b := 5) (by omega) (by omega)).mpr zk8
    exfalso; omega
set_option maxRecDepth 100000 in
set_option maxHeartbeats 4000000 in
theorem cC_addGroup_1 (hl : l.stackTraces = false) (hN : CN n cap) (hn : ¬ n 1 < 5)  : Ct (gm D a E0) l yX5_addGroup wsX5_addGroup { frames := 28, cells := 1, slots := 6, locals := 700 } [.ref (A 0 0)] (wC a E0 n cap A g en S) (qI fun _ _ => False) (fun E w => E = "java/lang/IllegalStateException" ∧ w = wC a E0 n cap A g en S) := by
  refine Ct.of [some (.ref (A 0 0))] rfl hl (by decide) (Nat.le_of_ble_eq_true rfl) rfl (fun φ C0 => ?_)
  have C := C0.1
  refine x_aload_n C 1 dX5_addGroup_0 rfl rfl ?_
  refine xc_get C 4 0 0 (by decide) (show 0 < 1 by decide) rfl fg_X5_addGroup_29 rfl dX5_addGroup_1 rfl ?_
  refine xc_callV_i C 7 0 0 3 1 3 0 (cC_size hl (j := 1) (by decide)) rfl gX5_addGroup_Jx4a65c_size_8abf5 ⟨rfl, by decide, by decide, rfl⟩ ⟨Nat.le_of_ble_eq_true rfl, Nat.le_of_ble_eq_true rfl⟩ rfl (by decide) (show 1 < 4 by decide) rfl rfl rfl (Nat.le_of_ble_eq_true rfl) ⟨Nat.le_of_ble_eq_true rfl, Nat.le_of_ble_eq_true rfl⟩ dX5_addGroup_4 rfl rfl rfl (fun r1 w1 h1 => ?_)
  obtain ⟨rfl, rfl⟩ := h1
  refine x_iconst (v := (5)) C 8 dX5_addGroup_7 (by decide) rfl ?_
  have h5 := hN.2.2.1
  refine x_icmp_lt C 21 11 dX5_addGroup_8 (by decide) rfl (fun zk8 => ?_) (fun zk8 => ?_)
  · have zk8 := (nI_ltI (a := (n 1)) (b := 5) (by omega) (by omega)).mp zk8
    exfalso; omega
  · have zk8 := mt (nI_ltI (a := (n 1)) (b := 5) (by omega) (by omega)).mpr zk8
    exact x_throwS C0 (cls := "java/lang/IllegalStateException") (text := "no room for another group") (names := ["java/lang/RuntimeException", "java/lang/Exception"]) (List.mem_of_getElem? (i := 10) rfl) (by decide) (by decide) (List.mem_cons_of_mem _ (List.mem_append_left _ (List.mem_append_left _ (List.mem_append_left _ (List.mem_append_left _ (List.mem_append_left _ (List.mem_of_getElem? (i := 0) rfl))))))) (List.mem_cons_of_mem _ (List.mem_append_left _ (List.mem_append_left _ (List.mem_append_left _ (List.mem_append_left _ (List.mem_append_left _ (List.mem_of_getElem? (i := 1) rfl))))))) (fun w h => (List.mem_cons_of_mem _ (List.mem_append_right _ h))) (by decide) (by decide +kernel) (by decide +kernel) dX5_addGroup_11 dX5_addGroup_14 dX5_addGroup_15 dX5_addGroup_17 dX5_addGroup_20 (Nat.le_of_ble_eq_true rfl) (Nat.le_of_ble_eq_true rfl) (Nat.le_of_ble_eq_true rfl) (Nat.le_of_ble_eq_true rfl) ⟨rfl, rfl⟩   
theorem fg_X5_setMember_29 : gF RX5 wsX5_setMember 29 9 4 := ⟨RX5, TX5, 11, "StageConsole", rfl, fun w h => (List.mem_cons_of_mem _ (List.mem_append_left _ (List.mem_append_left _ (List.mem_append_left _ (List.mem_append_left _ (List.mem_append_right _ h)))))), by decide, (List.mem_cons_of_mem _ (List.mem_append_left _ (List.mem_append_left _ (List.mem_append_left _ (List.mem_append_left _ (List.mem_append_left _ (List.mem_append_left _ (List.mem_of_getElem? (i := 0) rfl)))))))), Or.inl rfl⟩
theorem fg_X5_setMember_186 : gF RX5 wsX5_setMember 186 7 0 := ⟨RX3, TX3, 2, "StageConsole$Group", rfl, fun w h => (List.mem_cons_of_mem _ (List.mem_append_left _ (List.mem_append_left _ (List.mem_append_left _ (List.mem_append_right _ h))))), by decide, (List.mem_cons_of_mem _ (List.mem_append_left _ (List.mem_append_left _ (List.mem_append_left _ (List.mem_append_left _ (List.mem_append_left _ (List.mem_append_left _ (List.mem_of_getElem? (i := 2) rfl)))))))), Or.inl rfl⟩
set_option maxRecDepth 100000 in
set_option maxHeartbeats 4000000 in
theorem cC_setMember_0 (hl : l.stackTraces = false) {b : Bool} (hN : CN n cap) {G : Nat} (hG : G < n 1) {c : Nat} (hc : c < 12) (hbo : boK (S 8 G c))  : Ct (gm D a E0) l yX5_setMember wsX5_setMember { frames := 28, cells := 0, slots := 0, locals := 700 } [.ref (A 0 0), .int (nI G), .int (nI c), .int (bI b)] (wC a E0 n cap A g en S) (qI fun v w => v = S 8 G c ∧ w = wC a E0 n cap A g en (uS S 8 G c (bI b))) noX := by
  refine Ct.of [some (.ref (A 0 0)), some (.int (nI G)), some (.int (nI c)), some (.int (bI b)), none, none] rfl hl (by decide) (Nat.le_of_ble_eq_true rfl) rfl (fun φ C0 => ?_)
  have C := C0.1
  refine x_aload_n C 1 dX5_setMember_0 rfl rfl ?_
  refine x_iload_n C 2 dX5_setMember_1 rfl rfl ?_
  refine xc_callV_v C 5 0 0 0 0 9 1 (cC_requireGroup_0 hl (upB_nI (by have := hN.2.2.1; omega) hG)) rfl gX5_setMember_X5_requireGroup ⟨rfl, by decide, by decide, rfl⟩ ⟨Nat.le_of_ble_eq_true rfl, Nat.le_of_ble_eq_true rfl⟩ rfl (by decide) (show 0 < 1 by decide) rfl rfl rfl (Nat.le_of_ble_eq_true rfl) ⟨Nat.le_of_ble_eq_true rfl, Nat.le_of_ble_eq_true rfl⟩ dX5_setMember_2 rfl rfl rfl (fun w1 h1 => ?_)
  subst h1
  refine x_iload_n C 6 dX5_setMember_5 rfl rfl ?_
  refine x_callS0_v C 9 0 0 1 (cC_requireChannel_0 hl (chB_nI hc)) rfl gX5_setMember_X5_requireChannel ⟨by decide, by decide, rfl⟩ ⟨Nat.le_of_ble_eq_true rfl, Nat.le_of_ble_eq_true rfl⟩ rfl rfl (Nat.le_of_ble_eq_true rfl) ⟨Nat.le_of_ble_eq_true rfl, Nat.le_of_ble_eq_true rfl⟩ dX5_setMember_6 rfl rfl rfl (fun w2 h2 => ?_)
  subst h2
  have h5 := hN.2.2.1
  refine x_aload_n C 10 dX5_setMember_9 rfl rfl ?_
  refine xc_get C 13 0 0 (by decide) (show 0 < 1 by decide) rfl fg_X5_setMember_29 rfl dX5_setMember_10 rfl ?_
  refine x_iload_n C 14 dX5_setMember_13 rfl rfl ?_
  refine xc_callV_q C 17 0 0 3 1 3 1 (cC_get hl (j := 1) (by decide) (i := G) (by omega) (hN.1 1 (by decide)).1 (hN.1 1 (by decide)).2) rfl gX5_setMember_Jx4a65c_get_915e3 ⟨rfl, by decide, by decide, rfl⟩ ⟨Nat.le_of_ble_eq_true rfl, Nat.le_of_ble_eq_true rfl⟩ rfl (by decide) (show 1 < 4 by decide) rfl rfl rfl (Nat.le_of_ble_eq_true rfl) ⟨Nat.le_of_ble_eq_true rfl, Nat.le_of_ble_eq_true rfl⟩ dX5_setMember_14 rfl rfl rfl (fun r3 w3 h3 => ?_)
  obtain ⟨rfl, rfl⟩ := h3
  refine x_topq (show _ = Value.ref (A 7 G) from rfl) ?_
  refine xc_castS C 20 7 G (by decide) (show G < n 1 from by omega) rfl rfl (List.mem_cons_of_mem _ (List.mem_append_left _ (List.mem_append_left _ (List.mem_append_left _ (List.mem_append_left _ (List.mem_append_left _ (List.mem_append_left _ (List.mem_of_getElem? (i := 1) rfl)))))))) dX5_setMember_17 rfl ?_
  refine xc_get C 23 7 G (by decide) (show G < n 1 from by omega) rfl fg_X5_setMember_186 rfl dX5_setMember_20 rfl ?_
  refine x_astore C 25 dX5_setMember_23 (by decide) rfl rfl ?_
  refine x_aload C 27 dX5_setMember_25 rfl rfl ?_
  refine x_iload_n C 28 dX5_setMember_27 rfl rfl ?_
  refine xc_zald C 29 8 G c (by decide) (show G < n 1 from by omega) rfl rfl (by omega) dX5_setMember_28 rfl ?_
  refine x_nm (fun bf ebf => ?_)
  refine x_istore C 31 dX5_setMember_29 (by decide) rfl rfl ?_
  refine x_aload C 33 dX5_setMember_31 rfl rfl ?_
  refine x_iload_n C 34 dX5_setMember_33 rfl rfl ?_
  refine x_iload_n C 35 dX5_setMember_34 rfl rfl ?_
  refine xc_zast C 36 8 G c (by decide) (show G < n 1 from by omega) (fun _ => rfl) rfl (by omega) (bI_arr _) dX5_setMember_35 rfl ?_
  refine x_iload C 38 dX5_setMember_36 rfl rfl ?_
  exact x_nret C0 rfl (by rw [ebf]; exact hbo.1) dX5_setMember_38 (Nat.le_of_ble_eq_true rfl) (Nat.le_of_ble_eq_true rfl) ⟨_, rfl, ⟨ebf, rfl⟩⟩
set_option maxRecDepth 100000 in
set_option maxHeartbeats 4000000 in
theorem cC_setMember_1 (hl : l.stackTraces = false) {x z : Int32} {b : Bool} (hx : upB (n 1) x = false)  : Ct (gm D a E0) l yX5_setMember wsX5_setMember { frames := 28, cells := 1, slots := 6, locals := 700 } [.ref (A 0 0), .int x, .int z, .int (bI b)] (wC a E0 n cap A g en S) (qI fun _ _ => False) (fun E w => E = "java/lang/IndexOutOfBoundsException" ∧ w = wC a E0 n cap A g en S) := by
  refine Ct.of [some (.ref (A 0 0)), some (.int x), some (.int z), some (.int (bI b)), none, none] rfl hl (by decide) (Nat.le_of_ble_eq_true rfl) rfl (fun φ C0 => ?_)
  have C := C0.1
  refine x_aload_n C 1 dX5_setMember_0 rfl rfl ?_
  refine x_iload_n C 2 dX5_setMember_1 rfl rfl ?_
  exact xc_callVx_v C0 5 1 6 0 0 9 1 (cC_requireGroup_1 hl hx) rfl gX5_setMember_X5_requireGroup ⟨rfl, by decide, by decide, rfl⟩ ⟨Nat.le_of_ble_eq_true rfl, Nat.le_of_ble_eq_true rfl⟩ rfl (by decide) (show 0 < 1 by decide) rfl rfl rfl (Nat.le_of_ble_eq_true rfl) ⟨Nat.le_of_ble_eq_true rfl, Nat.le_of_ble_eq_true rfl⟩ dX5_setMember_2 rfl rfl rfl (fun _ h => h.elim) (fun E w h => h)
set_option maxRecDepth 100000 in
set_option maxHeartbeats 4000000 in
theorem cC_setMember_2 (hl : l.stackTraces = false) {z : Int32} {b : Bool} (hN : CN n cap) {G : Nat} (hG : G < n 1) (hc : chB z = false)  : Ct (gm D a E0) l yX5_setMember wsX5_setMember { frames := 28, cells := 1, slots := 6, locals := 700 } [.ref (A 0 0), .int (nI G), .int z, .int (bI b)] (wC a E0 n cap A g en S) (qI fun _ _ => False) (fun E w => E = "java/lang/IndexOutOfBoundsException" ∧ w = wC a E0 n cap A g en S) := by
  refine Ct.of [some (.ref (A 0 0)), some (.int (nI G)), some (.int z), some (.int (bI b)), none, none] rfl hl (by decide) (Nat.le_of_ble_eq_true rfl) rfl (fun φ C0 => ?_)
  have C := C0.1
  refine x_aload_n C 1 dX5_setMember_0 rfl rfl ?_
  refine x_iload_n C 2 dX5_setMember_1 rfl rfl ?_
  refine xc_callV_v C 5 0 0 0 0 9 1 (cC_requireGroup_0 hl (upB_nI (by have := hN.2.2.1; omega) hG)) rfl gX5_setMember_X5_requireGroup ⟨rfl, by decide, by decide, rfl⟩ ⟨Nat.le_of_ble_eq_true rfl, Nat.le_of_ble_eq_true rfl⟩ rfl (by decide) (show 0 < 1 by decide) rfl rfl rfl (Nat.le_of_ble_eq_true rfl) ⟨Nat.le_of_ble_eq_true rfl, Nat.le_of_ble_eq_true rfl⟩ dX5_setMember_2 rfl rfl rfl (fun w1 h1 => ?_)
  subst h1
  refine x_iload_n C 6 dX5_setMember_5 rfl rfl ?_
  exact x_callSx0_v C0 9 1 6 1 (cC_requireChannel_1 hl hc) rfl gX5_setMember_X5_requireChannel ⟨by decide, by decide, rfl⟩ ⟨Nat.le_of_ble_eq_true rfl, Nat.le_of_ble_eq_true rfl⟩ rfl rfl (Nat.le_of_ble_eq_true rfl) ⟨Nat.le_of_ble_eq_true rfl, Nat.le_of_ble_eq_true rfl⟩ dX5_setMember_6 rfl rfl rfl (fun _ h => h.elim) (fun E w h => h)
set_option maxRecDepth 100000 in
set_option maxHeartbeats 4000000 in
theorem cC_setFader_0 (hl : l.stackTraces = false) {x : Int32} (hN : CN n cap) {G : Nat} (hG : G < n 1) (hv : lvB x = true)  : Ct (gm D a E0) l yX5_setFader wsX5_setFader { frames := 28, cells := 0, slots := 0, locals := 700 } [.ref (A 0 0), .int (nI G), .int x] (wC a E0 n cap A g en S) (qI fun v w => v = S 7 G 0 ∧ w = wC a E0 n cap A g en (mfS G x S)) noX := by
  refine Ct.of [some (.ref (A 0 0)), some (.int (nI G)), some (.int x)] rfl hl (by decide) (Nat.le_of_ble_eq_true rfl) rfl (fun φ C0 => ?_)
  have C := C0.1
  refine x_aload_n C 1 dX5_setFader_0 rfl rfl ?_
  refine x_iload_n C 2 dX5_setFader_1 rfl rfl ?_
  refine xc_callV_v C 5 0 0 0 0 9 1 (cC_requireGroup_0 hl (upB_nI (by have := hN.2.2.1; omega) hG)) rfl gX5_setFader_X5_requireGroup ⟨rfl, by decide, by decide, rfl⟩ ⟨Nat.le_of_ble_eq_true rfl, Nat.le_of_ble_eq_true rfl⟩ rfl (by decide) (show 0 < 1 by decide) rfl rfl rfl (Nat.le_of_ble_eq_true rfl) ⟨Nat.le_of_ble_eq_true rfl, Nat.le_of_ble_eq_true rfl⟩ dX5_setFader_2 rfl rfl rfl (fun w1 h1 => ?_)
  subst h1
  refine x_iload_n C 6 dX5_setFader_5 rfl rfl ?_
  refine x_callS0_v C 9 0 0 1 (cC_requireLevel_0 hl hv) rfl gX5_setFader_X5_requireLevel ⟨by decide, by decide, rfl⟩ ⟨Nat.le_of_ble_eq_true rfl, Nat.le_of_ble_eq_true rfl⟩ rfl rfl (Nat.le_of_ble_eq_true rfl) ⟨Nat.le_of_ble_eq_true rfl, Nat.le_of_ble_eq_true rfl⟩ dX5_setFader_6 rfl rfl rfl (fun w2 h2 => ?_)
  subst h2
  refine x_aload_n C 10 dX5_setFader_9 rfl rfl ?_
  refine x_iload_n C 11 dX5_setFader_10 rfl rfl ?_
  refine x_iload_n C 12 dX5_setFader_11 rfl rfl ?_
  refine xc_callV_i C 15 0 0 0 0 9 2 (cC_moveFader hl hN hG) rfl gX5_setFader_X5_moveFader ⟨rfl, by decide, by decide, rfl⟩ ⟨Nat.le_of_ble_eq_true rfl, Nat.le_of_ble_eq_true rfl⟩ rfl (by decide) (show 0 < 1 by decide) rfl rfl rfl (Nat.le_of_ble_eq_true rfl) ⟨Nat.le_of_ble_eq_true rfl, Nat.le_of_ble_eq_true rfl⟩ dX5_setFader_12 rfl rfl rfl (fun r3 w3 h3 => ?_)
  obtain ⟨rfl, rfl⟩ := h3
  exact x_zret C0 dX5_setFader_15 (Nat.le_of_ble_eq_true rfl) (Nat.le_of_ble_eq_true rfl) ⟨_, rfl, ⟨rfl, rfl⟩⟩
set_option maxRecDepth 100000 in
set_option maxHeartbeats 4000000 in
theorem cC_setFader_1 (hl : l.stackTraces = false) {x z : Int32} (hx : upB (n 1) z = false)  : Ct (gm D a E0) l yX5_setFader wsX5_setFader { frames := 28, cells := 1, slots := 6, locals := 700 } [.ref (A 0 0), .int z, .int x] (wC a E0 n cap A g en S) (qI fun _ _ => False) (fun E w => E = "java/lang/IndexOutOfBoundsException" ∧ w = wC a E0 n cap A g en S) := by
  refine Ct.of [some (.ref (A 0 0)), some (.int z), some (.int x)] rfl hl (by decide) (Nat.le_of_ble_eq_true rfl) rfl (fun φ C0 => ?_)
  have C := C0.1
  refine x_aload_n C 1 dX5_setFader_0 rfl rfl ?_
  refine x_iload_n C 2 dX5_setFader_1 rfl rfl ?_
  exact xc_callVx_v C0 5 1 6 0 0 9 1 (cC_requireGroup_1 hl hx) rfl gX5_setFader_X5_requireGroup ⟨rfl, by decide, by decide, rfl⟩ ⟨Nat.le_of_ble_eq_true rfl, Nat.le_of_ble_eq_true rfl⟩ rfl (by decide) (show 0 < 1 by decide) rfl rfl rfl (Nat.le_of_ble_eq_true rfl) ⟨Nat.le_of_ble_eq_true rfl, Nat.le_of_ble_eq_true rfl⟩ dX5_setFader_2 rfl rfl rfl (fun _ h => h.elim) (fun E w h => h)
set_option maxRecDepth 100000 in
set_option maxHeartbeats 4000000 in
theorem cC_setFader_2 (hl : l.stackTraces = false) {x : Int32} (hN : CN n cap) {G : Nat} (hG : G < n 1) (hv : lvB x = false)  : Ct (gm D a E0) l yX5_setFader wsX5_setFader { frames := 28, cells := 1, slots := 6, locals := 700 } [.ref (A 0 0), .int (nI G), .int x] (wC a E0 n cap A g en S) (qI fun _ _ => False) (fun E w => E = "java/lang/IllegalArgumentException" ∧ w = wC a E0 n cap A g en S) := by
  refine Ct.of [some (.ref (A 0 0)), some (.int (nI G)), some (.int x)] rfl hl (by decide) (Nat.le_of_ble_eq_true rfl) rfl (fun φ C0 => ?_)
  have C := C0.1
  refine x_aload_n C 1 dX5_setFader_0 rfl rfl ?_
  refine x_iload_n C 2 dX5_setFader_1 rfl rfl ?_
  refine xc_callV_v C 5 0 0 0 0 9 1 (cC_requireGroup_0 hl (upB_nI (by have := hN.2.2.1; omega) hG)) rfl gX5_setFader_X5_requireGroup ⟨rfl, by decide, by decide, rfl⟩ ⟨Nat.le_of_ble_eq_true rfl, Nat.le_of_ble_eq_true rfl⟩ rfl (by decide) (show 0 < 1 by decide) rfl rfl rfl (Nat.le_of_ble_eq_true rfl) ⟨Nat.le_of_ble_eq_true rfl, Nat.le_of_ble_eq_true rfl⟩ dX5_setFader_2 rfl rfl rfl (fun w1 h1 => ?_)
  subst h1
  refine x_iload_n C 6 dX5_setFader_5 rfl rfl ?_
  exact x_callSx0_v C0 9 1 6 1 (cC_requireLevel_1 hl hv) rfl gX5_setFader_X5_requireLevel ⟨by decide, by decide, rfl⟩ ⟨Nat.le_of_ble_eq_true rfl, Nat.le_of_ble_eq_true rfl⟩ rfl rfl (Nat.le_of_ble_eq_true rfl) ⟨Nat.le_of_ble_eq_true rfl, Nat.le_of_ble_eq_true rfl⟩ dX5_setFader_6 rfl rfl rfl (fun _ h => h.elim) (fun E w h => h)
theorem fg_X5_setLatest_25 : gF RX5 wsX5_setLatest 25 9 3 := ⟨RX5, TX5, 11, "StageConsole", rfl, fun w h => (List.mem_cons_of_mem _ (List.mem_append_left _ (List.mem_append_left _ (List.mem_append_right _ h)))), by decide, (List.mem_cons_of_mem _ (List.mem_append_left _ (List.mem_append_left _ (List.mem_append_left _ (List.mem_of_getElem? (i := 0) rfl))))), Or.inl rfl⟩
theorem fg_X5_setLatest_193 : gF RX5 wsX5_setLatest 193 4 6 := ⟨RX0, TX0, 9, "StageConsole$Channel", rfl, fun w h => (List.mem_cons_of_mem _ (List.mem_append_left _ (List.mem_append_right _ h))), by decide, (List.mem_cons_of_mem _ (List.mem_append_left _ (List.mem_append_left _ (List.mem_append_left _ (List.mem_of_getElem? (i := 1) rfl))))), Or.inl rfl⟩
theorem fp_X5_setLatest_193 : pF RX5 wsX5_setLatest 193 4 6 false (.boolean) := ⟨RX0, TX0, 9, "StageConsole$Channel", tyX0, rfl, fun w h => (List.mem_cons_of_mem _ (List.mem_append_left _ (List.mem_append_right _ h))), by decide, (List.mem_cons_of_mem _ (List.mem_append_left _ (List.mem_append_left _ (List.mem_append_left _ (List.mem_of_getElem? (i := 1) rfl))))), Or.inl rfl, tyX0_ok, nmX0, rfl, rfl, fun h => absurd h (by decide)⟩
set_option maxRecDepth 100000 in
set_option maxHeartbeats 4000000 in
theorem cC_setLatest_0 (hl : l.stackTraces = false) {b : Bool} {c : Nat} (hc : c < 12) (hbo : boK (S 4 c 6))  : Ct (gm D a E0) l yX5_setLatest wsX5_setLatest { frames := 16, cells := 0, slots := 0, locals := 400 } [.ref (A 0 0), .int (nI c), .int (bI b)] (wC a E0 n cap A g en S) (qI fun v w => v = S 4 c 6 ∧ w = wC a E0 n cap A g en (uS S 4 c 6 (bI b))) noX := by
  refine Ct.of [some (.ref (A 0 0)), some (.int (nI c)), some (.int (bI b)), none] rfl hl (by decide) (Nat.le_of_ble_eq_true rfl) rfl (fun φ C0 => ?_)
  have C := C0.1
  refine x_iload_n C 1 dX5_setLatest_0 rfl rfl ?_
  refine x_callS0_v C 4 0 0 1 (cC_requireChannel_0 hl (chB_nI hc)) rfl gX5_setLatest_X5_requireChannel ⟨by decide, by decide, rfl⟩ ⟨Nat.le_of_ble_eq_true rfl, Nat.le_of_ble_eq_true rfl⟩ rfl rfl (Nat.le_of_ble_eq_true rfl) ⟨Nat.le_of_ble_eq_true rfl, Nat.le_of_ble_eq_true rfl⟩ dX5_setLatest_1 rfl rfl rfl (fun w1 h1 => ?_)
  subst h1
  refine x_aload_n C 5 dX5_setLatest_4 rfl rfl ?_
  refine xc_get C 8 0 0 (by decide) (show 0 < 1 by decide) rfl fg_X5_setLatest_25 rfl dX5_setLatest_5 rfl ?_
  refine x_iload_n C 9 dX5_setLatest_8 rfl rfl ?_
  refine xc_chan C 10 c rfl (by omega) dX5_setLatest_9 rfl ?_
  refine xc_get C 13 4 c (by decide) (show c < 12 from by omega) rfl fg_X5_setLatest_193 rfl dX5_setLatest_10 rfl ?_
  refine x_nm (fun bf ebf => ?_)
  refine x_istore_n C 14 dX5_setLatest_13 (by decide) rfl rfl ?_
  refine x_aload_n C 15 dX5_setLatest_14 rfl rfl ?_
  refine xc_get C 18 0 0 (by decide) (show 0 < 1 by decide) rfl fg_X5_setLatest_25 rfl dX5_setLatest_15 rfl ?_
  refine x_iload_n C 19 dX5_setLatest_18 rfl rfl ?_
  refine xc_chan C 20 c rfl (by omega) dX5_setLatest_19 rfl ?_
  refine x_iload_n C 21 dX5_setLatest_20 rfl rfl ?_
  refine xc_put C 24 4 c 6 (by decide) (show c < 12 from by omega) rfl fp_X5_setLatest_193 (bI_nar _) (bI_fit _) (Nat.le_of_ble_eq_true rfl) rfl dX5_setLatest_21 rfl ?_
  refine x_iload_n C 25 dX5_setLatest_24 rfl rfl ?_
  exact x_nret C0 rfl (by rw [ebf]; exact hbo.1) dX5_setLatest_25 (Nat.le_of_ble_eq_true rfl) (Nat.le_of_ble_eq_true rfl) ⟨_, rfl, ⟨ebf, rfl⟩⟩
end CC
