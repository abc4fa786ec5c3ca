section CC
variable {l : Launch} {Γ : Gm} {D : va_G} {a : Nat → ClassId} {E0 : Nat} {n cap : Nat → Nat} {A : Nat → Nat → Nat} {g : Nat → Nat} {en : Int64} {S : Nat → Nat → Nat → Int32}
set_option maxRecDepth 100000 in
set_option maxHeartbeats 4000000 in
theorem cC_addCue_0 (hl : l.stackTraces = false) {x t cv : Int32} (hN : CN n cap) (hb : cueB x t cv = true) (hcv : chK cv) (hq : hqC S (n 0) x = false) (hn : n 0 < 16) (hcap : n 0 < cap 0 ∨ cap 0 = 0 ∨ (2 ≤ cap 0 ∧ cap 0 + cap 0 / 2 ≤ 22))  : Ct (gm D a E0) l yX5_addCue wsX5_addCue { frames := 28, cells := 3, slots := 39, locals := 700 } [.ref (A 0 0), .int x, .int t, .int cv] (wC a E0 n cap A g en S) (qI fun v w => v = nI (n 0 + 1) ∧ ∃ q r f e c2, (∀ i, i < 12 → f i = -1) ∧ CapN (cap 0) (n 0) c2 ∧ w = wC a E0 (updN n 0 (n 0 + 1)) (updN cap 0 c2) (upC (ins1 (ins1 A 5 (poC S (n 0) x) q) 6 (poC S (n 0) x) r) 11 0 e) g en (uS (ins1 (ins1 S 5 (poC S (n 0) x) (cuR x t cv)) 6 (poC S (n 0) x) f) 3 0 0 (S 3 0 0 + 1))) noX := by
  refine Ct.of [some (.ref (A 0 0)), some (.int x), some (.int t), some (.int cv)] rfl hl (by decide) (Nat.le_of_ble_eq_true rfl) rfl (fun φ C0 => ?_)
  have C := C0.1
  have tail : ∀ (n2 cap2 : Nat → Nat) (A2 : Nat → Nat → Nat) (g2 : Nat → Nat) (S2 : Nat → Nat → Nat → Int32) (kc ns : Nat) (z : Int32), A2 0 0 = A 0 0 → nI (n2 0) = z → kc ≤ 3 → ns ≤ 39 → (fun v w => v = nI (n 0 + 1) ∧ ∃ q r f e c2, (∀ i, i < 12 → f i = -1) ∧ CapN (cap 0) (n 0) c2 ∧ w = wC a E0 (updN n 0 (n 0 + 1)) (updN cap 0 c2) (upC (ins1 (ins1 A 5 (poC S (n 0) x) q) 6 (poC S (n 0) x) r) 11 0 e) g en (uS (ins1 (ins1 S 5 (poC S (n 0) x) (cuR x t cv)) 6 (poC S (n 0) x) f) 3 0 0 (S 3 0 0 + 1))) z (wC a E0 n2 cap2 A2 g2 en S2) → X φ 99 [some (.ref (A 0 0)), some (.int x), some (.int t), some (.int cv)] [] (wC a E0 n2 cap2 A2 g2 en S2) kc ns := by
    intro n2 cap2 A2 g2 S2 kc ns z hA hz h1 h2 h3
    refine x_aload_n C 100 dX5_addCue_99 rfl rfl ?_
    refine x_topq (show Value.ref (A 0 0) = Value.ref (A2 0 0) from by rw [hA]) ?_
    refine xc_get C 103 0 0 (by decide) (show 0 < 1 by decide) rfl fg_X5_addCue_10 rfl dX5_addCue_100 rfl ?_
    refine xc_callV_i C 106 kc ns 3 0 3 0 (cC_size hl (j := 0) (by decide)) rfl gX5_addCue_Jx4a65c_size_8abf5 ⟨rfl, by decide, by decide, rfl⟩ ⟨Nat.le_of_ble_eq_true rfl, Nat.le_of_ble_eq_true rfl⟩ rfl (by decide) (show 0 < 4 by decide) rfl rfl rfl (Nat.le_of_ble_eq_true rfl) ⟨show kc + 0 ≤ 3 by omega, show ns + 0 ≤ 39 by omega⟩ dX5_addCue_103 rfl rfl rfl (fun r w h => ?_)
    obtain ⟨rfl, rfl⟩ := h
    refine x_top hz ?_
    exact x_zret C0 dX5_addCue_106 h1 h2 ⟨_, rfl, h3⟩
  refine x_iload_n C 1 dX5_addCue_0 rfl rfl ?_
  refine x_iconst (v := (1)) C 2 dX5_addCue_1 (by decide) rfl ?_
  refine x_bipush (v := (99)) C 4 dX5_addCue_2 (by decide) rfl ?_
  refine x_callS0_i C 7 0 0 3 (cC_isWithin hl) rfl gX5_addCue_X5_isWithin ⟨by decide, by decide, rfl⟩ ⟨Nat.le_of_ble_eq_true rfl, Nat.le_of_ble_eq_true rfl⟩ rfl rfl (Nat.le_of_ble_eq_true rfl) ⟨Nat.le_of_ble_eq_true rfl, Nat.le_of_ble_eq_true rfl⟩ dX5_addCue_4 rfl rfl rfl (fun r1 w1 h1 => ?_)
  obtain ⟨rfl, rfl⟩ := h1
  refine x_top (show _ = (1 : Int32) from (congrArg bI (show inB x.toInt64 1 99 = true from (cueB_t hb).1)).trans rfl) ?_
  refine x_if_eq C 27 10 dX5_addCue_7 (by decide) rfl (fun zk7 => ?_) (fun zk7 => ?_)
  · exact absurd zk7 (by decide)
  · refine x_iload_n C 11 dX5_addCue_10 rfl rfl ?_
    refine x_iconst (v := (0)) C 12 dX5_addCue_11 (by decide) rfl ?_
    refine x_bipush (v := (40)) C 14 dX5_addCue_12 (by decide) rfl ?_
    refine x_callS0_i C 17 0 0 3 (cC_isWithin hl) rfl gX5_addCue_X5_isWithin ⟨by decide, by decide, rfl⟩ ⟨Nat.le_of_ble_eq_true rfl, Nat.le_of_ble_eq_true rfl⟩ rfl rfl (Nat.le_of_ble_eq_true rfl) ⟨Nat.le_of_ble_eq_true rfl, Nat.le_of_ble_eq_true rfl⟩ dX5_addCue_14 rfl rfl rfl (fun r2 w2 h2 => ?_)
    obtain ⟨rfl, rfl⟩ := h2
    refine x_top (show _ = (1 : Int32) from (congrArg bI (show inB t.toInt64 0 40 = true from (cueB_t hb).2.1)).trans rfl) ?_
    refine x_if_eq C 27 20 dX5_addCue_17 (by decide) rfl (fun zk17 => ?_) (fun zk17 => ?_)
    · exact absurd zk17 (by decide)
    · refine x_iload_n C 21 dX5_addCue_20 rfl rfl ?_
      refine x_callS0_i C 24 0 0 1 (cC_isCurve hl) rfl gX5_addCue_X5_isCurve ⟨by decide, by decide, rfl⟩ ⟨Nat.le_of_ble_eq_true rfl, Nat.le_of_ble_eq_true rfl⟩ rfl rfl (Nat.le_of_ble_eq_true rfl) ⟨Nat.le_of_ble_eq_true rfl, Nat.le_of_ble_eq_true rfl⟩ dX5_addCue_21 rfl rfl rfl (fun r3 w3 h3 => ?_)
      obtain ⟨rfl, rfl⟩ := h3
      refine x_top (show _ = (1 : Int32) from (congrArg bI (show cvB cv = true from (cueB_t hb).2.2)).trans rfl) ?_
      refine x_if_ne C 37 27 dX5_addCue_24 (by decide) rfl (fun zk24 => ?_) (fun zk24 => ?_)
      · refine x_aload_n C 38 dX5_addCue_37 rfl rfl ?_
        refine x_iload_n C 39 dX5_addCue_38 rfl rfl ?_
        refine xc_callV_i C 42 0 0 0 0 9 1 (cC_hasCue hl hN) rfl gX5_addCue_X5_hasCue ⟨rfl, by decide, by decide, rfl⟩ ⟨Nat.le_of_ble_eq_true rfl, Nat.le_of_ble_eq_true rfl⟩ rfl (by decide) (show 0 < 1 by decide) rfl rfl rfl (Nat.le_of_ble_eq_true rfl) ⟨Nat.le_of_ble_eq_true rfl, Nat.le_of_ble_eq_true rfl⟩ dX5_addCue_39 rfl rfl rfl (fun r4 w4 h4 => ?_)
        obtain ⟨rfl, rfl⟩ := h4
        refine x_top (show _ = (0 : Int32) from (congrArg bI (show hqC S (n 0) x = false from hq)).trans rfl) ?_
        refine x_if_eq C 55 45 dX5_addCue_42 (by decide) rfl (fun zk42 => ?_) (fun zk42 => ?_)
        · refine x_aload_n C 56 dX5_addCue_55 rfl rfl ?_
          refine xc_get C 59 0 0 (by decide) (show 0 < 1 by decide) rfl fg_X5_addCue_10 rfl dX5_addCue_56 rfl ?_
          refine xc_callV_i C 62 0 0 3 0 3 0 (cC_size hl (j := 0) (by decide)) rfl gX5_addCue_Jx4a65c_size_8abf5 ⟨rfl, by decide, by decide, rfl⟩ ⟨Nat.le_of_ble_eq_true rfl, Nat.le_of_ble_eq_true rfl⟩ rfl (by decide) (show 0 < 4 by decide) rfl rfl rfl (Nat.le_of_ble_eq_true rfl) ⟨Nat.le_of_ble_eq_true rfl, Nat.le_of_ble_eq_true rfl⟩ dX5_addCue_59 rfl rfl rfl (fun r5 w5 h5 => ?_)
          obtain ⟨rfl, rfl⟩ := h5
          refine x_bipush (v := (16)) C 64 dX5_addCue_62 (by decide) rfl ?_
          have h16 := hN.2.1
          refine x_icmp_lt C 77 67 dX5_addCue_64 (by decide) rfl (fun zk64 => ?_) (fun zk64 => ?_)
          · have zk64 := (nI_ltI (a := (n 0)) (b := 16) (by omega) (by omega)).mp zk64
            refine x_aload_n C 78 dX5_addCue_77 rfl rfl ?_
            refine xc_get C 81 0 0 (by decide) (show 0 < 1 by decide) rfl fg_X5_addCue_10 rfl dX5_addCue_78 rfl ?_
            refine x_aload_n C 82 dX5_addCue_81 rfl rfl ?_
            refine x_iload_n C 83 dX5_addCue_82 rfl rfl ?_
            refine xc_callV_i C 86 0 0 0 0 9 1 (cC_placeOf hl hN) rfl gX5_addCue_X5_placeOf ⟨rfl, by decide, by decide, rfl⟩ ⟨Nat.le_of_ble_eq_true rfl, Nat.le_of_ble_eq_true rfl⟩ rfl (by decide) (show 0 < 1 by decide) rfl rfl rfl (Nat.le_of_ble_eq_true rfl) ⟨Nat.le_of_ble_eq_true rfl, Nat.le_of_ble_eq_true rfl⟩ dX5_addCue_83 rfl rfl rfl (fun r6 w6 h6 => ?_)
            obtain ⟨rfl, rfl⟩ := h6
            refine x_new C 89 5 [.int 0, .int 0, .int 0, .int 0, .null] (fun w h => (List.mem_cons_of_mem _ (List.mem_append_left _ (List.mem_append_left _ (List.mem_append_left _ (List.mem_append_left _ (List.mem_append_left _ (List.mem_append_right _ h)))))))) tyX1_ok (List.mem_cons_of_mem _ (List.mem_append_left _ (List.mem_append_left _ (List.mem_append_left _ (List.mem_append_left _ (List.mem_append_left _ (List.mem_append_left _ (List.mem_append_left _ (List.mem_append_left _ (List.mem_of_getElem? (i := 7) rfl)))))))))) (List.mem_cons_of_mem _ (List.mem_append_left _ (List.mem_append_left _ (List.mem_append_left _ (List.mem_append_left _ (List.mem_append_left _ (List.mem_append_left _ (List.mem_append_left _ (List.mem_append_left _ (List.mem_of_getElem? (i := 8) rfl)))))))))) (List.mem_cons_of_mem _ (List.mem_append_left _ (List.mem_append_left _ (List.mem_append_left _ (List.mem_append_left _ (List.mem_append_left _ (List.mem_append_left _ (List.mem_append_left _ (List.mem_append_left _ (List.mem_of_getElem? (i := 9) rfl)))))))))) rfl (fun j hj => match j, hj with | 0, _ => rfl | 1, _ => rfl | 2, _ => rfl | 3, _ => rfl | 4, _ => rfl | z + 5, hz => absurd hz (by omega)) (Nat.le_of_ble_eq_true rfl) (Nat.le_of_ble_eq_true rfl) dX5_addCue_86 rfl (fun q => ?_)
            refine x_dup C 90 dX5_addCue_89 rfl rfl ?_
            refine x_iload_n C 91 dX5_addCue_90 rfl rfl ?_
            refine x_iload_n C 92 dX5_addCue_91 rfl rfl ?_
            refine x_iload_n C 93 dX5_addCue_92 rfl rfl ?_
            refine x_perm (List.perm_append_comm) ?_
            refine x_callI1 C 96 2 17 3 (cC_initCue hl hcv) rfl gX5_addCue_X1_init (List.mem_cons_of_mem _ (List.mem_append_left _ (List.mem_append_left _ (List.mem_append_left _ (List.mem_append_left _ (List.mem_append_left _ (List.mem_append_left _ (List.mem_append_left _ (List.mem_append_left _ (List.mem_of_getElem? (i := 9) rfl)))))))))) (List.mem_cons_of_mem _ (List.mem_append_left _ (List.mem_append_left _ (List.mem_append_left _ (List.mem_append_left _ (List.mem_append_left _ (List.mem_append_left _ (List.mem_append_left _ (List.mem_append_right _ (List.mem_append_right _ (List.mem_append_left _ (List.mem_of_getElem? (i := 2) rfl)))))))))))) (List.mem_cons_of_mem _ (List.mem_append_left _ (List.mem_append_left _ (List.mem_append_left _ (List.mem_append_left _ (List.mem_append_left _ (List.mem_append_left _ (List.mem_append_left _ (List.mem_append_right _ (List.mem_append_right _ (List.mem_append_left _ (List.mem_of_getElem? (i := 3) rfl)))))))))))) rfl ⟨by decide, by decide, rfl⟩ ⟨Nat.le_of_ble_eq_true rfl, Nat.le_of_ble_eq_true rfl⟩ rfl rfl (Nat.le_of_ble_eq_true rfl) ⟨Nat.le_of_ble_eq_true rfl, Nat.le_of_ble_eq_true rfl⟩ dX5_addCue_93 rfl rfl rfl (fun w h => ?_)
            obtain ⟨r, f, hf, rfl⟩ := h
            refine x_perm (List.perm_append_comm) ?_
            obtain ⟨q0, fs0, -, hq0⟩ := wC_pos (a := a) (E0 := E0) (n := n) (cap := cap) (A := A) (g := g) (en := en) (S := S) (j := 0) (by decide)
            refine x_callV0_v C 99 3 39 q0 3 2 (cC_add0 hl (hN.1 0 (by decide)).1 (hN.1 0 (by decide)).2 hcap (poC_le S (n 0) x)) rfl gX5_addCue_Jx4a65c_add_7a177 ⟨rfl, by decide, by decide, rfl⟩ ⟨Nat.le_of_ble_eq_true rfl, Nat.le_of_ble_eq_true rfl⟩ rfl (hq0 _) rfl rfl (Nat.le_of_ble_eq_true rfl) ⟨Nat.le_of_ble_eq_true rfl, Nat.le_of_ble_eq_true rfl⟩ dX5_addCue_96 rfl rfl rfl (fun w h => ?_)
            obtain ⟨e, c2, hcN, rfl⟩ := h
            exact tail _ _ _ _ _ _ _ _ (by simp [upC, ins1]) (by rw [updN_s]) (Nat.le_of_ble_eq_true rfl) (Nat.le_of_ble_eq_true rfl) ⟨rfl, q, r, f, e, c2, hf, hcN, rfl⟩
          · have zk64 := mt (nI_ltI (a := (n 0)) (b := 16) (by omega) (by omega)).mpr zk64
            exfalso; omega
        · exact absurd zk42 (by decide)
      · exact absurd zk24 (by decide)
end CC
