section CC
variable {l : Launch} {Γ : Gm} {D : va_G} {a : Nat → ClassId} {E0 : Nat} {n cap : Nat → Nat} {A : Nat → Nat → Nat} {g : Nat → Nat} {en : Int64} {S : Nat → Nat → Nat → Int32}
set_option maxRecDepth 100000 in
set_option maxHeartbeats 4000000 in
theorem cC_addEffect_0 (hl : l.stackTraces = false) {s0 s1 s2 s3 : Int32} (hN : CN n cap) {G : Nat} (hG : G < n 1) (hb : effB s0 s1 s2 s3 = true) (h0 : chK s0) (hn : n 2 < 4) (hcap : n 2 < cap 2 ∨ cap 2 = 0)  : Ct (gm D a E0) l yX5_addEffect wsX5_addEffect { frames := 28, cells := 2, slots := 29, locals := 700 } [.ref (A 0 0), .int (nI G), .int s0, .int s1, .int s2, .int s3] (wC a E0 n cap A g en S) (qI fun v w => v = nI (n 2) ∧ ∃ q e c2, CapN (cap 2) (n 2) c2 ∧ w = wC a E0 (updN n 2 (n 2 + 1)) (updN cap 2 c2) (upC (ins1 A 9 (n 2) q) 13 0 e) (updN g (n 2) G) en (uS (ins1 S 9 (n 2) (efR s0 s1 s2 s3)) 3 2 0 (S 3 2 0 + 1))) noX := by
  refine Ct.of [some (.ref (A 0 0)), some (.int (nI G)), some (.int s0), some (.int s1), some (.int s2), some (.int s3)] rfl hl (by decide) (Nat.le_of_ble_eq_true rfl) rfl (fun φ C0 => ?_)
  have C := C0.1
  have tail : ∀ (n2 cap2 : Nat → Nat) (A2 : Nat → Nat → Nat) (g2 : Nat → Nat) (S2 : Nat → Nat → Nat → Int32) (kc ns : Nat) (z : Int32), A2 0 0 = A 0 0 → nI (n2 2) - 1 = z → kc ≤ 2 → ns ≤ 29 → (fun v w => v = nI (n 2) ∧ ∃ q e c2, CapN (cap 2) (n 2) c2 ∧ w = wC a E0 (updN n 2 (n 2 + 1)) (updN cap 2 c2) (upC (ins1 A 9 (n 2) q) 13 0 e) (updN g (n 2) G) en (uS (ins1 S 9 (n 2) (efR s0 s1 s2 s3)) 3 2 0 (S 3 2 0 + 1))) z (wC a E0 n2 cap2 A2 g2 en S2) → X φ 108 [some (.ref (A 0 0)), some (.int (nI G)), some (.int s0), some (.int s1), some (.int s2), some (.int s3)] [] (wC a E0 n2 cap2 A2 g2 en S2) kc ns := by
    intro n2 cap2 A2 g2 S2 kc ns z hA hz h1 h2 h3
    refine x_aload_n C 109 dX5_addEffect_108 rfl rfl ?_
    refine x_topq (show Value.ref (A 0 0) = Value.ref (A2 0 0) from by rw [hA]) ?_
    refine xc_get C 112 0 0 (by decide) (show 0 < 1 by decide) rfl fg_X5_addEffect_32 rfl dX5_addEffect_109 rfl ?_
    refine xc_callV_i C 115 kc ns 3 2 3 0 (cC_size hl (j := 2) (by decide)) rfl gX5_addEffect_Jx4a65c_size_8abf5 ⟨rfl, by decide, by decide, rfl⟩ ⟨Nat.le_of_ble_eq_true rfl, Nat.le_of_ble_eq_true rfl⟩ rfl (by decide) (show 2 < 4 by decide) rfl rfl rfl (Nat.le_of_ble_eq_true rfl) ⟨show kc + 0 ≤ 2 by omega, show ns + 0 ≤ 29 by omega⟩ dX5_addEffect_112 rfl rfl rfl (fun r w h => ?_)
    obtain ⟨rfl, rfl⟩ := h
    refine x_iconst (v := (1)) C 116 dX5_addEffect_115 (by decide) rfl ?_
    refine x_isub C 117 dX5_addEffect_116 rfl ?_
    refine x_top hz ?_
    exact x_zret C0 dX5_addEffect_117 h1 h2 ⟨_, rfl, h3⟩
  refine x_aload_n C 1 dX5_addEffect_0 rfl rfl ?_
  refine x_iload_n C 2 dX5_addEffect_1 rfl rfl ?_
  refine xc_callV_v C 5 0 0 0 0 9 1 (cC_requireGroup_0 hl (upB_nI (by have := hN.2.2.1; omega) hG)) rfl gX5_addEffect_X5_requireGroup ⟨rfl, by decide, by decide, rfl⟩ ⟨Nat.le_of_ble_eq_true rfl, Nat.le_of_ble_eq_true rfl⟩ rfl (by decide) (show 0 < 1 by decide) rfl rfl rfl (Nat.le_of_ble_eq_true rfl) ⟨Nat.le_of_ble_eq_true rfl, Nat.le_of_ble_eq_true rfl⟩ dX5_addEffect_2 rfl rfl rfl (fun w1 h1 => ?_)
  subst h1
  refine x_iload_n C 6 dX5_addEffect_5 rfl rfl ?_
  refine x_callS0_i C 9 0 0 1 (cC_isShape hl) rfl gX5_addEffect_X5_isShape ⟨by decide, by decide, rfl⟩ ⟨Nat.le_of_ble_eq_true rfl, Nat.le_of_ble_eq_true rfl⟩ rfl rfl (Nat.le_of_ble_eq_true rfl) ⟨Nat.le_of_ble_eq_true rfl, Nat.le_of_ble_eq_true rfl⟩ dX5_addEffect_6 rfl rfl rfl (fun r2 w2 h2 => ?_)
  obtain ⟨rfl, rfl⟩ := h2
  refine x_top (show _ = (1 : Int32) from (congrArg bI (show shB s0 = true from (effB_t hb).1)).trans rfl) ?_
  refine x_if_eq C 45 12 dX5_addEffect_9 (by decide) rfl (fun zk9 => ?_) (fun zk9 => ?_)
  · exact absurd zk9 (by decide)
  · refine x_iload_n C 13 dX5_addEffect_12 rfl rfl ?_
    refine x_iconst (v := (2)) C 14 dX5_addEffect_13 (by decide) rfl ?_
    refine x_bipush (v := (40)) C 16 dX5_addEffect_14 (by decide) rfl ?_
    refine x_callS0_i C 19 0 0 3 (cC_isWithin hl) rfl gX5_addEffect_X5_isWithin ⟨by decide, by decide, rfl⟩ ⟨Nat.le_of_ble_eq_true rfl, Nat.le_of_ble_eq_true rfl⟩ rfl rfl (Nat.le_of_ble_eq_true rfl) ⟨Nat.le_of_ble_eq_true rfl, Nat.le_of_ble_eq_true rfl⟩ dX5_addEffect_16 rfl rfl rfl (fun r3 w3 h3 => ?_)
    obtain ⟨rfl, rfl⟩ := h3
    refine x_top (show _ = (1 : Int32) from (congrArg bI (show inB s1.toInt64 2 40 = true from (effB_t hb).2.1)).trans rfl) ?_
    refine x_if_eq C 45 22 dX5_addEffect_19 (by decide) rfl (fun zk19 => ?_) (fun zk19 => ?_)
    · exact absurd zk19 (by decide)
    · refine x_iload C 24 dX5_addEffect_22 rfl rfl ?_
      refine x_iconst (v := (1)) C 25 dX5_addEffect_24 (by decide) rfl ?_
      refine x_sipush (v := (255)) C 28 dX5_addEffect_25 (by decide) rfl ?_
      refine x_callS0_i C 31 0 0 3 (cC_isWithin hl) rfl gX5_addEffect_X5_isWithin ⟨by decide, by decide, rfl⟩ ⟨Nat.le_of_ble_eq_true rfl, Nat.le_of_ble_eq_true rfl⟩ rfl rfl (Nat.le_of_ble_eq_true rfl) ⟨Nat.le_of_ble_eq_true rfl, Nat.le_of_ble_eq_true rfl⟩ dX5_addEffect_28 rfl rfl rfl (fun r4 w4 h4 => ?_)
      obtain ⟨rfl, rfl⟩ := h4
      refine x_top (show _ = (1 : Int32) from (congrArg bI (show inB s2.toInt64 1 255 = true from (effB_t hb).2.2.1)).trans rfl) ?_
      refine x_if_eq C 45 34 dX5_addEffect_31 (by decide) rfl (fun zk31 => ?_) (fun zk31 => ?_)
      · exact absurd zk31 (by decide)
      · refine x_iload C 36 dX5_addEffect_34 rfl rfl ?_
        refine x_iconst (v := (0)) C 37 dX5_addEffect_36 (by decide) rfl ?_
        refine x_bipush (v := (39)) C 39 dX5_addEffect_37 (by decide) rfl ?_
        refine x_callS0_i C 42 0 0 3 (cC_isWithin hl) rfl gX5_addEffect_X5_isWithin ⟨by decide, by decide, rfl⟩ ⟨Nat.le_of_ble_eq_true rfl, Nat.le_of_ble_eq_true rfl⟩ rfl rfl (Nat.le_of_ble_eq_true rfl) ⟨Nat.le_of_ble_eq_true rfl, Nat.le_of_ble_eq_true rfl⟩ dX5_addEffect_39 rfl rfl rfl (fun r5 w5 h5 => ?_)
        obtain ⟨rfl, rfl⟩ := h5
        refine x_top (show _ = (1 : Int32) from (congrArg bI (show inB s3.toInt64 0 39 = true from (effB_t hb).2.2.2)).trans rfl) ?_
        refine x_if_ne C 55 45 dX5_addEffect_42 (by decide) rfl (fun zk42 => ?_) (fun zk42 => ?_)
        · refine x_aload_n C 56 dX5_addEffect_55 rfl rfl ?_
          refine xc_get C 59 0 0 (by decide) (show 0 < 1 by decide) rfl fg_X5_addEffect_32 rfl dX5_addEffect_56 rfl ?_
          refine xc_callV_i C 62 0 0 3 2 3 0 (cC_size hl (j := 2) (by decide)) rfl gX5_addEffect_Jx4a65c_size_8abf5 ⟨rfl, by decide, by decide, rfl⟩ ⟨Nat.le_of_ble_eq_true rfl, Nat.le_of_ble_eq_true rfl⟩ rfl (by decide) (show 2 < 4 by decide) rfl rfl rfl (Nat.le_of_ble_eq_true rfl) ⟨Nat.le_of_ble_eq_true rfl, Nat.le_of_ble_eq_true rfl⟩ dX5_addEffect_59 rfl rfl rfl (fun r6 w6 h6 => ?_)
          obtain ⟨rfl, rfl⟩ := h6
          refine x_iconst (v := (4)) C 63 dX5_addEffect_62 (by decide) rfl ?_
          have h4 := hN.2.2.2.1
          refine x_icmp_lt C 76 66 dX5_addEffect_63 (by decide) rfl (fun zk63 => ?_) (fun zk63 => ?_)
          · have zk63 := (nI_ltI (a := (n 2)) (b := 4) (by omega) (by omega)).mp zk63
            refine x_aload_n C 77 dX5_addEffect_76 rfl rfl ?_
            refine xc_get C 80 0 0 (by decide) (show 0 < 1 by decide) rfl fg_X5_addEffect_32 rfl dX5_addEffect_77 rfl ?_
            refine x_new C 83 6 [.null, .int 0, .int 0, .int 0, .int 0, .int 0, .int 0] (fun w h => (List.mem_cons_of_mem _ (List.mem_append_left _ (List.mem_append_left _ (List.mem_append_left _ (List.mem_append_left _ (List.mem_append_right _ h))))))) tyX2_ok (List.mem_cons_of_mem _ (List.mem_append_left _ (List.mem_append_left _ (List.mem_append_left _ (List.mem_append_left _ (List.mem_append_left _ (List.mem_append_left _ (List.mem_append_left _ (List.mem_of_getElem? (i := 5) rfl))))))))) (List.mem_cons_of_mem _ (List.mem_append_left _ (List.mem_append_left _ (List.mem_append_left _ (List.mem_append_left _ (List.mem_append_left _ (List.mem_append_left _ (List.mem_append_left _ (List.mem_of_getElem? (i := 6) rfl))))))))) (List.mem_cons_of_mem _ (List.mem_append_left _ (List.mem_append_left _ (List.mem_append_left _ (List.mem_append_left _ (List.mem_append_left _ (List.mem_append_left _ (List.mem_append_left _ (List.mem_of_getElem? (i := 7) rfl))))))))) rfl (fun j hj => match j, hj with | 0, _ => rfl | 1, _ => rfl | 2, _ => rfl | 3, _ => rfl | 4, _ => rfl | 5, _ => rfl | 6, _ => rfl | z + 7, hz => absurd hz (by omega)) (Nat.le_of_ble_eq_true rfl) (Nat.le_of_ble_eq_true rfl) dX5_addEffect_80 rfl (fun q => ?_)
            refine x_dup C 84 dX5_addEffect_83 rfl rfl ?_
            refine x_aload_n C 85 dX5_addEffect_84 rfl rfl ?_
            obtain ⟨q3, hq3⟩ := wC_posk (a := a) (E0 := E0) (n := n) (cap := cap) (A := A) (g := g) (en := en) (S := S) (k := 0) (i := 0) (by decide) (show 0 < 1 by decide) [(q, .inr (6, [.null, .int 0, .int 0, .int 0, .int 0, .int 0, .int 0]))]
            refine x_get C 88 q3 hq3 fg_X5_addEffect_29 rfl dX5_addEffect_85 rfl ?_
            refine x_iload_n C 89 dX5_addEffect_88 rfl rfl ?_
            obtain ⟨q1, fs1, hq1, -⟩ := wC_pos (a := a) (E0 := E0) (n := n) (cap := cap) (A := A) (g := g) (en := en) (S := S) (j := 1) (by decide)
            refine x_callV1_q C 92 1 7 q1 3 1 (cC_get hl (j := 1) (by decide) (i := G) hG (hN.1 1 (by decide)).1 (hN.1 1 (by decide)).2) rfl gX5_addEffect_Jx4a65c_get_915e3 ⟨rfl, by decide, by decide, rfl⟩ ⟨Nat.le_of_ble_eq_true rfl, Nat.le_of_ble_eq_true rfl⟩ rfl hq1 rfl rfl (Nat.le_of_ble_eq_true rfl) ⟨Nat.le_of_ble_eq_true rfl, Nat.le_of_ble_eq_true rfl⟩ dX5_addEffect_89 rfl rfl rfl (fun r7 w7 h7 => ?_)
            obtain ⟨rfl, rfl⟩ := h7
            refine x_topq (show _ = Value.ref (A 7 G) from rfl) ?_
            obtain ⟨q2, hq2⟩ := wC_posk (a := a) (E0 := E0) (n := n) (cap := cap) (A := A) (g := g) (en := en) (S := S) (k := 7) (i := G) (by decide) (show G < n 1 from hG) [(q, .inr (6, [.null, .int 0, .int 0, .int 0, .int 0, .int 0, .int 0]))]
            refine x_castS C 95 q2 hq2 rfl (List.mem_cons_of_mem _ (List.mem_append_left _ (List.mem_append_left _ (List.mem_append_left _ (List.mem_append_left _ (List.mem_append_left _ (List.mem_append_left _ (List.mem_append_left _ (List.mem_of_getElem? (i := 9) rfl))))))))) dX5_addEffect_92 rfl ?_
            refine x_iload_n C 96 dX5_addEffect_95 rfl rfl ?_
            refine x_iload_n C 97 dX5_addEffect_96 rfl rfl ?_
            refine x_iload C 99 dX5_addEffect_97 rfl rfl ?_
            refine x_iload C 101 dX5_addEffect_99 rfl rfl ?_
            refine x_perm (List.perm_append_comm) ?_
            refine x_callI1 C 104 1 7 5 (cC_initEf hl h0) rfl gX5_addEffect_X2_init (List.mem_cons_of_mem _ (List.mem_append_left _ (List.mem_append_left _ (List.mem_append_left _ (List.mem_append_left _ (List.mem_append_left _ (List.mem_append_left _ (List.mem_append_left _ (List.mem_of_getElem? (i := 7) rfl))))))))) (List.mem_cons_of_mem _ (List.mem_append_left _ (List.mem_append_left _ (List.mem_append_left _ (List.mem_append_left _ (List.mem_append_left _ (List.mem_append_left _ (List.mem_append_right _ (List.mem_append_right _ (List.mem_append_left _ (List.mem_of_getElem? (i := 2) rfl))))))))))) (List.mem_cons_of_mem _ (List.mem_append_left _ (List.mem_append_left _ (List.mem_append_left _ (List.mem_append_left _ (List.mem_append_left _ (List.mem_append_left _ (List.mem_append_right _ (List.mem_append_right _ (List.mem_append_left _ (List.mem_of_getElem? (i := 3) rfl))))))))))) rfl ⟨by decide, by decide, rfl⟩ ⟨Nat.le_of_ble_eq_true rfl, Nat.le_of_ble_eq_true rfl⟩ rfl rfl (Nat.le_of_ble_eq_true rfl) ⟨Nat.le_of_ble_eq_true rfl, Nat.le_of_ble_eq_true rfl⟩ dX5_addEffect_101 rfl rfl rfl (fun w h => ?_)
            subst h
            refine x_perm (List.perm_append_comm) ?_
            obtain ⟨q0, fs0, -, hq0⟩ := wC_pos (a := a) (E0 := E0) (n := n) (cap := cap) (A := A) (g := g) (en := en) (S := S) (j := 2) (by decide)
            refine x_callV0_i C 107 2 29 q0 3 1 (cC_add2 hl (hN.1 2 (by decide)).1 (hN.1 2 (by decide)).2 hcap) rfl gX5_addEffect_Jx4a65c_add_9ea2d ⟨rfl, by decide, by decide, rfl⟩ ⟨Nat.le_of_ble_eq_true rfl, Nat.le_of_ble_eq_true rfl⟩ rfl (hq0 _) rfl rfl (Nat.le_of_ble_eq_true rfl) ⟨Nat.le_of_ble_eq_true rfl, Nat.le_of_ble_eq_true rfl⟩ dX5_addEffect_104 rfl rfl rfl (fun r9 w h => ?_)
            obtain ⟨rfl, e, c2, hcN, rfl⟩ := h
            refine x_pop C 108 dX5_addEffect_107 rfl rfl ?_
            exact tail _ _ _ _ _ _ _ _ (by simp [upC, ins1]) (by rw [updN_s]; exact (pk_sub (a := n 2 + 1) (b := 1) (by omega)).trans (by rw [Nat.add_sub_cancel])) (Nat.le_of_ble_eq_true rfl) (Nat.le_of_ble_eq_true rfl) ⟨rfl, q, e, c2, hcN, rfl⟩
          · have zk63 := mt (nI_ltI (a := (n 2)) (b := 4) (by omega) (by omega)).mpr zk63
            exfalso; omega
        · exact absurd zk42 (by decide)
end CC
