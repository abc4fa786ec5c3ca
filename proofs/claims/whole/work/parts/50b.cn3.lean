section CC
variable {l : Launch} {Γ : Gm} {D : va_G} {a : Nat → ClassId} {E0 : Nat} {n cap : Nat → Nat} {A : Nat → Nat → Nat} {g : Nat → Nat} {en : Int64} {S : Nat → Nat → Nat → Int32}
set_option maxRecDepth 100000 in
set_option maxHeartbeats 4000000 in
theorem cC_addStep_0 (hl : l.stackTraces = false) {s0 s1 s2 : Int32} (hN : CN n cap) (hb : caB s0 = true) (h0 : chK s0) (hn : n 3 < 8) (hcap : n 3 < cap 3 ∨ cap 3 = 0)  : Ct (gm D a E0) l yX5_addStep wsX5_addStep { frames := 28, cells := 2, slots := 25, locals := 700 } [.ref (A 0 0), .int s0, .int s1, .int s2] (wC a E0 n cap A g en S) (qI fun v w => v = nI (n 3 + 1) ∧ ∃ q e c2, CapN (cap 3) (n 3) c2 ∧ w = wC a E0 (updN n 3 (n 3 + 1)) (updN cap 3 c2) (upC (ins1 A 10 (n 3) q) 14 0 e) g en (uS (ins1 S 10 (n 3) (stR s0 s1 s2)) 3 3 0 (S 3 3 0 + 1))) noX := by
  refine Ct.of [some (.ref (A 0 0)), some (.int s0), some (.int s1), some (.int s2)] rfl hl (by decide) (Nat.le_of_ble_eq_true rfl) rfl (fun φ C0 => ?_)
  have C := C0.1
  have tail : ∀ (n2 cap2 : Nat → Nat) (A2 : Nat → Nat → Nat) (g2 : Nat → Nat) (S2 : Nat → Nat → Nat → Int32) (kc ns : Nat) (z : Int32), A2 0 0 = A 0 0 → nI (n2 3) = z → kc ≤ 2 → ns ≤ 25 → (fun v w => v = nI (n 3 + 1) ∧ ∃ q e c2, CapN (cap 3) (n 3) c2 ∧ w = wC a E0 (updN n 3 (n 3 + 1)) (updN cap 3 c2) (upC (ins1 A 10 (n 3) q) 14 0 e) g en (uS (ins1 S 10 (n 3) (stR s0 s1 s2)) 3 3 0 (S 3 3 0 + 1))) z (wC a E0 n2 cap2 A2 g2 en S2) → X φ 59 [some (.ref (A 0 0)), some (.int s0), some (.int s1), some (.int s2)] [] (wC a E0 n2 cap2 A2 g2 en S2) kc ns := by
    intro n2 cap2 A2 g2 S2 kc ns z hA hz h1 h2 h3
    refine x_aload_n C 60 dX5_addStep_59 rfl rfl ?_
    refine x_topq (show Value.ref (A 0 0) = Value.ref (A2 0 0) from by rw [hA]) ?_
    refine xc_get C 63 0 0 (by decide) (show 0 < 1 by decide) rfl fg_X5_addStep_46 rfl dX5_addStep_60 rfl ?_
    refine xc_callV_i C 66 kc ns 3 3 3 0 (cC_size hl (j := 3) (by decide)) rfl gX5_addStep_Jx4a65c_size_8abf5 ⟨rfl, by decide, by decide, rfl⟩ ⟨Nat.le_of_ble_eq_true rfl, Nat.le_of_ble_eq_true rfl⟩ rfl (by decide) (show 3 < 4 by decide) rfl rfl rfl (Nat.le_of_ble_eq_true rfl) ⟨show kc + 0 ≤ 2 by omega, show ns + 0 ≤ 25 by omega⟩ dX5_addStep_63 rfl rfl rfl (fun r w h => ?_)
    obtain ⟨rfl, rfl⟩ := h
    refine x_top hz ?_
    exact x_zret C0 dX5_addStep_66 h1 h2 ⟨_, rfl, h3⟩
  refine x_iload_n C 1 dX5_addStep_0 rfl rfl ?_
  refine x_callS0_i C 4 0 0 1 (cC_isStepCall hl) rfl gX5_addStep_X5_isStepCall ⟨by decide, by decide, rfl⟩ ⟨Nat.le_of_ble_eq_true rfl, Nat.le_of_ble_eq_true rfl⟩ rfl rfl (Nat.le_of_ble_eq_true rfl) ⟨Nat.le_of_ble_eq_true rfl, Nat.le_of_ble_eq_true rfl⟩ dX5_addStep_1 rfl rfl rfl (fun r1 w1 h1 => ?_)
  obtain ⟨rfl, rfl⟩ := h1
  refine x_top (show _ = (1 : Int32) from (congrArg bI (show caB s0 = true from hb)).trans rfl) ?_
  refine x_if_ne C 18 7 dX5_addStep_4 (by decide) rfl (fun zk4 => ?_) (fun zk4 => ?_)
  · refine x_aload_n C 19 dX5_addStep_18 rfl rfl ?_
    refine xc_get C 22 0 0 (by decide) (show 0 < 1 by decide) rfl fg_X5_addStep_46 rfl dX5_addStep_19 rfl ?_
    refine xc_callV_i C 25 0 0 3 3 3 0 (cC_size hl (j := 3) (by decide)) rfl gX5_addStep_Jx4a65c_size_8abf5 ⟨rfl, by decide, by decide, rfl⟩ ⟨Nat.le_of_ble_eq_true rfl, Nat.le_of_ble_eq_true rfl⟩ rfl (by decide) (show 3 < 4 by decide) rfl rfl rfl (Nat.le_of_ble_eq_true rfl) ⟨Nat.le_of_ble_eq_true rfl, Nat.le_of_ble_eq_true rfl⟩ dX5_addStep_22 rfl rfl rfl (fun r2 w2 h2 => ?_)
    obtain ⟨rfl, rfl⟩ := h2
    refine x_bipush (v := (8)) C 27 dX5_addStep_25 (by decide) rfl ?_
    have h8 := hN.2.2.2.2
    refine x_icmp_lt C 41 30 dX5_addStep_27 (by decide) rfl (fun zk27 => ?_) (fun zk27 => ?_)
    · have zk27 := (nI_ltI (a := (n 3)) (b := 8) (by omega) (by omega)).mp zk27
      refine x_aload_n C 42 dX5_addStep_41 rfl rfl ?_
      refine xc_get C 45 0 0 (by decide) (show 0 < 1 by decide) rfl fg_X5_addStep_46 rfl dX5_addStep_42 rfl ?_
      refine x_new C 48 8 [.int 0, .int 0, .int 0] (fun w h => (List.mem_cons_of_mem _ (List.mem_append_left _ (List.mem_append_left _ (List.mem_append_left _ (List.mem_append_right _ h)))))) tyX4_ok (List.mem_cons_of_mem _ (List.mem_append_left _ (List.mem_append_left _ (List.mem_append_left _ (List.mem_append_left _ (List.mem_append_left _ (List.mem_append_left _ (List.mem_of_getElem? (i := 5) rfl)))))))) (List.mem_cons_of_mem _ (List.mem_append_left _ (List.mem_append_left _ (List.mem_append_left _ (List.mem_append_left _ (List.mem_append_left _ (List.mem_append_left _ (List.mem_of_getElem? (i := 6) rfl)))))))) (List.mem_cons_of_mem _ (List.mem_append_left _ (List.mem_append_left _ (List.mem_append_left _ (List.mem_append_left _ (List.mem_append_left _ (List.mem_append_left _ (List.mem_of_getElem? (i := 7) rfl)))))))) rfl (fun j hj => match j, hj with | 0, _ => rfl | 1, _ => rfl | 2, _ => rfl | z + 3, hz => absurd hz (by omega)) (Nat.le_of_ble_eq_true rfl) (Nat.le_of_ble_eq_true rfl) dX5_addStep_45 rfl (fun q => ?_)
      refine x_dup C 49 dX5_addStep_48 rfl rfl ?_
      refine x_iload_n C 50 dX5_addStep_49 rfl rfl ?_
      refine x_iload_n C 51 dX5_addStep_50 rfl rfl ?_
      refine x_iload_n C 52 dX5_addStep_51 rfl rfl ?_
      refine x_perm (List.perm_append_comm) ?_
      refine x_callI1 C 55 1 3 3 (cC_initSt hl h0) rfl gX5_addStep_X4_init (List.mem_cons_of_mem _ (List.mem_append_left _ (List.mem_append_left _ (List.mem_append_left _ (List.mem_append_left _ (List.mem_append_left _ (List.mem_append_left _ (List.mem_of_getElem? (i := 7) rfl)))))))) (List.mem_cons_of_mem _ (List.mem_append_left _ (List.mem_append_left _ (List.mem_append_left _ (List.mem_append_left _ (List.mem_append_left _ (List.mem_append_left _ (List.mem_of_getElem? (i := 18) rfl)))))))) (List.mem_cons_of_mem _ (List.mem_append_left _ (List.mem_append_left _ (List.mem_append_left _ (List.mem_append_left _ (List.mem_append_left _ (List.mem_append_left _ (List.mem_of_getElem? (i := 19) rfl)))))))) rfl ⟨by decide, by decide, rfl⟩ ⟨Nat.le_of_ble_eq_true rfl, Nat.le_of_ble_eq_true rfl⟩ rfl rfl (Nat.le_of_ble_eq_true rfl) ⟨Nat.le_of_ble_eq_true rfl, Nat.le_of_ble_eq_true rfl⟩ dX5_addStep_52 rfl rfl rfl (fun w h => ?_)
      subst h
      refine x_perm (List.perm_append_comm) ?_
      obtain ⟨q0, fs0, -, hq0⟩ := wC_pos (a := a) (E0 := E0) (n := n) (cap := cap) (A := A) (g := g) (en := en) (S := S) (j := 3) (by decide)
      refine x_callV0_i C 58 2 25 q0 3 1 (cC_add3 hl (hN.1 3 (by decide)).1 (hN.1 3 (by decide)).2 hcap) rfl gX5_addStep_Jx4a65c_add_9ea2d ⟨rfl, by decide, by decide, rfl⟩ ⟨Nat.le_of_ble_eq_true rfl, Nat.le_of_ble_eq_true rfl⟩ rfl (hq0 _) rfl rfl (Nat.le_of_ble_eq_true rfl) ⟨Nat.le_of_ble_eq_true rfl, Nat.le_of_ble_eq_true rfl⟩ dX5_addStep_55 rfl rfl rfl (fun r9 w h => ?_)
      obtain ⟨rfl, e, c2, hcN, rfl⟩ := h
      refine x_pop C 59 dX5_addStep_58 rfl rfl ?_
      exact tail _ _ _ _ _ _ _ _ (by simp [upC, ins1]) (by rw [updN_s]) (Nat.le_of_ble_eq_true rfl) (Nat.le_of_ble_eq_true rfl) ⟨rfl, q, e, c2, hcN, rfl⟩
    · have zk27 := mt (nI_ltI (a := (n 3)) (b := 8) (by omega) (by omega)).mpr zk27
      exfalso; omega
  · exact absurd zk4 (by decide)
end CC
