section CC
variable {l : Launch} {Γ : Gm} {D : va_G} {a : Nat → ClassId} {E0 : Nat} {n cap : Nat → Nat} {A : Nat → Nat → Nat} {g : Nat → Nat} {en : Int64} {S : Nat → Nat → Nat → Int32}
set_option maxRecDepth 100000 in
set_option maxHeartbeats 4000000 in
theorem cC_addGroup_0 (hl : l.stackTraces = false) (hN : CN n cap) (hn : n 1 < 5) (hcap : n 1 < cap 1 ∨ cap 1 = 0) (hg : ∀ i, i < n 2 → g i < n 1)  : Ct (gm D a E0) l yX5_addGroup wsX5_addGroup { frames := 28, cells := 3, slots := 36, locals := 700 } [.ref (A 0 0)] (wC a E0 n cap A g en S) (qI fun v w => v = nI (n 1) ∧ ∃ q r e c2, CapN (cap 1) (n 1) c2 ∧ w = wC a E0 (updN n 1 (n 1 + 1)) (updN cap 1 c2) (upC (ins1 (ins1 A 7 (n 1) q) 8 (n 1) r) 12 0 e) g en (uS (ins1 (ins1 S 7 (n 1) (fun _ => 0)) 8 (n 1) (fun _ => 0)) 3 1 0 (S 3 1 0 + 1))) noX := by
  refine Ct.of [some (.ref (A 0 0))] rfl hl (by decide) (Nat.le_of_ble_eq_true rfl) rfl (fun φ C0 => ?_)
  have C := C0.1
  have tail : ∀ (n2 cap2 : Nat → Nat) (A2 : Nat → Nat → Nat) (g2 : Nat → Nat) (S2 : Nat → Nat → Nat → Int32) (kc ns : Nat) (z : Int32), A2 0 0 = A 0 0 → nI (n2 1) - 1 = z → kc ≤ 3 → ns ≤ 36 → (fun v w => v = nI (n 1) ∧ ∃ q r e c2, CapN (cap 1) (n 1) c2 ∧ w = wC a E0 (updN n 1 (n 1 + 1)) (updN cap 1 c2) (upC (ins1 (ins1 A 7 (n 1) q) 8 (n 1) r) 12 0 e) g en (uS (ins1 (ins1 S 7 (n 1) (fun _ => 0)) 8 (n 1) (fun _ => 0)) 3 1 0 (S 3 1 0 + 1))) z (wC a E0 n2 cap2 A2 g2 en S2) → X φ 36 [some (.ref (A 0 0))] [] (wC a E0 n2 cap2 A2 g2 en S2) kc ns := by
    intro n2 cap2 A2 g2 S2 kc ns z hA hz h1 h2 h3
    refine x_aload_n C 37 dX5_addGroup_36 rfl rfl ?_
    refine x_topq (show Value.ref (A 0 0) = Value.ref (A2 0 0) from by rw [hA]) ?_
    refine xc_get C 40 0 0 (by decide) (show 0 < 1 by decide) rfl fg_X5_addGroup_29 rfl dX5_addGroup_37 rfl ?_
    refine xc_callV_i C 43 kc ns 3 1 3 0 (cC_size hl (j := 1) (by decide)) rfl gX5_addGroup_Jx4a65c_size_8abf5 ⟨rfl, by decide, by decide, rfl⟩ ⟨Nat.le_of_ble_eq_true rfl, Nat.le_of_ble_eq_true rfl⟩ rfl (by decide) (show 1 < 4 by decide) rfl rfl rfl (Nat.le_of_ble_eq_true rfl) ⟨show kc + 0 ≤ 3 by omega, show ns + 0 ≤ 36 by omega⟩ dX5_addGroup_40 rfl rfl rfl (fun r w h => ?_)
    obtain ⟨rfl, rfl⟩ := h
    refine x_iconst (v := (1)) C 44 dX5_addGroup_43 (by decide) rfl ?_
    refine x_isub C 45 dX5_addGroup_44 rfl ?_
    refine x_top hz ?_
    exact x_zret C0 dX5_addGroup_45 h1 h2 ⟨_, rfl, h3⟩
  refine x_aload_n C 1 dX5_addGroup_0 rfl rfl ?_
  refine xc_get C 4 0 0 (by decide) (show 0 < 1 by decide) rfl fg_X5_addGroup_29 rfl dX5_addGroup_1 rfl ?_
  refine xc_callV_i C 7 0 0 3 1 3 0 (cC_size hl (j := 1) (by decide)) rfl gX5_addGroup_Jx4a65c_size_8abf5 ⟨rfl, by decide, by decide, rfl⟩ ⟨Nat.le_of_ble_eq_true rfl, Nat.le_of_ble_eq_true rfl⟩ rfl (by decide) (show 1 < 4 by decide) rfl rfl rfl (Nat.le_of_ble_eq_true rfl) ⟨Nat.le_of_ble_eq_true rfl, Nat.le_of_ble_eq_true rfl⟩ dX5_addGroup_4 rfl rfl rfl (fun r1 w1 h1 => ?_)
  obtain ⟨rfl, rfl⟩ := h1
  refine x_iconst (v := (5)) C 8 dX5_addGroup_7 (by decide) rfl ?_
  have h5 := hN.2.2.1
  refine x_icmp_lt C 21 11 dX5_addGroup_8 (by decide) rfl (fun zk8 => ?_) (fun zk8 => ?_)
  · have zk8 := (nI_ltI (a := (n 1)) (b := 5) (by omega) (by omega)).mp zk8
    refine x_aload_n C 22 dX5_addGroup_21 rfl rfl ?_
    refine xc_get C 25 0 0 (by decide) (show 0 < 1 by decide) rfl fg_X5_addGroup_29 rfl dX5_addGroup_22 rfl ?_
    refine x_new C 28 7 [.null, .int 0] (fun w h => (List.mem_cons_of_mem _ (List.mem_append_left _ (List.mem_append_left _ (List.mem_append_right _ h))))) tyX3_ok (List.mem_cons_of_mem _ (List.mem_append_left _ (List.mem_append_left _ (List.mem_append_left _ (List.mem_append_left _ (List.mem_append_left _ (List.mem_of_getElem? (i := 3) rfl))))))) (List.mem_cons_of_mem _ (List.mem_append_left _ (List.mem_append_left _ (List.mem_append_left _ (List.mem_append_left _ (List.mem_append_left _ (List.mem_of_getElem? (i := 4) rfl))))))) (List.mem_cons_of_mem _ (List.mem_append_left _ (List.mem_append_left _ (List.mem_append_left _ (List.mem_append_left _ (List.mem_append_left _ (List.mem_of_getElem? (i := 5) rfl))))))) rfl (fun j hj => match j, hj with | 0, _ => rfl | 1, _ => rfl | z + 2, hz => absurd hz (by omega)) (Nat.le_of_ble_eq_true rfl) (Nat.le_of_ble_eq_true rfl) dX5_addGroup_25 rfl (fun q => ?_)
    refine x_dup C 29 dX5_addGroup_28 rfl rfl ?_
    refine x_perm (List.perm_append_comm) ?_
    refine x_callN1 C 32 2 14 0 (cC_initGr hl) rfl gX5_addGroup_X3_init_n179 (List.mem_cons_of_mem _ (List.mem_append_left _ (List.mem_append_left _ (List.mem_append_left _ (List.mem_append_left _ (List.mem_append_left _ (List.mem_of_getElem? (i := 5) rfl))))))) (fun U h => h.2.2.2.2.2.2.2.2.2) (List.mem_cons_of_mem _ (List.mem_append_left _ (List.mem_append_left _ (List.mem_append_left _ (List.mem_append_left _ (List.mem_append_left _ (List.mem_of_getElem? (i := 12) rfl))))))) rfl ⟨by decide, by decide, rfl⟩ ⟨Nat.le_of_ble_eq_true rfl, Nat.le_of_ble_eq_true rfl⟩ rfl rfl (Nat.le_of_ble_eq_true rfl) ⟨Nat.le_of_ble_eq_true rfl, Nat.le_of_ble_eq_true rfl⟩ dX5_addGroup_29 rfl rfl rfl (fun w h => ?_)
    obtain ⟨r, rfl⟩ := h
    refine x_perm (List.perm_append_comm) ?_
    obtain ⟨q0, fs0, -, hq0⟩ := wC_pos (a := a) (E0 := E0) (n := n) (cap := cap) (A := A) (g := g) (en := en) (S := S) (j := 1) (by decide)
    refine x_callV0_i C 35 3 36 q0 3 1 (cC_add1 hl (hN.1 1 (by decide)).1 (hN.1 1 (by decide)).2 hcap hg) rfl gX5_addGroup_Jx4a65c_add_9ea2d ⟨rfl, by decide, by decide, rfl⟩ ⟨Nat.le_of_ble_eq_true rfl, Nat.le_of_ble_eq_true rfl⟩ rfl (hq0 _) rfl rfl (Nat.le_of_ble_eq_true rfl) ⟨Nat.le_of_ble_eq_true rfl, Nat.le_of_ble_eq_true rfl⟩ dX5_addGroup_32 rfl rfl rfl (fun r9 w h => ?_)
    obtain ⟨rfl, e, c2, hcN, rfl⟩ := h
    refine x_pop C 36 dX5_addGroup_35 rfl rfl ?_
    exact tail _ _ _ _ _ _ _ _ (by simp [upC, ins1]) (by rw [updN_s]; exact (pk_sub (a := n 1 + 1) (b := 1) (by omega)).trans (by rw [Nat.add_sub_cancel])) (Nat.le_of_ble_eq_true rfl) (Nat.le_of_ble_eq_true rfl) ⟨rfl, q, r, e, c2, hcN, rfl⟩
  · have zk8 := mt (nI_ltI (a := (n 1)) (b := 5) (by omega) (by omega)).mpr zk8
    exfalso; omega
end CC
