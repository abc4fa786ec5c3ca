/-! the law's loop; by wip/whole/genV.py -/
section LV
variable {l : Launch} {φ : Fx} {D : va_G} {a : Nat → ClassId} {E0 x o m od b L i kc ns : Nat} {am : Nat → Nat} {w : va_W} {f : Nat → Int64} {fd : Nat → UInt64} {I : Nat → Nat → Int32} {e : Int64} {xs : Nat → Int32} {pc : Nat} {Lc : List (Option Value)} {rest : List Value} {ws : va_W}
set_option maxRecDepth 100000 in
set_option maxHeartbeats 4000000 in
theorem w_step (hl : l.stackTraces = false) (C : Cb (gm D a E0) l φ cL_law 10 RL wsL_law room_1) (hS0 : lS φ b L xs) (hi : i + 6 ≤ L) (hL : L ≤ 3072) (hkc : kc + 4 ≤ 639004) (hns : ns + 48 ≤ 7099219) (h : RW a E0 x I e w) (kk : ∀ (w1 : va_W) (f1 : Nat → Int64) (fd1 : Nat → UInt64) (J : Nat → Nat → Int32) (e2 : Int64), RW a E0 x J e2 w1 → X φ 2274 [some (.ref b), some (.ref x), some (.ref m), some (.ref o), some (.ref od), some (.int (nI i)), none, none, none, none] [] (lW o m od am a w1 f1 fd1 J e2) (kc + 4) (ns + 48)) : X φ 38 [some (.ref b), some (.ref x), some (.ref m), some (.ref o), some (.ref od), some (.int (nI i)), none, none, none, none] [] (lW o m od am a w f fd I e) kc ns := by
  refine x_aload_n C 39 dL_law_38 rfl rfl ?_
  refine x_iload C 41 dL_law_39 rfl rfl ?_
  refine x_sld hS0 C 42 (vp_in_nI (by omega) (by omega)) dL_law_41 rfl ?_
  refine x_top (show _ = xs i from by rw [nI_clamp (by omega)]) ?_
  refine x_bipush (v := (63)) C 44 dL_law_42 (by decide) rfl ?_
  refine x_iand C 45 dL_law_44 rfl ?_
  generalize xs i &&& 63 = v
  by_cases z : v.toInt < 0 ∨ 36 < v.toInt
  · refine x_tableOut C 2274 dL_law_45 z (by decide) ?_
    exact x_wide (kc' := kc + 4) (ns' := ns + 48) (by omega) (by omega) (kk w f fd I e h)
  · obtain ⟨k, hk, rfl⟩ : ∃ k, k < 37 ∧ v = nI k := vp_in_of (vp_in_iff.mpr ⟨by omega, by omega⟩) (by decide)
    match k, hk with
    | 0, _ => exact x_tableIn C 208 dL_law_45 (off := 163) (by decide) (by decide) (by decide) (by decide) (lc_addCue hl C hS0 hi hL hkc hns h kk)
    | 1, _ => exact x_tableIn C 290 dL_law_45 (off := 245) (by decide) (by decide) (by decide) (by decide) (lc_removeCue hl C hS0 hi hL hkc hns h kk)
    | 2, _ => exact x_tableIn C 346 dL_law_45 (off := 301) (by decide) (by decide) (by decide) (by decide) (lc_setChange hl C hS0 hi hL hkc hns h kk)
    | 3, _ => exact x_tableIn C 426 dL_law_45 (off := 381) (by decide) (by decide) (by decide) (by decide) (lc_removeChange hl C hS0 hi hL hkc hns h kk)
    | 4, _ => exact x_tableIn C 494 dL_law_45 (off := 449) (by decide) (by decide) (by decide) (by decide) (lc_setBlock hl C hS0 hi hL hkc hns h kk)
    | 5, _ => exact x_tableIn C 585 dL_law_45 (off := 540) (by decide) (by decide) (by decide) (by decide) (lc_trackedLevel hl C hS0 hi hL hkc hns h kk)
    | 6, _ => exact x_tableIn C 653 dL_law_45 (off := 608) (by decide) (by decide) (by decide) (by decide) (lc_cues hl C hS0 hi hL hkc hns h kk)
    | 7, _ => exact x_tableIn C 666 dL_law_45 (off := 621) (by decide) (by decide) (by decide) (by decide) (lc_go hl C hS0 hi hL hkc hns h kk)
    | 8, _ => exact x_tableIn C 710 dL_law_45 (off := 665) (by decide) (by decide) (by decide) (by decide) (lc_back hl C hS0 hi hL hkc hns h kk)
    | 9, _ => exact x_tableIn C 754 dL_law_45 (off := 709) (by decide) (by decide) (by decide) (by decide) (lc_goTo hl C hS0 hi hL hkc hns h kk)
    | 10, _ => exact x_tableIn C 810 dL_law_45 (off := 765) (by decide) (by decide) (by decide) (by decide) (lc_pass hl C hS0 hi hL hkc hns h kk)
    | 11, _ => exact x_tableIn C 866 dL_law_45 (off := 821) (by decide) (by decide) (by decide) (by decide) (lc_currentCue hl C hS0 hi hL hkc hns h kk)
    | 12, _ => exact x_tableIn C 879 dL_law_45 (off := 834) (by decide) (by decide) (by decide) (by decide) (lc_cueLevel hl C hS0 hi hL hkc hns h kk)
    | 13, _ => exact x_tableIn C 935 dL_law_45 (off := 890) (by decide) (by decide) (by decide) (by decide) (lc_ticksLeft hl C hS0 hi hL hkc hns h kk)
    | 14, _ => exact x_tableIn C 948 dL_law_45 (off := 903) (by decide) (by decide) (by decide) (by decide) (lc_addGroup hl C hS0 hi hL hkc hns h kk)
    | 15, _ => exact x_tableIn C 992 dL_law_45 (off := 947) (by decide) (by decide) (by decide) (by decide) (lc_setMember hl C hS0 hi hL hkc hns h kk)
    | 16, _ => exact x_tableIn C 1095 dL_law_45 (off := 1050) (by decide) (by decide) (by decide) (by decide) (lc_setFader hl C hS0 hi hL hkc hns h kk)
    | 17, _ => exact x_tableIn C 1163 dL_law_45 (off := 1118) (by decide) (by decide) (by decide) (by decide) (lc_setLatest hl C hS0 hi hL hkc hns h kk)
    | 18, _ => exact x_tableIn C 1254 dL_law_45 (off := 1209) (by decide) (by decide) (by decide) (by decide) (lc_latestSource hl C hS0 hi hL hkc hns h kk)
    | 19, _ => exact x_tableIn C 1310 dL_law_45 (off := 1265) (by decide) (by decide) (by decide) (by decide) (lc_baseLevel hl C hS0 hi hL hkc hns h kk)
    | 20, _ => exact x_tableIn C 1366 dL_law_45 (off := 1321) (by decide) (by decide) (by decide) (by decide) (lc_addEffect hl C hS0 hi hL hkc hns h kk)
    | 21, _ => exact x_tableIn C 1472 dL_law_45 (off := 1427) (by decide) (by decide) (by decide) (by decide) (lc_startEffect hl C hS0 hi hL hkc hns h kk)
    | 22, _ => exact x_tableIn C 1528 dL_law_45 (off := 1483) (by decide) (by decide) (by decide) (by decide) (lc_stopEffect hl C hS0 hi hL hkc hns h kk)
    | 23, _ => exact x_tableIn C 1584 dL_law_45 (off := 1539) (by decide) (by decide) (by decide) (by decide) (lc_effectOn hl C hS0 hi hL hkc hns h kk)
    | 24, _ => exact x_tableIn C 1652 dL_law_45 (off := 1607) (by decide) (by decide) (by decide) (by decide) (lc_park hl C hS0 hi hL hkc hns h kk)
    | 25, _ => exact x_tableIn C 1720 dL_law_45 (off := 1675) (by decide) (by decide) (by decide) (by decide) (lc_unpark hl C hS0 hi hL hkc hns h kk)
    | 26, _ => exact x_tableIn C 1776 dL_law_45 (off := 1731) (by decide) (by decide) (by decide) (by decide) (lc_setMaster hl C hS0 hi hL hkc hns h kk)
    | 27, _ => exact x_tableIn C 1832 dL_law_45 (off := 1787) (by decide) (by decide) (by decide) (by decide) (lc_level hl C hS0 hi hL hkc hns h kk)
    | 28, _ => exact x_tableIn C 1888 dL_law_45 (off := 1843) (by decide) (by decide) (by decide) (by decide) (lc_levelAlone hl C hS0 hi hL hkc hns h kk)
    | 29, _ => exact x_tableIn C 1944 dL_law_45 (off := 1899) (by decide) (by decide) (by decide) (by decide) (lc_channelByLevel hl C hS0 hi hL hkc hns h kk)
    | 30, _ => exact x_tableIn C 2000 dL_law_45 (off := 1955) (by decide) (by decide) (by decide) (by decide) (lc_energy hl C hS0 hi hL hkc hns h kk)
    | 31, _ => exact x_tableIn C 2014 dL_law_45 (off := 1969) (by decide) (by decide) (by decide) (by decide) (lc_litShare hl C hS0 hi hL hkc hns h kk)
    | 32, _ => exact x_tableIn C 2057 dL_law_45 (off := 2012) (by decide) (by decide) (by decide) (by decide) (lc_meanLevel hl C hS0 hi hL hkc hns h kk)
    | 33, _ => exact x_tableIn C 2122 dL_law_45 (off := 2077) (by decide) (by decide) (by decide) (by decide) (lc_addStep hl C hS0 hi hL hkc hns h kk)
    | 34, _ => exact x_tableIn C 2204 dL_law_45 (off := 2159) (by decide) (by decide) (by decide) (by decide) (lc_clearMacro hl C hS0 hi hL hkc hns h kk)
    | 35, _ => exact x_tableIn C 2217 dL_law_45 (off := 2172) (by decide) (by decide) (by decide) (by decide) (lc_runMacro hl C hS0 hi hL hkc hns h kk)
    | 36, _ => exact x_tableIn C 2230 dL_law_45 (off := 2185) (by decide) (by decide) (by decide) (by decide) (lc_macroFault hl C hS0 hi hL hkc hns h kk)
    | k + 37, hk => exact absurd hk (by omega)
theorem w_more {i : Nat} (hi : i ≤ 3072) (hL : L ≤ 3072) : ¬ nI L - 6 < nI i → i + 6 ≤ L := by
  intro z
  have h1 : (nI L - 6).toInt = (L : Int) - 6 := pk_sub_toInt (a := L) (b := 6) (by omega) (by omega)
  have h2 := Int32.le_iff_toInt_le.mp (Int32.not_lt.mp z)
  rw [h1, nI_toInt (by omega)] at h2
  omega
set_option maxRecDepth 100000 in
set_option maxHeartbeats 4000000 in
theorem w_loop (hl : l.stackTraces = false) (C : Cb (gm D a E0) l φ cL_law 10 RL wsL_law room_1) (hS0 : lS φ b L xs) (hL : L ≤ 3072) (hend : ∀ (Lc : List (Option Value)) (ws : va_W), X φ 2280 Lc [] ws 639004 7099219) : ∀ (n i : Nat) (w : va_W) (f : Nat → Int64) (fd : Nat → UInt64) (I : Nat → Nat → Int32) (e : Int64) (kc ns : Nat), i ≤ L → L < i + 6 * (n + 1) → kc + 4 * n ≤ 639004 → ns + 48 * n ≤ 7099219 → RW a E0 x I e w → X φ 28 [some (.ref b), some (.ref x), some (.ref m), some (.ref o), some (.ref od), some (.int (nI i)), none, none, none, none] [] (lW o m od am a w f fd I e) kc ns := by
  intro n
  induction n with
  | zero =>
    intro i w f fd I e kc ns hiL hn hkc hns h
    refine x_iload C 30 dL_law_28 rfl rfl ?_
    refine x_aload_n C 31 dL_law_30 rfl rfl ?_
    refine x_slen hS0 C 32 dL_law_31 rfl ?_
    refine x_bipush (v := (6)) C 34 dL_law_32 (by decide) rfl ?_
    refine x_isub C 35 dL_law_34 rfl ?_
    refine x_icmp_gt C 2280 38 dL_law_35 (by decide) rfl (fun z => ?_) (fun z => ?_)
    · exact x_wide (kc' := 639004) (ns' := 7099219) (by omega) (by omega) (hend _ _)
    · have := w_more (by omega) hL z
      omega
  | succ n ih =>
    intro i w f fd I e kc ns hiL hn hkc hns h
    refine x_iload C 30 dL_law_28 rfl rfl ?_
    refine x_aload_n C 31 dL_law_30 rfl rfl ?_
    refine x_slen hS0 C 32 dL_law_31 rfl ?_
    refine x_bipush (v := (6)) C 34 dL_law_32 (by decide) rfl ?_
    refine x_isub C 35 dL_law_34 rfl ?_
    refine x_icmp_gt C 2280 38 dL_law_35 (by decide) rfl (fun z => ?_) (fun z => ?_)
    · exact x_wide (kc' := 639004) (ns' := 7099219) (by omega) (by omega) (hend _ _)
    · have hi := w_more (by omega) hL z
      refine w_step hl C hS0 hi hL (by omega) (by omega) h (fun w1 f1 fd1 J e2 h1 => ?_)
      refine x_iinc (v := nI (i + 6)) C 2277 rfl dL_law_2274 (nI_add i 6) (by decide) rfl rfl ?_
      refine x_goto C 28 dL_law_2277 (by decide) ?_
      refine x_ls (show _ = [some (.ref b), some (.ref x), some (.ref m), some (.ref o), some (.ref od), some (.int (nI (i + 6))), none, none, none, none] from rfl) ?_
      exact ih (i + 6) w1 f1 fd1 J e2 (kc + 4) (ns + 48) (by omega) (by omega) (by omega) (by omega) h1
theorem w_p0 (M W O D : va_W) : (((M ++ (W ++ [])) ++ O) ++ D).Perm ((W ++ O) ++ (D ++ M)) := by
  rw [List.append_nil, List.append_assoc M W O, List.append_assoc M (W ++ O) D, ← List.append_assoc (W ++ O) D M]
  exact List.perm_append_comm
set_option maxRecDepth 100000 in
set_option maxHeartbeats 4000000 in
theorem w_body (hl : l.stackTraces = false) (C : Cb (gm D a E0) l φ cL_law 10 RL wsL_law room_1) (hS0 : lS φ b L xs) (hL : L ≤ 3072) (hend : ∀ (Lc : List (Option Value)) (ws : va_W), X φ 2280 Lc [] ws 639004 7099219) : X φ 0 [some (.ref b), none, none, none, none, none, none, none, none, none] [] [] 0 0 := by
  refine x_new C 3 9 [.null, .int 0, .int 0, .null, .null, .null, .int 0, .null, .long 0, .null, .int 0] inlX5 tyX5_ok (List.mem_append_left _ (List.mem_append_left _ (List.mem_append_left _ (List.mem_append_left _ (List.mem_append_left _ (List.mem_append_left _ (List.mem_append_left _ (List.mem_append_left _ (List.mem_append_left _ (List.mem_append_left _ (List.mem_append_left _ (List.mem_append_left _ (List.mem_append_left _ (List.mem_append_left _ (List.mem_append_left _ (List.mem_append_left _ (List.mem_append_left _ (List.mem_append_left _ (List.mem_of_getElem? (i := 0) rfl))))))))))))))))))) (List.mem_append_left _ (List.mem_append_left _ (List.mem_append_left _ (List.mem_append_left _ (List.mem_append_left _ (List.mem_append_left _ (List.mem_append_left _ (List.mem_append_left _ (List.mem_append_left _ (List.mem_append_left _ (List.mem_append_left _ (List.mem_append_left _ (List.mem_append_left _ (List.mem_append_left _ (List.mem_append_left _ (List.mem_append_left _ (List.mem_append_left _ (List.mem_append_left _ (List.mem_of_getElem? (i := 1) rfl))))))))))))))))))) (List.mem_append_left _ (List.mem_append_left _ (List.mem_append_left _ (List.mem_append_left _ (List.mem_append_left _ (List.mem_append_left _ (List.mem_append_left _ (List.mem_append_left _ (List.mem_append_left _ (List.mem_append_left _ (List.mem_append_left _ (List.mem_append_left _ (List.mem_append_left _ (List.mem_append_left _ (List.mem_append_left _ (List.mem_append_left _ (List.mem_append_left _ (List.mem_append_left _ (List.mem_of_getElem? (i := 2) rfl))))))))))))))))))) rfl (fun j hj => match j, hj with | 0, _ => rfl | 1, _ => rfl | 2, _ => rfl | 3, _ => rfl | 4, _ => rfl | 5, _ => rfl | 6, _ => rfl | 7, _ => rfl | 8, _ => rfl | 9, _ => rfl | 10, _ => rfl | z + 11, hz => absurd hz (by omega)) (Nat.le_of_ble_eq_true rfl) (Nat.le_of_ble_eq_true rfl) dL_law_0 rfl (fun x => ?_)
  refine x_dup C 4 dL_law_3 rfl rfl ?_
  refine x_ws (show _ = ([(x, .inr (9, [.null, .int 0, .int 0, .null, .null, .null, .int 0, .null, .long 0, .null, .int 0]))] : va_W) ++ [] from rfl) ?_
  refine x_callI1 C 7 19 155 0 (cC_init hl) rfl gL_law_X5_init (List.mem_append_left _ (List.mem_append_left _ (List.mem_append_left _ (List.mem_append_left _ (List.mem_append_left _ (List.mem_append_left _ (List.mem_append_left _ (List.mem_append_left _ (List.mem_append_left _ (List.mem_append_left _ (List.mem_append_left _ (List.mem_append_left _ (List.mem_append_left _ (List.mem_append_left _ (List.mem_append_left _ (List.mem_append_left _ (List.mem_append_left _ (List.mem_append_left _ (List.mem_of_getElem? (i := 2) rfl))))))))))))))))))) (List.mem_append_left _ (List.mem_append_left _ (List.mem_append_left _ (List.mem_append_left _ (List.mem_append_left _ (List.mem_append_left _ (List.mem_append_left _ (List.mem_append_left _ (List.mem_append_left _ (List.mem_append_left _ (List.mem_append_left _ (List.mem_append_left _ (List.mem_append_left _ (List.mem_append_left _ (List.mem_append_left _ (List.mem_append_left _ (List.mem_append_left _ (List.mem_append_left _ (List.mem_of_getElem? (i := 8) rfl))))))))))))))))))) (List.mem_append_left _ (List.mem_append_left _ (List.mem_append_left _ (List.mem_append_left _ (List.mem_append_left _ (List.mem_append_left _ (List.mem_append_left _ (List.mem_append_left _ (List.mem_append_left _ (List.mem_append_left _ (List.mem_append_left _ (List.mem_append_left _ (List.mem_append_left _ (List.mem_append_left _ (List.mem_append_left _ (List.mem_append_left _ (List.mem_append_left _ (List.mem_append_left _ (List.mem_of_getElem? (i := 9) rfl))))))))))))))))))) rfl ⟨by decide, by decide, rfl⟩ ⟨Nat.le_of_ble_eq_true rfl, Nat.le_of_ble_eq_true rfl⟩ rfl rfl (Nat.le_of_ble_eq_true rfl) ⟨Nat.le_of_ble_eq_true rfl, Nat.le_of_ble_eq_true rfl⟩ dL_law_4 rfl rfl rfl (fun w hw => ?_)
  obtain ⟨A, hA0, rfl⟩ := hw
  refine x_astore_n C 8 dL_law_7 (by decide) rfl rfl ?_
  refine x_new C 11 10 mBl inlX6 tyX6_ok (List.mem_append_left _ (List.mem_append_left _ (List.mem_append_left _ (List.mem_append_left _ (List.mem_append_left _ (List.mem_append_left _ (List.mem_append_left _ (List.mem_append_left _ (List.mem_append_left _ (List.mem_append_left _ (List.mem_append_left _ (List.mem_append_left _ (List.mem_append_left _ (List.mem_append_left _ (List.mem_append_left _ (List.mem_append_left _ (List.mem_append_left _ (List.mem_append_left _ (List.mem_of_getElem? (i := 3) rfl))))))))))))))))))) (List.mem_append_left _ (List.mem_append_left _ (List.mem_append_left _ (List.mem_append_left _ (List.mem_append_left _ (List.mem_append_left _ (List.mem_append_left _ (List.mem_append_left _ (List.mem_append_left _ (List.mem_append_left _ (List.mem_append_left _ (List.mem_append_left _ (List.mem_append_left _ (List.mem_append_left _ (List.mem_append_left _ (List.mem_append_left _ (List.mem_append_left _ (List.mem_append_left _ (List.mem_of_getElem? (i := 4) rfl))))))))))))))))))) (List.mem_append_left _ (List.mem_append_left _ (List.mem_append_left _ (List.mem_append_left _ (List.mem_append_left _ (List.mem_append_left _ (List.mem_append_left _ (List.mem_append_left _ (List.mem_append_left _ (List.mem_append_left _ (List.mem_append_left _ (List.mem_append_left _ (List.mem_append_left _ (List.mem_append_left _ (List.mem_append_left _ (List.mem_append_left _ (List.mem_append_left _ (List.mem_append_left _ (List.mem_of_getElem? (i := 5) rfl))))))))))))))))))) rfl (fun j hj => match j, hj with | 0, _ => rfl | 1, _ => rfl | 2, _ => rfl | 3, _ => rfl | 4, _ => rfl | 5, _ => rfl | 6, _ => rfl | 7, _ => rfl | 8, _ => rfl | 9, _ => rfl | 10, _ => rfl | 11, _ => rfl | 12, _ => rfl | 13, _ => rfl | 14, _ => rfl | 15, _ => rfl | 16, _ => rfl | 17, _ => rfl | 18, _ => rfl | 19, _ => rfl | 20, _ => rfl | 21, _ => rfl | 22, _ => rfl | 23, _ => rfl | 24, _ => rfl | 25, _ => rfl | 26, _ => rfl | 27, _ => rfl | 28, _ => rfl | 29, _ => rfl | 30, _ => rfl | 31, _ => rfl | 32, _ => rfl | 33, _ => rfl | 34, _ => rfl | 35, _ => rfl | z + 36, hz => absurd hz (by omega)) (Nat.le_of_ble_eq_true rfl) (Nat.le_of_ble_eq_true rfl) dL_law_8 rfl (fun m => ?_)
  refine x_dup C 12 dL_law_11 rfl rfl ?_
  refine x_perm List.perm_append_comm ?_
  refine x_callI1 C 15 46 617 0 (cM_init hl) rfl gL_law_X6_init (List.mem_append_left _ (List.mem_append_left _ (List.mem_append_left _ (List.mem_append_left _ (List.mem_append_left _ (List.mem_append_left _ (List.mem_append_left _ (List.mem_append_left _ (List.mem_append_left _ (List.mem_append_left _ (List.mem_append_left _ (List.mem_append_left _ (List.mem_append_left _ (List.mem_append_left _ (List.mem_append_left _ (List.mem_append_left _ (List.mem_append_left _ (List.mem_append_left _ (List.mem_of_getElem? (i := 5) rfl))))))))))))))))))) (List.mem_append_left _ (List.mem_append_left _ (List.mem_append_left _ (List.mem_append_left _ (List.mem_append_left _ (List.mem_append_left _ (List.mem_append_left _ (List.mem_append_left _ (List.mem_append_left _ (List.mem_append_left _ (List.mem_append_left _ (List.mem_append_left _ (List.mem_append_left _ (List.mem_append_left _ (List.mem_append_left _ (List.mem_append_left _ (List.mem_append_left _ (List.mem_append_right _ (List.mem_append_right _ (List.mem_append_left _ (List.mem_of_getElem? (i := 11) rfl))))))))))))))))))))) (List.mem_append_left _ (List.mem_append_left _ (List.mem_append_left _ (List.mem_append_left _ (List.mem_append_left _ (List.mem_append_left _ (List.mem_append_left _ (List.mem_append_left _ (List.mem_append_left _ (List.mem_append_left _ (List.mem_append_left _ (List.mem_append_left _ (List.mem_append_left _ (List.mem_append_left _ (List.mem_append_left _ (List.mem_append_left _ (List.mem_append_left _ (List.mem_append_right _ (List.mem_append_right _ (List.mem_append_left _ (List.mem_of_getElem? (i := 12) rfl))))))))))))))))))))) rfl ⟨by decide, by decide, rfl⟩ ⟨Nat.le_of_ble_eq_true rfl, Nat.le_of_ble_eq_true rfl⟩ rfl rfl (Nat.le_of_ble_eq_true rfl) ⟨Nat.le_of_ble_eq_true rfl, Nat.le_of_ble_eq_true rfl⟩ dL_law_12 rfl rfl rfl (fun w hw => ?_)
  obtain ⟨am, rfl⟩ := hw
  refine x_astore_n C 16 dL_law_15 (by decide) rfl rfl ?_
  refine x_iconst (v := (1)) C 17 dL_law_16 (by decide) rfl ?_
  refine x_newa (atype := .long) (ty := .long) C 19 3 (1, .inr (.inl (fun _ => 0))) rfl (fun _ _ h => h) (List.mem_append_left _ (List.mem_append_left _ (List.mem_append_left _ (List.mem_append_left _ (List.mem_append_left _ (List.mem_append_left _ (List.mem_append_left _ (List.mem_append_left _ (List.mem_append_left _ (List.mem_append_left _ (List.mem_append_left _ (List.mem_append_left _ (List.mem_append_left _ (List.mem_append_left _ (List.mem_append_left _ (List.mem_append_left _ (List.mem_append_left _ (List.mem_append_left _ (List.mem_of_getElem? (i := 6) rfl))))))))))))))))))) rfl (fun _ => rfl) (by decide) (by decide) (Nat.le_of_ble_eq_true rfl) (Nat.le_of_ble_eq_true rfl) (Nat.le_of_ble_eq_true rfl) dL_law_17 rfl (fun o => ?_)
  refine x_astore_n C 20 dL_law_19 (by decide) rfl rfl ?_
  refine x_iconst (v := (1)) C 21 dL_law_20 (by decide) rfl ?_
  refine x_newa (atype := .double) (ty := .double) C 23 4 (1, .inr (.inr (.inr (.inl (fun _ => 0))))) rfl (fun _ _ h => h) (List.mem_append_left _ (List.mem_append_left _ (List.mem_append_left _ (List.mem_append_left _ (List.mem_append_left _ (List.mem_append_left _ (List.mem_append_left _ (List.mem_append_left _ (List.mem_append_left _ (List.mem_append_left _ (List.mem_append_left _ (List.mem_append_left _ (List.mem_append_left _ (List.mem_append_left _ (List.mem_append_left _ (List.mem_append_left _ (List.mem_append_left _ (List.mem_append_left _ (List.mem_of_getElem? (i := 7) rfl))))))))))))))))))) rfl (fun _ => rfl) (by decide) (by decide) (Nat.le_of_ble_eq_true rfl) (Nat.le_of_ble_eq_true rfl) (Nat.le_of_ble_eq_true rfl) dL_law_21 rfl (fun od => ?_)
  refine x_astore C 25 dL_law_23 (by decide) rfl rfl ?_
  refine x_iconst (v := (0)) C 26 dL_law_25 (by decide) rfl ?_
  refine x_istore C 28 dL_law_26 (by decide) rfl rfl ?_
  refine x_perm (w_p0 _ _ _ _) ?_
  refine x_ws (show _ = lW o m od am a (wC a E0 (fun _ => 0) (fun _ => 0) A (fun _ => 0) 0 S9) (fun _ => 0) (fun _ => 0) mI0 0 from rfl) ?_
  refine x_ls (show _ = [some (.ref b), some (.ref x), some (.ref m), some (.ref o), some (.ref od), some (.int (nI 0)), none, none, none, none] from rfl) ?_
  exact w_loop hl C hS0 hL hend 512 0 _ _ _ _ _ _ _ (Nat.zero_le L) (by omega) (Nat.le_of_ble_eq_true rfl) (Nat.le_of_ble_eq_true rfl) ⟨_, _, A, _, _, _, rfl, hA0, rr0⟩
end LV
