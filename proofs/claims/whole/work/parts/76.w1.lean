section LW
variable {l : Launch} {φ : Fx} {D : va_G} {a : Nat → ClassId} {E0 x o m od b L i kc ns : Nat} {am : Nat → Nat} {w : va_W} {f : Nat → Int64} {fd : Nat → UInt64} {I : Nat → Nat → Int32} {e : Int64} {xs : Nat → Int32} {pc : Nat} {Lc : List (Option Value)} {rest : List Value} {ws : va_W}
set_option maxRecDepth 100000 in
set_option maxHeartbeats 4000000 in
theorem lc_back (hl : l.stackTraces = false) (C : Cb (gm D a E0) l φ cL_law 10 RL wsL_law room_1) (hS0 : lS φ b L xs) (hi : i + 6 ≤ L) (hL : L ≤ 3072) (hkc : kc + 4 ≤ 639004) (hns : ns + 48 ≤ 7099219) (h : RW a E0 x I e w) (kk : ∀ (w1 : va_W) (f1 : Nat → Int64) (fd1 : Nat → UInt64) (J : Nat → Nat → Int32) (e2 : Int64), RW a E0 x J e2 w1 → X φ 2274 [some (.ref b), some (.ref x), some (.ref m), some (.ref o), some (.ref od), some (.int (nI i)), none, none, none, none] [] (lW o m od am a w1 f1 fd1 J e2) (kc + 4) (ns + 48)) : X φ 710 [some (.ref b), some (.ref x), some (.ref m), some (.ref o), some (.ref od), some (.int (nI i)), none, none, none, none] [] (lW o m od am a w f fd I e) kc ns := by
  obtain ⟨q9, fs9, hq9⟩ := h.xq
  refine x_aload_n C 711 dL_law_710 rfl rfl ?_
  obtain ⟨k, b2, J, e2, rmM, ⟨hr1, hr2, hr3, hr4⟩, hH, hM, hk⟩ := sm_back (m := m) (am := am) (o := o) (f := f) hl h 
  refine x_aload_n C 712 dL_law_711 rfl rfl ?_
  refine x_callW1_i C 715 (kc + 4) (ns + 48) 2 hH rfl gL_law_L_back ⟨by decide, by decide, rfl⟩ ⟨Nat.le_of_ble_eq_true rfl, Nat.le_of_ble_eq_true rfl⟩ rfl rfl (Nat.le_of_ble_eq_true rfl) ⟨show kc + 4 ≤ 639004 by omega, show ns + 48 ≤ 7099219 by omega⟩ dL_law_712 rfl rfl rfl (fun v1 w2 hv1 => ?_)
  obtain ⟨rfl, w1, f1, rfl, hRW1, hf1⟩ := hv1
  refine x_istore C 717 dL_law_715 (by decide) rfl rfl ?_
  refine x_aload_n C 718 dL_law_717 rfl rfl ?_
  refine x_perm lp_1 ?_
  refine x_callV1_i C 721 (kc + 4) (ns + 48) 0 10 0 hM rfl gL_law_X6_back ⟨rfl, by decide, by decide, rfl⟩ ⟨show rmM.frames + 1 ≤ 2048 by omega, show 8 + (3 + 11) + rmM.locals ≤ 94400 by omega⟩ rfl rfl rfl rfl (Nat.le_of_ble_eq_true rfl) ⟨show kc + 4 + rmM.cells ≤ 639004 by omega, show ns + 48 + rmM.slots ≤ 7099219 by omega⟩ dL_law_718 rfl (by omega) (by omega) (fun v2 w2 hv2 => ?_)
  obtain ⟨rfl, rfl⟩ := hv2
  refine x_perm lp_2 ?_
  refine x_istore C 723 dL_law_721 (by decide) rfl rfl ?_
  refine x_aload_n C 724 dL_law_723 rfl rfl ?_
  refine x_perm lp_1 ?_
  refine x_callV1_i C 727 (kc + 4) (ns + 48) 0 10 0 (cM_thrown hl) rfl gL_law_X6_thrown ⟨rfl, by decide, by decide, rfl⟩ ⟨Nat.le_of_ble_eq_true rfl, Nat.le_of_ble_eq_true rfl⟩ rfl rfl rfl rfl (Nat.le_of_ble_eq_true rfl) ⟨show kc + 4 + 0 ≤ 639004 by omega, show ns + 48 + 0 ≤ 7099219 by omega⟩ dL_law_724 rfl rfl rfl (fun v3 w3 hv3 => ?_)
  obtain ⟨rfl, rfl⟩ := hv3
  refine x_perm lp_2 ?_
  refine x_top hk ?_
  refine x_iload C 729 dL_law_727 rfl rfl ?_
  refine x_icmp_eq C 734 732 dL_law_729 (by decide) rfl (fun _ => ?_) (fun z => absurd rfl z)
  refine x_iload C 736 dL_law_734 rfl rfl ?_
  refine x_if_ne C 751 739 dL_law_736 (by decide) rfl (fun z => ?_) (fun z => ?_)
  · refine x_goto C 2274 dL_law_751 (by decide) ?_
    refine x_dropn 6 ?_
    refine x_dropn 7 ?_
    refine x_ls (show _ = [some (.ref b), some (.ref x), some (.ref m), some (.ref o), some (.ref od), some (.int (nI i)), none, none, none, none] from rfl) ?_
    exact kk w1 f1 fd J e2 hRW1
  · refine x_aload_n C 740 dL_law_739 rfl rfl ?_
    refine x_iconst (v := (0)) C 741 dL_law_740 (by decide) rfl ?_
    refine x_lald C 742 w1.length 3 lw_o rfl vp_in0 dL_law_741 rfl ?_
    refine x_topq (show _ = Value.long v2.toInt64 from congrArg Value.long (hf1 z)) ?_
    refine x_iload C 744 dL_law_742 rfl rfl ?_
    refine x_i2l C 745 dL_law_744 rfl rfl ?_
    refine x_lcmp C 746 dL_law_745 rfl ?_
    refine x_top (lc_refl _) ?_
    refine x_if_eq C 751 749 dL_law_746 (by decide) rfl (fun _ => ?_) (fun z => absurd rfl z)
    refine x_goto C 2274 dL_law_751 (by decide) ?_
    refine x_dropn 6 ?_
    refine x_dropn 7 ?_
    refine x_ls (show _ = [some (.ref b), some (.ref x), some (.ref m), some (.ref o), some (.ref od), some (.int (nI i)), none, none, none, none] from rfl) ?_
    exact kk w1 f1 fd J e2 hRW1
set_option maxRecDepth 100000 in
set_option maxHeartbeats 4000000 in
theorem lc_goTo (hl : l.stackTraces = false) (C : Cb (gm D a E0) l φ cL_law 10 RL wsL_law room_1) (hS0 : lS φ b L xs) (hi : i + 6 ≤ L) (hL : L ≤ 3072) (hkc : kc + 4 ≤ 639004) (hns : ns + 48 ≤ 7099219) (h : RW a E0 x I e w) (kk : ∀ (w1 : va_W) (f1 : Nat → Int64) (fd1 : Nat → UInt64) (J : Nat → Nat → Int32) (e2 : Int64), RW a E0 x J e2 w1 → X φ 2274 [some (.ref b), some (.ref x), some (.ref m), some (.ref o), some (.ref od), some (.int (nI i)), none, none, none, none] [] (lW o m od am a w1 f1 fd1 J e2) (kc + 4) (ns + 48)) : X φ 754 [some (.ref b), some (.ref x), some (.ref m), some (.ref o), some (.ref od), some (.int (nI i)), none, none, none, none] [] (lW o m od am a w f fd I e) kc ns := by
  obtain ⟨q9, fs9, hq9⟩ := h.xq
  refine x_aload_n C 755 dL_law_754 rfl rfl ?_
  refine x_aload_n C 756 dL_law_755 rfl rfl ?_
  refine x_iload C 758 dL_law_756 rfl rfl ?_
  refine x_iconst (v := (1)) C 759 dL_law_758 (by decide) rfl ?_
  refine x_iadd C 760 dL_law_759 rfl ?_
  refine x_top (show _ = nI (i + 1) from nI_add _ _) ?_
  refine x_sld hS0 C 761 (vp_in_nI (by omega) (by omega)) dL_law_760 rfl ?_
  refine x_top (show _ = xs (i + 1) from by rw [nI_clamp (by omega)]) ?_
  obtain ⟨k, b2, J, e2, rmM, ⟨hr1, hr2, hr3, hr4⟩, hH, hM, hk⟩ := sm_goTo (m := m) (am := am) (o := o) (f := f) hl h (xs (i + 1))
  refine x_aload_n C 762 dL_law_761 rfl rfl ?_
  refine x_callW1_i C 765 (kc + 4) (ns + 48) 3 hH rfl gL_law_L_goTo ⟨by decide, by decide, rfl⟩ ⟨Nat.le_of_ble_eq_true rfl, Nat.le_of_ble_eq_true rfl⟩ rfl rfl (Nat.le_of_ble_eq_true rfl) ⟨show kc + 4 ≤ 639004 by omega, show ns + 48 ≤ 7099219 by omega⟩ dL_law_762 rfl rfl rfl (fun v1 w2 hv1 => ?_)
  obtain ⟨rfl, w1, f1, rfl, hRW1, hf1⟩ := hv1
  refine x_istore C 767 dL_law_765 (by decide) rfl rfl ?_
  refine x_aload_n C 768 dL_law_767 rfl rfl ?_
  refine x_aload_n C 769 dL_law_768 rfl rfl ?_
  refine x_iload C 771 dL_law_769 rfl rfl ?_
  refine x_iconst (v := (1)) C 772 dL_law_771 (by decide) rfl ?_
  refine x_iadd C 773 dL_law_772 rfl ?_
  refine x_top (show _ = nI (i + 1) from nI_add _ _) ?_
  refine x_sld hS0 C 774 (vp_in_nI (by omega) (by omega)) dL_law_773 rfl ?_
  refine x_top (show _ = xs (i + 1) from by rw [nI_clamp (by omega)]) ?_
  refine x_perm lp_1 ?_
  refine x_callV1_i C 777 (kc + 4) (ns + 48) 0 10 1 hM rfl gL_law_X6_goTo ⟨rfl, by decide, by decide, rfl⟩ ⟨show rmM.frames + 1 ≤ 2048 by omega, show 8 + (4 + 11) + rmM.locals ≤ 94400 by omega⟩ rfl rfl rfl rfl (Nat.le_of_ble_eq_true rfl) ⟨show kc + 4 + rmM.cells ≤ 639004 by omega, show ns + 48 + rmM.slots ≤ 7099219 by omega⟩ dL_law_774 rfl (by omega) (by omega) (fun v2 w2 hv2 => ?_)
  obtain ⟨rfl, rfl⟩ := hv2
  refine x_perm lp_2 ?_
  refine x_istore C 779 dL_law_777 (by decide) rfl rfl ?_
  refine x_aload_n C 780 dL_law_779 rfl rfl ?_
  refine x_perm lp_1 ?_
  refine x_callV1_i C 783 (kc + 4) (ns + 48) 0 10 0 (cM_thrown hl) rfl gL_law_X6_thrown ⟨rfl, by decide, by decide, rfl⟩ ⟨Nat.le_of_ble_eq_true rfl, Nat.le_of_ble_eq_true rfl⟩ rfl rfl rfl rfl (Nat.le_of_ble_eq_true rfl) ⟨show kc + 4 + 0 ≤ 639004 by omega, show ns + 48 + 0 ≤ 7099219 by omega⟩ dL_law_780 rfl rfl rfl (fun v3 w3 hv3 => ?_)
  obtain ⟨rfl, rfl⟩ := hv3
  refine x_perm lp_2 ?_
  refine x_top hk ?_
  refine x_iload C 785 dL_law_783 rfl rfl ?_
  refine x_icmp_eq C 790 788 dL_law_785 (by decide) rfl (fun _ => ?_) (fun z => absurd rfl z)
  refine x_iload C 792 dL_law_790 rfl rfl ?_
  refine x_if_ne C 807 795 dL_law_792 (by decide) rfl (fun z => ?_) (fun z => ?_)
  · refine x_goto C 2274 dL_law_807 (by decide) ?_
    refine x_dropn 6 ?_
    refine x_dropn 7 ?_
    refine x_ls (show _ = [some (.ref b), some (.ref x), some (.ref m), some (.ref o), some (.ref od), some (.int (nI i)), none, none, none, none] from rfl) ?_
    exact kk w1 f1 fd J e2 hRW1
  · refine x_aload_n C 796 dL_law_795 rfl rfl ?_
    refine x_iconst (v := (0)) C 797 dL_law_796 (by decide) rfl ?_
    refine x_lald C 798 w1.length 3 lw_o rfl vp_in0 dL_law_797 rfl ?_
    refine x_topq (show _ = Value.long v2.toInt64 from congrArg Value.long (hf1 z)) ?_
    refine x_iload C 800 dL_law_798 rfl rfl ?_
    refine x_i2l C 801 dL_law_800 rfl rfl ?_
    refine x_lcmp C 802 dL_law_801 rfl ?_
    refine x_top (lc_refl _) ?_
    refine x_if_eq C 807 805 dL_law_802 (by decide) rfl (fun _ => ?_) (fun z => absurd rfl z)
    refine x_goto C 2274 dL_law_807 (by decide) ?_
    refine x_dropn 6 ?_
    refine x_dropn 7 ?_
    refine x_ls (show _ = [some (.ref b), some (.ref x), some (.ref m), some (.ref o), some (.ref od), some (.int (nI i)), none, none, none, none] from rfl) ?_
    exact kk w1 f1 fd J e2 hRW1
set_option maxRecDepth 100000 in
set_option maxHeartbeats 4000000 in
theorem lc_pass (hl : l.stackTraces = false) (C : Cb (gm D a E0) l φ cL_law 10 RL wsL_law room_1) (hS0 : lS φ b L xs) (hi : i + 6 ≤ L) (hL : L ≤ 3072) (hkc : kc + 4 ≤ 639004) (hns : ns + 48 ≤ 7099219) (h : RW a E0 x I e w) (kk : ∀ (w1 : va_W) (f1 : Nat → Int64) (fd1 : Nat → UInt64) (J : Nat → Nat → Int32) (e2 : Int64), RW a E0 x J e2 w1 → X φ 2274 [some (.ref b), some (.ref x), some (.ref m), some (.ref o), some (.ref od), some (.int (nI i)), none, none, none, none] [] (lW o m od am a w1 f1 fd1 J e2) (kc + 4) (ns + 48)) : X φ 810 [some (.ref b), some (.ref x), some (.ref m), some (.ref o), some (.ref od), some (.int (nI i)), none, none, none, none] [] (lW o m od am a w f fd I e) kc ns := by
  obtain ⟨q9, fs9, hq9⟩ := h.xq
  refine x_aload_n C 811 dL_law_810 rfl rfl ?_
  refine x_aload_n C 812 dL_law_811 rfl rfl ?_
  refine x_iload C 814 dL_law_812 rfl rfl ?_
  refine x_iconst (v := (1)) C 815 dL_law_814 (by decide) rfl ?_
  refine x_iadd C 816 dL_law_815 rfl ?_
  refine x_top (show _ = nI (i + 1) from nI_add _ _) ?_
  refine x_sld hS0 C 817 (vp_in_nI (by omega) (by omega)) dL_law_816 rfl ?_
  refine x_top (show _ = xs (i + 1) from by rw [nI_clamp (by omega)]) ?_
  obtain ⟨k, b2, J, e2, rmM, ⟨hr1, hr2, hr3, hr4⟩, hH, hM, hk⟩ := sm_pass (m := m) (am := am) (o := o) (f := f) hl h (xs (i + 1))
  refine x_aload_n C 818 dL_law_817 rfl rfl ?_
  refine x_callW1_i C 821 (kc + 4) (ns + 48) 3 hH rfl gL_law_L_pass ⟨by decide, by decide, rfl⟩ ⟨Nat.le_of_ble_eq_true rfl, Nat.le_of_ble_eq_true rfl⟩ rfl rfl (Nat.le_of_ble_eq_true rfl) ⟨show kc + 4 ≤ 639004 by omega, show ns + 48 ≤ 7099219 by omega⟩ dL_law_818 rfl rfl rfl (fun v1 w2 hv1 => ?_)
  obtain ⟨rfl, w1, f1, rfl, hRW1, hf1⟩ := hv1
  refine x_istore C 823 dL_law_821 (by decide) rfl rfl ?_
  refine x_aload_n C 824 dL_law_823 rfl rfl ?_
  refine x_aload_n C 825 dL_law_824 rfl rfl ?_
  refine x_iload C 827 dL_law_825 rfl rfl ?_
  refine x_iconst (v := (1)) C 828 dL_law_827 (by decide) rfl ?_
  refine x_iadd C 829 dL_law_828 rfl ?_
  refine x_top (show _ = nI (i + 1) from nI_add _ _) ?_
  refine x_sld hS0 C 830 (vp_in_nI (by omega) (by omega)) dL_law_829 rfl ?_
  refine x_top (show _ = xs (i + 1) from by rw [nI_clamp (by omega)]) ?_
  refine x_perm lp_1 ?_
  refine x_callV1_i C 833 (kc + 4) (ns + 48) 0 10 1 hM rfl gL_law_X6_pass ⟨rfl, by decide, by decide, rfl⟩ ⟨show rmM.frames + 1 ≤ 2048 by omega, show 8 + (4 + 11) + rmM.locals ≤ 94400 by omega⟩ rfl rfl rfl rfl (Nat.le_of_ble_eq_true rfl) ⟨show kc + 4 + rmM.cells ≤ 639004 by omega, show ns + 48 + rmM.slots ≤ 7099219 by omega⟩ dL_law_830 rfl (by omega) (by omega) (fun v2 w2 hv2 => ?_)
  obtain ⟨rfl, rfl⟩ := hv2
  refine x_perm lp_2 ?_
  refine x_istore C 835 dL_law_833 (by decide) rfl rfl ?_
  refine x_aload_n C 836 dL_law_835 rfl rfl ?_
  refine x_perm lp_1 ?_
  refine x_callV1_i C 839 (kc + 4) (ns + 48) 0 10 0 (cM_thrown hl) rfl gL_law_X6_thrown ⟨rfl, by decide, by decide, rfl⟩ ⟨Nat.le_of_ble_eq_true rfl, Nat.le_of_ble_eq_true rfl⟩ rfl rfl rfl rfl (Nat.le_of_ble_eq_true rfl) ⟨show kc + 4 + 0 ≤ 639004 by omega, show ns + 48 + 0 ≤ 7099219 by omega⟩ dL_law_836 rfl rfl rfl (fun v3 w3 hv3 => ?_)
  obtain ⟨rfl, rfl⟩ := hv3
  refine x_perm lp_2 ?_
  refine x_top hk ?_
  refine x_iload C 841 dL_law_839 rfl rfl ?_
  refine x_icmp_eq C 846 844 dL_law_841 (by decide) rfl (fun _ => ?_) (fun z => absurd rfl z)
  refine x_iload C 848 dL_law_846 rfl rfl ?_
  refine x_if_ne C 863 851 dL_law_848 (by decide) rfl (fun z => ?_) (fun z => ?_)
  · refine x_goto C 2274 dL_law_863 (by decide) ?_
    refine x_dropn 6 ?_
    refine x_dropn 7 ?_
    refine x_ls (show _ = [some (.ref b), some (.ref x), some (.ref m), some (.ref o), some (.ref od), some (.int (nI i)), none, none, none, none] from rfl) ?_
    exact kk w1 f1 fd J e2 hRW1
  · refine x_aload_n C 852 dL_law_851 rfl rfl ?_
    refine x_iconst (v := (0)) C 853 dL_law_852 (by decide) rfl ?_
    refine x_lald C 854 w1.length 3 lw_o rfl vp_in0 dL_law_853 rfl ?_
    refine x_topq (show _ = Value.long v2.toInt64 from congrArg Value.long (hf1 z)) ?_
    refine x_iload C 856 dL_law_854 rfl rfl ?_
    refine x_i2l C 857 dL_law_856 rfl rfl ?_
    refine x_lcmp C 858 dL_law_857 rfl ?_
    refine x_top (lc_refl _) ?_
    refine x_if_eq C 863 861 dL_law_858 (by decide) rfl (fun _ => ?_) (fun z => absurd rfl z)
    refine x_goto C 2274 dL_law_863 (by decide) ?_
    refine x_dropn 6 ?_
    refine x_dropn 7 ?_
    refine x_ls (show _ = [some (.ref b), some (.ref x), some (.ref m), some (.ref o), some (.ref od), some (.int (nI i)), none, none, none, none] from rfl) ?_
    exact kk w1 f1 fd J e2 hRW1
set_option maxRecDepth 100000 in
set_option maxHeartbeats 4000000 in
theorem lc_currentCue (hl : l.stackTraces = false) (C : Cb (gm D a E0) l φ cL_law 10 RL wsL_law room_1) (hS0 : lS φ b L xs) (hi : i + 6 ≤ L) (hL : L ≤ 3072) (hkc : kc + 4 ≤ 639004) (hns : ns + 48 ≤ 7099219) (h : RW a E0 x I e w) (kk : ∀ (w1 : va_W) (f1 : Nat → Int64) (fd1 : Nat → UInt64) (J : Nat → Nat → Int32) (e2 : Int64), RW a E0 x J e2 w1 → X φ 2274 [some (.ref b), some (.ref x), some (.ref m), some (.ref o), some (.ref od), some (.int (nI i)), none, none, none, none] [] (lW o m od am a w1 f1 fd1 J e2) (kc + 4) (ns + 48)) : X φ 866 [some (.ref b), some (.ref x), some (.ref m), some (.ref o), some (.ref od), some (.int (nI i)), none, none, none, none] [] (lW o m od am a w f fd I e) kc ns := by
  obtain ⟨q9, fs9, hq9⟩ := h.xq
  obtain ⟨b2, J, e2, rmC, rmM, hrC, ⟨hr1, hr2, hr3, hr4⟩, hH, hM⟩ := sd_currentCue (m := m) (am := am) hl h
  obtain ⟨hc1, hc2, hc3, hc4⟩ := hrC
  refine x_aload_n C 867 dL_law_866 rfl rfl ?_
  refine x_ws (show _ = w ++ (outL a o f ++ rsW m od am a fd I e) from List.append_assoc _ _ _) ?_
  refine x_callV1_i C 870 kc ns q9 9 0 hH rfl gL_law_X5_currentCue ⟨rfl, by decide, by decide, rfl⟩ ⟨show rmC.frames + 1 ≤ 2048 by omega, show 8 + (1 + 11) + rmC.locals ≤ 94400 by omega⟩ rfl hq9 rfl rfl (Nat.le_of_ble_eq_true rfl) ⟨show kc + rmC.cells ≤ 639004 by omega, show ns + rmC.slots ≤ 7099219 by omega⟩ dL_law_867 rfl (by omega) (by omega) (fun v1 w2 hv1 => ?_)
  obtain ⟨rfl, hRW1⟩ := hv1
  refine x_ws (show _ = (w2 ++ outL a o f) ++ rsW m od am a fd I e from (List.append_assoc _ _ _).symm) ?_
  refine x_aload_n C 871 dL_law_870 rfl rfl ?_
  refine x_perm lp_1 ?_
  refine x_callV1_i C 874 kc ns 0 10 0 hM rfl gL_law_X6_currentCue ⟨rfl, by decide, by decide, rfl⟩ ⟨show rmM.frames + 1 ≤ 2048 by omega, show 8 + (1 + 11) + rmM.locals ≤ 94400 by omega⟩ rfl rfl rfl rfl (Nat.le_of_ble_eq_true rfl) ⟨show kc + rmM.cells ≤ 639004 by omega, show ns + rmM.slots ≤ 7099219 by omega⟩ dL_law_871 rfl (by omega) (by omega) (fun v3 w3 hv3 => ?_)
  obtain ⟨rfl, rfl⟩ := hv3
  refine x_perm lp_2 ?_
  refine x_icmp_eq C 2274 877 dL_law_874 (by decide) rfl (fun _ => ?_) (fun z => absurd rfl z)
  refine x_wide (kc' := kc + 4) (ns' := ns + 48) (by omega) (by omega) ?_
  refine x_ls (show _ = [some (.ref b), some (.ref x), some (.ref m), some (.ref o), some (.ref od), some (.int (nI i)), none, none, none, none] from rfl) ?_
  exact kk w2 f fd J e2 hRW1
set_option maxRecDepth 100000 in
set_option maxHeartbeats 4000000 in
theorem lc_cueLevel (hl : l.stackTraces = false) (C : Cb (gm D a E0) l φ cL_law 10 RL wsL_law room_1) (hS0 : lS φ b L xs) (hi : i + 6 ≤ L) (hL : L ≤ 3072) (hkc : kc + 4 ≤ 639004) (hns : ns + 48 ≤ 7099219) (h : RW a E0 x I e w) (kk : ∀ (w1 : va_W) (f1 : Nat → Int64) (fd1 : Nat → UInt64) (J : Nat → Nat → Int32) (e2 : Int64), RW a E0 x J e2 w1 → X φ 2274 [some (.ref b), some (.ref x), some (.ref m), some (.ref o), some (.ref od), some (.int (nI i)), none, none, none, none] [] (lW o m od am a w1 f1 fd1 J e2) (kc + 4) (ns + 48)) : X φ 879 [some (.ref b), some (.ref x), some (.ref m), some (.ref o), some (.ref od), some (.int (nI i)), none, none, none, none] [] (lW o m od am a w f fd I e) kc ns := by
  obtain ⟨q9, fs9, hq9⟩ := h.xq
  refine x_aload_n C 880 dL_law_879 rfl rfl ?_
  refine x_aload_n C 881 dL_law_880 rfl rfl ?_
  refine x_iload C 883 dL_law_881 rfl rfl ?_
  refine x_iconst (v := (1)) C 884 dL_law_883 (by decide) rfl ?_
  refine x_iadd C 885 dL_law_884 rfl ?_
  refine x_top (show _ = nI (i + 1) from nI_add _ _) ?_
  refine x_sld hS0 C 886 (vp_in_nI (by omega) (by omega)) dL_law_885 rfl ?_
  refine x_top (show _ = xs (i + 1) from by rw [nI_clamp (by omega)]) ?_
  obtain ⟨k, b2, J, e2, rmM, ⟨hr1, hr2, hr3, hr4⟩, hH, hM, hk⟩ := sm_cueLevel (m := m) (am := am) (o := o) (f := f) hl h (xs (i + 1))
  refine x_aload_n C 887 dL_law_886 rfl rfl ?_
  refine x_callW1_i C 890 (kc + 4) (ns + 48) 3 hH rfl gL_law_L_cueLevel ⟨by decide, by decide, rfl⟩ ⟨Nat.le_of_ble_eq_true rfl, Nat.le_of_ble_eq_true rfl⟩ rfl rfl (Nat.le_of_ble_eq_true rfl) ⟨show kc + 4 ≤ 639004 by omega, show ns + 48 ≤ 7099219 by omega⟩ dL_law_887 rfl rfl rfl (fun v1 w2 hv1 => ?_)
  obtain ⟨rfl, w1, f1, rfl, hRW1, hf1⟩ := hv1
  refine x_istore C 892 dL_law_890 (by decide) rfl rfl ?_
  refine x_aload_n C 893 dL_law_892 rfl rfl ?_
  refine x_aload_n C 894 dL_law_893 rfl rfl ?_
  refine x_iload C 896 dL_law_894 rfl rfl ?_
  refine x_iconst (v := (1)) C 897 dL_law_896 (by decide) rfl ?_
  refine x_iadd C 898 dL_law_897 rfl ?_
  refine x_top (show _ = nI (i + 1) from nI_add _ _) ?_
  refine x_sld hS0 C 899 (vp_in_nI (by omega) (by omega)) dL_law_898 rfl ?_
  refine x_top (show _ = xs (i + 1) from by rw [nI_clamp (by omega)]) ?_
  refine x_perm lp_1 ?_
  refine x_callV1_i C 902 (kc + 4) (ns + 48) 0 10 1 hM rfl gL_law_X6_cueLevel ⟨rfl, by decide, by decide, rfl⟩ ⟨show rmM.frames + 1 ≤ 2048 by omega, show 8 + (2 + 11) + rmM.locals ≤ 94400 by omega⟩ rfl rfl rfl rfl (Nat.le_of_ble_eq_true rfl) ⟨show kc + 4 + rmM.cells ≤ 639004 by omega, show ns + 48 + rmM.slots ≤ 7099219 by omega⟩ dL_law_899 rfl (by omega) (by omega) (fun v2 w2 hv2 => ?_)
  obtain ⟨rfl, rfl⟩ := hv2
  refine x_perm lp_2 ?_
  refine x_istore C 904 dL_law_902 (by decide) rfl rfl ?_
  refine x_aload_n C 905 dL_law_904 rfl rfl ?_
  refine x_perm lp_1 ?_
  refine x_callV1_i C 908 (kc + 4) (ns + 48) 0 10 0 (cM_thrown hl) rfl gL_law_X6_thrown ⟨rfl, by decide, by decide, rfl⟩ ⟨Nat.le_of_ble_eq_true rfl, Nat.le_of_ble_eq_true rfl⟩ rfl rfl rfl rfl (Nat.le_of_ble_eq_true rfl) ⟨show kc + 4 + 0 ≤ 639004 by omega, show ns + 48 + 0 ≤ 7099219 by omega⟩ dL_law_905 rfl rfl rfl (fun v3 w3 hv3 => ?_)
  obtain ⟨rfl, rfl⟩ := hv3
  refine x_perm lp_2 ?_
  refine x_top hk ?_
  refine x_iload C 910 dL_law_908 rfl rfl ?_
  refine x_icmp_eq C 915 913 dL_law_910 (by decide) rfl (fun _ => ?_) (fun z => absurd rfl z)
  refine x_iload C 917 dL_law_915 rfl rfl ?_
  refine x_if_ne C 932 920 dL_law_917 (by decide) rfl (fun z => ?_) (fun z => ?_)
  · refine x_goto C 2274 dL_law_932 (by decide) ?_
    refine x_dropn 6 ?_
    refine x_dropn 7 ?_
    refine x_ls (show _ = [some (.ref b), some (.ref x), some (.ref m), some (.ref o), some (.ref od), some (.int (nI i)), none, none, none, none] from rfl) ?_
    exact kk w1 f1 fd J e2 hRW1
  · refine x_aload_n C 921 dL_law_920 rfl rfl ?_
    refine x_iconst (v := (0)) C 922 dL_law_921 (by decide) rfl ?_
    refine x_lald C 923 w1.length 3 lw_o rfl vp_in0 dL_law_922 rfl ?_
    refine x_topq (show _ = Value.long v2.toInt64 from congrArg Value.long (hf1 z)) ?_
    refine x_iload C 925 dL_law_923 rfl rfl ?_
    refine x_i2l C 926 dL_law_925 rfl rfl ?_
    refine x_lcmp C 927 dL_law_926 rfl ?_
    refine x_top (lc_refl _) ?_
    refine x_if_eq C 932 930 dL_law_927 (by decide) rfl (fun _ => ?_) (fun z => absurd rfl z)
    refine x_goto C 2274 dL_law_932 (by decide) ?_
    refine x_dropn 6 ?_
    refine x_dropn 7 ?_
    refine x_ls (show _ = [some (.ref b), some (.ref x), some (.ref m), some (.ref o), some (.ref od), some (.int (nI i)), none, none, none, none] from rfl) ?_
    exact kk w1 f1 fd J e2 hRW1
set_option maxRecDepth 100000 in
set_option maxHeartbeats 4000000 in
theorem lc_ticksLeft (hl : l.stackTraces = false) (C : Cb (gm D a E0) l φ cL_law 10 RL wsL_law room_1) (hS0 : lS φ b L xs) (hi : i + 6 ≤ L) (hL : L ≤ 3072) (hkc : kc + 4 ≤ 639004) (hns : ns + 48 ≤ 7099219) (h : RW a E0 x I e w) (kk : ∀ (w1 : va_W) (f1 : Nat → Int64) (fd1 : Nat → UInt64) (J : Nat → Nat → Int32) (e2 : Int64), RW a E0 x J e2 w1 → X φ 2274 [some (.ref b), some (.ref x), some (.ref m), some (.ref o), some (.ref od), some (.int (nI i)), none, none, none, none] [] (lW o m od am a w1 f1 fd1 J e2) (kc + 4) (ns + 48)) : X φ 935 [some (.ref b), some (.ref x), some (.ref m), some (.ref o), some (.ref od), some (.int (nI i)), none, none, none, none] [] (lW o m od am a w f fd I e) kc ns := by
  obtain ⟨q9, fs9, hq9⟩ := h.xq
  obtain ⟨b2, J, e2, rmC, rmM, hrC, ⟨hr1, hr2, hr3, hr4⟩, hH, hM⟩ := sd_ticksLeft (m := m) (am := am) hl h
  obtain ⟨hc1, hc2, hc3, hc4⟩ := hrC
  refine x_aload_n C 936 dL_law_935 rfl rfl ?_
  refine x_ws (show _ = w ++ (outL a o f ++ rsW m od am a fd I e) from List.append_assoc _ _ _) ?_
  refine x_callV1_i C 939 kc ns q9 9 0 hH rfl gL_law_X5_ticksLeft ⟨rfl, by decide, by decide, rfl⟩ ⟨show rmC.frames + 1 ≤ 2048 by omega, show 8 + (3 + 11) + rmC.locals ≤ 94400 by omega⟩ rfl hq9 rfl rfl (Nat.le_of_ble_eq_true rfl) ⟨show kc + rmC.cells ≤ 639004 by omega, show ns + rmC.slots ≤ 7099219 by omega⟩ dL_law_936 rfl (by omega) (by omega) (fun v1 w2 hv1 => ?_)
  obtain ⟨rfl, hRW1⟩ := hv1
  refine x_ws (show _ = (w2 ++ outL a o f) ++ rsW m od am a fd I e from (List.append_assoc _ _ _).symm) ?_
  refine x_aload_n C 940 dL_law_939 rfl rfl ?_
  refine x_perm lp_1 ?_
  refine x_callV1_i C 943 kc ns 0 10 0 hM rfl gL_law_X6_ticksLeft ⟨rfl, by decide, by decide, rfl⟩ ⟨show rmM.frames + 1 ≤ 2048 by omega, show 8 + (3 + 11) + rmM.locals ≤ 94400 by omega⟩ rfl rfl rfl rfl (Nat.le_of_ble_eq_true rfl) ⟨show kc + rmM.cells ≤ 639004 by omega, show ns + rmM.slots ≤ 7099219 by omega⟩ dL_law_940 rfl (by omega) (by omega) (fun v3 w3 hv3 => ?_)
  obtain ⟨rfl, rfl⟩ := hv3
  refine x_perm lp_2 ?_
  refine x_icmp_eq C 2274 946 dL_law_943 (by decide) rfl (fun _ => ?_) (fun z => absurd rfl z)
  refine x_wide (kc' := kc + 4) (ns' := ns + 48) (by omega) (by omega) ?_
  refine x_ls (show _ = [some (.ref b), some (.ref x), some (.ref m), some (.ref o), some (.ref od), some (.int (nI i)), none, none, none, none] from rfl) ?_
  exact kk w2 f fd J e2 hRW1
set_option maxRecDepth 100000 in
set_option maxHeartbeats 4000000 in
theorem lc_addGroup (hl : l.stackTraces = false) (C : Cb (gm D a E0) l φ cL_law 10 RL wsL_law room_1) (hS0 : lS φ b L xs) (hi : i + 6 ≤ L) (hL : L ≤ 3072) (hkc : kc + 4 ≤ 639004) (hns : ns + 48 ≤ 7099219) (h : RW a E0 x I e w) (kk : ∀ (w1 : va_W) (f1 : Nat → Int64) (fd1 : Nat → UInt64) (J : Nat → Nat → Int32) (e2 : Int64), RW a E0 x J e2 w1 → X φ 2274 [some (.ref b), some (.ref x), some (.ref m), some (.ref o), some (.ref od), some (.int (nI i)), none, none, none, none] [] (lW o m od am a w1 f1 fd1 J e2) (kc + 4) (ns + 48)) : X φ 948 [some (.ref b), some (.ref x), some (.ref m), some (.ref o), some (.ref od), some (.int (nI i)), none, none, none, none] [] (lW o m od am a w f fd I e) kc ns := by
  obtain ⟨q9, fs9, hq9⟩ := h.xq
  refine x_aload_n C 949 dL_law_948 rfl rfl ?_
  obtain ⟨k, b2, J, e2, rmM, ⟨hr1, hr2, hr3, hr4⟩, hH, hM, hk⟩ := sm_addGroup (m := m) (am := am) (o := o) (f := f) hl h 
  refine x_aload_n C 950 dL_law_949 rfl rfl ?_
  refine x_callW1_i C 953 (kc + 4) (ns + 48) 2 hH rfl gL_law_L_addGroup ⟨by decide, by decide, rfl⟩ ⟨Nat.le_of_ble_eq_true rfl, Nat.le_of_ble_eq_true rfl⟩ rfl rfl (Nat.le_of_ble_eq_true rfl) ⟨show kc + 4 ≤ 639004 by omega, show ns + 48 ≤ 7099219 by omega⟩ dL_law_950 rfl rfl rfl (fun v1 w2 hv1 => ?_)
  obtain ⟨rfl, w1, f1, rfl, hRW1, hf1⟩ := hv1
  refine x_istore C 955 dL_law_953 (by decide) rfl rfl ?_
  refine x_aload_n C 956 dL_law_955 rfl rfl ?_
  refine x_perm lp_1 ?_
  refine x_callV1_i C 959 (kc + 4) (ns + 48) 0 10 0 hM rfl gL_law_X6_addGroup ⟨rfl, by decide, by decide, rfl⟩ ⟨show rmM.frames + 1 ≤ 2048 by omega, show 8 + (1 + 11) + rmM.locals ≤ 94400 by omega⟩ rfl rfl rfl rfl (Nat.le_of_ble_eq_true rfl) ⟨show kc + 4 + rmM.cells ≤ 639004 by omega, show ns + 48 + rmM.slots ≤ 7099219 by omega⟩ dL_law_956 rfl (by omega) (by omega) (fun v2 w2 hv2 => ?_)
  obtain ⟨rfl, rfl⟩ := hv2
  refine x_perm lp_2 ?_
  refine x_istore C 961 dL_law_959 (by decide) rfl rfl ?_
  refine x_aload_n C 962 dL_law_961 rfl rfl ?_
  refine x_perm lp_1 ?_
  refine x_callV1_i C 965 (kc + 4) (ns + 48) 0 10 0 (cM_thrown hl) rfl gL_law_X6_thrown ⟨rfl, by decide, by decide, rfl⟩ ⟨Nat.le_of_ble_eq_true rfl, Nat.le_of_ble_eq_true rfl⟩ rfl rfl rfl rfl (Nat.le_of_ble_eq_true rfl) ⟨show kc + 4 + 0 ≤ 639004 by omega, show ns + 48 + 0 ≤ 7099219 by omega⟩ dL_law_962 rfl rfl rfl (fun v3 w3 hv3 => ?_)
  obtain ⟨rfl, rfl⟩ := hv3
  refine x_perm lp_2 ?_
  refine x_top hk ?_
  refine x_iload C 967 dL_law_965 rfl rfl ?_
  refine x_icmp_eq C 972 970 dL_law_967 (by decide) rfl (fun _ => ?_) (fun z => absurd rfl z)
  refine x_iload C 974 dL_law_972 rfl rfl ?_
  refine x_if_ne C 989 977 dL_law_974 (by decide) rfl (fun z => ?_) (fun z => ?_)
  · refine x_goto C 2274 dL_law_989 (by decide) ?_
    refine x_dropn 6 ?_
    refine x_dropn 7 ?_
    refine x_ls (show _ = [some (.ref b), some (.ref x), some (.ref m), some (.ref o), some (.ref od), some (.int (nI i)), none, none, none, none] from rfl) ?_
    exact kk w1 f1 fd J e2 hRW1
  · refine x_aload_n C 978 dL_law_977 rfl rfl ?_
    refine x_iconst (v := (0)) C 979 dL_law_978 (by decide) rfl ?_
    refine x_lald C 980 w1.length 3 lw_o rfl vp_in0 dL_law_979 rfl ?_
    refine x_topq (show _ = Value.long v2.toInt64 from congrArg Value.long (hf1 z)) ?_
    refine x_iload C 982 dL_law_980 rfl rfl ?_
    refine x_i2l C 983 dL_law_982 rfl rfl ?_
    refine x_lcmp C 984 dL_law_983 rfl ?_
    refine x_top (lc_refl _) ?_
    refine x_if_eq C 989 987 dL_law_984 (by decide) rfl (fun _ => ?_) (fun z => absurd rfl z)
    refine x_goto C 2274 dL_law_989 (by decide) ?_
    refine x_dropn 6 ?_
    refine x_dropn 7 ?_
    refine x_ls (show _ = [some (.ref b), some (.ref x), some (.ref m), some (.ref o), some (.ref od), some (.int (nI i)), none, none, none, none] from rfl) ?_
    exact kk w1 f1 fd J e2 hRW1
set_option maxRecDepth 100000 in
set_option maxHeartbeats 4000000 in
theorem lc_setMember (hl : l.stackTraces = false) (C : Cb (gm D a E0) l φ cL_law 10 RL wsL_law room_1) (hS0 : lS φ b L xs) (hi : i + 6 ≤ L) (hL : L ≤ 3072) (hkc : kc + 4 ≤ 639004) (hns : ns + 48 ≤ 7099219) (h : RW a E0 x I e w) (kk : ∀ (w1 : va_W) (f1 : Nat → Int64) (fd1 : Nat → UInt64) (J : Nat → Nat → Int32) (e2 : Int64), RW a E0 x J e2 w1 → X φ 2274 [some (.ref b), some (.ref x), some (.ref m), some (.ref o), some (.ref od), some (.int (nI i)), none, none, none, none] [] (lW o m od am a w1 f1 fd1 J e2) (kc + 4) (ns + 48)) : X φ 992 [some (.ref b), some (.ref x), some (.ref m), some (.ref o), some (.ref od), some (.int (nI i)), none, none, none, none] [] (lW o m od am a w f fd I e) kc ns := by
  obtain ⟨q9, fs9, hq9⟩ := h.xq
  refine x_aload_n C 993 dL_law_992 rfl rfl ?_
  refine x_aload_n C 994 dL_law_993 rfl rfl ?_
  refine x_iload C 996 dL_law_994 rfl rfl ?_
  refine x_iconst (v := (1)) C 997 dL_law_996 (by decide) rfl ?_
  refine x_iadd C 998 dL_law_997 rfl ?_
  refine x_top (show _ = nI (i + 1) from nI_add _ _) ?_
  refine x_sld hS0 C 999 (vp_in_nI (by omega) (by omega)) dL_law_998 rfl ?_
  refine x_top (show _ = xs (i + 1) from by rw [nI_clamp (by omega)]) ?_
  refine x_aload_n C 1000 dL_law_999 rfl rfl ?_
  refine x_iload C 1002 dL_law_1000 rfl rfl ?_
  refine x_iconst (v := (2)) C 1003 dL_law_1002 (by decide) rfl ?_
  refine x_iadd C 1004 dL_law_1003 rfl ?_
  refine x_top (show _ = nI (i + 2) from nI_add _ _) ?_
  refine x_sld hS0 C 1005 (vp_in_nI (by omega) (by omega)) dL_law_1004 rfl ?_
  refine x_top (show _ = xs (i + 2) from by rw [nI_clamp (by omega)]) ?_
  refine x_aload_n C 1006 dL_law_1005 rfl rfl ?_
  refine x_iload C 1008 dL_law_1006 rfl rfl ?_
  refine x_iconst (v := (3)) C 1009 dL_law_1008 (by decide) rfl ?_
  refine x_iadd C 1010 dL_law_1009 rfl ?_
  refine x_top (show _ = nI (i + 3) from nI_add _ _) ?_
  refine x_sld hS0 C 1011 (vp_in_nI (by omega) (by omega)) dL_law_1010 rfl ?_
  refine x_top (show _ = xs (i + 3) from by rw [nI_clamp (by omega)]) ?_
  refine x_if_eq C 1018 1014 dL_law_1011 (by decide) rfl (fun zb23 => ?_) (fun zb23 => ?_)
  · refine x_iconst (v := (0)) C 1019 dL_law_1018 (by decide) rfl ?_
    obtain ⟨k, b2, J, e2, rmM, ⟨hr1, hr2, hr3, hr4⟩, hH, hM, hk⟩ := sm_setMember (m := m) (am := am) (o := o) (f := f) hl h (xs (i + 1)) (xs (i + 2)) false
    refine x_aload_n C 1020 dL_law_1019 rfl rfl ?_
    refine x_callW1_i C 1023 (kc + 4) (ns + 48) 5 hH rfl gL_law_L_setMember ⟨by decide, by decide, rfl⟩ ⟨Nat.le_of_ble_eq_true rfl, Nat.le_of_ble_eq_true rfl⟩ rfl rfl (Nat.le_of_ble_eq_true rfl) ⟨show kc + 4 ≤ 639004 by omega, show ns + 48 ≤ 7099219 by omega⟩ dL_law_1020 rfl rfl rfl (fun v1 w2 hv1 => ?_)
    obtain ⟨rfl, w1, f1, rfl, hRW1, hf1⟩ := hv1
    refine x_istore C 1025 dL_law_1023 (by decide) rfl rfl ?_
    refine x_aload_n C 1026 dL_law_1025 rfl rfl ?_
    refine x_aload_n C 1027 dL_law_1026 rfl rfl ?_
    refine x_iload C 1029 dL_law_1027 rfl rfl ?_
    refine x_iconst (v := (1)) C 1030 dL_law_1029 (by decide) rfl ?_
    refine x_iadd C 1031 dL_law_1030 rfl ?_
    refine x_top (show _ = nI (i + 1) from nI_add _ _) ?_
    refine x_sld hS0 C 1032 (vp_in_nI (by omega) (by omega)) dL_law_1031 rfl ?_
    refine x_top (show _ = xs (i + 1) from by rw [nI_clamp (by omega)]) ?_
    refine x_aload_n C 1033 dL_law_1032 rfl rfl ?_
    refine x_iload C 1035 dL_law_1033 rfl rfl ?_
    refine x_iconst (v := (2)) C 1036 dL_law_1035 (by decide) rfl ?_
    refine x_iadd C 1037 dL_law_1036 rfl ?_
    refine x_top (show _ = nI (i + 2) from nI_add _ _) ?_
    refine x_sld hS0 C 1038 (vp_in_nI (by omega) (by omega)) dL_law_1037 rfl ?_
    refine x_top (show _ = xs (i + 2) from by rw [nI_clamp (by omega)]) ?_
    refine x_aload_n C 1039 dL_law_1038 rfl rfl ?_
    refine x_iload C 1041 dL_law_1039 rfl rfl ?_
    refine x_iconst (v := (3)) C 1042 dL_law_1041 (by decide) rfl ?_
    refine x_iadd C 1043 dL_law_1042 rfl ?_
    refine x_top (show _ = nI (i + 3) from nI_add _ _) ?_
    refine x_sld hS0 C 1044 (vp_in_nI (by omega) (by omega)) dL_law_1043 rfl ?_
    refine x_top (show _ = xs (i + 3) from by rw [nI_clamp (by omega)]) ?_
    refine x_if_eq C 1051 1047 dL_law_1044 (by decide) rfl (fun zb52 => ?_) (fun zb52 => absurd zb23 zb52)
    refine x_iconst (v := (0)) C 1052 dL_law_1051 (by decide) rfl ?_
    refine x_perm lp_1 ?_
    refine x_callV1_i C 1055 (kc + 4) (ns + 48) 0 10 3 hM rfl gL_law_X6_setMember ⟨rfl, by decide, by decide, rfl⟩ ⟨show rmM.frames + 1 ≤ 2048 by omega, show 8 + (5 + 11) + rmM.locals ≤ 94400 by omega⟩ rfl rfl rfl rfl (Nat.le_of_ble_eq_true rfl) ⟨show kc + 4 + rmM.cells ≤ 639004 by omega, show ns + 48 + rmM.slots ≤ 7099219 by omega⟩ dL_law_1052 rfl (by omega) (by omega) (fun v2 w2 hv2 => ?_)
    obtain ⟨rfl, rfl⟩ := hv2
    refine x_perm lp_2 ?_
    refine x_istore C 1057 dL_law_1055 (by decide) rfl rfl ?_
    refine x_aload_n C 1058 dL_law_1057 rfl rfl ?_
    refine x_perm lp_1 ?_
    refine x_callV1_i C 1061 (kc + 4) (ns + 48) 0 10 0 (cM_thrown hl) rfl gL_law_X6_thrown ⟨rfl, by decide, by decide, rfl⟩ ⟨Nat.le_of_ble_eq_true rfl, Nat.le_of_ble_eq_true rfl⟩ rfl rfl rfl rfl (Nat.le_of_ble_eq_true rfl) ⟨show kc + 4 + 0 ≤ 639004 by omega, show ns + 48 + 0 ≤ 7099219 by omega⟩ dL_law_1058 rfl rfl rfl (fun v3 w3 hv3 => ?_)
    obtain ⟨rfl, rfl⟩ := hv3
    refine x_perm lp_2 ?_
    refine x_top hk ?_
    refine x_iload C 1063 dL_law_1061 rfl rfl ?_
    refine x_icmp_eq C 1068 1066 dL_law_1063 (by decide) rfl (fun _ => ?_) (fun z => absurd rfl z)
    refine x_iload C 1070 dL_law_1068 rfl rfl ?_
    refine x_if_ne C 1092 1073 dL_law_1070 (by decide) rfl (fun z => ?_) (fun z => ?_)
    · refine x_goto C 2274 dL_law_1092 (by decide) ?_
      refine x_dropn 6 ?_
      refine x_dropn 7 ?_
      refine x_ls (show _ = [some (.ref b), some (.ref x), some (.ref m), some (.ref o), some (.ref od), some (.int (nI i)), none, none, none, none] from rfl) ?_
      exact kk w1 f1 fd J e2 hRW1
    · refine x_aload_n C 1074 dL_law_1073 rfl rfl ?_
      refine x_iconst (v := (0)) C 1075 dL_law_1074 (by decide) rfl ?_
      refine x_lald C 1076 w1.length 3 lw_o rfl vp_in0 dL_law_1075 rfl ?_
      refine x_topq (show _ = Value.long (zB v2) from congrArg Value.long (hf1 z)) ?_
      refine x_iload C 1078 dL_law_1076 rfl rfl ?_
      refine x_if_eq C 1085 1081 dL_law_1078 (by decide) rfl (fun z2 => ?_) (fun z2 => ?_)
      · refine x_lconst (v := 0) C 1086 dL_law_1085 (by decide) rfl ?_
        refine x_topq (show _ = Value.long (zB v2) from congrArg Value.long (if_pos z2).symm) ?_
        refine x_lcmp C 1087 dL_law_1086 rfl ?_
        refine x_top (lc_refl _) ?_
        refine x_if_eq C 1092 1090 dL_law_1087 (by decide) rfl (fun _ => ?_) (fun z => absurd rfl z)
        refine x_goto C 2274 dL_law_1092 (by decide) ?_
        refine x_dropn 6 ?_
        refine x_dropn 7 ?_
        refine x_ls (show _ = [some (.ref b), some (.ref x), some (.ref m), some (.ref o), some (.ref od), some (.int (nI i)), none, none, none, none] from rfl) ?_
        exact kk w1 f1 fd J e2 hRW1
      · refine x_lconst (v := 1) C 1082 dL_law_1081 (by decide) rfl ?_
        refine x_goto C 1086 dL_law_1082 (by decide) ?_
        refine x_topq (show _ = Value.long (zB v2) from congrArg Value.long (if_neg z2).symm) ?_
        refine x_lcmp C 1087 dL_law_1086 rfl ?_
        refine x_top (lc_refl _) ?_
        refine x_if_eq C 1092 1090 dL_law_1087 (by decide) rfl (fun _ => ?_) (fun z => absurd rfl z)
        refine x_goto C 2274 dL_law_1092 (by decide) ?_
        refine x_dropn 6 ?_
        refine x_dropn 7 ?_
        refine x_ls (show _ = [some (.ref b), some (.ref x), some (.ref m), some (.ref o), some (.ref od), some (.int (nI i)), none, none, none, none] from rfl) ?_
        exact kk w1 f1 fd J e2 hRW1
  · refine x_iconst (v := (1)) C 1015 dL_law_1014 (by decide) rfl ?_
    refine x_goto C 1019 dL_law_1015 (by decide) ?_
    obtain ⟨k, b2, J, e2, rmM, ⟨hr1, hr2, hr3, hr4⟩, hH, hM, hk⟩ := sm_setMember (m := m) (am := am) (o := o) (f := f) hl h (xs (i + 1)) (xs (i + 2)) true
    refine x_aload_n C 1020 dL_law_1019 rfl rfl ?_
    refine x_callW1_i C 1023 (kc + 4) (ns + 48) 5 hH rfl gL_law_L_setMember ⟨by decide, by decide, rfl⟩ ⟨Nat.le_of_ble_eq_true rfl, Nat.le_of_ble_eq_true rfl⟩ rfl rfl (Nat.le_of_ble_eq_true rfl) ⟨show kc + 4 ≤ 639004 by omega, show ns + 48 ≤ 7099219 by omega⟩ dL_law_1020 rfl rfl rfl (fun v1 w2 hv1 => ?_)
    obtain ⟨rfl, w1, f1, rfl, hRW1, hf1⟩ := hv1
    refine x_istore C 1025 dL_law_1023 (by decide) rfl rfl ?_
    refine x_aload_n C 1026 dL_law_1025 rfl rfl ?_
    refine x_aload_n C 1027 dL_law_1026 rfl rfl ?_
    refine x_iload C 1029 dL_law_1027 rfl rfl ?_
    refine x_iconst (v := (1)) C 1030 dL_law_1029 (by decide) rfl ?_
    refine x_iadd C 1031 dL_law_1030 rfl ?_
    refine x_top (show _ = nI (i + 1) from nI_add _ _) ?_
    refine x_sld hS0 C 1032 (vp_in_nI (by omega) (by omega)) dL_law_1031 rfl ?_
    refine x_top (show _ = xs (i + 1) from by rw [nI_clamp (by omega)]) ?_
    refine x_aload_n C 1033 dL_law_1032 rfl rfl ?_
    refine x_iload C 1035 dL_law_1033 rfl rfl ?_
    refine x_iconst (v := (2)) C 1036 dL_law_1035 (by decide) rfl ?_
    refine x_iadd C 1037 dL_law_1036 rfl ?_
    refine x_top (show _ = nI (i + 2) from nI_add _ _) ?_
    refine x_sld hS0 C 1038 (vp_in_nI (by omega) (by omega)) dL_law_1037 rfl ?_
    refine x_top (show _ = xs (i + 2) from by rw [nI_clamp (by omega)]) ?_
    refine x_aload_n C 1039 dL_law_1038 rfl rfl ?_
    refine x_iload C 1041 dL_law_1039 rfl rfl ?_
    refine x_iconst (v := (3)) C 1042 dL_law_1041 (by decide) rfl ?_
    refine x_iadd C 1043 dL_law_1042 rfl ?_
    refine x_top (show _ = nI (i + 3) from nI_add _ _) ?_
    refine x_sld hS0 C 1044 (vp_in_nI (by omega) (by omega)) dL_law_1043 rfl ?_
    refine x_top (show _ = xs (i + 3) from by rw [nI_clamp (by omega)]) ?_
    refine x_if_eq C 1051 1047 dL_law_1044 (by decide) rfl (fun zb130 => absurd zb130 zb23) (fun zb130 => ?_)
    refine x_iconst (v := (1)) C 1048 dL_law_1047 (by decide) rfl ?_
    refine x_goto C 1052 dL_law_1048 (by decide) ?_
    refine x_perm lp_1 ?_
    refine x_callV1_i C 1055 (kc + 4) (ns + 48) 0 10 3 hM rfl gL_law_X6_setMember ⟨rfl, by decide, by decide, rfl⟩ ⟨show rmM.frames + 1 ≤ 2048 by omega, show 8 + (5 + 11) + rmM.locals ≤ 94400 by omega⟩ rfl rfl rfl rfl (Nat.le_of_ble_eq_true rfl) ⟨show kc + 4 + rmM.cells ≤ 639004 by omega, show ns + 48 + rmM.slots ≤ 7099219 by omega⟩ dL_law_1052 rfl (by omega) (by omega) (fun v2 w2 hv2 => ?_)
    obtain ⟨rfl, rfl⟩ := hv2
    refine x_perm lp_2 ?_
    refine x_istore C 1057 dL_law_1055 (by decide) rfl rfl ?_
    refine x_aload_n C 1058 dL_law_1057 rfl rfl ?_
    refine x_perm lp_1 ?_
    refine x_callV1_i C 1061 (kc + 4) (ns + 48) 0 10 0 (cM_thrown hl) rfl gL_law_X6_thrown ⟨rfl, by decide, by decide, rfl⟩ ⟨Nat.le_of_ble_eq_true rfl, Nat.le_of_ble_eq_true rfl⟩ rfl rfl rfl rfl (Nat.le_of_ble_eq_true rfl) ⟨show kc + 4 + 0 ≤ 639004 by omega, show ns + 48 + 0 ≤ 7099219 by omega⟩ dL_law_1058 rfl rfl rfl (fun v3 w3 hv3 => ?_)
    obtain ⟨rfl, rfl⟩ := hv3
    refine x_perm lp_2 ?_
    refine x_top hk ?_
    refine x_iload C 1063 dL_law_1061 rfl rfl ?_
    refine x_icmp_eq C 1068 1066 dL_law_1063 (by decide) rfl (fun _ => ?_) (fun z => absurd rfl z)
    refine x_iload C 1070 dL_law_1068 rfl rfl ?_
    refine x_if_ne C 1092 1073 dL_law_1070 (by decide) rfl (fun z => ?_) (fun z => ?_)
    · refine x_goto C 2274 dL_law_1092 (by decide) ?_
      refine x_dropn 6 ?_
      refine x_dropn 7 ?_
      refine x_ls (show _ = [some (.ref b), some (.ref x), some (.ref m), some (.ref o), some (.ref od), some (.int (nI i)), none, none, none, none] from rfl) ?_
      exact kk w1 f1 fd J e2 hRW1
    · refine x_aload_n C 1074 dL_law_1073 rfl rfl ?_
      refine x_iconst (v := (0)) C 1075 dL_law_1074 (by decide) rfl ?_
      refine x_lald C 1076 w1.length 3 lw_o rfl vp_in0 dL_law_1075 rfl ?_
      refine x_topq (show _ = Value.long (zB v2) from congrArg Value.long (hf1 z)) ?_
      refine x_iload C 1078 dL_law_1076 rfl rfl ?_
      refine x_if_eq C 1085 1081 dL_law_1078 (by decide) rfl (fun z2 => ?_) (fun z2 => ?_)
      · refine x_lconst (v := 0) C 1086 dL_law_1085 (by decide) rfl ?_
        refine x_topq (show _ = Value.long (zB v2) from congrArg Value.long (if_pos z2).symm) ?_
        refine x_lcmp C 1087 dL_law_1086 rfl ?_
        refine x_top (lc_refl _) ?_
        refine x_if_eq C 1092 1090 dL_law_1087 (by decide) rfl (fun _ => ?_) (fun z => absurd rfl z)
        refine x_goto C 2274 dL_law_1092 (by decide) ?_
        refine x_dropn 6 ?_
        refine x_dropn 7 ?_
        refine x_ls (show _ = [some (.ref b), some (.ref x), some (.ref m), some (.ref o), some (.ref od), some (.int (nI i)), none, none, none, none] from rfl) ?_
        exact kk w1 f1 fd J e2 hRW1
      · refine x_lconst (v := 1) C 1082 dL_law_1081 (by decide) rfl ?_
        refine x_goto C 1086 dL_law_1082 (by decide) ?_
        refine x_topq (show _ = Value.long (zB v2) from congrArg Value.long (if_neg z2).symm) ?_
        refine x_lcmp C 1087 dL_law_1086 rfl ?_
        refine x_top (lc_refl _) ?_
        refine x_if_eq C 1092 1090 dL_law_1087 (by decide) rfl (fun _ => ?_) (fun z => absurd rfl z)
        refine x_goto C 2274 dL_law_1092 (by decide) ?_
        refine x_dropn 6 ?_
        refine x_dropn 7 ?_
        refine x_ls (show _ = [some (.ref b), some (.ref x), some (.ref m), some (.ref o), some (.ref od), some (.int (nI i)), none, none, none, none] from rfl) ?_
        exact kk w1 f1 fd J e2 hRW1
end LW
