section LW
variable {l : Launch} {φ : Fx} {D : va_G} {a : Nat → ClassId} {E0 x o m od b L i kc ns : Nat} {am : Nat → Nat} {w : va_W} {f : Nat → Int64} {fd : Nat → UInt64} {I : Nat → Nat → Int32} {e : Int64} {xs : Nat → Int32} {pc : Nat} {Lc : List (Option Value)} {rest : List Value} {ws : va_W}
set_option maxRecDepth 100000 in
set_option maxHeartbeats 4000000 in
theorem lc_park (hl : l.stackTraces = false) (C : Cb (gm D a E0) l φ cL_law 10 RL wsL_law room_1) (hS0 : lS φ b L xs) (hi : i + 6 ≤ L) (hL : L ≤ 3072) (hkc : kc + 4 ≤ 639004) (hns : ns + 48 ≤ 7099219) (h : RW a E0 x I e w) (kk : ∀ (w1 : va_W) (f1 : Nat → Int64) (fd1 : Nat → UInt64) (J : Nat → Nat → Int32) (e2 : Int64), RW a E0 x J e2 w1 → X φ 2274 [some (.ref b), some (.ref x), some (.ref m), some (.ref o), some (.ref od), some (.int (nI i)), none, none, none, none] [] (lW o m od am a w1 f1 fd1 J e2) (kc + 4) (ns + 48)) : X φ 1652 [some (.ref b), some (.ref x), some (.ref m), some (.ref o), some (.ref od), some (.int (nI i)), none, none, none, none] [] (lW o m od am a w f fd I e) kc ns := by
  obtain ⟨q9, fs9, hq9⟩ := h.xq
  refine x_aload_n C 1653 dL_law_1652 rfl rfl ?_
  refine x_aload_n C 1654 dL_law_1653 rfl rfl ?_
  refine x_iload C 1656 dL_law_1654 rfl rfl ?_
  refine x_iconst (v := (1)) C 1657 dL_law_1656 (by decide) rfl ?_
  refine x_iadd C 1658 dL_law_1657 rfl ?_
  refine x_top (show _ = nI (i + 1) from nI_add _ _) ?_
  refine x_sld hS0 C 1659 (vp_in_nI (by omega) (by omega)) dL_law_1658 rfl ?_
  refine x_top (show _ = xs (i + 1) from by rw [nI_clamp (by omega)]) ?_
  refine x_aload_n C 1660 dL_law_1659 rfl rfl ?_
  refine x_iload C 1662 dL_law_1660 rfl rfl ?_
  refine x_iconst (v := (2)) C 1663 dL_law_1662 (by decide) rfl ?_
  refine x_iadd C 1664 dL_law_1663 rfl ?_
  refine x_top (show _ = nI (i + 2) from nI_add _ _) ?_
  refine x_sld hS0 C 1665 (vp_in_nI (by omega) (by omega)) dL_law_1664 rfl ?_
  refine x_top (show _ = xs (i + 2) from by rw [nI_clamp (by omega)]) ?_
  obtain ⟨k, b2, J, e2, rmM, ⟨hr1, hr2, hr3, hr4⟩, hH, hM, hk⟩ := sm_park (m := m) (am := am) (o := o) (f := f) hl h (xs (i + 1)) (xs (i + 2))
  refine x_aload_n C 1666 dL_law_1665 rfl rfl ?_
  refine x_callW1_i C 1669 (kc + 4) (ns + 48) 4 hH rfl gL_law_L_park ⟨by decide, by decide, rfl⟩ ⟨Nat.le_of_ble_eq_true rfl, Nat.le_of_ble_eq_true rfl⟩ rfl rfl (Nat.le_of_ble_eq_true rfl) ⟨show kc + 4 ≤ 639004 by omega, show ns + 48 ≤ 7099219 by omega⟩ dL_law_1666 rfl rfl rfl (fun v1 w2 hv1 => ?_)
  obtain ⟨rfl, w1, f1, rfl, hRW1, hf1⟩ := hv1
  refine x_istore C 1671 dL_law_1669 (by decide) rfl rfl ?_
  refine x_aload_n C 1672 dL_law_1671 rfl rfl ?_
  refine x_aload_n C 1673 dL_law_1672 rfl rfl ?_
  refine x_iload C 1675 dL_law_1673 rfl rfl ?_
  refine x_iconst (v := (1)) C 1676 dL_law_1675 (by decide) rfl ?_
  refine x_iadd C 1677 dL_law_1676 rfl ?_
  refine x_top (show _ = nI (i + 1) from nI_add _ _) ?_
  refine x_sld hS0 C 1678 (vp_in_nI (by omega) (by omega)) dL_law_1677 rfl ?_
  refine x_top (show _ = xs (i + 1) from by rw [nI_clamp (by omega)]) ?_
  refine x_aload_n C 1679 dL_law_1678 rfl rfl ?_
  refine x_iload C 1681 dL_law_1679 rfl rfl ?_
  refine x_iconst (v := (2)) C 1682 dL_law_1681 (by decide) rfl ?_
  refine x_iadd C 1683 dL_law_1682 rfl ?_
  refine x_top (show _ = nI (i + 2) from nI_add _ _) ?_
  refine x_sld hS0 C 1684 (vp_in_nI (by omega) (by omega)) dL_law_1683 rfl ?_
  refine x_top (show _ = xs (i + 2) from by rw [nI_clamp (by omega)]) ?_
  refine x_perm lp_1 ?_
  refine x_callV1_i C 1687 (kc + 4) (ns + 48) 0 10 2 hM rfl gL_law_X6_park ⟨rfl, by decide, by decide, rfl⟩ ⟨show rmM.frames + 1 ≤ 2048 by omega, show 8 + (4 + 11) + rmM.locals ≤ 94400 by omega⟩ rfl rfl rfl rfl (Nat.le_of_ble_eq_true rfl) ⟨show kc + 4 + rmM.cells ≤ 639004 by omega, show ns + 48 + rmM.slots ≤ 7099219 by omega⟩ dL_law_1684 rfl (by omega) (by omega) (fun v2 w2 hv2 => ?_)
  obtain ⟨rfl, rfl⟩ := hv2
  refine x_perm lp_2 ?_
  refine x_istore C 1689 dL_law_1687 (by decide) rfl rfl ?_
  refine x_aload_n C 1690 dL_law_1689 rfl rfl ?_
  refine x_perm lp_1 ?_
  refine x_callV1_i C 1693 (kc + 4) (ns + 48) 0 10 0 (cM_thrown hl) rfl gL_law_X6_thrown ⟨rfl, by decide, by decide, rfl⟩ ⟨Nat.le_of_ble_eq_true rfl, Nat.le_of_ble_eq_true rfl⟩ rfl rfl rfl rfl (Nat.le_of_ble_eq_true rfl) ⟨show kc + 4 + 0 ≤ 639004 by omega, show ns + 48 + 0 ≤ 7099219 by omega⟩ dL_law_1690 rfl rfl rfl (fun v3 w3 hv3 => ?_)
  obtain ⟨rfl, rfl⟩ := hv3
  refine x_perm lp_2 ?_
  refine x_top hk ?_
  refine x_iload C 1695 dL_law_1693 rfl rfl ?_
  refine x_icmp_eq C 1700 1698 dL_law_1695 (by decide) rfl (fun _ => ?_) (fun z => absurd rfl z)
  refine x_iload C 1702 dL_law_1700 rfl rfl ?_
  refine x_if_ne C 1717 1705 dL_law_1702 (by decide) rfl (fun z => ?_) (fun z => ?_)
  · refine x_goto C 2274 dL_law_1717 (by decide) ?_
    refine x_dropn 6 ?_
    refine x_dropn 7 ?_
    refine x_ls (show _ = [some (.ref b), some (.ref x), some (.ref m), some (.ref o), some (.ref od), some (.int (nI i)), none, none, none, none] from rfl) ?_
    exact kk w1 f1 fd J e2 hRW1
  · refine x_aload_n C 1706 dL_law_1705 rfl rfl ?_
    refine x_iconst (v := (0)) C 1707 dL_law_1706 (by decide) rfl ?_
    refine x_lald C 1708 w1.length 3 lw_o rfl vp_in0 dL_law_1707 rfl ?_
    refine x_topq (show _ = Value.long v2.toInt64 from congrArg Value.long (hf1 z)) ?_
    refine x_iload C 1710 dL_law_1708 rfl rfl ?_
    refine x_i2l C 1711 dL_law_1710 rfl rfl ?_
    refine x_lcmp C 1712 dL_law_1711 rfl ?_
    refine x_top (lc_refl _) ?_
    refine x_if_eq C 1717 1715 dL_law_1712 (by decide) rfl (fun _ => ?_) (fun z => absurd rfl z)
    refine x_goto C 2274 dL_law_1717 (by decide) ?_
    refine x_dropn 6 ?_
    refine x_dropn 7 ?_
    refine x_ls (show _ = [some (.ref b), some (.ref x), some (.ref m), some (.ref o), some (.ref od), some (.int (nI i)), none, none, none, none] from rfl) ?_
    exact kk w1 f1 fd J e2 hRW1
set_option maxRecDepth 100000 in
set_option maxHeartbeats 4000000 in
theorem lc_unpark (hl : l.stackTraces = false) (C : Cb (gm D a E0) l φ cL_law 10 RL wsL_law room_1) (hS0 : lS φ b L xs) (hi : i + 6 ≤ L) (hL : L ≤ 3072) (hkc : kc + 4 ≤ 639004) (hns : ns + 48 ≤ 7099219) (h : RW a E0 x I e w) (kk : ∀ (w1 : va_W) (f1 : Nat → Int64) (fd1 : Nat → UInt64) (J : Nat → Nat → Int32) (e2 : Int64), RW a E0 x J e2 w1 → X φ 2274 [some (.ref b), some (.ref x), some (.ref m), some (.ref o), some (.ref od), some (.int (nI i)), none, none, none, none] [] (lW o m od am a w1 f1 fd1 J e2) (kc + 4) (ns + 48)) : X φ 1720 [some (.ref b), some (.ref x), some (.ref m), some (.ref o), some (.ref od), some (.int (nI i)), none, none, none, none] [] (lW o m od am a w f fd I e) kc ns := by
  obtain ⟨q9, fs9, hq9⟩ := h.xq
  refine x_aload_n C 1721 dL_law_1720 rfl rfl ?_
  refine x_aload_n C 1722 dL_law_1721 rfl rfl ?_
  refine x_iload C 1724 dL_law_1722 rfl rfl ?_
  refine x_iconst (v := (1)) C 1725 dL_law_1724 (by decide) rfl ?_
  refine x_iadd C 1726 dL_law_1725 rfl ?_
  refine x_top (show _ = nI (i + 1) from nI_add _ _) ?_
  refine x_sld hS0 C 1727 (vp_in_nI (by omega) (by omega)) dL_law_1726 rfl ?_
  refine x_top (show _ = xs (i + 1) from by rw [nI_clamp (by omega)]) ?_
  obtain ⟨k, b2, J, e2, rmM, ⟨hr1, hr2, hr3, hr4⟩, hH, hM, hk⟩ := sm_unpark (m := m) (am := am) (o := o) (f := f) hl h (xs (i + 1))
  refine x_aload_n C 1728 dL_law_1727 rfl rfl ?_
  refine x_callW1_i C 1731 (kc + 4) (ns + 48) 3 hH rfl gL_law_L_unpark ⟨by decide, by decide, rfl⟩ ⟨Nat.le_of_ble_eq_true rfl, Nat.le_of_ble_eq_true rfl⟩ rfl rfl (Nat.le_of_ble_eq_true rfl) ⟨show kc + 4 ≤ 639004 by omega, show ns + 48 ≤ 7099219 by omega⟩ dL_law_1728 rfl rfl rfl (fun v1 w2 hv1 => ?_)
  obtain ⟨rfl, w1, f1, rfl, hRW1, hf1⟩ := hv1
  refine x_istore C 1733 dL_law_1731 (by decide) rfl rfl ?_
  refine x_aload_n C 1734 dL_law_1733 rfl rfl ?_
  refine x_aload_n C 1735 dL_law_1734 rfl rfl ?_
  refine x_iload C 1737 dL_law_1735 rfl rfl ?_
  refine x_iconst (v := (1)) C 1738 dL_law_1737 (by decide) rfl ?_
  refine x_iadd C 1739 dL_law_1738 rfl ?_
  refine x_top (show _ = nI (i + 1) from nI_add _ _) ?_
  refine x_sld hS0 C 1740 (vp_in_nI (by omega) (by omega)) dL_law_1739 rfl ?_
  refine x_top (show _ = xs (i + 1) from by rw [nI_clamp (by omega)]) ?_
  refine x_perm lp_1 ?_
  refine x_callV1_i C 1743 (kc + 4) (ns + 48) 0 10 1 hM rfl gL_law_X6_unpark ⟨rfl, by decide, by decide, rfl⟩ ⟨show rmM.frames + 1 ≤ 2048 by omega, show 8 + (3 + 11) + rmM.locals ≤ 94400 by omega⟩ rfl rfl rfl rfl (Nat.le_of_ble_eq_true rfl) ⟨show kc + 4 + rmM.cells ≤ 639004 by omega, show ns + 48 + rmM.slots ≤ 7099219 by omega⟩ dL_law_1740 rfl (by omega) (by omega) (fun v2 w2 hv2 => ?_)
  obtain ⟨rfl, rfl⟩ := hv2
  refine x_perm lp_2 ?_
  refine x_istore C 1745 dL_law_1743 (by decide) rfl rfl ?_
  refine x_aload_n C 1746 dL_law_1745 rfl rfl ?_
  refine x_perm lp_1 ?_
  refine x_callV1_i C 1749 (kc + 4) (ns + 48) 0 10 0 (cM_thrown hl) rfl gL_law_X6_thrown ⟨rfl, by decide, by decide, rfl⟩ ⟨Nat.le_of_ble_eq_true rfl, Nat.le_of_ble_eq_true rfl⟩ rfl rfl rfl rfl (Nat.le_of_ble_eq_true rfl) ⟨show kc + 4 + 0 ≤ 639004 by omega, show ns + 48 + 0 ≤ 7099219 by omega⟩ dL_law_1746 rfl rfl rfl (fun v3 w3 hv3 => ?_)
  obtain ⟨rfl, rfl⟩ := hv3
  refine x_perm lp_2 ?_
  refine x_top hk ?_
  refine x_iload C 1751 dL_law_1749 rfl rfl ?_
  refine x_icmp_eq C 1756 1754 dL_law_1751 (by decide) rfl (fun _ => ?_) (fun z => absurd rfl z)
  refine x_iload C 1758 dL_law_1756 rfl rfl ?_
  refine x_if_ne C 1773 1761 dL_law_1758 (by decide) rfl (fun z => ?_) (fun z => ?_)
  · refine x_goto C 2274 dL_law_1773 (by decide) ?_
    refine x_dropn 6 ?_
    refine x_dropn 7 ?_
    refine x_ls (show _ = [some (.ref b), some (.ref x), some (.ref m), some (.ref o), some (.ref od), some (.int (nI i)), none, none, none, none] from rfl) ?_
    exact kk w1 f1 fd J e2 hRW1
  · refine x_aload_n C 1762 dL_law_1761 rfl rfl ?_
    refine x_iconst (v := (0)) C 1763 dL_law_1762 (by decide) rfl ?_
    refine x_lald C 1764 w1.length 3 lw_o rfl vp_in0 dL_law_1763 rfl ?_
    refine x_topq (show _ = Value.long v2.toInt64 from congrArg Value.long (hf1 z)) ?_
    refine x_iload C 1766 dL_law_1764 rfl rfl ?_
    refine x_i2l C 1767 dL_law_1766 rfl rfl ?_
    refine x_lcmp C 1768 dL_law_1767 rfl ?_
    refine x_top (lc_refl _) ?_
    refine x_if_eq C 1773 1771 dL_law_1768 (by decide) rfl (fun _ => ?_) (fun z => absurd rfl z)
    refine x_goto C 2274 dL_law_1773 (by decide) ?_
    refine x_dropn 6 ?_
    refine x_dropn 7 ?_
    refine x_ls (show _ = [some (.ref b), some (.ref x), some (.ref m), some (.ref o), some (.ref od), some (.int (nI i)), none, none, none, none] from rfl) ?_
    exact kk w1 f1 fd J e2 hRW1
set_option maxRecDepth 100000 in
set_option maxHeartbeats 4000000 in
theorem lc_setMaster (hl : l.stackTraces = false) (C : Cb (gm D a E0) l φ cL_law 10 RL wsL_law room_1) (hS0 : lS φ b L xs) (hi : i + 6 ≤ L) (hL : L ≤ 3072) (hkc : kc + 4 ≤ 639004) (hns : ns + 48 ≤ 7099219) (h : RW a E0 x I e w) (kk : ∀ (w1 : va_W) (f1 : Nat → Int64) (fd1 : Nat → UInt64) (J : Nat → Nat → Int32) (e2 : Int64), RW a E0 x J e2 w1 → X φ 2274 [some (.ref b), some (.ref x), some (.ref m), some (.ref o), some (.ref od), some (.int (nI i)), none, none, none, none] [] (lW o m od am a w1 f1 fd1 J e2) (kc + 4) (ns + 48)) : X φ 1776 [some (.ref b), some (.ref x), some (.ref m), some (.ref o), some (.ref od), some (.int (nI i)), none, none, none, none] [] (lW o m od am a w f fd I e) kc ns := by
  obtain ⟨q9, fs9, hq9⟩ := h.xq
  refine x_aload_n C 1777 dL_law_1776 rfl rfl ?_
  refine x_aload_n C 1778 dL_law_1777 rfl rfl ?_
  refine x_iload C 1780 dL_law_1778 rfl rfl ?_
  refine x_iconst (v := (1)) C 1781 dL_law_1780 (by decide) rfl ?_
  refine x_iadd C 1782 dL_law_1781 rfl ?_
  refine x_top (show _ = nI (i + 1) from nI_add _ _) ?_
  refine x_sld hS0 C 1783 (vp_in_nI (by omega) (by omega)) dL_law_1782 rfl ?_
  refine x_top (show _ = xs (i + 1) from by rw [nI_clamp (by omega)]) ?_
  obtain ⟨k, b2, J, e2, rmM, ⟨hr1, hr2, hr3, hr4⟩, hH, hM, hk⟩ := sm_setMaster (m := m) (am := am) (o := o) (f := f) hl h (xs (i + 1))
  refine x_aload_n C 1784 dL_law_1783 rfl rfl ?_
  refine x_callW1_i C 1787 (kc + 4) (ns + 48) 3 hH rfl gL_law_L_setMaster ⟨by decide, by decide, rfl⟩ ⟨Nat.le_of_ble_eq_true rfl, Nat.le_of_ble_eq_true rfl⟩ rfl rfl (Nat.le_of_ble_eq_true rfl) ⟨show kc + 4 ≤ 639004 by omega, show ns + 48 ≤ 7099219 by omega⟩ dL_law_1784 rfl rfl rfl (fun v1 w2 hv1 => ?_)
  obtain ⟨rfl, w1, f1, rfl, hRW1, hf1⟩ := hv1
  refine x_istore C 1789 dL_law_1787 (by decide) rfl rfl ?_
  refine x_aload_n C 1790 dL_law_1789 rfl rfl ?_
  refine x_aload_n C 1791 dL_law_1790 rfl rfl ?_
  refine x_iload C 1793 dL_law_1791 rfl rfl ?_
  refine x_iconst (v := (1)) C 1794 dL_law_1793 (by decide) rfl ?_
  refine x_iadd C 1795 dL_law_1794 rfl ?_
  refine x_top (show _ = nI (i + 1) from nI_add _ _) ?_
  refine x_sld hS0 C 1796 (vp_in_nI (by omega) (by omega)) dL_law_1795 rfl ?_
  refine x_top (show _ = xs (i + 1) from by rw [nI_clamp (by omega)]) ?_
  refine x_perm lp_1 ?_
  refine x_callV1_i C 1799 (kc + 4) (ns + 48) 0 10 1 hM rfl gL_law_X6_setMaster ⟨rfl, by decide, by decide, rfl⟩ ⟨show rmM.frames + 1 ≤ 2048 by omega, show 8 + (3 + 11) + rmM.locals ≤ 94400 by omega⟩ rfl rfl rfl rfl (Nat.le_of_ble_eq_true rfl) ⟨show kc + 4 + rmM.cells ≤ 639004 by omega, show ns + 48 + rmM.slots ≤ 7099219 by omega⟩ dL_law_1796 rfl (by omega) (by omega) (fun v2 w2 hv2 => ?_)
  obtain ⟨rfl, rfl⟩ := hv2
  refine x_perm lp_2 ?_
  refine x_istore C 1801 dL_law_1799 (by decide) rfl rfl ?_
  refine x_aload_n C 1802 dL_law_1801 rfl rfl ?_
  refine x_perm lp_1 ?_
  refine x_callV1_i C 1805 (kc + 4) (ns + 48) 0 10 0 (cM_thrown hl) rfl gL_law_X6_thrown ⟨rfl, by decide, by decide, rfl⟩ ⟨Nat.le_of_ble_eq_true rfl, Nat.le_of_ble_eq_true rfl⟩ rfl rfl rfl rfl (Nat.le_of_ble_eq_true rfl) ⟨show kc + 4 + 0 ≤ 639004 by omega, show ns + 48 + 0 ≤ 7099219 by omega⟩ dL_law_1802 rfl rfl rfl (fun v3 w3 hv3 => ?_)
  obtain ⟨rfl, rfl⟩ := hv3
  refine x_perm lp_2 ?_
  refine x_top hk ?_
  refine x_iload C 1807 dL_law_1805 rfl rfl ?_
  refine x_icmp_eq C 1812 1810 dL_law_1807 (by decide) rfl (fun _ => ?_) (fun z => absurd rfl z)
  refine x_iload C 1814 dL_law_1812 rfl rfl ?_
  refine x_if_ne C 1829 1817 dL_law_1814 (by decide) rfl (fun z => ?_) (fun z => ?_)
  · refine x_goto C 2274 dL_law_1829 (by decide) ?_
    refine x_dropn 6 ?_
    refine x_dropn 7 ?_
    refine x_ls (show _ = [some (.ref b), some (.ref x), some (.ref m), some (.ref o), some (.ref od), some (.int (nI i)), none, none, none, none] from rfl) ?_
    exact kk w1 f1 fd J e2 hRW1
  · refine x_aload_n C 1818 dL_law_1817 rfl rfl ?_
    refine x_iconst (v := (0)) C 1819 dL_law_1818 (by decide) rfl ?_
    refine x_lald C 1820 w1.length 3 lw_o rfl vp_in0 dL_law_1819 rfl ?_
    refine x_topq (show _ = Value.long v2.toInt64 from congrArg Value.long (hf1 z)) ?_
    refine x_iload C 1822 dL_law_1820 rfl rfl ?_
    refine x_i2l C 1823 dL_law_1822 rfl rfl ?_
    refine x_lcmp C 1824 dL_law_1823 rfl ?_
    refine x_top (lc_refl _) ?_
    refine x_if_eq C 1829 1827 dL_law_1824 (by decide) rfl (fun _ => ?_) (fun z => absurd rfl z)
    refine x_goto C 2274 dL_law_1829 (by decide) ?_
    refine x_dropn 6 ?_
    refine x_dropn 7 ?_
    refine x_ls (show _ = [some (.ref b), some (.ref x), some (.ref m), some (.ref o), some (.ref od), some (.int (nI i)), none, none, none, none] from rfl) ?_
    exact kk w1 f1 fd J e2 hRW1
set_option maxRecDepth 100000 in
set_option maxHeartbeats 4000000 in
theorem lc_level (hl : l.stackTraces = false) (C : Cb (gm D a E0) l φ cL_law 10 RL wsL_law room_1) (hS0 : lS φ b L xs) (hi : i + 6 ≤ L) (hL : L ≤ 3072) (hkc : kc + 4 ≤ 639004) (hns : ns + 48 ≤ 7099219) (h : RW a E0 x I e w) (kk : ∀ (w1 : va_W) (f1 : Nat → Int64) (fd1 : Nat → UInt64) (J : Nat → Nat → Int32) (e2 : Int64), RW a E0 x J e2 w1 → X φ 2274 [some (.ref b), some (.ref x), some (.ref m), some (.ref o), some (.ref od), some (.int (nI i)), none, none, none, none] [] (lW o m od am a w1 f1 fd1 J e2) (kc + 4) (ns + 48)) : X φ 1832 [some (.ref b), some (.ref x), some (.ref m), some (.ref o), some (.ref od), some (.int (nI i)), none, none, none, none] [] (lW o m od am a w f fd I e) kc ns := by
  obtain ⟨q9, fs9, hq9⟩ := h.xq
  refine x_aload_n C 1833 dL_law_1832 rfl rfl ?_
  refine x_aload_n C 1834 dL_law_1833 rfl rfl ?_
  refine x_iload C 1836 dL_law_1834 rfl rfl ?_
  refine x_iconst (v := (1)) C 1837 dL_law_1836 (by decide) rfl ?_
  refine x_iadd C 1838 dL_law_1837 rfl ?_
  refine x_top (show _ = nI (i + 1) from nI_add _ _) ?_
  refine x_sld hS0 C 1839 (vp_in_nI (by omega) (by omega)) dL_law_1838 rfl ?_
  refine x_top (show _ = xs (i + 1) from by rw [nI_clamp (by omega)]) ?_
  obtain ⟨k, b2, J, e2, rmM, ⟨hr1, hr2, hr3, hr4⟩, hH, hM, hk⟩ := sm_level (m := m) (am := am) (o := o) (f := f) hl h (xs (i + 1))
  refine x_aload_n C 1840 dL_law_1839 rfl rfl ?_
  refine x_callW1_i C 1843 (kc + 4) (ns + 48) 3 hH rfl gL_law_L_level ⟨by decide, by decide, rfl⟩ ⟨Nat.le_of_ble_eq_true rfl, Nat.le_of_ble_eq_true rfl⟩ rfl rfl (Nat.le_of_ble_eq_true rfl) ⟨show kc + 4 ≤ 639004 by omega, show ns + 48 ≤ 7099219 by omega⟩ dL_law_1840 rfl rfl rfl (fun v1 w2 hv1 => ?_)
  obtain ⟨rfl, w1, f1, rfl, hRW1, hf1⟩ := hv1
  refine x_istore C 1845 dL_law_1843 (by decide) rfl rfl ?_
  refine x_aload_n C 1846 dL_law_1845 rfl rfl ?_
  refine x_aload_n C 1847 dL_law_1846 rfl rfl ?_
  refine x_iload C 1849 dL_law_1847 rfl rfl ?_
  refine x_iconst (v := (1)) C 1850 dL_law_1849 (by decide) rfl ?_
  refine x_iadd C 1851 dL_law_1850 rfl ?_
  refine x_top (show _ = nI (i + 1) from nI_add _ _) ?_
  refine x_sld hS0 C 1852 (vp_in_nI (by omega) (by omega)) dL_law_1851 rfl ?_
  refine x_top (show _ = xs (i + 1) from by rw [nI_clamp (by omega)]) ?_
  refine x_perm lp_1 ?_
  refine x_callV1_i C 1855 (kc + 4) (ns + 48) 0 10 1 hM rfl gL_law_X6_level ⟨rfl, by decide, by decide, rfl⟩ ⟨show rmM.frames + 1 ≤ 2048 by omega, show 8 + (2 + 11) + rmM.locals ≤ 94400 by omega⟩ rfl rfl rfl rfl (Nat.le_of_ble_eq_true rfl) ⟨show kc + 4 + rmM.cells ≤ 639004 by omega, show ns + 48 + rmM.slots ≤ 7099219 by omega⟩ dL_law_1852 rfl (by omega) (by omega) (fun v2 w2 hv2 => ?_)
  obtain ⟨rfl, rfl⟩ := hv2
  refine x_perm lp_2 ?_
  refine x_istore C 1857 dL_law_1855 (by decide) rfl rfl ?_
  refine x_aload_n C 1858 dL_law_1857 rfl rfl ?_
  refine x_perm lp_1 ?_
  refine x_callV1_i C 1861 (kc + 4) (ns + 48) 0 10 0 (cM_thrown hl) rfl gL_law_X6_thrown ⟨rfl, by decide, by decide, rfl⟩ ⟨Nat.le_of_ble_eq_true rfl, Nat.le_of_ble_eq_true rfl⟩ rfl rfl rfl rfl (Nat.le_of_ble_eq_true rfl) ⟨show kc + 4 + 0 ≤ 639004 by omega, show ns + 48 + 0 ≤ 7099219 by omega⟩ dL_law_1858 rfl rfl rfl (fun v3 w3 hv3 => ?_)
  obtain ⟨rfl, rfl⟩ := hv3
  refine x_perm lp_2 ?_
  refine x_top hk ?_
  refine x_iload C 1863 dL_law_1861 rfl rfl ?_
  refine x_icmp_eq C 1868 1866 dL_law_1863 (by decide) rfl (fun _ => ?_) (fun z => absurd rfl z)
  refine x_iload C 1870 dL_law_1868 rfl rfl ?_
  refine x_if_ne C 1885 1873 dL_law_1870 (by decide) rfl (fun z => ?_) (fun z => ?_)
  · refine x_goto C 2274 dL_law_1885 (by decide) ?_
    refine x_dropn 6 ?_
    refine x_dropn 7 ?_
    refine x_ls (show _ = [some (.ref b), some (.ref x), some (.ref m), some (.ref o), some (.ref od), some (.int (nI i)), none, none, none, none] from rfl) ?_
    exact kk w1 f1 fd J e2 hRW1
  · refine x_aload_n C 1874 dL_law_1873 rfl rfl ?_
    refine x_iconst (v := (0)) C 1875 dL_law_1874 (by decide) rfl ?_
    refine x_lald C 1876 w1.length 3 lw_o rfl vp_in0 dL_law_1875 rfl ?_
    refine x_topq (show _ = Value.long v2.toInt64 from congrArg Value.long (hf1 z)) ?_
    refine x_iload C 1878 dL_law_1876 rfl rfl ?_
    refine x_i2l C 1879 dL_law_1878 rfl rfl ?_
    refine x_lcmp C 1880 dL_law_1879 rfl ?_
    refine x_top (lc_refl _) ?_
    refine x_if_eq C 1885 1883 dL_law_1880 (by decide) rfl (fun _ => ?_) (fun z => absurd rfl z)
    refine x_goto C 2274 dL_law_1885 (by decide) ?_
    refine x_dropn 6 ?_
    refine x_dropn 7 ?_
    refine x_ls (show _ = [some (.ref b), some (.ref x), some (.ref m), some (.ref o), some (.ref od), some (.int (nI i)), none, none, none, none] from rfl) ?_
    exact kk w1 f1 fd J e2 hRW1
set_option maxRecDepth 100000 in
set_option maxHeartbeats 4000000 in
theorem lc_levelAlone (hl : l.stackTraces = false) (C : Cb (gm D a E0) l φ cL_law 10 RL wsL_law room_1) (hS0 : lS φ b L xs) (hi : i + 6 ≤ L) (hL : L ≤ 3072) (hkc : kc + 4 ≤ 639004) (hns : ns + 48 ≤ 7099219) (h : RW a E0 x I e w) (kk : ∀ (w1 : va_W) (f1 : Nat → Int64) (fd1 : Nat → UInt64) (J : Nat → Nat → Int32) (e2 : Int64), RW a E0 x J e2 w1 → X φ 2274 [some (.ref b), some (.ref x), some (.ref m), some (.ref o), some (.ref od), some (.int (nI i)), none, none, none, none] [] (lW o m od am a w1 f1 fd1 J e2) (kc + 4) (ns + 48)) : X φ 1888 [some (.ref b), some (.ref x), some (.ref m), some (.ref o), some (.ref od), some (.int (nI i)), none, none, none, none] [] (lW o m od am a w f fd I e) kc ns := by
  obtain ⟨q9, fs9, hq9⟩ := h.xq
  refine x_aload_n C 1889 dL_law_1888 rfl rfl ?_
  refine x_aload_n C 1890 dL_law_1889 rfl rfl ?_
  refine x_iload C 1892 dL_law_1890 rfl rfl ?_
  refine x_iconst (v := (1)) C 1893 dL_law_1892 (by decide) rfl ?_
  refine x_iadd C 1894 dL_law_1893 rfl ?_
  refine x_top (show _ = nI (i + 1) from nI_add _ _) ?_
  refine x_sld hS0 C 1895 (vp_in_nI (by omega) (by omega)) dL_law_1894 rfl ?_
  refine x_top (show _ = xs (i + 1) from by rw [nI_clamp (by omega)]) ?_
  obtain ⟨k, b2, J, e2, rmM, ⟨hr1, hr2, hr3, hr4⟩, hH, hM, hk⟩ := sm_levelAlone (m := m) (am := am) (o := o) (f := f) hl h (xs (i + 1))
  refine x_aload_n C 1896 dL_law_1895 rfl rfl ?_
  refine x_callW1_i C 1899 (kc + 4) (ns + 48) 3 hH rfl gL_law_L_levelAlone ⟨by decide, by decide, rfl⟩ ⟨Nat.le_of_ble_eq_true rfl, Nat.le_of_ble_eq_true rfl⟩ rfl rfl (Nat.le_of_ble_eq_true rfl) ⟨show kc + 4 ≤ 639004 by omega, show ns + 48 ≤ 7099219 by omega⟩ dL_law_1896 rfl rfl rfl (fun v1 w2 hv1 => ?_)
  obtain ⟨rfl, w1, f1, rfl, hRW1, hf1⟩ := hv1
  refine x_istore C 1901 dL_law_1899 (by decide) rfl rfl ?_
  refine x_aload_n C 1902 dL_law_1901 rfl rfl ?_
  refine x_aload_n C 1903 dL_law_1902 rfl rfl ?_
  refine x_iload C 1905 dL_law_1903 rfl rfl ?_
  refine x_iconst (v := (1)) C 1906 dL_law_1905 (by decide) rfl ?_
  refine x_iadd C 1907 dL_law_1906 rfl ?_
  refine x_top (show _ = nI (i + 1) from nI_add _ _) ?_
  refine x_sld hS0 C 1908 (vp_in_nI (by omega) (by omega)) dL_law_1907 rfl ?_
  refine x_top (show _ = xs (i + 1) from by rw [nI_clamp (by omega)]) ?_
  refine x_perm lp_1 ?_
  refine x_callV1_i C 1911 (kc + 4) (ns + 48) 0 10 1 hM rfl gL_law_X6_levelAlone ⟨rfl, by decide, by decide, rfl⟩ ⟨show rmM.frames + 1 ≤ 2048 by omega, show 8 + (2 + 11) + rmM.locals ≤ 94400 by omega⟩ rfl rfl rfl rfl (Nat.le_of_ble_eq_true rfl) ⟨show kc + 4 + rmM.cells ≤ 639004 by omega, show ns + 48 + rmM.slots ≤ 7099219 by omega⟩ dL_law_1908 rfl (by omega) (by omega) (fun v2 w2 hv2 => ?_)
  obtain ⟨rfl, rfl⟩ := hv2
  refine x_perm lp_2 ?_
  refine x_istore C 1913 dL_law_1911 (by decide) rfl rfl ?_
  refine x_aload_n C 1914 dL_law_1913 rfl rfl ?_
  refine x_perm lp_1 ?_
  refine x_callV1_i C 1917 (kc + 4) (ns + 48) 0 10 0 (cM_thrown hl) rfl gL_law_X6_thrown ⟨rfl, by decide, by decide, rfl⟩ ⟨Nat.le_of_ble_eq_true rfl, Nat.le_of_ble_eq_true rfl⟩ rfl rfl rfl rfl (Nat.le_of_ble_eq_true rfl) ⟨show kc + 4 + 0 ≤ 639004 by omega, show ns + 48 + 0 ≤ 7099219 by omega⟩ dL_law_1914 rfl rfl rfl (fun v3 w3 hv3 => ?_)
  obtain ⟨rfl, rfl⟩ := hv3
  refine x_perm lp_2 ?_
  refine x_top hk ?_
  refine x_iload C 1919 dL_law_1917 rfl rfl ?_
  refine x_icmp_eq C 1924 1922 dL_law_1919 (by decide) rfl (fun _ => ?_) (fun z => absurd rfl z)
  refine x_iload C 1926 dL_law_1924 rfl rfl ?_
  refine x_if_ne C 1941 1929 dL_law_1926 (by decide) rfl (fun z => ?_) (fun z => ?_)
  · refine x_goto C 2274 dL_law_1941 (by decide) ?_
    refine x_dropn 6 ?_
    refine x_dropn 7 ?_
    refine x_ls (show _ = [some (.ref b), some (.ref x), some (.ref m), some (.ref o), some (.ref od), some (.int (nI i)), none, none, none, none] from rfl) ?_
    exact kk w1 f1 fd J e2 hRW1
  · refine x_aload_n C 1930 dL_law_1929 rfl rfl ?_
    refine x_iconst (v := (0)) C 1931 dL_law_1930 (by decide) rfl ?_
    refine x_lald C 1932 w1.length 3 lw_o rfl vp_in0 dL_law_1931 rfl ?_
    refine x_topq (show _ = Value.long v2.toInt64 from congrArg Value.long (hf1 z)) ?_
    refine x_iload C 1934 dL_law_1932 rfl rfl ?_
    refine x_i2l C 1935 dL_law_1934 rfl rfl ?_
    refine x_lcmp C 1936 dL_law_1935 rfl ?_
    refine x_top (lc_refl _) ?_
    refine x_if_eq C 1941 1939 dL_law_1936 (by decide) rfl (fun _ => ?_) (fun z => absurd rfl z)
    refine x_goto C 2274 dL_law_1941 (by decide) ?_
    refine x_dropn 6 ?_
    refine x_dropn 7 ?_
    refine x_ls (show _ = [some (.ref b), some (.ref x), some (.ref m), some (.ref o), some (.ref od), some (.int (nI i)), none, none, none, none] from rfl) ?_
    exact kk w1 f1 fd J e2 hRW1
set_option maxRecDepth 100000 in
set_option maxHeartbeats 4000000 in
theorem lc_channelByLevel (hl : l.stackTraces = false) (C : Cb (gm D a E0) l φ cL_law 10 RL wsL_law room_1) (hS0 : lS φ b L xs) (hi : i + 6 ≤ L) (hL : L ≤ 3072) (hkc : kc + 4 ≤ 639004) (hns : ns + 48 ≤ 7099219) (h : RW a E0 x I e w) (kk : ∀ (w1 : va_W) (f1 : Nat → Int64) (fd1 : Nat → UInt64) (J : Nat → Nat → Int32) (e2 : Int64), RW a E0 x J e2 w1 → X φ 2274 [some (.ref b), some (.ref x), some (.ref m), some (.ref o), some (.ref od), some (.int (nI i)), none, none, none, none] [] (lW o m od am a w1 f1 fd1 J e2) (kc + 4) (ns + 48)) : X φ 1944 [some (.ref b), some (.ref x), some (.ref m), some (.ref o), some (.ref od), some (.int (nI i)), none, none, none, none] [] (lW o m od am a w f fd I e) kc ns := by
  obtain ⟨q9, fs9, hq9⟩ := h.xq
  refine x_aload_n C 1945 dL_law_1944 rfl rfl ?_
  refine x_aload_n C 1946 dL_law_1945 rfl rfl ?_
  refine x_iload C 1948 dL_law_1946 rfl rfl ?_
  refine x_iconst (v := (1)) C 1949 dL_law_1948 (by decide) rfl ?_
  refine x_iadd C 1950 dL_law_1949 rfl ?_
  refine x_top (show _ = nI (i + 1) from nI_add _ _) ?_
  refine x_sld hS0 C 1951 (vp_in_nI (by omega) (by omega)) dL_law_1950 rfl ?_
  refine x_top (show _ = xs (i + 1) from by rw [nI_clamp (by omega)]) ?_
  obtain ⟨k, b2, J, e2, rmM, ⟨hr1, hr2, hr3, hr4⟩, hH, hM, hk⟩ := sm_channelByLevel (m := m) (am := am) (o := o) (f := f) hl h (xs (i + 1))
  refine x_aload_n C 1952 dL_law_1951 rfl rfl ?_
  refine x_callW1_i C 1955 (kc + 4) (ns + 48) 3 hH rfl gL_law_L_channelByLevel ⟨by decide, by decide, rfl⟩ ⟨Nat.le_of_ble_eq_true rfl, Nat.le_of_ble_eq_true rfl⟩ rfl rfl (Nat.le_of_ble_eq_true rfl) ⟨show kc + 4 ≤ 639004 by omega, show ns + 48 ≤ 7099219 by omega⟩ dL_law_1952 rfl rfl rfl (fun v1 w2 hv1 => ?_)
  obtain ⟨rfl, w1, f1, rfl, hRW1, hf1⟩ := hv1
  refine x_istore C 1957 dL_law_1955 (by decide) rfl rfl ?_
  refine x_aload_n C 1958 dL_law_1957 rfl rfl ?_
  refine x_aload_n C 1959 dL_law_1958 rfl rfl ?_
  refine x_iload C 1961 dL_law_1959 rfl rfl ?_
  refine x_iconst (v := (1)) C 1962 dL_law_1961 (by decide) rfl ?_
  refine x_iadd C 1963 dL_law_1962 rfl ?_
  refine x_top (show _ = nI (i + 1) from nI_add _ _) ?_
  refine x_sld hS0 C 1964 (vp_in_nI (by omega) (by omega)) dL_law_1963 rfl ?_
  refine x_top (show _ = xs (i + 1) from by rw [nI_clamp (by omega)]) ?_
  refine x_perm lp_1 ?_
  refine x_callV1_i C 1967 (kc + 4) (ns + 48) 0 10 1 hM rfl gL_law_X6_channelByLevel ⟨rfl, by decide, by decide, rfl⟩ ⟨show rmM.frames + 1 ≤ 2048 by omega, show 8 + (6 + 11) + rmM.locals ≤ 94400 by omega⟩ rfl rfl rfl rfl (Nat.le_of_ble_eq_true rfl) ⟨show kc + 4 + rmM.cells ≤ 639004 by omega, show ns + 48 + rmM.slots ≤ 7099219 by omega⟩ dL_law_1964 rfl (by omega) (by omega) (fun v2 w2 hv2 => ?_)
  obtain ⟨rfl, rfl⟩ := hv2
  refine x_perm lp_2 ?_
  refine x_istore C 1969 dL_law_1967 (by decide) rfl rfl ?_
  refine x_aload_n C 1970 dL_law_1969 rfl rfl ?_
  refine x_perm lp_1 ?_
  refine x_callV1_i C 1973 (kc + 4) (ns + 48) 0 10 0 (cM_thrown hl) rfl gL_law_X6_thrown ⟨rfl, by decide, by decide, rfl⟩ ⟨Nat.le_of_ble_eq_true rfl, Nat.le_of_ble_eq_true rfl⟩ rfl rfl rfl rfl (Nat.le_of_ble_eq_true rfl) ⟨show kc + 4 + 0 ≤ 639004 by omega, show ns + 48 + 0 ≤ 7099219 by omega⟩ dL_law_1970 rfl rfl rfl (fun v3 w3 hv3 => ?_)
  obtain ⟨rfl, rfl⟩ := hv3
  refine x_perm lp_2 ?_
  refine x_top hk ?_
  refine x_iload C 1975 dL_law_1973 rfl rfl ?_
  refine x_icmp_eq C 1980 1978 dL_law_1975 (by decide) rfl (fun _ => ?_) (fun z => absurd rfl z)
  refine x_iload C 1982 dL_law_1980 rfl rfl ?_
  refine x_if_ne C 1997 1985 dL_law_1982 (by decide) rfl (fun z => ?_) (fun z => ?_)
  · refine x_goto C 2274 dL_law_1997 (by decide) ?_
    refine x_dropn 6 ?_
    refine x_dropn 7 ?_
    refine x_ls (show _ = [some (.ref b), some (.ref x), some (.ref m), some (.ref o), some (.ref od), some (.int (nI i)), none, none, none, none] from rfl) ?_
    exact kk w1 f1 fd J e2 hRW1
  · refine x_aload_n C 1986 dL_law_1985 rfl rfl ?_
    refine x_iconst (v := (0)) C 1987 dL_law_1986 (by decide) rfl ?_
    refine x_lald C 1988 w1.length 3 lw_o rfl vp_in0 dL_law_1987 rfl ?_
    refine x_topq (show _ = Value.long v2.toInt64 from congrArg Value.long (hf1 z)) ?_
    refine x_iload C 1990 dL_law_1988 rfl rfl ?_
    refine x_i2l C 1991 dL_law_1990 rfl rfl ?_
    refine x_lcmp C 1992 dL_law_1991 rfl ?_
    refine x_top (lc_refl _) ?_
    refine x_if_eq C 1997 1995 dL_law_1992 (by decide) rfl (fun _ => ?_) (fun z => absurd rfl z)
    refine x_goto C 2274 dL_law_1997 (by decide) ?_
    refine x_dropn 6 ?_
    refine x_dropn 7 ?_
    refine x_ls (show _ = [some (.ref b), some (.ref x), some (.ref m), some (.ref o), some (.ref od), some (.int (nI i)), none, none, none, none] from rfl) ?_
    exact kk w1 f1 fd J e2 hRW1
set_option maxRecDepth 100000 in
set_option maxHeartbeats 4000000 in
theorem lc_energy (hl : l.stackTraces = false) (C : Cb (gm D a E0) l φ cL_law 10 RL wsL_law room_1) (hS0 : lS φ b L xs) (hi : i + 6 ≤ L) (hL : L ≤ 3072) (hkc : kc + 4 ≤ 639004) (hns : ns + 48 ≤ 7099219) (h : RW a E0 x I e w) (kk : ∀ (w1 : va_W) (f1 : Nat → Int64) (fd1 : Nat → UInt64) (J : Nat → Nat → Int32) (e2 : Int64), RW a E0 x J e2 w1 → X φ 2274 [some (.ref b), some (.ref x), some (.ref m), some (.ref o), some (.ref od), some (.int (nI i)), none, none, none, none] [] (lW o m od am a w1 f1 fd1 J e2) (kc + 4) (ns + 48)) : X φ 2000 [some (.ref b), some (.ref x), some (.ref m), some (.ref o), some (.ref od), some (.int (nI i)), none, none, none, none] [] (lW o m od am a w f fd I e) kc ns := by
  obtain ⟨q9, fs9, hq9⟩ := h.xq
  obtain ⟨b2, J, e2, rmC, rmM, hrC, ⟨hr1, hr2, hr3, hr4⟩, hH, hM⟩ := sd_energy (m := m) (am := am) hl h
  obtain ⟨hc1, hc2, hc3, hc4⟩ := hrC
  refine x_aload_n C 2001 dL_law_2000 rfl rfl ?_
  refine x_ws (show _ = w ++ (outL a o f ++ rsW m od am a fd I e) from List.append_assoc _ _ _) ?_
  refine x_callV1_j C 2004 kc ns q9 9 0 hH rfl gL_law_X5_energy ⟨rfl, by decide, by decide, rfl⟩ ⟨show rmC.frames + 1 ≤ 2048 by omega, show 8 + (1 + 11) + rmC.locals ≤ 94400 by omega⟩ rfl hq9 rfl rfl (Nat.le_of_ble_eq_true rfl) ⟨show kc + rmC.cells ≤ 639004 by omega, show ns + rmC.slots ≤ 7099219 by omega⟩ dL_law_2001 rfl (by omega) (by omega) (fun v1 w2 hv1 => ?_)
  obtain ⟨rfl, hRW1⟩ := hv1
  refine x_ws (show _ = (w2 ++ outL a o f) ++ rsW m od am a fd I e from (List.append_assoc _ _ _).symm) ?_
  refine x_aload_n C 2005 dL_law_2004 rfl rfl ?_
  refine x_perm lp_1 ?_
  refine x_callV1_j C 2008 kc ns 0 10 0 hM rfl gL_law_X6_energy ⟨rfl, by decide, by decide, rfl⟩ ⟨show rmM.frames + 1 ≤ 2048 by omega, show 8 + (1 + 11) + rmM.locals ≤ 94400 by omega⟩ rfl rfl rfl rfl (Nat.le_of_ble_eq_true rfl) ⟨show kc + rmM.cells ≤ 639004 by omega, show ns + rmM.slots ≤ 7099219 by omega⟩ dL_law_2005 rfl (by omega) (by omega) (fun v3 w3 hv3 => ?_)
  obtain ⟨rfl, rfl⟩ := hv3
  refine x_perm lp_2 ?_
  refine x_lcmp C 2009 dL_law_2008 rfl ?_
  refine x_top (lc_refl _) ?_
  refine x_if_eq C 2274 2012 dL_law_2009 (by decide) rfl (fun _ => ?_) (fun z => absurd rfl z)
  refine x_wide (kc' := kc + 4) (ns' := ns + 48) (by omega) (by omega) ?_
  refine x_ls (show _ = [some (.ref b), some (.ref x), some (.ref m), some (.ref o), some (.ref od), some (.int (nI i)), none, none, none, none] from rfl) ?_
  exact kk w2 f fd J e2 hRW1
set_option maxRecDepth 100000 in
set_option maxHeartbeats 4000000 in
theorem lc_litShare (hl : l.stackTraces = false) (C : Cb (gm D a E0) l φ cL_law 10 RL wsL_law room_1) (hS0 : lS φ b L xs) (hi : i + 6 ≤ L) (hL : L ≤ 3072) (hkc : kc + 4 ≤ 639004) (hns : ns + 48 ≤ 7099219) (h : RW a E0 x I e w) (kk : ∀ (w1 : va_W) (f1 : Nat → Int64) (fd1 : Nat → UInt64) (J : Nat → Nat → Int32) (e2 : Int64), RW a E0 x J e2 w1 → X φ 2274 [some (.ref b), some (.ref x), some (.ref m), some (.ref o), some (.ref od), some (.int (nI i)), none, none, none, none] [] (lW o m od am a w1 f1 fd1 J e2) (kc + 4) (ns + 48)) : X φ 2014 [some (.ref b), some (.ref x), some (.ref m), some (.ref o), some (.ref od), some (.int (nI i)), none, none, none, none] [] (lW o m od am a w f fd I e) kc ns := by
  obtain ⟨q9, fs9, hq9⟩ := h.xq
  obtain ⟨b2, J, e2, rmC, rmM, hrC, ⟨hr1, hr2, hr3, hr4⟩, hH, hM, hn2⟩ := sd_litShare (m := m) (am := am) hl h
  obtain ⟨hc1, hc2, hc3, hc4⟩ := hrC
  refine x_aload_n C 2015 dL_law_2014 rfl rfl ?_
  refine x_ws (show _ = w ++ (outL a o f ++ rsW m od am a fd I e) from List.append_assoc _ _ _) ?_
  refine x_callV1_f C 2018 kc ns q9 9 0 hH rfl gL_law_X5_litShare ⟨rfl, by decide, by decide, rfl⟩ ⟨show rmC.frames + 1 ≤ 2048 by omega, show 8 + (3 + 11) + rmC.locals ≤ 94400 by omega⟩ rfl hq9 rfl rfl (Nat.le_of_ble_eq_true rfl) ⟨show kc + rmC.cells ≤ 639004 by omega, show ns + rmC.slots ≤ 7099219 by omega⟩ dL_law_2015 rfl (by omega) (by omega) (fun v1 w2 hv1 => ?_)
  obtain ⟨rfl, hRW1⟩ := hv1
  refine x_ws (show _ = (w2 ++ outL a o f) ++ rsW m od am a fd I e from (List.append_assoc _ _ _).symm) ?_
  refine x_f2d C 2019 dL_law_2018 hn2 rfl ?_
  refine x_dstore C 2021 dL_law_2019 (by decide) rfl rfl ?_
  refine x_aload_n C 2022 dL_law_2021 rfl rfl ?_
  refine x_perm lp_1 ?_
  refine x_callV1_f C 2025 kc ns 0 10 0 hM rfl gL_law_X6_litShare ⟨rfl, by decide, by decide, rfl⟩ ⟨show rmM.frames + 1 ≤ 2048 by omega, show 8 + (3 + 11) + rmM.locals ≤ 94400 by omega⟩ rfl rfl rfl rfl (Nat.le_of_ble_eq_true rfl) ⟨show kc + rmM.cells ≤ 639004 by omega, show ns + rmM.slots ≤ 7099219 by omega⟩ dL_law_2022 rfl (by omega) (by omega) (fun v3 w3 hv3 => ?_)
  obtain ⟨rfl, rfl⟩ := hv3
  refine x_perm lp_2 ?_
  refine x_f2d C 2026 dL_law_2025 hn2 rfl ?_
  refine x_dstore C 2028 dL_law_2026 (by decide) rfl rfl ?_
  refine x_dload C 2030 dL_law_2028 rfl rfl ?_
  refine x_dload C 2032 dL_law_2030 rfl rfl ?_
  refine x_dcmp C 2033 dL_law_2032 rfl ?_
  refine x_top (dc_refl hn2) ?_
  refine x_if_eq C 2054 2036 dL_law_2033 (by decide) rfl (fun _ => ?_) (fun z => absurd rfl z)
  refine x_wide (kc' := kc + 4) (ns' := ns + 48) (by omega) (by omega) ?_
  refine x_goto C 2274 dL_law_2054 (by decide) ?_
  refine x_dropn 6 ?_
  refine x_dropn 7 ?_
  refine x_dropn 8 ?_
  refine x_dropn 9 ?_
  refine x_ls (show _ = [some (.ref b), some (.ref x), some (.ref m), some (.ref o), some (.ref od), some (.int (nI i)), none, none, none, none] from rfl) ?_
  exact kk w2 f fd J e2 hRW1
end LW
