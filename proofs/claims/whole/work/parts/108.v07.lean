section
variable {G : zG} {X X1 : zX} {Y : zY} {O : zO}
set_option maxRecDepth 100000 in
set_option maxHeartbeats 4000000 in
theorem q_20 {i kc ks : Nat} {e6 e7 e8 e9 : Option Value} {P : zRes → zWorld → Prop} (hg : good X Y) (hL : i + 5 ≤ G.L) (hL2 : G.L ≤ 2560) (hk : kc + 1 ≤ room_1.cells ∧ ks + 6 ≤ room_1.slots) (hx2 : lK G P i (kc + 1) (ks + 6)) : Z G mL_law room_1 kc ks 1563 [some (.ref zSI), some (.ref 0), some (.ref 77), some (.ref 94), some (.ref 95), some (.int (nI i)), e6, e7, e8, e9] [] (zw X Y O) P := by
  refine z_aload_n (i := 1) dL_law_1563 rfl rfl (q := 1564) rfl ?_
  refine z_aload_n (i := 0) dL_law_1564 rfl rfl (q := 1565) rfl ?_
  refine z_iload dL_law_1565 rfl (q := 1567) rfl ?_
  refine z_iconst (v := 1) dL_law_1567 rfl (q := 1568) rfl ?_
  refine z_iadd dL_law_1568 (q := 1569) rfl ?_
  refine z_sld dL_law_1569 (sinx (j := 1) hL hL2 (by decide)) (q := 1570) rfl ?_
  refine z_i2c dL_law_1570 (q := 1571) rfl ?_
  refine z_aload_n (i := 3) dL_law_1571 rfl rfl (q := 1572) rfl ?_
  obtain ⟨S, hx, ho, hy, hb⟩ := p_tidy hg (((G.xs (nI i + 1).toNatClampNeg).toUInt32 % 65536).toInt32)
  refine z_callSW (As := [_, _, _]) dL_law_1572 kL_205 (c_L_tidy (hx O) ho) rfl (zle rfl) ⟨zle rfl, zle rfl⟩ hk (q := 1575) rfl (fun rv w2 hw2 => ?_) (fun E w2 hw2 => by obtain ⟨_, _, _, _, h9, _⟩ := hw2; cases h9)
  obtain ⟨r0, X2, O2, hS, h9, rfl, hO⟩ := hw2
  cases h9
  refine z_istore dL_law_1575 (zle rfl) rfl (q := 1577) rfl ?_
  refine z_aload_n (i := 2) dL_law_1577 rfl rfl (q := 1578) rfl ?_
  refine z_aload_n (i := 0) dL_law_1578 rfl rfl (q := 1579) rfl ?_
  refine z_iload dL_law_1579 rfl (q := 1581) rfl ?_
  refine z_iconst (v := 1) dL_law_1581 rfl (q := 1582) rfl ?_
  refine z_iadd dL_law_1582 (q := 1583) rfl ?_
  refine z_sld dL_law_1583 (sinx (j := 1) hL hL2 (by decide)) (q := 1584) rfl ?_
  refine z_i2c dL_law_1584 (q := 1585) rfl ?_
  refine z_callV (As := [_]) dL_law_1585 kL_207 (hy r0 X2 O2 hS) (wm _ _ _) rfl rfl (zle rfl) ⟨zle rfl, zle rfl⟩ hk (q := 1588) rfl (fun rv w2 hw2 => ?_) (fun E w2 hw2 => by obtain ⟨_, _, h9, _⟩ := hw2; cases h9)
  obtain ⟨Y2, a, h9, rfl, hth, ha, hg2⟩ := hw2
  cases h9
  refine z_istore dL_law_1588 (zle rfl) rfl (q := 1590) rfl ?_
  refine z_aload_n (i := 2) dL_law_1590 rfl rfl (q := 1591) rfl ?_
  refine z_callVF (As := []) dL_law_1591 kL_137 (c_X9_thrown) (wm _ _ _) rfl rfl (zle rfl) ⟨zle rfl, zle rfl⟩ hk (q := 1594) rfl ?_
  rw [hth]
  refine z_iload dL_law_1594 rfl (q := 1596) rfl ?_
  refine z_icmp_eq (tgt := 1601) dL_law_1596 (by decide) (q := 1599) rfl (fun h1596 => ?_) (fun h1596 => absurd rfl h1596)
  refine z_iload dL_law_1601 rfl (q := 1603) rfl ?_
  refine z_if_ne (tgt := 1618) dL_law_1603 (by decide) (q := 1606) rfl (fun h1603 => ?_) (fun h1603 => ?_)
  · refine z_goto (tgt := 2306) dL_law_1618 (by decide) ?_
    exact hx2 _ _ _ _ _ _ _ hg2
  · obtain ⟨v, rfl⟩ := lcode_0 (by decide) (ho _ _ hS) h1603
    have hav := ha v rfl
    subst hav
    have hOv := hO a rfl
    refine z_aload_n (i := 3) dL_law_1606 rfl rfl (q := 1607) rfl ?_
    refine z_iconst (v := 0) dL_law_1607 rfl (q := 1608) rfl ?_
    refine z_lald dL_law_1608 (wout _ _ _) (zin (k := 0) (by decide) (by decide)) (q := 1609) rfl ?_
    refine Z.eqst (st2 := [.long a.toInt64]) (congrArg (fun x => [Value.long x]) hOv) ?_
    refine z_iload dL_law_1609 rfl (q := 1611) rfl ?_
    refine z_i2l dL_law_1611 (q := 1612) rfl ?_
    refine z_lcmp dL_law_1612 (q := 1613) rfl ?_
    rw [lg_self]
    refine z_if_eq (tgt := 1618) dL_law_1613 (by decide) (q := 1616) rfl (fun h1613 => ?_) (fun h1613 => absurd rfl h1613)
    refine z_goto (tgt := 2306) dL_law_1618 (by decide) ?_
    exact hx2 _ _ _ _ _ _ _ hg2
set_option maxRecDepth 100000 in
set_option maxHeartbeats 4000000 in
theorem q_21 {i kc ks : Nat} {e6 e7 e8 e9 : Option Value} {P : zRes → zWorld → Prop} (hg : good X Y) (hL : i + 5 ≤ G.L) (hL2 : G.L ≤ 2560) (hk : kc + 1 ≤ room_1.cells ∧ ks + 6 ≤ room_1.slots) (hx2 : lK G P i (kc + 1) (ks + 6)) : Z G mL_law room_1 kc ks 1621 [some (.ref zSI), some (.ref 0), some (.ref 77), some (.ref 94), some (.ref 95), some (.int (nI i)), e6, e7, e8, e9] [] (zw X Y O) P := by
  refine z_aload_n (i := 1) dL_law_1621 rfl rfl (q := 1622) rfl ?_
  refine z_aload_n (i := 0) dL_law_1622 rfl rfl (q := 1623) rfl ?_
  refine z_iload dL_law_1623 rfl (q := 1625) rfl ?_
  refine z_iconst (v := 1) dL_law_1625 rfl (q := 1626) rfl ?_
  refine z_iadd dL_law_1626 (q := 1627) rfl ?_
  refine z_sld dL_law_1627 (sinx (j := 1) hL hL2 (by decide)) (q := 1628) rfl ?_
  refine z_i2c dL_law_1628 (q := 1629) rfl ?_
  refine z_aload_n (i := 3) dL_law_1629 rfl rfl (q := 1630) rfl ?_
  obtain ⟨S, hx, ho, hy, hb⟩ := p_evenCost hg (((G.xs (nI i + 1).toNatClampNeg).toUInt32 % 65536).toInt32)
  refine z_callSW (As := [_, _, _]) dL_law_1630 kL_208 (c_L_evenCost (hx O) ho) rfl (zle rfl) ⟨zle rfl, zle rfl⟩ hk (q := 1633) rfl (fun rv w2 hw2 => ?_) (fun E w2 hw2 => by obtain ⟨_, _, _, _, h9, _⟩ := hw2; cases h9)
  obtain ⟨r0, X2, O2, hS, h9, rfl, hO⟩ := hw2
  cases h9
  refine z_istore dL_law_1633 (zle rfl) rfl (q := 1635) rfl ?_
  refine z_aload_n (i := 2) dL_law_1635 rfl rfl (q := 1636) rfl ?_
  refine z_aload_n (i := 0) dL_law_1636 rfl rfl (q := 1637) rfl ?_
  refine z_iload dL_law_1637 rfl (q := 1639) rfl ?_
  refine z_iconst (v := 1) dL_law_1639 rfl (q := 1640) rfl ?_
  refine z_iadd dL_law_1640 (q := 1641) rfl ?_
  refine z_sld dL_law_1641 (sinx (j := 1) hL hL2 (by decide)) (q := 1642) rfl ?_
  refine z_i2c dL_law_1642 (q := 1643) rfl ?_
  refine z_callV (As := [_]) dL_law_1643 kL_210 (hy r0 X2 O2 hS) (wm _ _ _) rfl rfl (zle rfl) ⟨zle rfl, zle rfl⟩ hk (q := 1646) rfl (fun rv w2 hw2 => ?_) (fun E w2 hw2 => by obtain ⟨_, _, h9, _⟩ := hw2; cases h9)
  obtain ⟨Y2, a, h9, rfl, hth, ha, hg2⟩ := hw2
  cases h9
  refine z_istore dL_law_1646 (zle rfl) rfl (q := 1648) rfl ?_
  refine z_aload_n (i := 2) dL_law_1648 rfl rfl (q := 1649) rfl ?_
  refine z_callVF (As := []) dL_law_1649 kL_137 (c_X9_thrown) (wm _ _ _) rfl rfl (zle rfl) ⟨zle rfl, zle rfl⟩ hk (q := 1652) rfl ?_
  rw [hth]
  refine z_iload dL_law_1652 rfl (q := 1654) rfl ?_
  refine z_icmp_eq (tgt := 1659) dL_law_1654 (by decide) (q := 1657) rfl (fun h1654 => ?_) (fun h1654 => absurd rfl h1654)
  refine z_iload dL_law_1659 rfl (q := 1661) rfl ?_
  refine z_if_ne (tgt := 1676) dL_law_1661 (by decide) (q := 1664) rfl (fun h1661 => ?_) (fun h1661 => ?_)
  · refine z_goto (tgt := 2306) dL_law_1676 (by decide) ?_
    exact hx2 _ _ _ _ _ _ _ hg2
  · obtain ⟨v, rfl⟩ := lcode_0 (by decide) (ho _ _ hS) h1661
    have hav := ha v rfl
    subst hav
    have hOv := hO a rfl
    refine z_aload_n (i := 3) dL_law_1664 rfl rfl (q := 1665) rfl ?_
    refine z_iconst (v := 0) dL_law_1665 rfl (q := 1666) rfl ?_
    refine z_lald dL_law_1666 (wout _ _ _) (zin (k := 0) (by decide) (by decide)) (q := 1667) rfl ?_
    refine Z.eqst (st2 := [.long a.toInt64]) (congrArg (fun x => [Value.long x]) hOv) ?_
    refine z_iload dL_law_1667 rfl (q := 1669) rfl ?_
    refine z_i2l dL_law_1669 (q := 1670) rfl ?_
    refine z_lcmp dL_law_1670 (q := 1671) rfl ?_
    rw [lg_self]
    refine z_if_eq (tgt := 1676) dL_law_1671 (by decide) (q := 1674) rfl (fun h1671 => ?_) (fun h1671 => absurd rfl h1671)
    refine z_goto (tgt := 2306) dL_law_1676 (by decide) ?_
    exact hx2 _ _ _ _ _ _ _ hg2
set_option maxRecDepth 100000 in
set_option maxHeartbeats 4000000 in
theorem q_22 {i kc ks : Nat} {e6 e7 e8 e9 : Option Value} {P : zRes → zWorld → Prop} (hg : good X Y) (hL : i + 5 ≤ G.L) (hL2 : G.L ≤ 2560) (hk : kc + 1 ≤ room_1.cells ∧ ks + 6 ≤ room_1.slots) (hx2 : lK G P i (kc + 1) (ks + 6)) : Z G mL_law room_1 kc ks 1679 [some (.ref zSI), some (.ref 0), some (.ref 77), some (.ref 94), some (.ref 95), some (.int (nI i)), e6, e7, e8, e9] [] (zw X Y O) P := by
  refine z_aload_n (i := 1) dL_law_1679 rfl rfl (q := 1680) rfl ?_
  refine z_aload_n (i := 0) dL_law_1680 rfl rfl (q := 1681) rfl ?_
  refine z_iload dL_law_1681 rfl (q := 1683) rfl ?_
  refine z_iconst (v := 1) dL_law_1683 rfl (q := 1684) rfl ?_
  refine z_iadd dL_law_1684 (q := 1685) rfl ?_
  refine z_sld dL_law_1685 (sinx (j := 1) hL hL2 (by decide)) (q := 1686) rfl ?_
  refine z_i2c dL_law_1686 (q := 1687) rfl ?_
  refine z_aload_n (i := 3) dL_law_1687 rfl rfl (q := 1688) rfl ?_
  obtain ⟨S, hx, ho, hy, hb⟩ := p_evenByAll hg (((G.xs (nI i + 1).toNatClampNeg).toUInt32 % 65536).toInt32)
  refine z_callSW (As := [_, _, _]) dL_law_1688 kL_211 (c_L_evenByAll (hx O) ho) rfl (zle rfl) ⟨zle rfl, zle rfl⟩ hk (q := 1691) rfl (fun rv w2 hw2 => ?_) (fun E w2 hw2 => by obtain ⟨_, _, _, _, h9, _⟩ := hw2; cases h9)
  obtain ⟨r0, X2, O2, hS, h9, rfl, hO⟩ := hw2
  cases h9
  refine z_istore dL_law_1691 (zle rfl) rfl (q := 1693) rfl ?_
  refine z_aload_n (i := 2) dL_law_1693 rfl rfl (q := 1694) rfl ?_
  refine z_aload_n (i := 0) dL_law_1694 rfl rfl (q := 1695) rfl ?_
  refine z_iload dL_law_1695 rfl (q := 1697) rfl ?_
  refine z_iconst (v := 1) dL_law_1697 rfl (q := 1698) rfl ?_
  refine z_iadd dL_law_1698 (q := 1699) rfl ?_
  refine z_sld dL_law_1699 (sinx (j := 1) hL hL2 (by decide)) (q := 1700) rfl ?_
  refine z_i2c dL_law_1700 (q := 1701) rfl ?_
  refine z_callV (As := [_]) dL_law_1701 kL_213 (hy r0 X2 O2 hS) (wm _ _ _) rfl rfl (zle rfl) ⟨zle rfl, zle rfl⟩ hk (q := 1704) rfl (fun rv w2 hw2 => ?_) (fun E w2 hw2 => by obtain ⟨_, _, h9, _⟩ := hw2; cases h9)
  obtain ⟨Y2, a, h9, rfl, hth, ha, hg2⟩ := hw2
  cases h9
  refine z_istore dL_law_1704 (zle rfl) rfl (q := 1706) rfl ?_
  refine z_aload_n (i := 2) dL_law_1706 rfl rfl (q := 1707) rfl ?_
  refine z_callVF (As := []) dL_law_1707 kL_137 (c_X9_thrown) (wm _ _ _) rfl rfl (zle rfl) ⟨zle rfl, zle rfl⟩ hk (q := 1710) rfl ?_
  rw [hth]
  refine z_iload dL_law_1710 rfl (q := 1712) rfl ?_
  refine z_icmp_eq (tgt := 1717) dL_law_1712 (by decide) (q := 1715) rfl (fun h1712 => ?_) (fun h1712 => absurd rfl h1712)
  refine z_iload dL_law_1717 rfl (q := 1719) rfl ?_
  refine z_if_ne (tgt := 1734) dL_law_1719 (by decide) (q := 1722) rfl (fun h1719 => ?_) (fun h1719 => ?_)
  · refine z_goto (tgt := 2306) dL_law_1734 (by decide) ?_
    exact hx2 _ _ _ _ _ _ _ hg2
  · obtain ⟨v, rfl⟩ := lcode_0 (by decide) (ho _ _ hS) h1719
    have hav := ha v rfl
    subst hav
    have hOv := hO a rfl
    refine z_aload_n (i := 3) dL_law_1722 rfl rfl (q := 1723) rfl ?_
    refine z_iconst (v := 0) dL_law_1723 rfl (q := 1724) rfl ?_
    refine z_lald dL_law_1724 (wout _ _ _) (zin (k := 0) (by decide) (by decide)) (q := 1725) rfl ?_
    refine Z.eqst (st2 := [.long a.toInt64]) (congrArg (fun x => [Value.long x]) hOv) ?_
    refine z_iload dL_law_1725 rfl (q := 1727) rfl ?_
    refine z_i2l dL_law_1727 (q := 1728) rfl ?_
    refine z_lcmp dL_law_1728 (q := 1729) rfl ?_
    rw [lg_self]
    refine z_if_eq (tgt := 1734) dL_law_1729 (by decide) (q := 1732) rfl (fun h1729 => ?_) (fun h1729 => absurd rfl h1729)
    refine z_goto (tgt := 2306) dL_law_1734 (by decide) ?_
    exact hx2 _ _ _ _ _ _ _ hg2
set_option maxRecDepth 100000 in
set_option maxHeartbeats 4000000 in
theorem q_23 {i kc ks : Nat} {e6 e7 e8 e9 : Option Value} {P : zRes → zWorld → Prop} (hg : good X Y) (hL : i + 5 ≤ G.L) (hL2 : G.L ≤ 2560) (hk : kc + 1 ≤ room_1.cells ∧ ks + 6 ≤ room_1.slots) (hx2 : lK G P i (kc + 1) (ks + 6)) : Z G mL_law room_1 kc ks 1737 [some (.ref zSI), some (.ref 0), some (.ref 77), some (.ref 94), some (.ref 95), some (.int (nI i)), e6, e7, e8, e9] [] (zw X Y O) P := by
  refine z_aload_n (i := 1) dL_law_1737 rfl rfl (q := 1738) rfl ?_
  refine z_aload_n (i := 0) dL_law_1738 rfl rfl (q := 1739) rfl ?_
  refine z_iload dL_law_1739 rfl (q := 1741) rfl ?_
  refine z_iconst (v := 1) dL_law_1741 rfl (q := 1742) rfl ?_
  refine z_iadd dL_law_1742 (q := 1743) rfl ?_
  refine z_sld dL_law_1743 (sinx (j := 1) hL hL2 (by decide)) (q := 1744) rfl ?_
  refine z_i2c dL_law_1744 (q := 1745) rfl ?_
  refine z_aload_n (i := 3) dL_law_1745 rfl rfl (q := 1746) rfl ?_
  obtain ⟨S, hx, ho, hy, hb⟩ := p_spread hg (((G.xs (nI i + 1).toNatClampNeg).toUInt32 % 65536).toInt32)
  refine z_callSW (As := [_, _, _]) dL_law_1746 kL_214 (c_L_spread (hx O) ho) rfl (zle rfl) ⟨zle rfl, zle rfl⟩ hk (q := 1749) rfl (fun rv w2 hw2 => ?_) (fun E w2 hw2 => by obtain ⟨_, _, _, _, h9, _⟩ := hw2; cases h9)
  obtain ⟨r0, X2, O2, hS, h9, rfl, hO⟩ := hw2
  cases h9
  refine z_istore dL_law_1749 (zle rfl) rfl (q := 1751) rfl ?_
  refine z_aload_n (i := 2) dL_law_1751 rfl rfl (q := 1752) rfl ?_
  refine z_aload_n (i := 0) dL_law_1752 rfl rfl (q := 1753) rfl ?_
  refine z_iload dL_law_1753 rfl (q := 1755) rfl ?_
  refine z_iconst (v := 1) dL_law_1755 rfl (q := 1756) rfl ?_
  refine z_iadd dL_law_1756 (q := 1757) rfl ?_
  refine z_sld dL_law_1757 (sinx (j := 1) hL hL2 (by decide)) (q := 1758) rfl ?_
  refine z_i2c dL_law_1758 (q := 1759) rfl ?_
  refine z_callV (As := [_]) dL_law_1759 kL_216 (hy r0 X2 O2 hS) (wm _ _ _) rfl rfl (zle rfl) ⟨zle rfl, zle rfl⟩ hk (q := 1762) rfl (fun rv w2 hw2 => ?_) (fun E w2 hw2 => by obtain ⟨_, _, h9, _⟩ := hw2; cases h9)
  obtain ⟨Y2, a, h9, rfl, hth, ha, hg2⟩ := hw2
  cases h9
  refine z_istore dL_law_1762 (zle rfl) rfl (q := 1764) rfl ?_
  refine z_aload_n (i := 2) dL_law_1764 rfl rfl (q := 1765) rfl ?_
  refine z_callVF (As := []) dL_law_1765 kL_137 (c_X9_thrown) (wm _ _ _) rfl rfl (zle rfl) ⟨zle rfl, zle rfl⟩ hk (q := 1768) rfl ?_
  rw [hth]
  refine z_iload dL_law_1768 rfl (q := 1770) rfl ?_
  refine z_icmp_eq (tgt := 1775) dL_law_1770 (by decide) (q := 1773) rfl (fun h1770 => ?_) (fun h1770 => absurd rfl h1770)
  refine z_iload dL_law_1775 rfl (q := 1777) rfl ?_
  refine z_if_ne (tgt := 1792) dL_law_1777 (by decide) (q := 1780) rfl (fun h1777 => ?_) (fun h1777 => ?_)
  · refine z_goto (tgt := 2306) dL_law_1792 (by decide) ?_
    exact hx2 _ _ _ _ _ _ _ hg2
  · obtain ⟨v, rfl⟩ := lcode_0 (by decide) (ho _ _ hS) h1777
    have hav := ha v rfl
    subst hav
    have hOv := hO a rfl
    refine z_aload_n (i := 3) dL_law_1780 rfl rfl (q := 1781) rfl ?_
    refine z_iconst (v := 0) dL_law_1781 rfl (q := 1782) rfl ?_
    refine z_lald dL_law_1782 (wout _ _ _) (zin (k := 0) (by decide) (by decide)) (q := 1783) rfl ?_
    refine Z.eqst (st2 := [.long a.toInt64]) (congrArg (fun x => [Value.long x]) hOv) ?_
    refine z_iload dL_law_1783 rfl (q := 1785) rfl ?_
    refine z_i2l dL_law_1785 (q := 1786) rfl ?_
    refine z_lcmp dL_law_1786 (q := 1787) rfl ?_
    rw [lg_self]
    refine z_if_eq (tgt := 1792) dL_law_1787 (by decide) (q := 1790) rfl (fun h1787 => ?_) (fun h1787 => absurd rfl h1787)
    refine z_goto (tgt := 2306) dL_law_1792 (by decide) ?_
    exact hx2 _ _ _ _ _ _ _ hg2
set_option maxRecDepth 100000 in
set_option maxHeartbeats 4000000 in
theorem q_24 {i kc ks : Nat} {e6 e7 e8 e9 : Option Value} {P : zRes → zWorld → Prop} (hg : good X Y) (hL : i + 5 ≤ G.L) (hL2 : G.L ≤ 2560) (hk : kc + 1 ≤ room_1.cells ∧ ks + 6 ≤ room_1.slots) (hx2 : lK G P i (kc + 1) (ks + 6)) : Z G mL_law room_1 kc ks 1795 [some (.ref zSI), some (.ref 0), some (.ref 77), some (.ref 94), some (.ref 95), some (.int (nI i)), e6, e7, e8, e9] [] (zw X Y O) P := by
  refine z_aload_n (i := 1) dL_law_1795 rfl rfl (q := 1796) rfl ?_
  refine z_aload_n (i := 0) dL_law_1796 rfl rfl (q := 1797) rfl ?_
  refine z_iload dL_law_1797 rfl (q := 1799) rfl ?_
  refine z_iconst (v := 1) dL_law_1799 rfl (q := 1800) rfl ?_
  refine z_iadd dL_law_1800 (q := 1801) rfl ?_
  refine z_sld dL_law_1801 (sinx (j := 1) hL hL2 (by decide)) (q := 1802) rfl ?_
  refine z_i2c dL_law_1802 (q := 1803) rfl ?_
  refine z_aload_n (i := 3) dL_law_1803 rfl rfl (q := 1804) rfl ?_
  obtain ⟨S, hx, ho, hy, hb⟩ := p_guides hg (((G.xs (nI i + 1).toNatClampNeg).toUInt32 % 65536).toInt32)
  refine z_callSW (As := [_, _, _]) dL_law_1804 kL_217 (c_L_guides (hx O) ho) rfl (zle rfl) ⟨zle rfl, zle rfl⟩ hk (q := 1807) rfl (fun rv w2 hw2 => ?_) (fun E w2 hw2 => by obtain ⟨_, _, _, _, h9, _⟩ := hw2; cases h9)
  obtain ⟨r0, X2, O2, hS, h9, rfl, hO⟩ := hw2
  cases h9
  refine z_istore dL_law_1807 (zle rfl) rfl (q := 1809) rfl ?_
  refine z_aload_n (i := 2) dL_law_1809 rfl rfl (q := 1810) rfl ?_
  refine z_aload_n (i := 0) dL_law_1810 rfl rfl (q := 1811) rfl ?_
  refine z_iload dL_law_1811 rfl (q := 1813) rfl ?_
  refine z_iconst (v := 1) dL_law_1813 rfl (q := 1814) rfl ?_
  refine z_iadd dL_law_1814 (q := 1815) rfl ?_
  refine z_sld dL_law_1815 (sinx (j := 1) hL hL2 (by decide)) (q := 1816) rfl ?_
  refine z_i2c dL_law_1816 (q := 1817) rfl ?_
  refine z_callV (As := [_]) dL_law_1817 kL_219 (hy r0 X2 O2 hS) (wm _ _ _) rfl rfl (zle rfl) ⟨zle rfl, zle rfl⟩ hk (q := 1820) rfl (fun rv w2 hw2 => ?_) (fun E w2 hw2 => by obtain ⟨_, _, h9, _⟩ := hw2; cases h9)
  obtain ⟨Y2, a, h9, rfl, hth, ha, hg2⟩ := hw2
  cases h9
  refine z_istore dL_law_1820 (zle rfl) rfl (q := 1822) rfl ?_
  refine z_aload_n (i := 2) dL_law_1822 rfl rfl (q := 1823) rfl ?_
  refine z_callVF (As := []) dL_law_1823 kL_137 (c_X9_thrown) (wm _ _ _) rfl rfl (zle rfl) ⟨zle rfl, zle rfl⟩ hk (q := 1826) rfl ?_
  rw [hth]
  refine z_iload dL_law_1826 rfl (q := 1828) rfl ?_
  refine z_icmp_eq (tgt := 1833) dL_law_1828 (by decide) (q := 1831) rfl (fun h1828 => ?_) (fun h1828 => absurd rfl h1828)
  refine z_iload dL_law_1833 rfl (q := 1835) rfl ?_
  refine z_if_ne (tgt := 1850) dL_law_1835 (by decide) (q := 1838) rfl (fun h1835 => ?_) (fun h1835 => ?_)
  · refine z_goto (tgt := 2306) dL_law_1850 (by decide) ?_
    exact hx2 _ _ _ _ _ _ _ hg2
  · obtain ⟨v, rfl⟩ := lcode_0 (by decide) (ho _ _ hS) h1835
    have hav := ha v rfl
    subst hav
    have hOv := hO a rfl
    refine z_aload_n (i := 3) dL_law_1838 rfl rfl (q := 1839) rfl ?_
    refine z_iconst (v := 0) dL_law_1839 rfl (q := 1840) rfl ?_
    refine z_lald dL_law_1840 (wout _ _ _) (zin (k := 0) (by decide) (by decide)) (q := 1841) rfl ?_
    refine Z.eqst (st2 := [.long a.toInt64]) (congrArg (fun x => [Value.long x]) hOv) ?_
    refine z_iload dL_law_1841 rfl (q := 1843) rfl ?_
    refine z_i2l dL_law_1843 (q := 1844) rfl ?_
    refine z_lcmp dL_law_1844 (q := 1845) rfl ?_
    rw [lg_self]
    refine z_if_eq (tgt := 1850) dL_law_1845 (by decide) (q := 1848) rfl (fun h1845 => ?_) (fun h1845 => absurd rfl h1845)
    refine z_goto (tgt := 2306) dL_law_1850 (by decide) ?_
    exact hx2 _ _ _ _ _ _ _ hg2
set_option maxRecDepth 100000 in
set_option maxHeartbeats 4000000 in
theorem q_25 {i kc ks : Nat} {e6 e7 e8 e9 : Option Value} {P : zRes → zWorld → Prop} (hg : good X Y) (hL : i + 5 ≤ G.L) (hL2 : G.L ≤ 2560) (hk : kc + 1 ≤ room_1.cells ∧ ks + 6 ≤ room_1.slots) (hx2 : lK G P i (kc + 1) (ks + 6)) : Z G mL_law room_1 kc ks 1853 [some (.ref zSI), some (.ref 0), some (.ref 77), some (.ref 94), some (.ref 95), some (.int (nI i)), e6, e7, e8, e9] [] (zw X Y O) P := by
  refine z_aload_n (i := 1) dL_law_1853 rfl rfl (q := 1854) rfl ?_
  refine z_aload_n (i := 0) dL_law_1854 rfl rfl (q := 1855) rfl ?_
  refine z_iload dL_law_1855 rfl (q := 1857) rfl ?_
  refine z_iconst (v := 1) dL_law_1857 rfl (q := 1858) rfl ?_
  refine z_iadd dL_law_1858 (q := 1859) rfl ?_
  refine z_sld dL_law_1859 (sinx (j := 1) hL hL2 (by decide)) (q := 1860) rfl ?_
  refine z_i2c dL_law_1860 (q := 1861) rfl ?_
  refine z_aload_n (i := 0) dL_law_1861 rfl rfl (q := 1862) rfl ?_
  refine z_iload dL_law_1862 rfl (q := 1864) rfl ?_
  refine z_iconst (v := 2) dL_law_1864 rfl (q := 1865) rfl ?_
  refine z_iadd dL_law_1865 (q := 1866) rfl ?_
  refine z_sld dL_law_1866 (sinx (j := 2) hL hL2 (by decide)) (q := 1867) rfl ?_
  refine z_aload_n (i := 3) dL_law_1867 rfl rfl (q := 1868) rfl ?_
  obtain ⟨S, hx, ho, hy, hb⟩ := p_guideAt hg (((G.xs (nI i + 1).toNatClampNeg).toUInt32 % 65536).toInt32) ((G.xs (nI i + 2).toNatClampNeg))
  refine z_callSW (As := [_, _, _, _]) dL_law_1868 kL_220 (c_L_guideAt (hx O) ho) rfl (zle rfl) ⟨zle rfl, zle rfl⟩ hk (q := 1871) rfl (fun rv w2 hw2 => ?_) (fun E w2 hw2 => by obtain ⟨_, _, _, _, h9, _⟩ := hw2; cases h9)
  obtain ⟨r0, X2, O2, hS, h9, rfl, hO⟩ := hw2
  cases h9
  refine z_istore dL_law_1871 (zle rfl) rfl (q := 1873) rfl ?_
  refine z_aload_n (i := 2) dL_law_1873 rfl rfl (q := 1874) rfl ?_
  refine z_aload_n (i := 0) dL_law_1874 rfl rfl (q := 1875) rfl ?_
  refine z_iload dL_law_1875 rfl (q := 1877) rfl ?_
  refine z_iconst (v := 1) dL_law_1877 rfl (q := 1878) rfl ?_
  refine z_iadd dL_law_1878 (q := 1879) rfl ?_
  refine z_sld dL_law_1879 (sinx (j := 1) hL hL2 (by decide)) (q := 1880) rfl ?_
  refine z_i2c dL_law_1880 (q := 1881) rfl ?_
  refine z_aload_n (i := 0) dL_law_1881 rfl rfl (q := 1882) rfl ?_
  refine z_iload dL_law_1882 rfl (q := 1884) rfl ?_
  refine z_iconst (v := 2) dL_law_1884 rfl (q := 1885) rfl ?_
  refine z_iadd dL_law_1885 (q := 1886) rfl ?_
  refine z_sld dL_law_1886 (sinx (j := 2) hL hL2 (by decide)) (q := 1887) rfl ?_
  refine z_callV (As := [_, _]) dL_law_1887 kL_223 (hy r0 X2 O2 hS) (wm _ _ _) rfl rfl (zle rfl) ⟨zle rfl, zle rfl⟩ hk (q := 1890) rfl (fun rv w2 hw2 => ?_) (fun E w2 hw2 => by obtain ⟨_, _, h9, _⟩ := hw2; cases h9)
  obtain ⟨Y2, a, h9, rfl, hth, ha, hg2⟩ := hw2
  cases h9
  refine z_istore dL_law_1890 (zle rfl) rfl (q := 1892) rfl ?_
  refine z_aload_n (i := 2) dL_law_1892 rfl rfl (q := 1893) rfl ?_
  refine z_callVF (As := []) dL_law_1893 kL_137 (c_X9_thrown) (wm _ _ _) rfl rfl (zle rfl) ⟨zle rfl, zle rfl⟩ hk (q := 1896) rfl ?_
  rw [hth]
  refine z_iload dL_law_1896 rfl (q := 1898) rfl ?_
  refine z_icmp_eq (tgt := 1903) dL_law_1898 (by decide) (q := 1901) rfl (fun h1898 => ?_) (fun h1898 => absurd rfl h1898)
  refine z_iload dL_law_1903 rfl (q := 1905) rfl ?_
  refine z_if_ne (tgt := 1920) dL_law_1905 (by decide) (q := 1908) rfl (fun h1905 => ?_) (fun h1905 => ?_)
  · refine z_goto (tgt := 2306) dL_law_1920 (by decide) ?_
    exact hx2 _ _ _ _ _ _ _ hg2
  · obtain ⟨v, rfl⟩ := lcode_0 (by decide) (ho _ _ hS) h1905
    have hav := ha v rfl
    subst hav
    have hOv := hO a rfl
    refine z_aload_n (i := 3) dL_law_1908 rfl rfl (q := 1909) rfl ?_
    refine z_iconst (v := 0) dL_law_1909 rfl (q := 1910) rfl ?_
    refine z_lald dL_law_1910 (wout _ _ _) (zin (k := 0) (by decide) (by decide)) (q := 1911) rfl ?_
    refine Z.eqst (st2 := [.long a.toInt64]) (congrArg (fun x => [Value.long x]) hOv) ?_
    refine z_iload dL_law_1911 rfl (q := 1913) rfl ?_
    refine z_i2l dL_law_1913 (q := 1914) rfl ?_
    refine z_lcmp dL_law_1914 (q := 1915) rfl ?_
    rw [lg_self]
    refine z_if_eq (tgt := 1920) dL_law_1915 (by decide) (q := 1918) rfl (fun h1915 => ?_) (fun h1915 => absurd rfl h1915)
    refine z_goto (tgt := 2306) dL_law_1920 (by decide) ?_
    exact hx2 _ _ _ _ _ _ _ hg2
set_option maxRecDepth 100000 in
set_option maxHeartbeats 4000000 in
theorem q_26 {i kc ks : Nat} {e6 e7 e8 e9 : Option Value} {P : zRes → zWorld → Prop} (hg : good X Y) (hL : i + 5 ≤ G.L) (hL2 : G.L ≤ 2560) (hk : kc + 1 ≤ room_1.cells ∧ ks + 6 ≤ room_1.slots) (hx2 : lK G P i (kc + 1) (ks + 6)) : Z G mL_law room_1 kc ks 1923 [some (.ref zSI), some (.ref 0), some (.ref 77), some (.ref 94), some (.ref 95), some (.int (nI i)), e6, e7, e8, e9] [] (zw X Y O) P := by
  refine z_aload_n (i := 1) dL_law_1923 rfl rfl (q := 1924) rfl ?_
  refine z_aload_n (i := 0) dL_law_1924 rfl rfl (q := 1925) rfl ?_
  refine z_iload dL_law_1925 rfl (q := 1927) rfl ?_
  refine z_iconst (v := 1) dL_law_1927 rfl (q := 1928) rfl ?_
  refine z_iadd dL_law_1928 (q := 1929) rfl ?_
  refine z_sld dL_law_1929 (sinx (j := 1) hL hL2 (by decide)) (q := 1930) rfl ?_
  refine z_aload_n (i := 0) dL_law_1930 rfl rfl (q := 1931) rfl ?_
  refine z_iload dL_law_1931 rfl (q := 1933) rfl ?_
  refine z_iconst (v := 2) dL_law_1933 rfl (q := 1934) rfl ?_
  refine z_iadd dL_law_1934 (q := 1935) rfl ?_
  refine z_sld dL_law_1935 (sinx (j := 2) hL hL2 (by decide)) (q := 1936) rfl ?_
  refine z_aload_n (i := 3) dL_law_1936 rfl rfl (q := 1937) rfl ?_
  obtain ⟨S, hx, ho, hy, hb⟩ := p_distance hg ((G.xs (nI i + 1).toNatClampNeg)) ((G.xs (nI i + 2).toNatClampNeg))
  refine z_callSW (As := [_, _, _, _]) dL_law_1937 kL_224 (c_L_distance (hx O) ho) rfl (zle rfl) ⟨zle rfl, zle rfl⟩ hk (q := 1940) rfl (fun rv w2 hw2 => ?_) (fun E w2 hw2 => by obtain ⟨_, _, _, _, h9, _⟩ := hw2; cases h9)
  obtain ⟨r0, X2, O2, hS, h9, rfl, hO⟩ := hw2
  cases h9
  refine z_istore dL_law_1940 (zle rfl) rfl (q := 1942) rfl ?_
  refine z_aload_n (i := 2) dL_law_1942 rfl rfl (q := 1943) rfl ?_
  refine z_aload_n (i := 0) dL_law_1943 rfl rfl (q := 1944) rfl ?_
  refine z_iload dL_law_1944 rfl (q := 1946) rfl ?_
  refine z_iconst (v := 1) dL_law_1946 rfl (q := 1947) rfl ?_
  refine z_iadd dL_law_1947 (q := 1948) rfl ?_
  refine z_sld dL_law_1948 (sinx (j := 1) hL hL2 (by decide)) (q := 1949) rfl ?_
  refine z_aload_n (i := 0) dL_law_1949 rfl rfl (q := 1950) rfl ?_
  refine z_iload dL_law_1950 rfl (q := 1952) rfl ?_
  refine z_iconst (v := 2) dL_law_1952 rfl (q := 1953) rfl ?_
  refine z_iadd dL_law_1953 (q := 1954) rfl ?_
  refine z_sld dL_law_1954 (sinx (j := 2) hL hL2 (by decide)) (q := 1955) rfl ?_
  refine z_callV (As := [_, _]) dL_law_1955 kL_226 (hy r0 X2 O2 hS) (wm _ _ _) rfl rfl (zle rfl) ⟨zle rfl, zle rfl⟩ hk (q := 1958) rfl (fun rv w2 hw2 => ?_) (fun E w2 hw2 => by obtain ⟨_, _, h9, _⟩ := hw2; cases h9)
  obtain ⟨Y2, a, h9, rfl, hth, ha, hg2⟩ := hw2
  cases h9
  refine z_istore dL_law_1958 (zle rfl) rfl (q := 1960) rfl ?_
  refine z_aload_n (i := 2) dL_law_1960 rfl rfl (q := 1961) rfl ?_
  refine z_callVF (As := []) dL_law_1961 kL_137 (c_X9_thrown) (wm _ _ _) rfl rfl (zle rfl) ⟨zle rfl, zle rfl⟩ hk (q := 1964) rfl ?_
  rw [hth]
  refine z_iload dL_law_1964 rfl (q := 1966) rfl ?_
  refine z_icmp_eq (tgt := 1971) dL_law_1966 (by decide) (q := 1969) rfl (fun h1966 => ?_) (fun h1966 => absurd rfl h1966)
  refine z_iload dL_law_1971 rfl (q := 1973) rfl ?_
  refine z_if_ne (tgt := 1988) dL_law_1973 (by decide) (q := 1976) rfl (fun h1973 => ?_) (fun h1973 => ?_)
  · refine z_goto (tgt := 2306) dL_law_1988 (by decide) ?_
    exact hx2 _ _ _ _ _ _ _ hg2
  · obtain ⟨v, rfl⟩ := lcode_0 (by decide) (ho _ _ hS) h1973
    have hav := ha v rfl
    subst hav
    have hOv := hO a rfl
    refine z_aload_n (i := 3) dL_law_1976 rfl rfl (q := 1977) rfl ?_
    refine z_iconst (v := 0) dL_law_1977 rfl (q := 1978) rfl ?_
    refine z_lald dL_law_1978 (wout _ _ _) (zin (k := 0) (by decide) (by decide)) (q := 1979) rfl ?_
    refine Z.eqst (st2 := [.long a.toInt64]) (congrArg (fun x => [Value.long x]) hOv) ?_
    refine z_iload dL_law_1979 rfl (q := 1981) rfl ?_
    refine z_i2l dL_law_1981 (q := 1982) rfl ?_
    refine z_lcmp dL_law_1982 (q := 1983) rfl ?_
    rw [lg_self]
    refine z_if_eq (tgt := 1988) dL_law_1983 (by decide) (q := 1986) rfl (fun h1983 => ?_) (fun h1983 => absurd rfl h1983)
    refine z_goto (tgt := 2306) dL_law_1988 (by decide) ?_
    exact hx2 _ _ _ _ _ _ _ hg2
set_option maxRecDepth 100000 in
set_option maxHeartbeats 4000000 in
theorem q_27 {i kc ks : Nat} {e6 e7 e8 e9 : Option Value} {P : zRes → zWorld → Prop} (hg : good X Y) (hL : i + 5 ≤ G.L) (hL2 : G.L ≤ 2560) (hk : kc + 1 ≤ room_1.cells ∧ ks + 6 ≤ room_1.slots) (hx2 : lK G P i (kc + 1) (ks + 6)) : Z G mL_law room_1 kc ks 1991 [some (.ref zSI), some (.ref 0), some (.ref 77), some (.ref 94), some (.ref 95), some (.int (nI i)), e6, e7, e8, e9] [] (zw X Y O) P := by
  refine z_aload_n (i := 1) dL_law_1991 rfl rfl (q := 1992) rfl ?_
  refine z_aload_n (i := 0) dL_law_1992 rfl rfl (q := 1993) rfl ?_
  refine z_iload dL_law_1993 rfl (q := 1995) rfl ?_
  refine z_iconst (v := 1) dL_law_1995 rfl (q := 1996) rfl ?_
  refine z_iadd dL_law_1996 (q := 1997) rfl ?_
  refine z_sld dL_law_1997 (sinx (j := 1) hL hL2 (by decide)) (q := 1998) rfl ?_
  refine z_aload_n (i := 3) dL_law_1998 rfl rfl (q := 1999) rfl ?_
  obtain ⟨S, hx, ho, hy, hb⟩ := p_groups hg ((G.xs (nI i + 1).toNatClampNeg))
  refine z_callSW (As := [_, _, _]) dL_law_1999 kL_227 (c_L_groups (hx O) ho) rfl (zle rfl) ⟨zle rfl, zle rfl⟩ hk (q := 2002) rfl (fun rv w2 hw2 => ?_) (fun E w2 hw2 => by obtain ⟨_, _, _, _, h9, _⟩ := hw2; cases h9)
  obtain ⟨r0, X2, O2, hS, h9, rfl, hO⟩ := hw2
  cases h9
  refine z_istore dL_law_2002 (zle rfl) rfl (q := 2004) rfl ?_
  refine z_aload_n (i := 2) dL_law_2004 rfl rfl (q := 2005) rfl ?_
  refine z_aload_n (i := 0) dL_law_2005 rfl rfl (q := 2006) rfl ?_
  refine z_iload dL_law_2006 rfl (q := 2008) rfl ?_
  refine z_iconst (v := 1) dL_law_2008 rfl (q := 2009) rfl ?_
  refine z_iadd dL_law_2009 (q := 2010) rfl ?_
  refine z_sld dL_law_2010 (sinx (j := 1) hL hL2 (by decide)) (q := 2011) rfl ?_
  refine z_callV (As := [_]) dL_law_2011 kL_229 (hy r0 X2 O2 hS) (wm _ _ _) rfl rfl (zle rfl) ⟨zle rfl, zle rfl⟩ hk (q := 2014) rfl (fun rv w2 hw2 => ?_) (fun E w2 hw2 => by obtain ⟨_, _, h9, _⟩ := hw2; cases h9)
  obtain ⟨Y2, a, h9, rfl, hth, ha, hg2⟩ := hw2
  cases h9
  refine z_istore dL_law_2014 (zle rfl) rfl (q := 2016) rfl ?_
  refine z_aload_n (i := 2) dL_law_2016 rfl rfl (q := 2017) rfl ?_
  refine z_callVF (As := []) dL_law_2017 kL_137 (c_X9_thrown) (wm _ _ _) rfl rfl (zle rfl) ⟨zle rfl, zle rfl⟩ hk (q := 2020) rfl ?_
  rw [hth]
  refine z_iload dL_law_2020 rfl (q := 2022) rfl ?_
  refine z_icmp_eq (tgt := 2027) dL_law_2022 (by decide) (q := 2025) rfl (fun h2022 => ?_) (fun h2022 => absurd rfl h2022)
  refine z_iload dL_law_2027 rfl (q := 2029) rfl ?_
  refine z_if_ne (tgt := 2044) dL_law_2029 (by decide) (q := 2032) rfl (fun h2029 => ?_) (fun h2029 => ?_)
  · refine z_goto (tgt := 2306) dL_law_2044 (by decide) ?_
    exact hx2 _ _ _ _ _ _ _ hg2
  · obtain ⟨v, rfl⟩ := lcode_0 (by decide) (ho _ _ hS) h2029
    have hav := ha v rfl
    subst hav
    have hOv := hO a rfl
    refine z_aload_n (i := 3) dL_law_2032 rfl rfl (q := 2033) rfl ?_
    refine z_iconst (v := 0) dL_law_2033 rfl (q := 2034) rfl ?_
    refine z_lald dL_law_2034 (wout _ _ _) (zin (k := 0) (by decide) (by decide)) (q := 2035) rfl ?_
    refine Z.eqst (st2 := [.long a.toInt64]) (congrArg (fun x => [Value.long x]) hOv) ?_
    refine z_iload dL_law_2035 rfl (q := 2037) rfl ?_
    refine z_i2l dL_law_2037 (q := 2038) rfl ?_
    refine z_lcmp dL_law_2038 (q := 2039) rfl ?_
    rw [lg_self]
    refine z_if_eq (tgt := 2044) dL_law_2039 (by decide) (q := 2042) rfl (fun h2039 => ?_) (fun h2039 => absurd rfl h2039)
    refine z_goto (tgt := 2306) dL_law_2044 (by decide) ?_
    exact hx2 _ _ _ _ _ _ _ hg2
set_option maxRecDepth 100000 in
set_option maxHeartbeats 4000000 in
theorem q_28 {i kc ks : Nat} {e6 e7 e8 e9 : Option Value} {P : zRes → zWorld → Prop} (hg : good X Y) (hL : i + 5 ≤ G.L) (hL2 : G.L ≤ 2560) (hk : kc + 1 ≤ room_1.cells ∧ ks + 6 ≤ room_1.slots) (hx2 : lK G P i (kc + 1) (ks + 6)) : Z G mL_law room_1 kc ks 2047 [some (.ref zSI), some (.ref 0), some (.ref 77), some (.ref 94), some (.ref 95), some (.int (nI i)), e6, e7, e8, e9] [] (zw X Y O) P := by
  refine z_aload_n (i := 1) dL_law_2047 rfl rfl (q := 2048) rfl ?_
  refine z_aload_n (i := 0) dL_law_2048 rfl rfl (q := 2049) rfl ?_
  refine z_iload dL_law_2049 rfl (q := 2051) rfl ?_
  refine z_iconst (v := 1) dL_law_2051 rfl (q := 2052) rfl ?_
  refine z_iadd dL_law_2052 (q := 2053) rfl ?_
  refine z_sld dL_law_2053 (sinx (j := 1) hL hL2 (by decide)) (q := 2054) rfl ?_
  refine z_aload_n (i := 3) dL_law_2054 rfl rfl (q := 2055) rfl ?_
  obtain ⟨S, hx, ho, hy, hb⟩ := p_groupsByLinks hg ((G.xs (nI i + 1).toNatClampNeg))
  refine z_callSW (As := [_, _, _]) dL_law_2055 kL_230 (c_L_groupsByLinks (hx O) ho) rfl (zle rfl) ⟨zle rfl, zle rfl⟩ hk (q := 2058) rfl (fun rv w2 hw2 => ?_) (fun E w2 hw2 => by obtain ⟨_, _, _, _, h9, _⟩ := hw2; cases h9)
  obtain ⟨r0, X2, O2, hS, h9, rfl, hO⟩ := hw2
  cases h9
  refine z_istore dL_law_2058 (zle rfl) rfl (q := 2060) rfl ?_
  refine z_aload_n (i := 2) dL_law_2060 rfl rfl (q := 2061) rfl ?_
  refine z_aload_n (i := 0) dL_law_2061 rfl rfl (q := 2062) rfl ?_
  refine z_iload dL_law_2062 rfl (q := 2064) rfl ?_
  refine z_iconst (v := 1) dL_law_2064 rfl (q := 2065) rfl ?_
  refine z_iadd dL_law_2065 (q := 2066) rfl ?_
  refine z_sld dL_law_2066 (sinx (j := 1) hL hL2 (by decide)) (q := 2067) rfl ?_
  refine z_callV (As := [_]) dL_law_2067 kL_232 (hy r0 X2 O2 hS) (wm _ _ _) rfl rfl (zle rfl) ⟨zle rfl, zle rfl⟩ hk (q := 2070) rfl (fun rv w2 hw2 => ?_) (fun E w2 hw2 => by obtain ⟨_, _, h9, _⟩ := hw2; cases h9)
  obtain ⟨Y2, a, h9, rfl, hth, ha, hg2⟩ := hw2
  cases h9
  refine z_istore dL_law_2070 (zle rfl) rfl (q := 2072) rfl ?_
  refine z_aload_n (i := 2) dL_law_2072 rfl rfl (q := 2073) rfl ?_
  refine z_callVF (As := []) dL_law_2073 kL_137 (c_X9_thrown) (wm _ _ _) rfl rfl (zle rfl) ⟨zle rfl, zle rfl⟩ hk (q := 2076) rfl ?_
  rw [hth]
  refine z_iload dL_law_2076 rfl (q := 2078) rfl ?_
  refine z_icmp_eq (tgt := 2083) dL_law_2078 (by decide) (q := 2081) rfl (fun h2078 => ?_) (fun h2078 => absurd rfl h2078)
  refine z_iload dL_law_2083 rfl (q := 2085) rfl ?_
  refine z_if_ne (tgt := 2100) dL_law_2085 (by decide) (q := 2088) rfl (fun h2085 => ?_) (fun h2085 => ?_)
  · refine z_goto (tgt := 2306) dL_law_2100 (by decide) ?_
    exact hx2 _ _ _ _ _ _ _ hg2
  · obtain ⟨v, rfl⟩ := lcode_0 (by decide) (ho _ _ hS) h2085
    have hav := ha v rfl
    subst hav
    have hOv := hO a rfl
    refine z_aload_n (i := 3) dL_law_2088 rfl rfl (q := 2089) rfl ?_
    refine z_iconst (v := 0) dL_law_2089 rfl (q := 2090) rfl ?_
    refine z_lald dL_law_2090 (wout _ _ _) (zin (k := 0) (by decide) (by decide)) (q := 2091) rfl ?_
    refine Z.eqst (st2 := [.long a.toInt64]) (congrArg (fun x => [Value.long x]) hOv) ?_
    refine z_iload dL_law_2091 rfl (q := 2093) rfl ?_
    refine z_i2l dL_law_2093 (q := 2094) rfl ?_
    refine z_lcmp dL_law_2094 (q := 2095) rfl ?_
    rw [lg_self]
    refine z_if_eq (tgt := 2100) dL_law_2095 (by decide) (q := 2098) rfl (fun h2095 => ?_) (fun h2095 => absurd rfl h2095)
    refine z_goto (tgt := 2306) dL_law_2100 (by decide) ?_
    exact hx2 _ _ _ _ _ _ _ hg2
set_option maxRecDepth 100000 in
set_option maxHeartbeats 4000000 in
theorem q_29 {i kc ks : Nat} {e6 e7 e8 e9 : Option Value} {P : zRes → zWorld → Prop} (hg : good X Y) (hL : i + 5 ≤ G.L) (hL2 : G.L ≤ 2560) (hk : kc + 1 ≤ room_1.cells ∧ ks + 6 ≤ room_1.slots) (hx2 : lK G P i (kc + 1) (ks + 6)) : Z G mL_law room_1 kc ks 2103 [some (.ref zSI), some (.ref 0), some (.ref 77), some (.ref 94), some (.ref 95), some (.int (nI i)), e6, e7, e8, e9] [] (zw X Y O) P := by
  refine z_aload_n (i := 1) dL_law_2103 rfl rfl (q := 2104) rfl ?_
  refine z_aload_n (i := 0) dL_law_2104 rfl rfl (q := 2105) rfl ?_
  refine z_iload dL_law_2105 rfl (q := 2107) rfl ?_
  refine z_iconst (v := 1) dL_law_2107 rfl (q := 2108) rfl ?_
  refine z_iadd dL_law_2108 (q := 2109) rfl ?_
  refine z_sld dL_law_2109 (sinx (j := 1) hL hL2 (by decide)) (q := 2110) rfl ?_
  refine z_aload_n (i := 0) dL_law_2110 rfl rfl (q := 2111) rfl ?_
  refine z_iload dL_law_2111 rfl (q := 2113) rfl ?_
  refine z_iconst (v := 2) dL_law_2113 rfl (q := 2114) rfl ?_
  refine z_iadd dL_law_2114 (q := 2115) rfl ?_
  refine z_sld dL_law_2115 (sinx (j := 2) hL hL2 (by decide)) (q := 2116) rfl ?_
  refine z_aload_n (i := 3) dL_law_2116 rfl rfl (q := 2117) rfl ?_
  obtain ⟨S, hx, ho, hy, hb⟩ := p_groupOf hg ((G.xs (nI i + 1).toNatClampNeg)) ((G.xs (nI i + 2).toNatClampNeg))
  refine z_callSW (As := [_, _, _, _]) dL_law_2117 kL_233 (c_L_groupOf (hx O) ho) rfl (zle rfl) ⟨zle rfl, zle rfl⟩ hk (q := 2120) rfl (fun rv w2 hw2 => ?_) (fun E w2 hw2 => by obtain ⟨_, _, _, _, h9, _⟩ := hw2; cases h9)
  obtain ⟨r0, X2, O2, hS, h9, rfl, hO⟩ := hw2
  cases h9
  refine z_istore dL_law_2120 (zle rfl) rfl (q := 2122) rfl ?_
  refine z_aload_n (i := 2) dL_law_2122 rfl rfl (q := 2123) rfl ?_
  refine z_aload_n (i := 0) dL_law_2123 rfl rfl (q := 2124) rfl ?_
  refine z_iload dL_law_2124 rfl (q := 2126) rfl ?_
  refine z_iconst (v := 1) dL_law_2126 rfl (q := 2127) rfl ?_
  refine z_iadd dL_law_2127 (q := 2128) rfl ?_
  refine z_sld dL_law_2128 (sinx (j := 1) hL hL2 (by decide)) (q := 2129) rfl ?_
  refine z_aload_n (i := 0) dL_law_2129 rfl rfl (q := 2130) rfl ?_
  refine z_iload dL_law_2130 rfl (q := 2132) rfl ?_
  refine z_iconst (v := 2) dL_law_2132 rfl (q := 2133) rfl ?_
  refine z_iadd dL_law_2133 (q := 2134) rfl ?_
  refine z_sld dL_law_2134 (sinx (j := 2) hL hL2 (by decide)) (q := 2135) rfl ?_
  refine z_callV (As := [_, _]) dL_law_2135 kL_235 (hy r0 X2 O2 hS) (wm _ _ _) rfl rfl (zle rfl) ⟨zle rfl, zle rfl⟩ hk (q := 2138) rfl (fun rv w2 hw2 => ?_) (fun E w2 hw2 => by obtain ⟨_, _, h9, _⟩ := hw2; cases h9)
  obtain ⟨Y2, a, h9, rfl, hth, ha, hg2⟩ := hw2
  cases h9
  refine z_istore dL_law_2138 (zle rfl) rfl (q := 2140) rfl ?_
  refine z_aload_n (i := 2) dL_law_2140 rfl rfl (q := 2141) rfl ?_
  refine z_callVF (As := []) dL_law_2141 kL_137 (c_X9_thrown) (wm _ _ _) rfl rfl (zle rfl) ⟨zle rfl, zle rfl⟩ hk (q := 2144) rfl ?_
  rw [hth]
  refine z_iload dL_law_2144 rfl (q := 2146) rfl ?_
  refine z_icmp_eq (tgt := 2151) dL_law_2146 (by decide) (q := 2149) rfl (fun h2146 => ?_) (fun h2146 => absurd rfl h2146)
  refine z_iload dL_law_2151 rfl (q := 2153) rfl ?_
  refine z_if_ne (tgt := 2168) dL_law_2153 (by decide) (q := 2156) rfl (fun h2153 => ?_) (fun h2153 => ?_)
  · refine z_goto (tgt := 2306) dL_law_2168 (by decide) ?_
    exact hx2 _ _ _ _ _ _ _ hg2
  · obtain ⟨v, rfl⟩ := lcode_0 (by decide) (ho _ _ hS) h2153
    have hav := ha v rfl
    subst hav
    have hOv := hO a rfl
    refine z_aload_n (i := 3) dL_law_2156 rfl rfl (q := 2157) rfl ?_
    refine z_iconst (v := 0) dL_law_2157 rfl (q := 2158) rfl ?_
    refine z_lald dL_law_2158 (wout _ _ _) (zin (k := 0) (by decide) (by decide)) (q := 2159) rfl ?_
    refine Z.eqst (st2 := [.long a.toInt64]) (congrArg (fun x => [Value.long x]) hOv) ?_
    refine z_iload dL_law_2159 rfl (q := 2161) rfl ?_
    refine z_i2l dL_law_2161 (q := 2162) rfl ?_
    refine z_lcmp dL_law_2162 (q := 2163) rfl ?_
    rw [lg_self]
    refine z_if_eq (tgt := 2168) dL_law_2163 (by decide) (q := 2166) rfl (fun h2163 => ?_) (fun h2163 => absurd rfl h2163)
    refine z_goto (tgt := 2306) dL_law_2168 (by decide) ?_
    exact hx2 _ _ _ _ _ _ _ hg2
end
