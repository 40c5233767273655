/-! ===== the calls of the law 5 ===== -/
theorem q_242ba7c82 {x0 : Int} (f0 : 0 ≤ x0 ∧ x0 ≤ 3) (f1 : x0 ≠ 3) : x0 < 3 := by omega
theorem c_296_1650 : mLk 296 1650 = some (.aload_n 1, 1) := rfl
theorem c_296_1651 : mLk 296 1651 = some (.aload_n 0, 1) := rfl
theorem c_296_1652 : mLk 296 1652 = some (.iload 4, 2) := rfl
theorem c_296_1654 : mLk 296 1654 = some (.iconst 1, 1) := rfl
theorem c_296_1655 : mLk 296 1655 = some (.iadd, 1) := rfl
theorem c_296_1656 : mLk 296 1656 = some (.iaload, 1) := rfl
theorem c_296_1657 : mLk 296 1657 = some (.aload_n 0, 1) := rfl
theorem c_296_1658 : mLk 296 1658 = some (.iload 4, 2) := rfl
theorem c_296_1660 : mLk 296 1660 = some (.iconst 2, 1) := rfl
theorem c_296_1661 : mLk 296 1661 = some (.iadd, 1) := rfl
theorem c_296_1662 : mLk 296 1662 = some (.iaload, 1) := rfl
theorem c_296_1663 : mLk 296 1663 = some (.aload_n 0, 1) := rfl
theorem c_296_1664 : mLk 296 1664 = some (.iload 4, 2) := rfl
theorem c_296_1666 : mLk 296 1666 = some (.iconst 3, 1) := rfl
theorem c_296_1667 : mLk 296 1667 = some (.iadd, 1) := rfl
theorem c_296_1668 : mLk 296 1668 = some (.iaload, 1) := rfl
theorem c_296_1669 : mLk 296 1669 = some (.aload_n 0, 1) := rfl
theorem c_296_1670 : mLk 296 1670 = some (.iload 4, 2) := rfl
theorem c_296_1672 : mLk 296 1672 = some (.iconst 4, 1) := rfl
theorem c_296_1673 : mLk 296 1673 = some (.iadd, 1) := rfl
theorem c_296_1674 : mLk 296 1674 = some (.iaload, 1) := rfl
theorem c_296_1675 : mLk 296 1675 = some (.aload_n 0, 1) := rfl
theorem c_296_1676 : mLk 296 1676 = some (.iload 4, 2) := rfl
theorem c_296_1678 : mLk 296 1678 = some (.iconst 5, 1) := rfl
theorem c_296_1679 : mLk 296 1679 = some (.iadd, 1) := rfl
theorem c_296_1680 : mLk 296 1680 = some (.iaload, 1) := rfl
theorem c_296_1681 : mLk 296 1681 = some (.aload_n 0, 1) := rfl
theorem c_296_1682 : mLk 296 1682 = some (.iload 4, 2) := rfl
theorem c_296_1684 : mLk 296 1684 = some (.bipush 6, 2) := rfl
theorem c_296_1686 : mLk 296 1686 = some (.iadd, 1) := rfl
theorem c_296_1687 : mLk 296 1687 = some (.iaload, 1) := rfl
theorem c_296_1688 : mLk 296 1688 = some (.aload_n 3, 1) := rfl
theorem c_296_1689 : mLk 296 1689 = some (.invokestatic 252, 3) := rfl
theorem c_295_0 : mLk 295 0 = some (.aload 7, 2) := rfl
theorem c_295_2 : mLk 295 2 = some (.iconst 0, 1) := rfl
theorem c_295_3 : mLk 295 3 = some (.aload_n 0, 1) := rfl
theorem c_295_4 : mLk 295 4 = some (.iload_n 1, 1) := rfl
theorem c_295_5 : mLk 295 5 = some (.iload_n 2, 1) := rfl
theorem c_295_6 : mLk 295 6 = some (.iload_n 3, 1) := rfl
theorem c_295_7 : mLk 295 7 = some (.iload 4, 2) := rfl
theorem c_295_9 : mLk 295 9 = some (.iload 5, 2) := rfl
theorem c_295_11 : mLk 295 11 = some (.iload 6, 2) := rfl
theorem c_295_13 : mLk 295 13 = some (.invokevirtual 115, 3) := rfl
theorem c_296_1692 : mLk 296 1692 = some (.istore 5, 2) := rfl
theorem c_296_1694 : mLk 296 1694 = some (.aload_n 2, 1) := rfl
theorem c_296_1695 : mLk 296 1695 = some (.aload_n 0, 1) := rfl
theorem c_296_1696 : mLk 296 1696 = some (.iload 4, 2) := rfl
theorem c_296_1698 : mLk 296 1698 = some (.iconst 1, 1) := rfl
theorem c_296_1699 : mLk 296 1699 = some (.iadd, 1) := rfl
theorem c_296_1700 : mLk 296 1700 = some (.iaload, 1) := rfl
theorem c_296_1701 : mLk 296 1701 = some (.aload_n 0, 1) := rfl
theorem c_296_1702 : mLk 296 1702 = some (.iload 4, 2) := rfl
theorem c_296_1704 : mLk 296 1704 = some (.iconst 2, 1) := rfl
theorem c_296_1705 : mLk 296 1705 = some (.iadd, 1) := rfl
theorem c_296_1706 : mLk 296 1706 = some (.iaload, 1) := rfl
theorem c_296_1707 : mLk 296 1707 = some (.aload_n 0, 1) := rfl
theorem c_296_1708 : mLk 296 1708 = some (.iload 4, 2) := rfl
theorem c_296_1710 : mLk 296 1710 = some (.iconst 3, 1) := rfl
theorem c_296_1711 : mLk 296 1711 = some (.iadd, 1) := rfl
theorem c_296_1712 : mLk 296 1712 = some (.iaload, 1) := rfl
theorem c_296_1713 : mLk 296 1713 = some (.aload_n 0, 1) := rfl
theorem c_296_1714 : mLk 296 1714 = some (.iload 4, 2) := rfl
theorem c_296_1716 : mLk 296 1716 = some (.iconst 4, 1) := rfl
theorem c_296_1717 : mLk 296 1717 = some (.iadd, 1) := rfl
theorem c_296_1718 : mLk 296 1718 = some (.iaload, 1) := rfl
theorem c_296_1719 : mLk 296 1719 = some (.aload_n 0, 1) := rfl
theorem c_296_1720 : mLk 296 1720 = some (.iload 4, 2) := rfl
theorem c_296_1722 : mLk 296 1722 = some (.iconst 5, 1) := rfl
theorem c_296_1723 : mLk 296 1723 = some (.iadd, 1) := rfl
theorem c_296_1724 : mLk 296 1724 = some (.iaload, 1) := rfl
theorem c_296_1725 : mLk 296 1725 = some (.aload_n 0, 1) := rfl
theorem c_296_1726 : mLk 296 1726 = some (.iload 4, 2) := rfl
theorem c_296_1728 : mLk 296 1728 = some (.bipush 6, 2) := rfl
theorem c_296_1730 : mLk 296 1730 = some (.iadd, 1) := rfl
theorem c_296_1731 : mLk 296 1731 = some (.iaload, 1) := rfl
theorem c_296_1732 : mLk 296 1732 = some (.invokevirtual 255, 3) := rfl
theorem c_296_1735 : mLk 296 1735 = some (.istore 6, 2) := rfl
theorem c_296_1737 : mLk 296 1737 = some (.goto 79, 3) := rfl
theorem c_295_16 : mLk 295 16 = some (.i2l, 1) := rfl
theorem c_295_17 : mLk 295 17 = some (.lastore, 1) := rfl
theorem c_295_18 : mLk 295 18 = some (.goto 7, 3) := rfl
theorem c_295_25 : mLk 295 25 = some (.iconst 0, 1) := rfl
theorem c_295_26 : mLk 295 26 = some (.ireturn, 1) := rfl
theorem c_296_1740 : mLk 296 1740 = some (.aload_n 1, 1) := rfl
theorem c_296_1741 : mLk 296 1741 = some (.invokevirtual 256, 3) := rfl
theorem c_296_1744 : mLk 296 1744 = some (.pop, 1) := rfl
theorem c_296_1745 : mLk 296 1745 = some (.aload_n 2, 1) := rfl
theorem c_296_1746 : mLk 296 1746 = some (.invokevirtual 259, 3) := rfl
theorem c_296_1749 : mLk 296 1749 = some (.pop, 1) := rfl
theorem c_296_1750 : mLk 296 1750 = some (.goto 66, 3) := rfl
theorem c_296_1753 : mLk 296 1753 = some (.aload_n 1, 1) := rfl
theorem c_296_1754 : mLk 296 1754 = some (.invokevirtual 260, 3) := rfl
theorem c_296_1757 : mLk 296 1757 = some (.pop, 1) := rfl
theorem c_296_1758 : mLk 296 1758 = some (.aload_n 2, 1) := rfl
theorem c_296_1759 : mLk 296 1759 = some (.invokevirtual 263, 3) := rfl
theorem c_296_1762 : mLk 296 1762 = some (.pop, 1) := rfl
theorem c_296_1763 : mLk 296 1763 = some (.goto 53, 3) := rfl
theorem c_296_1766 : mLk 296 1766 = some (.aload_n 1, 1) := rfl
theorem c_296_1767 : mLk 296 1767 = some (.aload_n 0, 1) := rfl
theorem c_296_1768 : mLk 296 1768 = some (.iload 4, 2) := rfl
theorem c_296_1770 : mLk 296 1770 = some (.iconst 1, 1) := rfl
theorem c_296_1771 : mLk 296 1771 = some (.iadd, 1) := rfl
theorem c_296_1772 : mLk 296 1772 = some (.iaload, 1) := rfl
theorem c_296_1773 : mLk 296 1773 = some (.invokevirtual 264, 3) := rfl
theorem c_296_1776 : mLk 296 1776 = some (.pop, 1) := rfl
theorem c_296_1777 : mLk 296 1777 = some (.aload_n 2, 1) := rfl
theorem c_296_1778 : mLk 296 1778 = some (.aload_n 0, 1) := rfl
theorem c_296_1779 : mLk 296 1779 = some (.iload 4, 2) := rfl
theorem c_296_1781 : mLk 296 1781 = some (.iconst 1, 1) := rfl
theorem c_296_1782 : mLk 296 1782 = some (.iadd, 1) := rfl
theorem c_296_1783 : mLk 296 1783 = some (.iaload, 1) := rfl
theorem c_296_1784 : mLk 296 1784 = some (.invokevirtual 267, 3) := rfl
theorem c_296_1787 : mLk 296 1787 = some (.pop, 1) := rfl
theorem c_296_1788 : mLk 296 1788 = some (.goto 28, 3) := rfl
theorem c_296_1791 : mLk 296 1791 = some (.aload_n 1, 1) := rfl
theorem c_296_1792 : mLk 296 1792 = some (.aload_n 0, 1) := rfl
theorem c_296_1793 : mLk 296 1793 = some (.iload 4, 2) := rfl
theorem c_296_1795 : mLk 296 1795 = some (.iconst 1, 1) := rfl
theorem c_296_1796 : mLk 296 1796 = some (.iadd, 1) := rfl
theorem c_296_1797 : mLk 296 1797 = some (.iaload, 1) := rfl
theorem c_296_1798 : mLk 296 1798 = some (.invokevirtual 268, 3) := rfl
theorem c_296_1801 : mLk 296 1801 = some (.pop, 1) := rfl
theorem c_296_1802 : mLk 296 1802 = some (.aload_n 2, 1) := rfl
theorem c_296_1803 : mLk 296 1803 = some (.aload_n 0, 1) := rfl
theorem c_296_1804 : mLk 296 1804 = some (.iload 4, 2) := rfl
theorem c_296_1806 : mLk 296 1806 = some (.iconst 1, 1) := rfl
theorem c_296_1807 : mLk 296 1807 = some (.iadd, 1) := rfl
theorem c_296_1808 : mLk 296 1808 = some (.iaload, 1) := rfl
theorem c_296_1809 : mLk 296 1809 = some (.invokevirtual 271, 3) := rfl
theorem c_296_1812 : mLk 296 1812 = some (.pop, 1) := rfl
theorem c_296_1813 : mLk 296 1813 = some (.goto 3, 3) := rfl
theorem km_9_115 : a_lk (kM 9) 115 = some (0, 138) := rfl
theorem km_9_255 : a_lk (kM 9) 255 = some (0, 256) := rfl
theorem km_9_256 : a_lk (kM 9) 256 = some (0, 140) := rfl
theorem km_9_259 : a_lk (kM 9) 259 = some (0, 259) := rfl
theorem km_9_260 : a_lk (kM 9) 260 = some (0, 141) := rfl
theorem km_9_263 : a_lk (kM 9) 263 = some (0, 260) := rfl
theorem km_9_264 : a_lk (kM 9) 264 = some (0, 142) := rfl
theorem km_9_267 : a_lk (kM 9) 267 = some (0, 261) := rfl
theorem km_9_268 : a_lk (kM 9) 268 = some (0, 143) := rfl
theorem km_9_271 : a_lk (kM 9) 271 = some (0, 262) := rfl
set_option maxRecDepth 100000 in
set_option maxHeartbeats 4000000 in
theorem o_38 {xs : Nat → Int32} {L i0 d nc ns P Q : Nat} {c : ME} {Z : AR → Prop} (hi : i0 + 8 ≤ L) (hL : L ≤ 100000) (hI : Iv 0 (-1) P Q c) (hR : Rq P c) (K : ∀ (P2 Q2 : Nat) (c2 : ME) (e : Nat), e ≤ 1 → Iv 0 (-1) P2 Q2 c2 → (Rq P2 c2) → Wp (a_scr L xs) (d + 90) 296 1816 [(4, vi (i0 : Int)), (3, .ref 67), (2, .ref 41), (1, .ref 0), (0, .ref a_SC)] [] (Wd P2 Q2 P2 P2 c2) (nc + e) (ns + 6 * e) Z) : Wp (a_scr L xs) (d + 90) 296 1650 [(4, vi (i0 : Int)), (3, .ref 67), (2, .ref 41), (1, .ref 0), (0, .ref a_SC)] [] (Wd P Q P P c) nc ns Z := by
  obtain ⟨x1, hx1⟩ : ∃ z, (xs (i0 + 1)).toInt = z := ⟨_, rfl⟩
  have x1r := c_rng (xs (i0 + 1))
  rw [hx1] at x1r
  obtain ⟨x2, hx2⟩ : ∃ z, (xs (i0 + 2)).toInt = z := ⟨_, rfl⟩
  have x2r := c_rng (xs (i0 + 2))
  rw [hx2] at x2r
  obtain ⟨x3, hx3⟩ : ∃ z, (xs (i0 + 3)).toInt = z := ⟨_, rfl⟩
  have x3r := c_rng (xs (i0 + 3))
  rw [hx3] at x3r
  obtain ⟨x4, hx4⟩ : ∃ z, (xs (i0 + 4)).toInt = z := ⟨_, rfl⟩
  have x4r := c_rng (xs (i0 + 4))
  rw [hx4] at x4r
  obtain ⟨x5, hx5⟩ : ∃ z, (xs (i0 + 5)).toInt = z := ⟨_, rfl⟩
  have x5r := c_rng (xs (i0 + 5))
  rw [hx5] at x5r
  obtain ⟨x6, hx6⟩ : ∃ z, (xs (i0 + 6)).toInt = z := ⟨_, rfl⟩
  have x6r := c_rng (xs (i0 + 6))
  rw [hx6] at x6r
  obtain ⟨x7, hx7⟩ : ∃ z, (xs (i0 + 7)).toInt = z := ⟨_, rfl⟩
  have x7r := c_rng (xs (i0 + 7))
  rw [hx7] at x7r
  have hP := iv_P hI
  have hQ := iv_Q hI
  have hT := rl_t hR
  have hU := rl_u hR
  obtain ⟨n0, hn0⟩ : ∃ z, c P 0 = z := ⟨_, rfl⟩
  have hm0 : c 41 20 = n0 := (rl_nums hR).1.symm.trans hn0
  have hr0 := ir_p0_0 hI hP
  rw [hn0] at hr0
  obtain ⟨n1, hn1⟩ : ∃ z, c P 1 = z := ⟨_, rfl⟩
  have hm1 : c 41 21 = n1 := (rl_nums hR).2.1.symm.trans hn1
  have hr1 := ir_p0_1 hI hP
  rw [hn1] at hr1
  obtain ⟨n2, hn2⟩ : ∃ z, c P 2 = z := ⟨_, rfl⟩
  have hm2 : c 41 22 = n2 := (rl_nums hR).2.2.1.symm.trans hn2
  have hr2 := ir_p0_2 hI hP
  rw [hn2] at hr2
  obtain ⟨n3, hn3⟩ : ∃ z, c P 3 = z := ⟨_, rfl⟩
  have hm3 : c 41 23 = n3 := (rl_nums hR).2.2.2.symm.trans hn3
  have hr3 := ir_p0_3 hI hP
  rw [hn3] at hr3
  have hNimg := rl_img hR
  have hNwk := rl_wk hR
  have h_1 := ir_3_4 hI
  have hIw := rl_iw hR
  have hNplace := rl_place hR
  refine q_aload_n c_296_1650 rfl (q_aload_n c_296_1651 rfl (q_iload c_296_1652 rfl (q_iconst c_296_1654 (v_iadd (v := (i0 : Int) + 1) c_296_1655 rfl (v_scr (j := i0 + 1) c_296_1656 (by omega) (by omega) hL hx1 (q_aload_n c_296_1657 rfl (q_iload c_296_1658 rfl ?_)))))))
  refine q_iconst c_296_1660 (v_iadd (v := (i0 : Int) + 2) c_296_1661 rfl (v_scr (j := i0 + 2) c_296_1662 (by omega) (by omega) hL hx2 (q_aload_n c_296_1663 rfl (q_iload c_296_1664 rfl (q_iconst c_296_1666 (v_iadd (v := (i0 : Int) + 3) c_296_1667 rfl (v_scr (j := i0 + 3) c_296_1668 (by omega) (by omega) hL hx3 ?_)))))))
  refine q_aload_n c_296_1669 rfl (q_iload c_296_1670 rfl (q_iconst c_296_1672 (v_iadd (v := (i0 : Int) + 4) c_296_1673 rfl (v_scr (j := i0 + 4) c_296_1674 (by omega) (by omega) hL hx4 (q_aload_n c_296_1675 rfl (q_iload c_296_1676 rfl (q_iconst c_296_1678 ?_)))))))
  refine v_iadd (v := (i0 : Int) + 5) c_296_1679 rfl (v_scr (j := i0 + 5) c_296_1680 (by omega) (by omega) hL hx5 (q_aload_n c_296_1681 rfl (q_iload c_296_1682 rfl (v_bip c_296_1684 (by decide) (v_iadd (v := (i0 : Int) + 6) c_296_1686 rfl (v_scr (j := i0 + 6) c_296_1687 (by omega) (by omega) hL hx6 (q_aload_n c_296_1688 rfl ?_)))))))
  refine q_call c_296_1689 rfl rfl rfl (q_aload c_295_0 rfl (q_iconst c_295_2 (q_aload_n c_295_3 rfl (q_iload_n c_295_4 rfl (q_iload_n c_295_5 rfl (q_iload_n c_295_6 rfl (q_iload c_295_7 rfl ?_)))))))
  refine q_iload c_295_9 rfl (q_iload c_295_11 rfl ?_)
  refine v_cv c_295_13 km_9_115 rfl rfl (Nat.le_of_ble_eq_true rfl) ⟨⟨rfl, rfl⟩, Nat.le_of_ble_eq_true rfl, rfl⟩ (Nat.le_of_ble_eq_true rfl) (Nat.le_of_ble_eq_true rfl) (s_138 (a1 := x1) (a2 := x2) (a3 := x3) (a4 := x4) (a5 := x5) (a6 := x6) hI (show (-2147483648) ≤ x1 ∧ x1 ≤ 2147483647 from ⟨by omega, by omega⟩) (show (-2147483648) ≤ x2 ∧ x2 ≤ 2147483647 from ⟨by omega, by omega⟩) (show (-2147483648) ≤ x3 ∧ x3 ≤ 2147483647 from ⟨by omega, by omega⟩) (show (-2147483648) ≤ x4 ∧ x4 ≤ 2147483647 from ⟨by omega, by omega⟩) (show (-2147483648) ≤ x5 ∧ x5 ≤ 2147483647 from ⟨by omega, by omega⟩) (show (-2147483648) ≤ x6 ∧ x6 ≤ 2147483647 from ⟨by omega, by omega⟩) (fun c_2 hI_3 hF_4 => ?_) (fun c_5 y_8 hI_6 hF_7 hy_8 => ?_))
  · skip
    refine bk_thr (z := Int32.ofInt 1) rfl ⟨_, _, rfl⟩ rfl (bk_inl (q_istore c_296_1692 (Nat.le_of_ble_eq_true rfl) (q_aload_n c_296_1694 rfl (q_aload_n c_296_1695 rfl (q_iload c_296_1696 rfl (q_iconst c_296_1698 (v_iadd (v := (i0 : Int) + 1) c_296_1699 rfl ?_)))))))
    refine v_scr (j := i0 + 1) c_296_1700 (by omega) (by omega) hL hx1 (q_aload_n c_296_1701 rfl (q_iload c_296_1702 rfl (q_iconst c_296_1704 (v_iadd (v := (i0 : Int) + 2) c_296_1705 rfl (v_scr (j := i0 + 2) c_296_1706 (by omega) (by omega) hL hx2 (q_aload_n c_296_1707 rfl (q_iload c_296_1708 rfl ?_)))))))
    refine q_iconst c_296_1710 (v_iadd (v := (i0 : Int) + 3) c_296_1711 rfl (v_scr (j := i0 + 3) c_296_1712 (by omega) (by omega) hL hx3 (q_aload_n c_296_1713 rfl (q_iload c_296_1714 rfl (q_iconst c_296_1716 (v_iadd (v := (i0 : Int) + 4) c_296_1717 rfl (v_scr (j := i0 + 4) c_296_1718 (by omega) (by omega) hL hx4 ?_)))))))
    refine q_aload_n c_296_1719 rfl (q_iload c_296_1720 rfl (q_iconst c_296_1722 (v_iadd (v := (i0 : Int) + 5) c_296_1723 rfl (v_scr (j := i0 + 5) c_296_1724 (by omega) (by omega) hL hx5 (q_aload_n c_296_1725 rfl (q_iload c_296_1726 rfl (v_bip c_296_1728 (by decide) ?_)))))))
    refine v_iadd (v := (i0 : Int) + 6) c_296_1730 rfl (v_scr (j := i0 + 6) c_296_1731 (by omega) (by omega) hL hx6 (v_cv c_296_1732 km_9_255 rfl rfl (Nat.le_of_ble_eq_true rfl) ⟨⟨rfl, rfl⟩, Nat.le_of_ble_eq_true rfl, rfl⟩ (Nat.le_of_ble_eq_true rfl) (Nat.le_of_ble_eq_true rfl) (s_256 (a1 := x1) (a2 := x2) (a3 := x3) (a4 := x4) (a5 := x5) (a6 := x6) hI_3 (show (-2147483648) ≤ x1 ∧ x1 ≤ 2147483647 from ⟨by omega, by omega⟩) (show (-2147483648) ≤ x2 ∧ x2 ≤ 2147483647 from ⟨by omega, by omega⟩) (show (-2147483648) ≤ x3 ∧ x3 ≤ 2147483647 from ⟨by omega, by omega⟩) (show (-2147483648) ≤ x4 ∧ x4 ≤ 2147483647 from ⟨by omega, by omega⟩) (show (-2147483648) ≤ x5 ∧ x5 ≤ 2147483647 from ⟨by omega, by omega⟩) (show (-2147483648) ≤ x6 ∧ x6 ≤ 2147483647 from ⟨by omega, by omega⟩) (fun c_9 y_12 hI_10 hF_11 hy_12 => (bk_inl (q_istore c_296_1735 (Nat.le_of_ble_eq_true rfl) (q_goto (t := 1816) c_296_1737 rfl (Wp_ls [(4, vi (i0 : Int)), (3, .ref 67), (2, .ref 41), (1, .ref 0), (0, .ref a_SC)] (lsub_cons rfl (lsub_cons rfl (lsub_cons rfl (lsub_cons rfl (lsub_cons rfl lsub_nil))))) ?_))))))))
    have h_13 := ir_1_3 hI
    have kn_14 : Hid (c_2 1 3 = c 1 3) := hF_4 1 3 (qn_cc1064621 hP)
    have kn_15 : Hid (c_9 1 3 = c 1 3) := (hF_11 1 3 qn_9d94bd60f).trans (hid kn_14)
    have h_16 : c_9 1 3 = c 1 3 := (hid kn_15)
    have h_17 := ir_41_2 hI
    have kn_18 : Hid (c_2 41 2 = c 41 2) := hF_4 41 2 (qn_55346d250 hP)
    have kn_19 : Hid (c_9 41 2 = c 41 2) := (hF_11 41 2 qn_9f4d5821f).trans (hid kn_18)
    have h_20 : c_9 41 2 = c 41 2 := (hid kn_19)
    have kn_21 : Hid (c_2 P 0 = n0) := (hF_4 P 0 (qn_1a125c37c hP)).trans (hn0)
    have kn_22 : Hid (c_9 P 0 = n0) := (hF_11 P 0 (qn_3dda11c13 hP)).trans (hid kn_21)
    have h_23 : c_9 P 0 = n0 := (hid kn_22)
    have kn_24 : Hid (c_2 41 20 = n0) := (hF_4 41 20 (qn_55346d250 hP)).trans (hm0)
    have kn_25 : Hid (c_9 41 20 = n0) := (hF_11 41 20 qn_de1d671ad).trans (hid kn_24)
    have h_26 : c_9 41 20 = n0 := (hid kn_25)
    have kn_27 : Hid (c_2 P 1 = n1) := (hF_4 P 1 (qn_1a125c37c hP)).trans (hn1)
    have kn_28 : Hid (c_9 P 1 = n1) := (hF_11 P 1 (qn_3dda11c13 hP)).trans (hid kn_27)
    have h_29 : c_9 P 1 = n1 := (hid kn_28)
    have kn_30 : Hid (c_2 41 21 = n1) := (hF_4 41 21 (qn_55346d250 hP)).trans (hm1)
    have kn_31 : Hid (c_9 41 21 = n1) := (hF_11 41 21 qn_b0c4591b1).trans (hid kn_30)
    have h_32 : c_9 41 21 = n1 := (hid kn_31)
    have kn_33 : Hid (c_2 P 2 = n2) := (hF_4 P 2 (qn_1a125c37c hP)).trans (hn2)
    have kn_34 : Hid (c_9 P 2 = n2) := (hF_11 P 2 (qn_3dda11c13 hP)).trans (hid kn_33)
    have h_35 : c_9 P 2 = n2 := (hid kn_34)
    have kn_36 : Hid (c_2 41 22 = n2) := (hF_4 41 22 (qn_55346d250 hP)).trans (hm2)
    have kn_37 : Hid (c_9 41 22 = n2) := (hF_11 41 22 qn_00a455246).trans (hid kn_36)
    have h_38 : c_9 41 22 = n2 := (hid kn_37)
    have kn_39 : Hid (c_2 P 3 = n3) := (hF_4 P 3 (qn_1a125c37c hP)).trans (hn3)
    have kn_40 : Hid (c_9 P 3 = n3) := (hF_11 P 3 (qn_3dda11c13 hP)).trans (hid kn_39)
    have h_41 : c_9 P 3 = n3 := (hid kn_40)
    have kn_42 : Hid (c_2 41 23 = n3) := (hF_4 41 23 (qn_55346d250 hP)).trans (hm3)
    have kn_43 : Hid (c_9 41 23 = n3) := (hF_11 41 23 qn_375070522).trans (hid kn_42)
    have h_44 : c_9 41 23 = n3 := (hid kn_43)
    have kn_45 : Hid (c_2 3 4 = c 3 4) := hF_4 3 4 (qn_8703343bc hP)
    have kn_46 : Hid (c_9 3 4 = c 3 4) := (hF_11 3 4 qn_51e0e9667).trans (hid kn_45)
    have h_47 : c_9 3 4 = c 3 4 := (hid kn_46)
    have h_48 := ir_41_52 hI
    have kn_49 : Hid (c_2 41 52 = c 41 52) := hF_4 41 52 (qn_55346d250 hP)
    have kn_50 : Hid (c_9 41 52 = c 41 52) := (hF_11 41 52 qn_5c50dd497).trans (hid kn_49)
    have h_51 : c_9 41 52 = c 41 52 := (hid kn_50)
    have h_52 := ir_3_3 hI
    have kn_53 : Hid (c_2 3 3 = c 3 3) := hF_4 3 3 (qn_8703343bc hP)
    have kn_54 : Hid (c_9 3 3 = c 3 3) := (hF_11 3 3 qn_51e0e9667).trans (hid kn_53)
    have h_55 : c_9 3 3 = c 3 3 := (hid kn_54)
    have h_56 := ir_41_35 hI
    have kn_57 : Hid (c_2 41 35 = c 41 35) := hF_4 41 35 (qn_55346d250 hP)
    have kn_58 : Hid (c_9 41 35 = c 41 35) := (hF_11 41 35 qn_e74909efc).trans (hid kn_57)
    have h_59 : c_9 41 35 = c 41 35 := (hid kn_58)
    have h_60 : c_9 3 4 = c 3 4 := (hid kn_46)
    have h_61 := ir_1_5 hI
    have kn_62 : Hid (c_2 1 5 = c 1 5) := hF_4 1 5 (qn_cc1064621 hP)
    have kn_63 : Hid (c_9 1 5 = c 1 5) := (hF_11 1 5 qn_9d94bd60f).trans (hid kn_62)
    have h_64 : c_9 1 5 = c 1 5 := (hid kn_63)
    have h_65 := ir_41_8 hI
    have kn_66 : Hid (c_2 41 8 = c 41 8) := hF_4 41 8 (qn_55346d250 hP)
    have kn_67 : Hid (c_9 41 8 = c 41 8) := (hF_11 41 8 qn_304856459).trans (hid kn_66)
    have h_68 : c_9 41 8 = c 41 8 := (hid kn_67)
    exact K P Q c_9 1 (by decide) hI_10 ⟨by omega, ub_fr hU (fun j => (hF_11 2 j qn_ea1d8203a).trans (hF_4 2 j (qn_11c530ba0 hP))) (fun j => (hF_11 43 j qn_921fc31f7).trans (hF_4 43 j (qn_ce891e06c hP))), ⟨by omega, by omega, by omega, by omega⟩, by omega, by omega, iw_fr2 hIw (by omega) (fun j => (hF_11 6 j qn_9f1fcb8f5).trans (hF_4 6 j (qn_33622cbee hP))) (fun j => (hF_11 66 j qn_819b02093).trans (hF_4 66 j (qn_7036d22af hP))), by omega⟩
  refine bk_inl (v_i2l c_295_16 (by omega) (v_ls c_295_17 rfl (by decide) (by decide) (by decide) (q_goto (t := 25) c_295_18 rfl (q_iconst c_295_25 (q_iret c_295_26 rfl (bk_inl (q_istore c_296_1692 (Nat.le_of_ble_eq_true rfl) ?_)))))))
  refine q_aload_n c_296_1694 rfl (q_aload_n c_296_1695 rfl (q_iload c_296_1696 rfl (q_iconst c_296_1698 (v_iadd (v := (i0 : Int) + 1) c_296_1699 rfl (v_scr (j := i0 + 1) c_296_1700 (by omega) (by omega) hL hx1 (q_aload_n c_296_1701 rfl (q_iload c_296_1702 rfl ?_)))))))
  refine q_iconst c_296_1704 (v_iadd (v := (i0 : Int) + 2) c_296_1705 rfl (v_scr (j := i0 + 2) c_296_1706 (by omega) (by omega) hL hx2 (q_aload_n c_296_1707 rfl (q_iload c_296_1708 rfl (q_iconst c_296_1710 (v_iadd (v := (i0 : Int) + 3) c_296_1711 rfl (v_scr (j := i0 + 3) c_296_1712 (by omega) (by omega) hL hx3 ?_)))))))
  refine q_aload_n c_296_1713 rfl (q_iload c_296_1714 rfl (q_iconst c_296_1716 (v_iadd (v := (i0 : Int) + 4) c_296_1717 rfl (v_scr (j := i0 + 4) c_296_1718 (by omega) (by omega) hL hx4 (q_aload_n c_296_1719 rfl (q_iload c_296_1720 rfl (q_iconst c_296_1722 ?_)))))))
  refine v_iadd (v := (i0 : Int) + 5) c_296_1723 rfl (v_scr (j := i0 + 5) c_296_1724 (by omega) (by omega) hL hx5 (q_aload_n c_296_1725 rfl (q_iload c_296_1726 rfl (v_bip c_296_1728 (by decide) (v_iadd (v := (i0 : Int) + 6) c_296_1730 rfl (v_scr (j := i0 + 6) c_296_1731 (by omega) (by omega) hL hx6 ?_))))))
  have hI_69 := iw_lx (a := 67) (j := 0) (v := y_8) hI_6 (by omega)
  refine v_cv c_296_1732 km_9_255 rfl rfl (Nat.le_of_ble_eq_true rfl) ⟨⟨rfl, rfl⟩, Nat.le_of_ble_eq_true rfl, rfl⟩ (Nat.le_of_ble_eq_true rfl) (Nat.le_of_ble_eq_true rfl) (s_256 (a1 := x1) (a2 := x2) (a3 := x3) (a4 := x4) (a5 := x5) (a6 := x6) hI_69 (show (-2147483648) ≤ x1 ∧ x1 ≤ 2147483647 from ⟨by omega, by omega⟩) (show (-2147483648) ≤ x2 ∧ x2 ≤ 2147483647 from ⟨by omega, by omega⟩) (show (-2147483648) ≤ x3 ∧ x3 ≤ 2147483647 from ⟨by omega, by omega⟩) (show (-2147483648) ≤ x4 ∧ x4 ≤ 2147483647 from ⟨by omega, by omega⟩) (show (-2147483648) ≤ x5 ∧ x5 ≤ 2147483647 from ⟨by omega, by omega⟩) (show (-2147483648) ≤ x6 ∧ x6 ≤ 2147483647 from ⟨by omega, by omega⟩) (fun c_70 y_73 hI_71 hF_72 hy_73 => (bk_inl (q_istore c_296_1735 (Nat.le_of_ble_eq_true rfl) (q_goto (t := 1816) c_296_1737 rfl (Wp_ls [(4, vi (i0 : Int)), (3, .ref 67), (2, .ref 41), (1, .ref 0), (0, .ref a_SC)] (lsub_cons rfl (lsub_cons rfl (lsub_cons rfl (lsub_cons rfl (lsub_cons rfl lsub_nil))))) ?_))))))
  have h_74 := ir_1_3 hI
  have kn_75 : Hid (c_5 1 3 = c 1 3) := hF_7 1 3 (qn_cc1064621 hP)
  have kn_76 : Hid (c_70 1 3 = c 1 3) := (hF_72 1 3 qn_9d94bd60f).trans ((up_c (nn rfl)).trans (hid kn_75))
  have h_77 : c_70 1 3 = c 1 3 := (hid kn_76)
  have h_78 := ir_41_2 hI
  have kn_79 : Hid (c_5 41 2 = c 41 2) := hF_7 41 2 (qn_55346d250 hP)
  have kn_80 : Hid (c_70 41 2 = c 41 2) := (hF_72 41 2 qn_9f4d5821f).trans ((up_c (nn rfl)).trans (hid kn_79))
  have h_81 : c_70 41 2 = c 41 2 := (hid kn_80)
  have kn_82 : Hid (c_5 P 0 = n0) := (hF_7 P 0 (qn_1a125c37c hP)).trans (hn0)
  have kn_83 : Hid (c_70 P 0 = n0) := (hF_72 P 0 (qn_3dda11c13 hP)).trans ((up_c (np0 hP rfl)).trans (hid kn_82))
  have h_84 : c_70 P 0 = n0 := (hid kn_83)
  have kn_85 : Hid (c_5 41 20 = n0) := (hF_7 41 20 (qn_55346d250 hP)).trans (hm0)
  have kn_86 : Hid (c_70 41 20 = n0) := (hF_72 41 20 qn_de1d671ad).trans ((up_c (nn rfl)).trans (hid kn_85))
  have h_87 : c_70 41 20 = n0 := (hid kn_86)
  have kn_88 : Hid (c_5 P 1 = n1) := (hF_7 P 1 (qn_1a125c37c hP)).trans (hn1)
  have kn_89 : Hid (c_70 P 1 = n1) := (hF_72 P 1 (qn_3dda11c13 hP)).trans ((up_c (np0 hP rfl)).trans (hid kn_88))
  have h_90 : c_70 P 1 = n1 := (hid kn_89)
  have kn_91 : Hid (c_5 41 21 = n1) := (hF_7 41 21 (qn_55346d250 hP)).trans (hm1)
  have kn_92 : Hid (c_70 41 21 = n1) := (hF_72 41 21 qn_b0c4591b1).trans ((up_c (nn rfl)).trans (hid kn_91))
  have h_93 : c_70 41 21 = n1 := (hid kn_92)
  have kn_94 : Hid (c_5 P 2 = n2) := (hF_7 P 2 (qn_1a125c37c hP)).trans (hn2)
  have kn_95 : Hid (c_70 P 2 = n2) := (hF_72 P 2 (qn_3dda11c13 hP)).trans ((up_c (np0 hP rfl)).trans (hid kn_94))
  have h_96 : c_70 P 2 = n2 := (hid kn_95)
  have kn_97 : Hid (c_5 41 22 = n2) := (hF_7 41 22 (qn_55346d250 hP)).trans (hm2)
  have kn_98 : Hid (c_70 41 22 = n2) := (hF_72 41 22 qn_00a455246).trans ((up_c (nn rfl)).trans (hid kn_97))
  have h_99 : c_70 41 22 = n2 := (hid kn_98)
  have kn_100 : Hid (c_5 P 3 = n3) := (hF_7 P 3 (qn_1a125c37c hP)).trans (hn3)
  have kn_101 : Hid (c_70 P 3 = n3) := (hF_72 P 3 (qn_3dda11c13 hP)).trans ((up_c (np0 hP rfl)).trans (hid kn_100))
  have h_102 : c_70 P 3 = n3 := (hid kn_101)
  have kn_103 : Hid (c_5 41 23 = n3) := (hF_7 41 23 (qn_55346d250 hP)).trans (hm3)
  have kn_104 : Hid (c_70 41 23 = n3) := (hF_72 41 23 qn_375070522).trans ((up_c (nn rfl)).trans (hid kn_103))
  have h_105 : c_70 41 23 = n3 := (hid kn_104)
  have kn_106 : Hid (c_5 3 4 = c 3 4) := hF_7 3 4 (qn_8703343bc hP)
  have kn_107 : Hid (c_70 3 4 = c 3 4) := (hF_72 3 4 qn_51e0e9667).trans ((up_c (nn rfl)).trans (hid kn_106))
  have h_108 : c_70 3 4 = c 3 4 := (hid kn_107)
  have h_109 := ir_41_52 hI
  have kn_110 : Hid (c_5 41 52 = c 41 52) := hF_7 41 52 (qn_55346d250 hP)
  have kn_111 : Hid (c_70 41 52 = c 41 52) := (hF_72 41 52 qn_5c50dd497).trans ((up_c (nn rfl)).trans (hid kn_110))
  have h_112 : c_70 41 52 = c 41 52 := (hid kn_111)
  have h_113 := ir_3_3 hI
  have kn_114 : Hid (c_5 3 3 = c 3 3) := hF_7 3 3 (qn_8703343bc hP)
  have kn_115 : Hid (c_70 3 3 = c 3 3) := (hF_72 3 3 qn_51e0e9667).trans ((up_c (nn rfl)).trans (hid kn_114))
  have h_116 : c_70 3 3 = c 3 3 := (hid kn_115)
  have h_117 := ir_41_35 hI
  have kn_118 : Hid (c_5 41 35 = c 41 35) := hF_7 41 35 (qn_55346d250 hP)
  have kn_119 : Hid (c_70 41 35 = c 41 35) := (hF_72 41 35 qn_e74909efc).trans ((up_c (nn rfl)).trans (hid kn_118))
  have h_120 : c_70 41 35 = c 41 35 := (hid kn_119)
  have h_121 : c_70 3 4 = c 3 4 := (hid kn_107)
  have h_122 := ir_1_5 hI
  have kn_123 : Hid (c_5 1 5 = c 1 5) := hF_7 1 5 (qn_cc1064621 hP)
  have kn_124 : Hid (c_70 1 5 = c 1 5) := (hF_72 1 5 qn_9d94bd60f).trans ((up_c (nn rfl)).trans (hid kn_123))
  have h_125 : c_70 1 5 = c 1 5 := (hid kn_124)
  have h_126 := ir_41_8 hI
  have kn_127 : Hid (c_5 41 8 = c 41 8) := hF_7 41 8 (qn_55346d250 hP)
  have kn_128 : Hid (c_70 41 8 = c 41 8) := (hF_72 41 8 qn_304856459).trans ((up_c (nn rfl)).trans (hid kn_127))
  have h_129 : c_70 41 8 = c 41 8 := (hid kn_128)
  exact K P Q c_70 0 (by decide) hI_71 ⟨by omega, ub_fr hU (fun j => (hF_72 2 j qn_ea1d8203a).trans ((up_c (nn rfl)).trans (hF_7 2 j (qn_11c530ba0 hP)))) (fun j => (hF_72 43 j qn_921fc31f7).trans ((up_c (nn rfl)).trans (hF_7 43 j (qn_ce891e06c hP)))), ⟨by omega, by omega, by omega, by omega⟩, by omega, by omega, iw_fr2 hIw (by omega) (fun j => (hF_72 6 j qn_9f1fcb8f5).trans ((up_c (nn rfl)).trans (hF_7 6 j (qn_33622cbee hP)))) (fun j => (hF_72 66 j qn_819b02093).trans ((up_c (nn rfl)).trans (hF_7 66 j (qn_7036d22af hP)))), by omega⟩

set_option maxRecDepth 100000 in
set_option maxHeartbeats 4000000 in
theorem o_39 {xs : Nat → Int32} {L i0 d nc ns P Q : Nat} {c : ME} {Z : AR → Prop} (hi : i0 + 8 ≤ L) (hL : L ≤ 100000) (hI : Iv 0 (-1) P Q c) (hR : Rq P c) (K : ∀ (P2 Q2 : Nat) (c2 : ME) (e : Nat), e ≤ 1 → Iv 0 (-1) P2 Q2 c2 → (Rq P2 c2) → Wp (a_scr L xs) (d + 90) 296 1816 [(4, vi (i0 : Int)), (3, .ref 67), (2, .ref 41), (1, .ref 0), (0, .ref a_SC)] [] (Wd P2 Q2 P2 P2 c2) (nc + e) (ns + 6 * e) Z) : Wp (a_scr L xs) (d + 90) 296 1740 [(4, vi (i0 : Int)), (3, .ref 67), (2, .ref 41), (1, .ref 0), (0, .ref a_SC)] [] (Wd P Q P P c) nc ns Z := by
  obtain ⟨x1, hx1⟩ : ∃ z, (xs (i0 + 1)).toInt = z := ⟨_, rfl⟩
  have x1r := c_rng (xs (i0 + 1))
  rw [hx1] at x1r
  obtain ⟨x2, hx2⟩ : ∃ z, (xs (i0 + 2)).toInt = z := ⟨_, rfl⟩
  have x2r := c_rng (xs (i0 + 2))
  rw [hx2] at x2r
  obtain ⟨x3, hx3⟩ : ∃ z, (xs (i0 + 3)).toInt = z := ⟨_, rfl⟩
  have x3r := c_rng (xs (i0 + 3))
  rw [hx3] at x3r
  obtain ⟨x4, hx4⟩ : ∃ z, (xs (i0 + 4)).toInt = z := ⟨_, rfl⟩
  have x4r := c_rng (xs (i0 + 4))
  rw [hx4] at x4r
  obtain ⟨x5, hx5⟩ : ∃ z, (xs (i0 + 5)).toInt = z := ⟨_, rfl⟩
  have x5r := c_rng (xs (i0 + 5))
  rw [hx5] at x5r
  obtain ⟨x6, hx6⟩ : ∃ z, (xs (i0 + 6)).toInt = z := ⟨_, rfl⟩
  have x6r := c_rng (xs (i0 + 6))
  rw [hx6] at x6r
  obtain ⟨x7, hx7⟩ : ∃ z, (xs (i0 + 7)).toInt = z := ⟨_, rfl⟩
  have x7r := c_rng (xs (i0 + 7))
  rw [hx7] at x7r
  have hP := iv_P hI
  have hQ := iv_Q hI
  have hT := rl_t hR
  have hU := rl_u hR
  obtain ⟨n0, hn0⟩ : ∃ z, c P 0 = z := ⟨_, rfl⟩
  have hm0 : c 41 20 = n0 := (rl_nums hR).1.symm.trans hn0
  have hr0 := ir_p0_0 hI hP
  rw [hn0] at hr0
  obtain ⟨n1, hn1⟩ : ∃ z, c P 1 = z := ⟨_, rfl⟩
  have hm1 : c 41 21 = n1 := (rl_nums hR).2.1.symm.trans hn1
  have hr1 := ir_p0_1 hI hP
  rw [hn1] at hr1
  obtain ⟨n2, hn2⟩ : ∃ z, c P 2 = z := ⟨_, rfl⟩
  have hm2 : c 41 22 = n2 := (rl_nums hR).2.2.1.symm.trans hn2
  have hr2 := ir_p0_2 hI hP
  rw [hn2] at hr2
  obtain ⟨n3, hn3⟩ : ∃ z, c P 3 = z := ⟨_, rfl⟩
  have hm3 : c 41 23 = n3 := (rl_nums hR).2.2.2.symm.trans hn3
  have hr3 := ir_p0_3 hI hP
  rw [hn3] at hr3
  have hNimg := rl_img hR
  have hNwk := rl_wk hR
  have h_1 := ir_3_4 hI
  have hIw := rl_iw hR
  have hNplace := rl_place hR
  refine q_aload_n c_296_1740 rfl (v_cv c_296_1741 km_9_256 rfl rfl (Nat.le_of_ble_eq_true rfl) ⟨⟨rfl, rfl⟩, Nat.le_of_ble_eq_true rfl, rfl⟩ (Nat.le_of_ble_eq_true rfl) (Nat.le_of_ble_eq_true rfl) (q_aload_n c_140_0 rfl (v_gr (t := 3) c_140_1 kf_7_19 rfl (Nat.le_of_ble_eq_true rfl) rfl (v_gi (z := 4) (v := c 3 4) c_140_4 kf_7_318 rfl (Nat.le_of_ble_eq_true rfl) rfl rfl rfl (q_iconst c_140_7 ?_)))))
  by_cases h_2 : c 3 4 ≠ 3
  · refine v_ic_ne_t (t := 13) c_140_8 rfl ⟨h_2, ⟨(Int.le_trans (by decide) h_1.1), (Int.le_trans h_1.2 (by decide))⟩, by decide, by decide⟩ (q_aload_n c_140_13 rfl (v_gr (t := 3) c_140_14 kf_7_19 rfl (Nat.le_of_ble_eq_true rfl) rfl (q_aload_n c_140_17 rfl (v_gr (t := 37) c_140_18 kf_7_62 rfl (Nat.le_of_ble_eq_true rfl) rfl (v_cv c_140_21 km_7_321 rfl rfl (Nat.le_of_ble_eq_true rfl) ⟨⟨rfl, rfl⟩, Nat.le_of_ble_eq_true rfl, rfl⟩ (Nat.le_of_ble_eq_true rfl) (Nat.le_of_ble_eq_true rfl) (q_aload_n c_26_0 rfl (v_gi (z := 4) (v := c 3 4) c_26_1 kf_1_25 rfl (Nat.le_of_ble_eq_true rfl) rfl rfl rfl ?_)))))))
    refine q_iconst c_26_4 (v_ic_ge_f (t := 78) c_26_5 rfl ⟨(Int.le_trans (by decide) h_1.1), by first | exact q_242ba7c82 h_1 h_2 | omega, by decide⟩ (q_aload_n c_26_8 rfl (v_gi (z := 4) (v := c 3 4) c_26_9 kf_1_25 rfl (Nat.le_of_ble_eq_true rfl) rfl rfl rfl (v_sip c_26_12 (by decide) (v_imul (v := 578 * c 3 4) c_26_15 (by first | (clear hT hNimg hNwk h_1 hNplace h_2; omega) | omega) (q_istore_n c_26_16 (Nat.le_of_ble_eq_true rfl) (q_aload_n c_26_17 rfl ?_)))))))
    refine v_gr (t := 38) c_26_18 kf_1_32 rfl (Nat.le_of_ble_eq_true rfl) rfl (q_iconst c_26_21 (q_aload_n c_26_22 rfl (v_gr (t := 5) c_26_23 kf_1_15 rfl (Nat.le_of_ble_eq_true rfl) rfl (q_iload_n c_26_26 rfl (v_bip c_26_27 (by decide) (v_cpy c_26_29 rfl rfl (by decide) rfl (by decide) rfl rfl (by omega) (Nat.le_of_ble_eq_true rfl) (by omega) (q_aload_n c_26_32 rfl ?_)))))))
    refine v_gr (t := 4) c_26_33 kf_1_11 rfl (Nat.le_of_ble_eq_true rfl) rfl (q_iconst c_26_36 (q_aload_n c_26_37 rfl (v_gr (t := 5) c_26_38 kf_1_15 rfl (Nat.le_of_ble_eq_true rfl) rfl (q_iload_n c_26_41 rfl (v_bip c_26_42 (by decide) (v_iadd (v := 578 * c 3 4 + 34) c_26_44 rfl (q_aload_n c_26_45 rfl ?_)))))))
    have h_3 := ir_3_3 hI
    refine v_gi (z := 3) (v := c 3 3) c_26_46 kf_1_21 rfl (Nat.le_of_ble_eq_true rfl) rfl rfl (upc_c (by omega)) (v_bip c_26_49 (by decide) (v_imul (v := 34 * c 3 3) c_26_51 (by first | (clear hT hNimg hNwk h_1 hNplace h_3 h_2; omega) | omega) (v_cpy c_26_52 rfl rfl (by decide) rfl (by decide) rfl rfl (by omega) (Nat.le_of_ble_eq_true rfl) (by omega) (q_aload_n c_26_55 rfl (v_gr (t := 6) c_26_56 kf_1_18 rfl (Nat.le_of_ble_eq_true rfl) rfl (q_aload_n c_26_59 rfl (v_gi (z := 4) (v := c 3 4) c_26_60 kf_1_25 rfl (Nat.le_of_ble_eq_true rfl) rfl rfl ((upc_c (by omega)).trans (upc_c (by omega))) ?_)))))))
    refine q_aload_n c_26_63 rfl (v_gi (z := 3) (v := c 3 3) c_26_64 kf_1_21 rfl (Nat.le_of_ble_eq_true rfl) rfl rfl ((upc_c (by omega)).trans (upc_c (by omega))) (v_is c_26_67 rfl (by decide) (by decide) ⟨h_1.1, by first | exact q_242ba7c82 h_1 h_2 | omega⟩ (q_aload_n c_26_68 rfl (q_dup c_26_69 rfl (v_gi (z := 4) (v := c 3 4) c_26_70 kf_1_25 rfl (Nat.le_of_ble_eq_true rfl) rfl rfl ((up_c (nn rfl)).trans ((upc_c (by omega)).trans (upc_c (by omega)))) (q_iconst c_26_73 (v_iadd (v := c 3 4 + 1) c_26_74 rfl ?_)))))))
    refine v_pi (z := 4) c_26_75 kf_1_25 rfl (Nat.le_of_ble_eq_true rfl) rfl rfl rfl (by decide) (q_vret rfl rfl (bk_inl (q_aload_n c_140_24 rfl (v_gr (t := 3) c_140_25 kf_7_19 rfl (Nat.le_of_ble_eq_true rfl) rfl (v_gi (z := 4) (v := c 3 4 + 1) c_140_28 kf_7_318 rfl (Nat.le_of_ble_eq_true rfl) rfl rfl (up_e rfl) (q_iret c_140_31 rfl (bk_inl ?_)))))))
    refine q_pop c_296_1744 rfl (q_aload_n c_296_1745 rfl (v_cv c_296_1746 km_9_259 rfl rfl (Nat.le_of_ble_eq_true rfl) ⟨⟨rfl, rfl⟩, Nat.le_of_ble_eq_true rfl, rfl⟩ (Nat.le_of_ble_eq_true rfl) (Nat.le_of_ble_eq_true rfl) (q_aload_n c_259_0 rfl (q_iconst c_259_1 (v_pi (z := 0) c_259_2 kf_8_3 rfl (Nat.le_of_ble_eq_true rfl) rfl rfl rfl (by decide) (q_aload_n c_259_5 rfl ?_))))))
    have h_4 := ir_41_52 hI
    refine v_gi (z := 52) (v := c 41 52) c_259_6 kf_8_185 rfl (Nat.le_of_ble_eq_true rfl) rfl rfl ((up_n (by decide)).trans ((up_c (nn rfl)).trans ((up_c (nn rfl)).trans ((upc_c (by omega)).trans (upc_c (by omega)))))) (q_iconst c_259_9 (v_ic_ne_t (t := 15) c_259_10 rfl ⟨by omega, ⟨(Int.le_trans (by decide) h_4.1), (Int.le_trans h_4.2 (by decide))⟩, by decide, by decide⟩ (q_aload_n c_259_15 rfl (q_aload_n c_259_16 rfl (v_gi (z := 52) (v := c 41 52) c_259_17 kf_8_185 rfl (Nat.le_of_ble_eq_true rfl) rfl rfl ((up_n (by decide)).trans ((up_c (nn rfl)).trans ((up_c (nn rfl)).trans ((upc_c (by omega)).trans (upc_c (by omega)))))) (q_iconst c_259_20 (v_cv c_259_21 km_8_456 rfl rfl (Nat.le_of_ble_eq_true rfl) ⟨⟨rfl, rfl⟩, Nat.le_of_ble_eq_true rfl, rfl⟩ (Nat.le_of_ble_eq_true rfl) (Nat.le_of_ble_eq_true rfl) ?_)))))))
    refine q_aload_n c_258_0 rfl (v_sip c_258_1 (by decide) (q_iload_n c_258_4 rfl (v_imul (v := 630 * c 41 52) c_258_5 (by first | (clear hT hNimg hNwk h_1 hNplace h_3 h_4 h_2; omega) | omega) (q_aload_n c_258_6 rfl (v_gr (t := 58) c_258_7 kf_8_65 rfl (Nat.le_of_ble_eq_true rfl) rfl (v_bip c_258_10 (by decide) (q_iload_n c_258_12 rfl ?_)))))))
    refine v_cv c_258_13 km_8_452 rfl rfl (Nat.le_of_ble_eq_true rfl) ⟨⟨rfl, rfl⟩, Nat.le_of_ble_eq_true rfl, rfl⟩ (Nat.le_of_ble_eq_true rfl) (Nat.le_of_ble_eq_true rfl) (s_257k (t := 58) (nt := 37) (q := 630 * c 41 52) (n := 37) (v := 630 * c 41 52 + 37) rfl (by decide) (by decide) (by decide) (by omega) (by omega) (by omega) (bk_inl (q_istore_n c_258_16 (Nat.le_of_ble_eq_true rfl) (q_aload_n c_258_17 rfl (q_iload_n c_258_18 rfl (q_aload_n c_258_19 rfl (v_gr (t := 60) c_258_20 kf_8_71 rfl (Nat.le_of_ble_eq_true rfl) rfl (v_sip c_258_23 (by decide) ?_))))))))
    refine q_iload_n c_258_26 rfl (v_cv c_258_27 km_8_452 rfl rfl (Nat.le_of_ble_eq_true rfl) ⟨⟨rfl, rfl⟩, Nat.le_of_ble_eq_true rfl, rfl⟩ (Nat.le_of_ble_eq_true rfl) (Nat.le_of_ble_eq_true rfl) (s_257k (t := 60) (nt := 592) (q := 630 * c 41 52 + 37) (n := 592) (v := 630 * c 41 52 + 629) rfl (by decide) (by decide) (by decide) (by omega) (by omega) (by omega) (bk_inl (q_istore_n c_258_30 (Nat.le_of_ble_eq_true rfl) (q_iload_n c_258_31 rfl (v_if_eq_f (t := 48) c_258_32 rfl (by decide) (q_aload_n c_258_35 rfl (v_gr (t := 66) c_258_36 kf_8_90 rfl (Nat.le_of_ble_eq_true rfl) rfl ?_))))))))
    refine q_iload_n c_258_39 rfl (q_aload_n c_258_40 rfl ?_)
    have h_5 := ir_41_35 hI
    refine v_gi (z := 35) (v := c 41 35) c_258_41 kf_8_182 rfl (Nat.le_of_ble_eq_true rfl) rfl rfl ((upc_c (by omega)).trans ((upc_c (by omega)).trans ((up_n (by decide)).trans ((up_c (nn rfl)).trans ((up_c (nn rfl)).trans ((upc_c (by omega)).trans (upc_c (by omega)))))))) (v_is c_258_44 rfl (by decide) (by decide) ⟨by first | exact q_2013bec62 h_4 | omega, by omega⟩ (q_goto (t := 58) c_258_45 rfl (q_vret rfl rfl (bk_inl (q_aload_n c_259_24 rfl (q_dup c_259_25 rfl (v_gi (z := 52) (v := c 41 52) c_259_26 kf_8_185 rfl (Nat.le_of_ble_eq_true rfl) rfl rfl ((up_c (nn rfl)).trans ((upc_c (by omega)).trans ((upc_c (by omega)).trans ((up_n (by decide)).trans ((up_c (nn rfl)).trans ((up_c (nn rfl)).trans ((upc_c (by omega)).trans (upc_c (by omega))))))))) ?_)))))))
    refine q_iconst c_259_29 (v_iadd (v := c 41 52 + 1) c_259_30 rfl (v_pi (z := 52) c_259_31 kf_8_185 rfl (Nat.le_of_ble_eq_true rfl) rfl rfl rfl (by decide) (q_aload_n c_259_34 rfl (v_gi (z := 52) (v := c 41 52 + 1) c_259_35 kf_8_185 rfl (Nat.le_of_ble_eq_true rfl) rfl rfl (up_e rfl) (q_iret c_259_38 rfl (bk_inl (q_pop c_296_1749 rfl ?_)))))))
    refine q_goto (t := 1816) c_296_1750 rfl ?_
    have hI_6 := cp_38_5 (w := 578 * c 3 4) (i := c 3 4) hI (by omega) (by omega)
    have hI_7 := cp_4_5 (w := 578 * c 3 4 + 34) (i := c 3 4) (n := 34 * c 3 3) (k := c 3 3) hI_6 (by omega) (by omega) (by omega) (by omega)
    have hI_8 := iw_6 (j := c 3 4) (v := c 3 3) hI_7 ⟨h_3.1, h_3.2⟩
    have hI_9 := iw_3_4 (v := c 3 4 + 1) hI_8 ⟨by first | exact rgp_l h_1.1 (by decide) | omega, by first | exact q_7ecd0bf1e h_1 h_2 | omega⟩
    have hI_10 := iw_41_0 (v := 0) hI_9 ⟨by decide, by decide⟩
    have hI_11 := cp_58_66 (w := 630 * c 41 52) (i := c 41 52) hI_10 (by omega) (by omega)
    have hI_12 := cp_60_66 (w := 630 * c 41 52 + 37) (i := c 41 52) hI_11 (by omega) (by omega)
    have hI_13 := iw_66 (j := 630 * c 41 52 + 629) (v := c 41 35) hI_12 (by omega) (by omega)
    have hI_14 := iw_41_52 (v := c 41 52 + 1) hI_13 ⟨by first | exact rgp_l h_4.1 (by decide) | omega, by omega⟩
    refine Wp_ls [(4, vi (i0 : Int)), (3, .ref 67), (2, .ref 41), (1, .ref 0), (0, .ref a_SC)] (lsub_cons rfl (lsub_cons rfl (lsub_cons rfl (lsub_cons rfl (lsub_cons rfl lsub_nil))))) ?_
    have h_15 := ir_1_3 hI
    have h_16 : (up (up (upc (upc (up (up (up (upc (upc c 38 0 5 (578 * c 3 4) 34) 4 0 5 (578 * c 3 4 + 34) (34 * c 3 3)) 6 (c 3 4) (c 3 3)) 3 4 (c 3 4 + 1)) 41 0 0) 58 0 66 (630 * c 41 52) 37) 60 0 66 (630 * c 41 52 + 37) 592) 66 (630 * c 41 52 + 629) (c 41 35)) 41 52 (c 41 52 + 1)) 1 3 = c 1 3 := ((up_c (nn rfl)).trans ((up_c (nn rfl)).trans ((upc_c (by omega)).trans ((upc_c (by omega)).trans ((up_c (nn rfl)).trans ((up_c (nn rfl)).trans ((up_c (nn rfl)).trans ((upc_c (by omega)).trans (upc_c (by omega))))))))))
    have h_17 := ir_41_2 hI
    have h_18 : (up (up (upc (upc (up (up (up (upc (upc c 38 0 5 (578 * c 3 4) 34) 4 0 5 (578 * c 3 4 + 34) (34 * c 3 3)) 6 (c 3 4) (c 3 3)) 3 4 (c 3 4 + 1)) 41 0 0) 58 0 66 (630 * c 41 52) 37) 60 0 66 (630 * c 41 52 + 37) 592) 66 (630 * c 41 52 + 629) (c 41 35)) 41 52 (c 41 52 + 1)) 41 2 = c 41 2 := ((up_n (by decide)).trans ((up_c (nn rfl)).trans ((upc_c (by omega)).trans ((upc_c (by omega)).trans ((up_n (by decide)).trans ((up_c (nn rfl)).trans ((up_c (nn rfl)).trans ((upc_c (by omega)).trans (upc_c (by omega))))))))))
    have h_19 : (up (up (upc (upc (up (up (up (upc (upc c 38 0 5 (578 * c 3 4) 34) 4 0 5 (578 * c 3 4 + 34) (34 * c 3 3)) 6 (c 3 4) (c 3 3)) 3 4 (c 3 4 + 1)) 41 0 0) 58 0 66 (630 * c 41 52) 37) 60 0 66 (630 * c 41 52 + 37) 592) 66 (630 * c 41 52 + 629) (c 41 35)) 41 52 (c 41 52 + 1)) P 0 = n0 := ((up_c (np0 hP rfl)).trans ((up_c (np0 hP rfl)).trans ((upc_c (by omega)).trans ((upc_c (by omega)).trans ((up_c (np0 hP rfl)).trans ((up_c (np0 hP rfl)).trans ((up_c (np0 hP rfl)).trans ((upc_c (by omega)).trans ((upc_c (by omega)).trans (hn0))))))))))
    have h_20 : (up (up (upc (upc (up (up (up (upc (upc c 38 0 5 (578 * c 3 4) 34) 4 0 5 (578 * c 3 4 + 34) (34 * c 3 3)) 6 (c 3 4) (c 3 3)) 3 4 (c 3 4 + 1)) 41 0 0) 58 0 66 (630 * c 41 52) 37) 60 0 66 (630 * c 41 52 + 37) 592) 66 (630 * c 41 52 + 629) (c 41 35)) 41 52 (c 41 52 + 1)) 41 20 = n0 := ((up_n (by decide)).trans ((up_c (nn rfl)).trans ((upc_c (by omega)).trans ((upc_c (by omega)).trans ((up_n (by decide)).trans ((up_c (nn rfl)).trans ((up_c (nn rfl)).trans ((upc_c (by omega)).trans ((upc_c (by omega)).trans (hm0))))))))))
    have h_21 : (up (up (upc (upc (up (up (up (upc (upc c 38 0 5 (578 * c 3 4) 34) 4 0 5 (578 * c 3 4 + 34) (34 * c 3 3)) 6 (c 3 4) (c 3 3)) 3 4 (c 3 4 + 1)) 41 0 0) 58 0 66 (630 * c 41 52) 37) 60 0 66 (630 * c 41 52 + 37) 592) 66 (630 * c 41 52 + 629) (c 41 35)) 41 52 (c 41 52 + 1)) P 1 = n1 := ((up_c (np0 hP rfl)).trans ((up_c (np0 hP rfl)).trans ((upc_c (by omega)).trans ((upc_c (by omega)).trans ((up_c (np0 hP rfl)).trans ((up_c (np0 hP rfl)).trans ((up_c (np0 hP rfl)).trans ((upc_c (by omega)).trans ((upc_c (by omega)).trans (hn1))))))))))
    have h_22 : (up (up (upc (upc (up (up (up (upc (upc c 38 0 5 (578 * c 3 4) 34) 4 0 5 (578 * c 3 4 + 34) (34 * c 3 3)) 6 (c 3 4) (c 3 3)) 3 4 (c 3 4 + 1)) 41 0 0) 58 0 66 (630 * c 41 52) 37) 60 0 66 (630 * c 41 52 + 37) 592) 66 (630 * c 41 52 + 629) (c 41 35)) 41 52 (c 41 52 + 1)) 41 21 = n1 := ((up_n (by decide)).trans ((up_c (nn rfl)).trans ((upc_c (by omega)).trans ((upc_c (by omega)).trans ((up_n (by decide)).trans ((up_c (nn rfl)).trans ((up_c (nn rfl)).trans ((upc_c (by omega)).trans ((upc_c (by omega)).trans (hm1))))))))))
    have h_23 : (up (up (upc (upc (up (up (up (upc (upc c 38 0 5 (578 * c 3 4) 34) 4 0 5 (578 * c 3 4 + 34) (34 * c 3 3)) 6 (c 3 4) (c 3 3)) 3 4 (c 3 4 + 1)) 41 0 0) 58 0 66 (630 * c 41 52) 37) 60 0 66 (630 * c 41 52 + 37) 592) 66 (630 * c 41 52 + 629) (c 41 35)) 41 52 (c 41 52 + 1)) P 2 = n2 := ((up_c (np0 hP rfl)).trans ((up_c (np0 hP rfl)).trans ((upc_c (by omega)).trans ((upc_c (by omega)).trans ((up_c (np0 hP rfl)).trans ((up_c (np0 hP rfl)).trans ((up_c (np0 hP rfl)).trans ((upc_c (by omega)).trans ((upc_c (by omega)).trans (hn2))))))))))
    have h_24 : (up (up (upc (upc (up (up (up (upc (upc c 38 0 5 (578 * c 3 4) 34) 4 0 5 (578 * c 3 4 + 34) (34 * c 3 3)) 6 (c 3 4) (c 3 3)) 3 4 (c 3 4 + 1)) 41 0 0) 58 0 66 (630 * c 41 52) 37) 60 0 66 (630 * c 41 52 + 37) 592) 66 (630 * c 41 52 + 629) (c 41 35)) 41 52 (c 41 52 + 1)) 41 22 = n2 := ((up_n (by decide)).trans ((up_c (nn rfl)).trans ((upc_c (by omega)).trans ((upc_c (by omega)).trans ((up_n (by decide)).trans ((up_c (nn rfl)).trans ((up_c (nn rfl)).trans ((upc_c (by omega)).trans ((upc_c (by omega)).trans (hm2))))))))))
    have h_25 : (up (up (upc (upc (up (up (up (upc (upc c 38 0 5 (578 * c 3 4) 34) 4 0 5 (578 * c 3 4 + 34) (34 * c 3 3)) 6 (c 3 4) (c 3 3)) 3 4 (c 3 4 + 1)) 41 0 0) 58 0 66 (630 * c 41 52) 37) 60 0 66 (630 * c 41 52 + 37) 592) 66 (630 * c 41 52 + 629) (c 41 35)) 41 52 (c 41 52 + 1)) P 3 = n3 := ((up_c (np0 hP rfl)).trans ((up_c (np0 hP rfl)).trans ((upc_c (by omega)).trans ((upc_c (by omega)).trans ((up_c (np0 hP rfl)).trans ((up_c (np0 hP rfl)).trans ((up_c (np0 hP rfl)).trans ((upc_c (by omega)).trans ((upc_c (by omega)).trans (hn3))))))))))
    have h_26 : (up (up (upc (upc (up (up (up (upc (upc c 38 0 5 (578 * c 3 4) 34) 4 0 5 (578 * c 3 4 + 34) (34 * c 3 3)) 6 (c 3 4) (c 3 3)) 3 4 (c 3 4 + 1)) 41 0 0) 58 0 66 (630 * c 41 52) 37) 60 0 66 (630 * c 41 52 + 37) 592) 66 (630 * c 41 52 + 629) (c 41 35)) 41 52 (c 41 52 + 1)) 41 23 = n3 := ((up_n (by decide)).trans ((up_c (nn rfl)).trans ((upc_c (by omega)).trans ((upc_c (by omega)).trans ((up_n (by decide)).trans ((up_c (nn rfl)).trans ((up_c (nn rfl)).trans ((upc_c (by omega)).trans ((upc_c (by omega)).trans (hm3))))))))))
    have h_27 : (up (up (upc (upc (up (up (up (upc (upc c 38 0 5 (578 * c 3 4) 34) 4 0 5 (578 * c 3 4 + 34) (34 * c 3 3)) 6 (c 3 4) (c 3 3)) 3 4 (c 3 4 + 1)) 41 0 0) 58 0 66 (630 * c 41 52) 37) 60 0 66 (630 * c 41 52 + 37) 592) 66 (630 * c 41 52 + 629) (c 41 35)) 41 52 (c 41 52 + 1)) 3 4 = c 3 4 + 1 := ((up_c (nn rfl)).trans ((up_c (nn rfl)).trans ((upc_c (by omega)).trans ((upc_c (by omega)).trans ((up_c (nn rfl)).trans (up_e rfl))))))
    have h_28 : (up (up (upc (upc (up (up (up (upc (upc c 38 0 5 (578 * c 3 4) 34) 4 0 5 (578 * c 3 4 + 34) (34 * c 3 3)) 6 (c 3 4) (c 3 3)) 3 4 (c 3 4 + 1)) 41 0 0) 58 0 66 (630 * c 41 52) 37) 60 0 66 (630 * c 41 52 + 37) 592) 66 (630 * c 41 52 + 629) (c 41 35)) 41 52 (c 41 52 + 1)) 41 52 = c 41 52 + 1 := (up_e rfl)
    have h_29 : (up (up (upc (upc (up (up (up (upc (upc c 38 0 5 (578 * c 3 4) 34) 4 0 5 (578 * c 3 4 + 34) (34 * c 3 3)) 6 (c 3 4) (c 3 3)) 3 4 (c 3 4 + 1)) 41 0 0) 58 0 66 (630 * c 41 52) 37) 60 0 66 (630 * c 41 52 + 37) 592) 66 (630 * c 41 52 + 629) (c 41 35)) 41 52 (c 41 52 + 1)) 3 3 = c 3 3 := ((up_c (nn rfl)).trans ((up_c (nn rfl)).trans ((upc_c (by omega)).trans ((upc_c (by omega)).trans ((up_c (nn rfl)).trans ((up_n (by decide)).trans ((up_c (nn rfl)).trans ((upc_c (by omega)).trans (upc_c (by omega))))))))))
    have h_30 : (up (up (upc (upc (up (up (up (upc (upc c 38 0 5 (578 * c 3 4) 34) 4 0 5 (578 * c 3 4 + 34) (34 * c 3 3)) 6 (c 3 4) (c 3 3)) 3 4 (c 3 4 + 1)) 41 0 0) 58 0 66 (630 * c 41 52) 37) 60 0 66 (630 * c 41 52 + 37) 592) 66 (630 * c 41 52 + 629) (c 41 35)) 41 52 (c 41 52 + 1)) 41 35 = c 41 35 := ((up_n (by decide)).trans ((up_c (nn rfl)).trans ((upc_c (by omega)).trans ((upc_c (by omega)).trans ((up_n (by decide)).trans ((up_c (nn rfl)).trans ((up_c (nn rfl)).trans ((upc_c (by omega)).trans (upc_c (by omega))))))))))
    have h_31 : (up (up (upc (upc (up (up (up (upc (upc c 38 0 5 (578 * c 3 4) 34) 4 0 5 (578 * c 3 4 + 34) (34 * c 3 3)) 6 (c 3 4) (c 3 3)) 3 4 (c 3 4 + 1)) 41 0 0) 58 0 66 (630 * c 41 52) 37) 60 0 66 (630 * c 41 52 + 37) 592) 66 (630 * c 41 52 + 629) (c 41 35)) 41 52 (c 41 52 + 1)) 3 4 = c 3 4 + 1 := ((up_c (nn rfl)).trans ((up_c (nn rfl)).trans ((upc_c (by omega)).trans ((upc_c (by omega)).trans ((up_c (nn rfl)).trans (up_e rfl))))))
    have h_32 := ir_1_5 hI
    have h_33 : (up (up (upc (upc (up (up (up (upc (upc c 38 0 5 (578 * c 3 4) 34) 4 0 5 (578 * c 3 4 + 34) (34 * c 3 3)) 6 (c 3 4) (c 3 3)) 3 4 (c 3 4 + 1)) 41 0 0) 58 0 66 (630 * c 41 52) 37) 60 0 66 (630 * c 41 52 + 37) 592) 66 (630 * c 41 52 + 629) (c 41 35)) 41 52 (c 41 52 + 1)) 1 5 = c 1 5 := ((up_c (nn rfl)).trans ((up_c (nn rfl)).trans ((upc_c (by omega)).trans ((upc_c (by omega)).trans ((up_c (nn rfl)).trans ((up_c (nn rfl)).trans ((up_c (nn rfl)).trans ((upc_c (by omega)).trans (upc_c (by omega))))))))))
    have h_34 := ir_41_8 hI
    have h_35 : (up (up (upc (upc (up (up (up (upc (upc c 38 0 5 (578 * c 3 4) 34) 4 0 5 (578 * c 3 4 + 34) (34 * c 3 3)) 6 (c 3 4) (c 3 3)) 3 4 (c 3 4 + 1)) 41 0 0) 58 0 66 (630 * c 41 52) 37) 60 0 66 (630 * c 41 52 + 37) 592) 66 (630 * c 41 52 + 629) (c 41 35)) 41 52 (c 41 52 + 1)) 41 8 = c 41 8 := ((up_n (by decide)).trans ((up_c (nn rfl)).trans ((upc_c (by omega)).trans ((upc_c (by omega)).trans ((up_n (by decide)).trans ((up_c (nn rfl)).trans ((up_c (nn rfl)).trans ((upc_c (by omega)).trans (upc_c (by omega))))))))))
    exact K P Q (up (up (upc (upc (up (up (up (upc (upc c 38 0 5 (578 * c 3 4) 34) 4 0 5 (578 * c 3 4 + 34) (34 * c 3 3)) 6 (c 3 4) (c 3 3)) 3 4 (c 3 4 + 1)) 41 0 0) 58 0 66 (630 * c 41 52) 37) 60 0 66 (630 * c 41 52 + 37) 592) 66 (630 * c 41 52 + 629) (c 41 35)) 41 52 (c 41 52 + 1)) 0 (by decide) hI_14 ⟨by omega, ub_fr hU (fun j => (up_c (nn rfl)).trans ((up_c (nn rfl)).trans ((upc_c (nn rfl)).trans ((upc_c (nn rfl)).trans ((up_c (nn rfl)).trans ((up_c (nn rfl)).trans ((up_c (nn rfl)).trans ((upc_c (nn rfl)).trans (upc_c (nn rfl)))))))))) (fun j => (up_c (nn rfl)).trans ((up_c (nn rfl)).trans ((upc_c (nn rfl)).trans ((upc_c (nn rfl)).trans ((up_c (nn rfl)).trans ((up_c (nn rfl)).trans ((up_c (nn rfl)).trans ((upc_c (nn rfl)).trans (upc_c (nn rfl)))))))))), ⟨by omega, by omega, by omega, by omega⟩, by omega, by omega, iw_w (n := c 3 4) hIw (by omega) ((show (up (up (upc (upc (up (up (up (upc (upc c 38 0 5 (578 * c 3 4) 34) 4 0 5 (578 * c 3 4 + 34) (34 * c 3 3)) 6 (c 3 4) (c 3 3)) 3 4 (c 3 4 + 1)) 41 0 0) 58 0 66 (630 * c 41 52) 37) 60 0 66 (630 * c 41 52 + 37) 592) 66 (630 * c 41 52 + 629) (c 41 35)) 41 52 (c 41 52 + 1)) 6 (c 3 4) = c 3 3 from ((up_c (nn rfl)).trans ((up_c (nn rfl)).trans ((upc_c (by omega)).trans ((upc_c (by omega)).trans ((up_c (nn rfl)).trans ((up_c (nn rfl)).trans (up_e rfl)))))))).trans ((show c 3 3 = c 41 35 from by omega).trans (show (up (up (upc (upc (up (up (up (upc (upc c 38 0 5 (578 * c 3 4) 34) 4 0 5 (578 * c 3 4 + 34) (34 * c 3 3)) 6 (c 3 4) (c 3 3)) 3 4 (c 3 4 + 1)) 41 0 0) 58 0 66 (630 * c 41 52) 37) 60 0 66 (630 * c 41 52 + 37) 592) 66 (630 * c 41 52 + 629) (c 41 35)) 41 52 (c 41 52 + 1)) 66 (630 * (c 3 4) + 629) = c 41 35 from ((congrArg ((up (up (upc (upc (up (up (up (upc (upc c 38 0 5 (578 * c 3 4) 34) 4 0 5 (578 * c 3 4 + 34) (34 * c 3 3)) 6 (c 3 4) (c 3 3)) 3 4 (c 3 4 + 1)) 41 0 0) 58 0 66 (630 * c 41 52) 37) 60 0 66 (630 * c 41 52 + 37) 592) 66 (630 * c 41 52 + 629) (c 41 35)) 41 52 (c 41 52 + 1)) 66) (show 630 * (c 3 4) + 629 = 630 * c 3 4 + 629 from by omega)).trans (((up_c (nn rfl)).trans (up_e (by first | assumption | exact Int.le_antisymm (by first | (clear hT hNwk h_1 hNplace h_3 h_4 h_5 h_15 h_17 h_2; omega) | omega) (by first | (clear hT hNwk h_1 hNplace h_3 h_4 h_5 h_15 h_17 h_2; omega) | omega))))))).symm)) (fun j hj => (up_c (nn rfl)).trans ((up_c (nn rfl)).trans ((upc_c (nn rfl)).trans ((upc_c (nn rfl)).trans ((up_c (nn rfl)).trans ((up_c (nn rfl)).trans ((up_n (by omega)).trans ((upc_c (nn rfl)).trans (upc_c (nn rfl)))))))))) (fun j h1 h2 => (up_c (nn rfl)).trans ((up_n (by omega)).trans ((upc_n (by omega)).trans ((upc_n (by omega)).trans ((up_c (nn rfl)).trans ((up_c (nn rfl)).trans ((up_c (nn rfl)).trans ((upc_c (nn rfl)).trans (upc_c (nn rfl)))))))))), by omega⟩
  · refine v_ic_ne_f (t := 13) c_140_8 rfl (Decidable.not_not.mp h_2) (q_iconst c_140_11 (q_iret c_140_12 rfl (bk_inl (q_pop c_296_1744 rfl (q_aload_n c_296_1745 rfl (v_cv c_296_1746 km_9_259 rfl rfl (Nat.le_of_ble_eq_true rfl) ⟨⟨rfl, rfl⟩, Nat.le_of_ble_eq_true rfl, rfl⟩ (Nat.le_of_ble_eq_true rfl) (Nat.le_of_ble_eq_true rfl) (q_aload_n c_259_0 rfl ?_)))))))
    refine q_iconst c_259_1 (v_pi (z := 0) c_259_2 kf_8_3 rfl (Nat.le_of_ble_eq_true rfl) rfl rfl rfl (by decide) (q_aload_n c_259_5 rfl ?_))
    have h_36 := ir_41_52 hI
    refine v_gi (z := 52) (v := c 41 52) c_259_6 kf_8_185 rfl (Nat.le_of_ble_eq_true rfl) rfl rfl (up_n (by decide)) (q_iconst c_259_9 (v_ic_ne_f (t := 15) c_259_10 rfl (by omega) (q_iconst c_259_13 (q_iret c_259_14 rfl (bk_inl (q_pop c_296_1749 rfl (q_goto (t := 1816) c_296_1750 rfl ?_)))))))
    have hI_37 := iw_41_0 (v := 0) hI ⟨by decide, by decide⟩
    refine Wp_ls [(4, vi (i0 : Int)), (3, .ref 67), (2, .ref 41), (1, .ref 0), (0, .ref a_SC)] (lsub_cons rfl (lsub_cons rfl (lsub_cons rfl (lsub_cons rfl (lsub_cons rfl lsub_nil))))) ?_
    have h_38 := ir_1_3 hI
    have h_39 : (up c 41 0 0) 1 3 = c 1 3 := (up_c (nn rfl))
    have h_40 := ir_41_2 hI
    have h_41 : (up c 41 0 0) 41 2 = c 41 2 := (up_n (by decide))
    have h_42 : (up c 41 0 0) P 0 = n0 := ((up_c (np0 hP rfl)).trans (hn0))
    have h_43 : (up c 41 0 0) 41 20 = n0 := ((up_n (by decide)).trans (hm0))
    have h_44 : (up c 41 0 0) P 1 = n1 := ((up_c (np0 hP rfl)).trans (hn1))
    have h_45 : (up c 41 0 0) 41 21 = n1 := ((up_n (by decide)).trans (hm1))
    have h_46 : (up c 41 0 0) P 2 = n2 := ((up_c (np0 hP rfl)).trans (hn2))
    have h_47 : (up c 41 0 0) 41 22 = n2 := ((up_n (by decide)).trans (hm2))
    have h_48 : (up c 41 0 0) P 3 = n3 := ((up_c (np0 hP rfl)).trans (hn3))
    have h_49 : (up c 41 0 0) 41 23 = n3 := ((up_n (by decide)).trans (hm3))
    have h_50 : (up c 41 0 0) 3 4 = c 3 4 := (up_c (nn rfl))
    have h_51 : (up c 41 0 0) 41 52 = c 41 52 := (up_n (by decide))
    have h_52 := ir_3_3 hI
    have h_53 : (up c 41 0 0) 3 3 = c 3 3 := (up_c (nn rfl))
    have h_54 := ir_41_35 hI
    have h_55 : (up c 41 0 0) 41 35 = c 41 35 := (up_n (by decide))
    have h_56 : (up c 41 0 0) 3 4 = c 3 4 := (up_c (nn rfl))
    have h_57 := ir_1_5 hI
    have h_58 : (up c 41 0 0) 1 5 = c 1 5 := (up_c (nn rfl))
    have h_59 := ir_41_8 hI
    have h_60 : (up c 41 0 0) 41 8 = c 41 8 := (up_n (by decide))
    exact K P Q (up c 41 0 0) 0 (by decide) hI_37 ⟨by omega, ub_fr hU (fun j => up_c (nn rfl)) (fun j => up_c (nn rfl)), ⟨by omega, by omega, by omega, by omega⟩, by omega, by omega, iw_fr2 hIw (by omega) (fun j => up_c (nn rfl)) (fun j => up_c (nn rfl)), by omega⟩

set_option maxRecDepth 100000 in
set_option maxHeartbeats 4000000 in
theorem o_40 {xs : Nat → Int32} {L i0 d nc ns P Q : Nat} {c : ME} {Z : AR → Prop} (hi : i0 + 8 ≤ L) (hL : L ≤ 100000) (hI : Iv 0 (-1) P Q c) (hR : Rq P c) (K : ∀ (P2 Q2 : Nat) (c2 : ME) (e : Nat), e ≤ 1 → Iv 0 (-1) P2 Q2 c2 → (Rq P2 c2) → Wp (a_scr L xs) (d + 90) 296 1816 [(4, vi (i0 : Int)), (3, .ref 67), (2, .ref 41), (1, .ref 0), (0, .ref a_SC)] [] (Wd P2 Q2 P2 P2 c2) (nc + e) (ns + 6 * e) Z) : Wp (a_scr L xs) (d + 90) 296 1753 [(4, vi (i0 : Int)), (3, .ref 67), (2, .ref 41), (1, .ref 0), (0, .ref a_SC)] [] (Wd P Q P P c) nc ns Z := by
  obtain ⟨x1, hx1⟩ : ∃ z, (xs (i0 + 1)).toInt = z := ⟨_, rfl⟩
  have x1r := c_rng (xs (i0 + 1))
  rw [hx1] at x1r
  obtain ⟨x2, hx2⟩ : ∃ z, (xs (i0 + 2)).toInt = z := ⟨_, rfl⟩
  have x2r := c_rng (xs (i0 + 2))
  rw [hx2] at x2r
  obtain ⟨x3, hx3⟩ : ∃ z, (xs (i0 + 3)).toInt = z := ⟨_, rfl⟩
  have x3r := c_rng (xs (i0 + 3))
  rw [hx3] at x3r
  obtain ⟨x4, hx4⟩ : ∃ z, (xs (i0 + 4)).toInt = z := ⟨_, rfl⟩
  have x4r := c_rng (xs (i0 + 4))
  rw [hx4] at x4r
  obtain ⟨x5, hx5⟩ : ∃ z, (xs (i0 + 5)).toInt = z := ⟨_, rfl⟩
  have x5r := c_rng (xs (i0 + 5))
  rw [hx5] at x5r
  obtain ⟨x6, hx6⟩ : ∃ z, (xs (i0 + 6)).toInt = z := ⟨_, rfl⟩
  have x6r := c_rng (xs (i0 + 6))
  rw [hx6] at x6r
  obtain ⟨x7, hx7⟩ : ∃ z, (xs (i0 + 7)).toInt = z := ⟨_, rfl⟩
  have x7r := c_rng (xs (i0 + 7))
  rw [hx7] at x7r
  have hP := iv_P hI
  have hQ := iv_Q hI
  have hT := rl_t hR
  have hU := rl_u hR
  obtain ⟨n0, hn0⟩ : ∃ z, c P 0 = z := ⟨_, rfl⟩
  have hm0 : c 41 20 = n0 := (rl_nums hR).1.symm.trans hn0
  have hr0 := ir_p0_0 hI hP
  rw [hn0] at hr0
  obtain ⟨n1, hn1⟩ : ∃ z, c P 1 = z := ⟨_, rfl⟩
  have hm1 : c 41 21 = n1 := (rl_nums hR).2.1.symm.trans hn1
  have hr1 := ir_p0_1 hI hP
  rw [hn1] at hr1
  obtain ⟨n2, hn2⟩ : ∃ z, c P 2 = z := ⟨_, rfl⟩
  have hm2 : c 41 22 = n2 := (rl_nums hR).2.2.1.symm.trans hn2
  have hr2 := ir_p0_2 hI hP
  rw [hn2] at hr2
  obtain ⟨n3, hn3⟩ : ∃ z, c P 3 = z := ⟨_, rfl⟩
  have hm3 : c 41 23 = n3 := (rl_nums hR).2.2.2.symm.trans hn3
  have hr3 := ir_p0_3 hI hP
  rw [hn3] at hr3
  have hNimg := rl_img hR
  have hNwk := rl_wk hR
  have h_1 := ir_3_4 hI
  have hIw := rl_iw hR
  have hNplace := rl_place hR
  refine q_aload_n c_296_1753 rfl (v_cv c_296_1754 km_9_260 rfl rfl (Nat.le_of_ble_eq_true rfl) ⟨⟨rfl, rfl⟩, Nat.le_of_ble_eq_true rfl, rfl⟩ (Nat.le_of_ble_eq_true rfl) (Nat.le_of_ble_eq_true rfl) (q_aload_n c_141_0 rfl (v_gr (t := 3) c_141_1 kf_7_19 rfl (Nat.le_of_ble_eq_true rfl) rfl (v_gi (z := 4) (v := c 3 4) c_141_4 kf_7_318 rfl (Nat.le_of_ble_eq_true rfl) rfl rfl rfl ?_))))
  by_cases h_2 : c 3 4 ≠ 0
  · refine v_if_ne_t (t := 12) c_141_7 rfl ⟨h_2, ⟨(Int.le_trans (by decide) h_1.1), (Int.le_trans h_1.2 (by decide))⟩, by decide, by decide⟩ (q_aload_n c_141_12 rfl (v_gr (t := 3) c_141_13 kf_7_19 rfl (Nat.le_of_ble_eq_true rfl) rfl (q_aload_n c_141_16 rfl (v_gr (t := 37) c_141_17 kf_7_62 rfl (Nat.le_of_ble_eq_true rfl) rfl (v_cv c_141_20 km_7_324 rfl rfl (Nat.le_of_ble_eq_true rfl) ⟨⟨rfl, rfl⟩, Nat.le_of_ble_eq_true rfl, rfl⟩ (Nat.le_of_ble_eq_true rfl) (Nat.le_of_ble_eq_true rfl) (q_aload_n c_27_0 rfl (v_gi (z := 4) (v := c 3 4) c_27_1 kf_1_25 rfl (Nat.le_of_ble_eq_true rfl) rfl rfl rfl ?_)))))))
    refine v_if_le_f (t := 77) c_27_4 rfl ⟨by decide, by first | exact q_c6195508a h_1 h_2 | omega, (Int.le_trans h_1.2 (by decide))⟩ (q_aload_n c_27_7 rfl (q_dup c_27_8 rfl (v_gi (z := 4) (v := c 3 4) c_27_9 kf_1_25 rfl (Nat.le_of_ble_eq_true rfl) rfl rfl rfl (q_iconst c_27_12 (v_isub (v := c 3 4 - 1) c_27_13 rfl (v_pi (z := 4) c_27_14 kf_1_25 rfl (Nat.le_of_ble_eq_true rfl) rfl rfl rfl (by decide) (q_aload_n c_27_17 rfl ?_)))))))
    refine q_aload_n c_27_18 rfl (v_gr (t := 6) c_27_19 kf_1_18 rfl (Nat.le_of_ble_eq_true rfl) rfl (q_aload_n c_27_22 rfl (v_gi (z := 4) (v := c 3 4 - 1) c_27_23 kf_1_25 rfl (Nat.le_of_ble_eq_true rfl) rfl rfl (up_e rfl) ?_)))
    have h_3 := ir_6 hI (c 3 4 - 1)
    refine v_ia (v := c 6 (c 3 4 - 1)) c_27_26 rfl (by decide) (by decide) ⟨by first | exact q_69cb20f07 h_1 h_2 | omega, by first | exact q_6660ef6d1 h_1 | omega⟩ (up_c (nn rfl)) (v_pi (z := 3) c_27_27 kf_1_21 rfl (Nat.le_of_ble_eq_true rfl) rfl rfl rfl (by decide) (q_aload_n c_27_30 rfl (v_gi (z := 4) (v := c 3 4 - 1) c_27_31 kf_1_25 rfl (Nat.le_of_ble_eq_true rfl) rfl rfl ((up_n (by decide)).trans (up_e rfl)) (v_sip c_27_34 (by decide) (v_imul (v := 578 * c 3 4 - 578) c_27_37 (by first | (clear hT hNimg hNwk h_1 hNplace h_3 h_2; omega) | omega) (q_istore_n c_27_38 (Nat.le_of_ble_eq_true rfl) (q_aload_n c_27_39 rfl ?_)))))))
    refine v_gr (t := 5) c_27_40 kf_1_15 rfl (Nat.le_of_ble_eq_true rfl) rfl (q_iload_n c_27_43 rfl (q_aload_n c_27_44 rfl (v_gr (t := 38) c_27_45 kf_1_32 rfl (Nat.le_of_ble_eq_true rfl) rfl (q_iconst c_27_48 (v_bip c_27_49 (by decide) (v_cpy c_27_51 rfl rfl (by decide) rfl (by decide) rfl rfl (by omega) (Nat.le_of_ble_eq_true rfl) (by omega) (q_aload_n c_27_54 rfl ?_)))))))
    refine v_gr (t := 5) c_27_55 kf_1_15 rfl (Nat.le_of_ble_eq_true rfl) rfl (q_iload_n c_27_58 rfl (v_bip c_27_59 (by decide) (v_iadd (v := 578 * c 3 4 - 544) c_27_61 (by first | (clear hT hNimg hNwk h_1 hNplace h_3 h_2; omega) | omega) (q_aload_n c_27_62 rfl (v_gr (t := 4) c_27_63 kf_1_11 rfl (Nat.le_of_ble_eq_true rfl) rfl (q_iconst c_27_66 (q_aload_n c_27_67 rfl ?_)))))))
    refine v_gi (z := 3) (v := c 6 (c 3 4 - 1)) c_27_68 kf_1_21 rfl (Nat.le_of_ble_eq_true rfl) rfl rfl ((upc_c (by omega)).trans (up_e rfl)) (v_bip c_27_71 (by decide) (v_imul (v := 34 * c 6 (c 3 4 - 1)) c_27_73 (by first | (clear hT hNimg hNwk h_1 hNplace h_3 h_2; omega) | omega) (v_cpy c_27_74 rfl rfl (by decide) rfl (by decide) rfl rfl (by omega) (Nat.le_of_ble_eq_true rfl) (by omega) (q_vret rfl rfl (bk_inl (q_aload_n c_141_23 rfl (q_iconst c_141_24 ?_)))))))
    refine v_pi (z := 11) c_141_25 kf_7_99 rfl (Nat.le_of_ble_eq_true rfl) rfl rfl rfl (by decide) (q_aload_n c_141_28 rfl (v_gr (t := 3) c_141_29 kf_7_19 rfl (Nat.le_of_ble_eq_true rfl) rfl (v_gi (z := 4) (v := c 3 4 - 1) c_141_32 kf_7_318 rfl (Nat.le_of_ble_eq_true rfl) rfl rfl ((up_c (nn rfl)).trans ((upc_c (by omega)).trans ((upc_c (by omega)).trans ((up_n (by decide)).trans (up_e rfl))))) (q_iret c_141_35 rfl (bk_inl (q_pop c_296_1757 rfl (q_aload_n c_296_1758 rfl ?_)))))))
    refine v_cv c_296_1759 km_9_263 rfl rfl (Nat.le_of_ble_eq_true rfl) ⟨⟨rfl, rfl⟩, Nat.le_of_ble_eq_true rfl, rfl⟩ (Nat.le_of_ble_eq_true rfl) (Nat.le_of_ble_eq_true rfl) (q_aload_n c_260_0 rfl (q_iconst c_260_1 (v_pi (z := 0) c_260_2 kf_8_3 rfl (Nat.le_of_ble_eq_true rfl) rfl rfl rfl (by decide) (q_aload_n c_260_5 rfl ?_))))
    have h_4 := ir_41_52 hI
    refine v_gi (z := 52) (v := c 41 52) c_260_6 kf_8_185 rfl (Nat.le_of_ble_eq_true rfl) rfl rfl ((up_n (by decide)).trans ((up_c (nn rfl)).trans ((upc_c (by omega)).trans ((upc_c (by omega)).trans ((up_c (nn rfl)).trans (up_c (nn rfl))))))) (v_if_ne_t (t := 14) c_260_9 rfl ⟨by omega, ⟨(Int.le_trans (by decide) h_4.1), (Int.le_trans h_4.2 (by decide))⟩, by decide, by decide⟩ (q_aload_n c_260_14 rfl (q_dup c_260_15 rfl (v_gi (z := 52) (v := c 41 52) c_260_16 kf_8_185 rfl (Nat.le_of_ble_eq_true rfl) rfl rfl ((up_n (by decide)).trans ((up_c (nn rfl)).trans ((upc_c (by omega)).trans ((upc_c (by omega)).trans ((up_c (nn rfl)).trans (up_c (nn rfl))))))) (q_iconst c_260_19 (v_isub (v := c 41 52 - 1) c_260_20 rfl (v_pi (z := 52) c_260_21 kf_8_185 rfl (Nat.le_of_ble_eq_true rfl) rfl rfl rfl (by decide) ?_)))))))
    refine q_aload_n c_260_24 rfl (q_aload_n c_260_25 rfl (v_gi (z := 52) (v := c 41 52 - 1) c_260_26 kf_8_185 rfl (Nat.le_of_ble_eq_true rfl) rfl rfl (up_e rfl) (q_iconst c_260_29 (v_cv c_260_30 km_8_456 rfl rfl (Nat.le_of_ble_eq_true rfl) ⟨⟨rfl, rfl⟩, Nat.le_of_ble_eq_true rfl, rfl⟩ (Nat.le_of_ble_eq_true rfl) (Nat.le_of_ble_eq_true rfl) (q_aload_n c_258_0 rfl (v_sip c_258_1 (by decide) (q_iload_n c_258_4 rfl ?_)))))))
    refine v_imul (v := 630 * c 41 52 - 630) c_258_5 (by first | (clear hT hNimg hNwk h_1 hNplace h_3 h_4 h_2; omega) | omega) (q_aload_n c_258_6 rfl (v_gr (t := 58) c_258_7 kf_8_65 rfl (Nat.le_of_ble_eq_true rfl) rfl (v_bip c_258_10 (by decide) (q_iload_n c_258_12 rfl (v_cv c_258_13 km_8_452 rfl rfl (Nat.le_of_ble_eq_true rfl) ⟨⟨rfl, rfl⟩, Nat.le_of_ble_eq_true rfl, rfl⟩ (Nat.le_of_ble_eq_true rfl) (Nat.le_of_ble_eq_true rfl) (s_257r (t := 58) (nt := 37) (q := 630 * c 41 52 - 630) (n := 37) (v := 630 * c 41 52 - 593) rfl (by decide) (by decide) (by decide) (by omega) (by omega) (by omega) (bk_inl (q_istore_n c_258_16 (Nat.le_of_ble_eq_true rfl) ?_))))))))
    refine q_aload_n c_258_17 rfl (q_iload_n c_258_18 rfl (q_aload_n c_258_19 rfl (v_gr (t := 60) c_258_20 kf_8_71 rfl (Nat.le_of_ble_eq_true rfl) rfl (v_sip c_258_23 (by decide) (q_iload_n c_258_26 rfl (v_cv c_258_27 km_8_452 rfl rfl (Nat.le_of_ble_eq_true rfl) ⟨⟨rfl, rfl⟩, Nat.le_of_ble_eq_true rfl, rfl⟩ (Nat.le_of_ble_eq_true rfl) (Nat.le_of_ble_eq_true rfl) (s_257r (t := 60) (nt := 592) (q := 630 * c 41 52 - 593) (n := 592) (v := 630 * c 41 52 - 1) rfl (by decide) (by decide) (by decide) (by omega) (by omega) (by omega) (bk_inl ?_))))))))
    refine q_istore_n c_258_30 (Nat.le_of_ble_eq_true rfl) (q_iload_n c_258_31 rfl (v_if_eq_t (t := 48) c_258_32 rfl (by decide) (q_aload_n c_258_48 rfl (q_aload_n c_258_49 rfl (v_gr (t := 66) c_258_50 kf_8_90 rfl (Nat.le_of_ble_eq_true rfl) rfl (q_iload_n c_258_53 rfl ?_))))))
    have h_5 := ir_66 hI (630 * c 41 52 - 1)
    have h_6 := ir_66_9 hI (j := 630 * c 41 52 - 1) (by omega)
    have h_7 : c 6 (c 3 4 - 1) = c 66 (630 * c 41 52 - 1) := (hIw (c 3 4 - 1) (by omega) (by omega)).trans (congrArg (c 66) (by omega))
    refine v_ia (v := c 66 (630 * c 41 52 - 1)) c_258_54 rfl (by decide) (by decide) ⟨by omega, by first | exact q_7688c24dd h_4 | omega⟩ ((upc_c (by omega)).trans ((upc_c (by omega)).trans ((up_c (nn rfl)).trans ((up_c (nn rfl)).trans ((up_c (nn rfl)).trans ((upc_c (by omega)).trans ((upc_c (by omega)).trans ((up_c (nn rfl)).trans (up_c (nn rfl)))))))))) (v_pi (z := 35) c_258_55 kf_8_182 rfl (Nat.le_of_ble_eq_true rfl) rfl rfl rfl (by decide) (q_vret rfl rfl (bk_inl (q_aload_n c_260_33 rfl (q_iconst c_260_34 (v_pi (z := 36) c_260_35 kf_8_188 rfl (Nat.le_of_ble_eq_true rfl) rfl rfl rfl (by decide) (q_aload_n c_260_38 rfl ?_)))))))
    refine v_gi (z := 52) (v := c 41 52 - 1) c_260_39 kf_8_185 rfl (Nat.le_of_ble_eq_true rfl) rfl rfl ((up_n (by decide)).trans ((up_n (by decide)).trans ((upc_c (by omega)).trans ((upc_c (by omega)).trans (up_e rfl))))) (q_iret c_260_42 rfl (bk_inl (q_pop c_296_1762 rfl (q_goto (t := 1816) c_296_1763 rfl ?_))))
    have hI_8 := iw_3_4 (v := c 3 4 - 1) hI ⟨by first | exact q_69cb20f07 h_1 h_2 | omega, by first | exact rgm_h h_1.2 (by decide) | omega⟩
    have hI_9 := iw_3_3 (v := c 6 (c 3 4 - 1)) hI_8 ⟨h_3.1, h_3.2⟩
    have hI_10 := cp_5_38 (w := 578 * c 3 4 - 578) (i := c 3 4 - 1) hI_9 (by omega) (by omega)
    have hI_11 := cp_5_4 (w := 578 * c 3 4 - 544) (i := c 3 4 - 1) (n := 34 * c 6 (c 3 4 - 1)) (k := c 6 (c 3 4 - 1)) hI_10 (by omega) (by omega) (by omega) (by omega)
    have hI_12 := iw_0_11 (v := 0) hI_11 ⟨by decide, by decide⟩
    have hI_13 := iw_41_0 (v := 0) hI_12 ⟨by decide, by decide⟩
    have hI_14 := iw_41_52 (v := c 41 52 - 1) hI_13 ⟨by omega, by first | exact rgm_h h_4.2 (by decide) | omega⟩
    have hI_15 := cp_66_58 (w := 630 * c 41 52 - 630) (i := c 41 52 - 1) hI_14 (by omega) (by omega)
    have hI_16 := cp_66_60 (w := 630 * c 41 52 - 593) (i := c 41 52 - 1) hI_15 (by omega) (by omega)
    have hI_17 := iw_41_35 (v := c 66 (630 * c 41 52 - 1)) hI_16 ⟨by first | exact q_c01d181a1 h_6 | omega, by first | exact q_47a1838e7 h_6 | omega⟩
    have hI_18 := iw_41_36 (v := 0) hI_17 ⟨by decide, by decide⟩
    refine Wp_ls [(4, vi (i0 : Int)), (3, .ref 67), (2, .ref 41), (1, .ref 0), (0, .ref a_SC)] (lsub_cons rfl (lsub_cons rfl (lsub_cons rfl (lsub_cons rfl (lsub_cons rfl lsub_nil))))) ?_
    have h_19 := ir_1_3 hI
    have h_20 : (up (up (upc (upc (up (up (up (upc (upc (up (up c 3 4 (c 3 4 - 1)) 3 3 (c 6 (c 3 4 - 1))) 5 (578 * c 3 4 - 578) 38 0 34) 5 (578 * c 3 4 - 544) 4 0 (34 * c 6 (c 3 4 - 1))) 0 11 0) 41 0 0) 41 52 (c 41 52 - 1)) 66 (630 * c 41 52 - 630) 58 0 37) 66 (630 * c 41 52 - 593) 60 0 592) 41 35 (c 66 (630 * c 41 52 - 1))) 41 36 0) 1 3 = c 1 3 := ((up_c (nn rfl)).trans ((up_c (nn rfl)).trans ((upc_c (by omega)).trans ((upc_c (by omega)).trans ((up_c (nn rfl)).trans ((up_c (nn rfl)).trans ((up_c (nn rfl)).trans ((upc_c (by omega)).trans ((upc_c (by omega)).trans ((up_c (nn rfl)).trans (up_c (nn rfl))))))))))))
    have h_21 := ir_41_2 hI
    have h_22 : (up (up (upc (upc (up (up (up (upc (upc (up (up c 3 4 (c 3 4 - 1)) 3 3 (c 6 (c 3 4 - 1))) 5 (578 * c 3 4 - 578) 38 0 34) 5 (578 * c 3 4 - 544) 4 0 (34 * c 6 (c 3 4 - 1))) 0 11 0) 41 0 0) 41 52 (c 41 52 - 1)) 66 (630 * c 41 52 - 630) 58 0 37) 66 (630 * c 41 52 - 593) 60 0 592) 41 35 (c 66 (630 * c 41 52 - 1))) 41 36 0) 41 2 = c 41 2 := ((up_n (by decide)).trans ((up_n (by decide)).trans ((upc_c (by omega)).trans ((upc_c (by omega)).trans ((up_n (by decide)).trans ((up_n (by decide)).trans ((up_c (nn rfl)).trans ((upc_c (by omega)).trans ((upc_c (by omega)).trans ((up_c (nn rfl)).trans (up_c (nn rfl))))))))))))
    have h_23 : (up (up (upc (upc (up (up (up (upc (upc (up (up c 3 4 (c 3 4 - 1)) 3 3 (c 6 (c 3 4 - 1))) 5 (578 * c 3 4 - 578) 38 0 34) 5 (578 * c 3 4 - 544) 4 0 (34 * c 6 (c 3 4 - 1))) 0 11 0) 41 0 0) 41 52 (c 41 52 - 1)) 66 (630 * c 41 52 - 630) 58 0 37) 66 (630 * c 41 52 - 593) 60 0 592) 41 35 (c 66 (630 * c 41 52 - 1))) 41 36 0) P 0 = n0 := ((up_c (np0 hP rfl)).trans ((up_c (np0 hP rfl)).trans ((upc_c (by omega)).trans ((upc_c (by omega)).trans ((up_c (np0 hP rfl)).trans ((up_c (np0 hP rfl)).trans ((up_c (np0 hP rfl)).trans ((upc_c (by omega)).trans ((upc_c (by omega)).trans ((up_c (np0 hP rfl)).trans ((up_c (np0 hP rfl)).trans (hn0))))))))))))
    have h_24 : (up (up (upc (upc (up (up (up (upc (upc (up (up c 3 4 (c 3 4 - 1)) 3 3 (c 6 (c 3 4 - 1))) 5 (578 * c 3 4 - 578) 38 0 34) 5 (578 * c 3 4 - 544) 4 0 (34 * c 6 (c 3 4 - 1))) 0 11 0) 41 0 0) 41 52 (c 41 52 - 1)) 66 (630 * c 41 52 - 630) 58 0 37) 66 (630 * c 41 52 - 593) 60 0 592) 41 35 (c 66 (630 * c 41 52 - 1))) 41 36 0) 41 20 = n0 := ((up_n (by decide)).trans ((up_n (by decide)).trans ((upc_c (by omega)).trans ((upc_c (by omega)).trans ((up_n (by decide)).trans ((up_n (by decide)).trans ((up_c (nn rfl)).trans ((upc_c (by omega)).trans ((upc_c (by omega)).trans ((up_c (nn rfl)).trans ((up_c (nn rfl)).trans (hm0))))))))))))
    have h_25 : (up (up (upc (upc (up (up (up (upc (upc (up (up c 3 4 (c 3 4 - 1)) 3 3 (c 6 (c 3 4 - 1))) 5 (578 * c 3 4 - 578) 38 0 34) 5 (578 * c 3 4 - 544) 4 0 (34 * c 6 (c 3 4 - 1))) 0 11 0) 41 0 0) 41 52 (c 41 52 - 1)) 66 (630 * c 41 52 - 630) 58 0 37) 66 (630 * c 41 52 - 593) 60 0 592) 41 35 (c 66 (630 * c 41 52 - 1))) 41 36 0) P 1 = n1 := ((up_c (np0 hP rfl)).trans ((up_c (np0 hP rfl)).trans ((upc_c (by omega)).trans ((upc_c (by omega)).trans ((up_c (np0 hP rfl)).trans ((up_c (np0 hP rfl)).trans ((up_c (np0 hP rfl)).trans ((upc_c (by omega)).trans ((upc_c (by omega)).trans ((up_c (np0 hP rfl)).trans ((up_c (np0 hP rfl)).trans (hn1))))))))))))
    have h_26 : (up (up (upc (upc (up (up (up (upc (upc (up (up c 3 4 (c 3 4 - 1)) 3 3 (c 6 (c 3 4 - 1))) 5 (578 * c 3 4 - 578) 38 0 34) 5 (578 * c 3 4 - 544) 4 0 (34 * c 6 (c 3 4 - 1))) 0 11 0) 41 0 0) 41 52 (c 41 52 - 1)) 66 (630 * c 41 52 - 630) 58 0 37) 66 (630 * c 41 52 - 593) 60 0 592) 41 35 (c 66 (630 * c 41 52 - 1))) 41 36 0) 41 21 = n1 := ((up_n (by decide)).trans ((up_n (by decide)).trans ((upc_c (by omega)).trans ((upc_c (by omega)).trans ((up_n (by decide)).trans ((up_n (by decide)).trans ((up_c (nn rfl)).trans ((upc_c (by omega)).trans ((upc_c (by omega)).trans ((up_c (nn rfl)).trans ((up_c (nn rfl)).trans (hm1))))))))))))
    have h_27 : (up (up (upc (upc (up (up (up (upc (upc (up (up c 3 4 (c 3 4 - 1)) 3 3 (c 6 (c 3 4 - 1))) 5 (578 * c 3 4 - 578) 38 0 34) 5 (578 * c 3 4 - 544) 4 0 (34 * c 6 (c 3 4 - 1))) 0 11 0) 41 0 0) 41 52 (c 41 52 - 1)) 66 (630 * c 41 52 - 630) 58 0 37) 66 (630 * c 41 52 - 593) 60 0 592) 41 35 (c 66 (630 * c 41 52 - 1))) 41 36 0) P 2 = n2 := ((up_c (np0 hP rfl)).trans ((up_c (np0 hP rfl)).trans ((upc_c (by omega)).trans ((upc_c (by omega)).trans ((up_c (np0 hP rfl)).trans ((up_c (np0 hP rfl)).trans ((up_c (np0 hP rfl)).trans ((upc_c (by omega)).trans ((upc_c (by omega)).trans ((up_c (np0 hP rfl)).trans ((up_c (np0 hP rfl)).trans (hn2))))))))))))
    have h_28 : (up (up (upc (upc (up (up (up (upc (upc (up (up c 3 4 (c 3 4 - 1)) 3 3 (c 6 (c 3 4 - 1))) 5 (578 * c 3 4 - 578) 38 0 34) 5 (578 * c 3 4 - 544) 4 0 (34 * c 6 (c 3 4 - 1))) 0 11 0) 41 0 0) 41 52 (c 41 52 - 1)) 66 (630 * c 41 52 - 630) 58 0 37) 66 (630 * c 41 52 - 593) 60 0 592) 41 35 (c 66 (630 * c 41 52 - 1))) 41 36 0) 41 22 = n2 := ((up_n (by decide)).trans ((up_n (by decide)).trans ((upc_c (by omega)).trans ((upc_c (by omega)).trans ((up_n (by decide)).trans ((up_n (by decide)).trans ((up_c (nn rfl)).trans ((upc_c (by omega)).trans ((upc_c (by omega)).trans ((up_c (nn rfl)).trans ((up_c (nn rfl)).trans (hm2))))))))))))
    have h_29 : (up (up (upc (upc (up (up (up (upc (upc (up (up c 3 4 (c 3 4 - 1)) 3 3 (c 6 (c 3 4 - 1))) 5 (578 * c 3 4 - 578) 38 0 34) 5 (578 * c 3 4 - 544) 4 0 (34 * c 6 (c 3 4 - 1))) 0 11 0) 41 0 0) 41 52 (c 41 52 - 1)) 66 (630 * c 41 52 - 630) 58 0 37) 66 (630 * c 41 52 - 593) 60 0 592) 41 35 (c 66 (630 * c 41 52 - 1))) 41 36 0) P 3 = n3 := ((up_c (np0 hP rfl)).trans ((up_c (np0 hP rfl)).trans ((upc_c (by omega)).trans ((upc_c (by omega)).trans ((up_c (np0 hP rfl)).trans ((up_c (np0 hP rfl)).trans ((up_c (np0 hP rfl)).trans ((upc_c (by omega)).trans ((upc_c (by omega)).trans ((up_c (np0 hP rfl)).trans ((up_c (np0 hP rfl)).trans (hn3))))))))))))
    have h_30 : (up (up (upc (upc (up (up (up (upc (upc (up (up c 3 4 (c 3 4 - 1)) 3 3 (c 6 (c 3 4 - 1))) 5 (578 * c 3 4 - 578) 38 0 34) 5 (578 * c 3 4 - 544) 4 0 (34 * c 6 (c 3 4 - 1))) 0 11 0) 41 0 0) 41 52 (c 41 52 - 1)) 66 (630 * c 41 52 - 630) 58 0 37) 66 (630 * c 41 52 - 593) 60 0 592) 41 35 (c 66 (630 * c 41 52 - 1))) 41 36 0) 41 23 = n3 := ((up_n (by decide)).trans ((up_n (by decide)).trans ((upc_c (by omega)).trans ((upc_c (by omega)).trans ((up_n (by decide)).trans ((up_n (by decide)).trans ((up_c (nn rfl)).trans ((upc_c (by omega)).trans ((upc_c (by omega)).trans ((up_c (nn rfl)).trans ((up_c (nn rfl)).trans (hm3))))))))))))
    have h_31 : (up (up (upc (upc (up (up (up (upc (upc (up (up c 3 4 (c 3 4 - 1)) 3 3 (c 6 (c 3 4 - 1))) 5 (578 * c 3 4 - 578) 38 0 34) 5 (578 * c 3 4 - 544) 4 0 (34 * c 6 (c 3 4 - 1))) 0 11 0) 41 0 0) 41 52 (c 41 52 - 1)) 66 (630 * c 41 52 - 630) 58 0 37) 66 (630 * c 41 52 - 593) 60 0 592) 41 35 (c 66 (630 * c 41 52 - 1))) 41 36 0) 3 4 = c 3 4 - 1 := ((up_c (nn rfl)).trans ((up_c (nn rfl)).trans ((upc_c (by omega)).trans ((upc_c (by omega)).trans ((up_c (nn rfl)).trans ((up_c (nn rfl)).trans ((up_c (nn rfl)).trans ((upc_c (by omega)).trans ((upc_c (by omega)).trans ((up_n (by decide)).trans (up_e rfl)))))))))))
    have h_32 : (up (up (upc (upc (up (up (up (upc (upc (up (up c 3 4 (c 3 4 - 1)) 3 3 (c 6 (c 3 4 - 1))) 5 (578 * c 3 4 - 578) 38 0 34) 5 (578 * c 3 4 - 544) 4 0 (34 * c 6 (c 3 4 - 1))) 0 11 0) 41 0 0) 41 52 (c 41 52 - 1)) 66 (630 * c 41 52 - 630) 58 0 37) 66 (630 * c 41 52 - 593) 60 0 592) 41 35 (c 66 (630 * c 41 52 - 1))) 41 36 0) 41 52 = c 41 52 - 1 := ((up_n (by decide)).trans ((up_n (by decide)).trans ((upc_c (by omega)).trans ((upc_c (by omega)).trans (up_e rfl)))))
    have h_33 : (up (up (upc (upc (up (up (up (upc (upc (up (up c 3 4 (c 3 4 - 1)) 3 3 (c 6 (c 3 4 - 1))) 5 (578 * c 3 4 - 578) 38 0 34) 5 (578 * c 3 4 - 544) 4 0 (34 * c 6 (c 3 4 - 1))) 0 11 0) 41 0 0) 41 52 (c 41 52 - 1)) 66 (630 * c 41 52 - 630) 58 0 37) 66 (630 * c 41 52 - 593) 60 0 592) 41 35 (c 66 (630 * c 41 52 - 1))) 41 36 0) 3 3 = c 6 (c 3 4 - 1) := ((up_c (nn rfl)).trans ((up_c (nn rfl)).trans ((upc_c (by omega)).trans ((upc_c (by omega)).trans ((up_c (nn rfl)).trans ((up_c (nn rfl)).trans ((up_c (nn rfl)).trans ((upc_c (by omega)).trans ((upc_c (by omega)).trans (up_e rfl))))))))))
    have h_34 : (up (up (upc (upc (up (up (up (upc (upc (up (up c 3 4 (c 3 4 - 1)) 3 3 (c 6 (c 3 4 - 1))) 5 (578 * c 3 4 - 578) 38 0 34) 5 (578 * c 3 4 - 544) 4 0 (34 * c 6 (c 3 4 - 1))) 0 11 0) 41 0 0) 41 52 (c 41 52 - 1)) 66 (630 * c 41 52 - 630) 58 0 37) 66 (630 * c 41 52 - 593) 60 0 592) 41 35 (c 66 (630 * c 41 52 - 1))) 41 36 0) 41 35 = c 66 (630 * c 41 52 - 1) := ((up_n (by decide)).trans (up_e rfl))
    have h_35 : (up (up (upc (upc (up (up (up (upc (upc (up (up c 3 4 (c 3 4 - 1)) 3 3 (c 6 (c 3 4 - 1))) 5 (578 * c 3 4 - 578) 38 0 34) 5 (578 * c 3 4 - 544) 4 0 (34 * c 6 (c 3 4 - 1))) 0 11 0) 41 0 0) 41 52 (c 41 52 - 1)) 66 (630 * c 41 52 - 630) 58 0 37) 66 (630 * c 41 52 - 593) 60 0 592) 41 35 (c 66 (630 * c 41 52 - 1))) 41 36 0) 3 4 = c 3 4 - 1 := ((up_c (nn rfl)).trans ((up_c (nn rfl)).trans ((upc_c (by omega)).trans ((upc_c (by omega)).trans ((up_c (nn rfl)).trans ((up_c (nn rfl)).trans ((up_c (nn rfl)).trans ((upc_c (by omega)).trans ((upc_c (by omega)).trans ((up_n (by decide)).trans (up_e rfl)))))))))))
    have h_36 := ir_1_5 hI
    have h_37 : (up (up (upc (upc (up (up (up (upc (upc (up (up c 3 4 (c 3 4 - 1)) 3 3 (c 6 (c 3 4 - 1))) 5 (578 * c 3 4 - 578) 38 0 34) 5 (578 * c 3 4 - 544) 4 0 (34 * c 6 (c 3 4 - 1))) 0 11 0) 41 0 0) 41 52 (c 41 52 - 1)) 66 (630 * c 41 52 - 630) 58 0 37) 66 (630 * c 41 52 - 593) 60 0 592) 41 35 (c 66 (630 * c 41 52 - 1))) 41 36 0) 1 5 = c 1 5 := ((up_c (nn rfl)).trans ((up_c (nn rfl)).trans ((upc_c (by omega)).trans ((upc_c (by omega)).trans ((up_c (nn rfl)).trans ((up_c (nn rfl)).trans ((up_c (nn rfl)).trans ((upc_c (by omega)).trans ((upc_c (by omega)).trans ((up_c (nn rfl)).trans (up_c (nn rfl))))))))))))
    have h_38 := ir_41_8 hI
    have h_39 : (up (up (upc (upc (up (up (up (upc (upc (up (up c 3 4 (c 3 4 - 1)) 3 3 (c 6 (c 3 4 - 1))) 5 (578 * c 3 4 - 578) 38 0 34) 5 (578 * c 3 4 - 544) 4 0 (34 * c 6 (c 3 4 - 1))) 0 11 0) 41 0 0) 41 52 (c 41 52 - 1)) 66 (630 * c 41 52 - 630) 58 0 37) 66 (630 * c 41 52 - 593) 60 0 592) 41 35 (c 66 (630 * c 41 52 - 1))) 41 36 0) 41 8 = c 41 8 := ((up_n (by decide)).trans ((up_n (by decide)).trans ((upc_c (by omega)).trans ((upc_c (by omega)).trans ((up_n (by decide)).trans ((up_n (by decide)).trans ((up_c (nn rfl)).trans ((upc_c (by omega)).trans ((upc_c (by omega)).trans ((up_c (nn rfl)).trans (up_c (nn rfl))))))))))))
    exact K P Q (up (up (upc (upc (up (up (up (upc (upc (up (up c 3 4 (c 3 4 - 1)) 3 3 (c 6 (c 3 4 - 1))) 5 (578 * c 3 4 - 578) 38 0 34) 5 (578 * c 3 4 - 544) 4 0 (34 * c 6 (c 3 4 - 1))) 0 11 0) 41 0 0) 41 52 (c 41 52 - 1)) 66 (630 * c 41 52 - 630) 58 0 37) 66 (630 * c 41 52 - 593) 60 0 592) 41 35 (c 66 (630 * c 41 52 - 1))) 41 36 0) 0 (by decide) hI_18 ⟨by omega, ub_fr hU (fun j => (up_c (nn rfl)).trans ((up_c (nn rfl)).trans ((upc_c (nn rfl)).trans ((upc_c (nn rfl)).trans ((up_c (nn rfl)).trans ((up_c (nn rfl)).trans ((up_c (nn rfl)).trans ((upc_c (nn rfl)).trans ((upc_c (nn rfl)).trans ((up_c (nn rfl)).trans (up_c (nn rfl)))))))))))) (fun j => (up_c (nn rfl)).trans ((up_c (nn rfl)).trans ((upc_c (nn rfl)).trans ((upc_c (nn rfl)).trans ((up_c (nn rfl)).trans ((up_c (nn rfl)).trans ((up_c (nn rfl)).trans ((upc_c (nn rfl)).trans ((upc_c (nn rfl)).trans ((up_c (nn rfl)).trans (up_c (nn rfl)))))))))))), ⟨by omega, by omega, by omega, by omega⟩, by omega, by omega, iw_fr2 hIw (by omega) (fun j => (up_c (nn rfl)).trans ((up_c (nn rfl)).trans ((upc_c (nn rfl)).trans ((upc_c (nn rfl)).trans ((up_c (nn rfl)).trans ((up_c (nn rfl)).trans ((up_c (nn rfl)).trans ((upc_c (nn rfl)).trans ((upc_c (nn rfl)).trans ((up_c (nn rfl)).trans (up_c (nn rfl)))))))))))) (fun j => (up_c (nn rfl)).trans ((up_c (nn rfl)).trans ((upc_c (nn rfl)).trans ((upc_c (nn rfl)).trans ((up_c (nn rfl)).trans ((up_c (nn rfl)).trans ((up_c (nn rfl)).trans ((upc_c (nn rfl)).trans ((upc_c (nn rfl)).trans ((up_c (nn rfl)).trans (up_c (nn rfl)))))))))))), by omega⟩
  · refine v_if_ne_f (t := 12) c_141_7 rfl (Decidable.not_not.mp h_2) (q_iconst c_141_10 (q_iret c_141_11 rfl (bk_inl (q_pop c_296_1757 rfl (q_aload_n c_296_1758 rfl (v_cv c_296_1759 km_9_263 rfl rfl (Nat.le_of_ble_eq_true rfl) ⟨⟨rfl, rfl⟩, Nat.le_of_ble_eq_true rfl, rfl⟩ (Nat.le_of_ble_eq_true rfl) (Nat.le_of_ble_eq_true rfl) (q_aload_n c_260_0 rfl ?_)))))))
    refine q_iconst c_260_1 (v_pi (z := 0) c_260_2 kf_8_3 rfl (Nat.le_of_ble_eq_true rfl) rfl rfl rfl (by decide) (q_aload_n c_260_5 rfl ?_))
    have h_40 := ir_41_52 hI
    refine v_gi (z := 52) (v := c 41 52) c_260_6 kf_8_185 rfl (Nat.le_of_ble_eq_true rfl) rfl rfl (up_n (by decide)) (v_if_ne_f (t := 14) c_260_9 rfl (by omega) (q_iconst c_260_12 (q_iret c_260_13 rfl (bk_inl (q_pop c_296_1762 rfl (q_goto (t := 1816) c_296_1763 rfl ?_))))))
    have hI_41 := iw_41_0 (v := 0) hI ⟨by decide, by decide⟩
    refine Wp_ls [(4, vi (i0 : Int)), (3, .ref 67), (2, .ref 41), (1, .ref 0), (0, .ref a_SC)] (lsub_cons rfl (lsub_cons rfl (lsub_cons rfl (lsub_cons rfl (lsub_cons rfl lsub_nil))))) ?_
    have h_42 := ir_1_3 hI
    have h_43 : (up c 41 0 0) 1 3 = c 1 3 := (up_c (nn rfl))
    have h_44 := ir_41_2 hI
    have h_45 : (up c 41 0 0) 41 2 = c 41 2 := (up_n (by decide))
    have h_46 : (up c 41 0 0) P 0 = n0 := ((up_c (np0 hP rfl)).trans (hn0))
    have h_47 : (up c 41 0 0) 41 20 = n0 := ((up_n (by decide)).trans (hm0))
    have h_48 : (up c 41 0 0) P 1 = n1 := ((up_c (np0 hP rfl)).trans (hn1))
    have h_49 : (up c 41 0 0) 41 21 = n1 := ((up_n (by decide)).trans (hm1))
    have h_50 : (up c 41 0 0) P 2 = n2 := ((up_c (np0 hP rfl)).trans (hn2))
    have h_51 : (up c 41 0 0) 41 22 = n2 := ((up_n (by decide)).trans (hm2))
    have h_52 : (up c 41 0 0) P 3 = n3 := ((up_c (np0 hP rfl)).trans (hn3))
    have h_53 : (up c 41 0 0) 41 23 = n3 := ((up_n (by decide)).trans (hm3))
    have h_54 : (up c 41 0 0) 3 4 = c 3 4 := (up_c (nn rfl))
    have h_55 : (up c 41 0 0) 41 52 = c 41 52 := (up_n (by decide))
    have h_56 := ir_3_3 hI
    have h_57 : (up c 41 0 0) 3 3 = c 3 3 := (up_c (nn rfl))
    have h_58 := ir_41_35 hI
    have h_59 : (up c 41 0 0) 41 35 = c 41 35 := (up_n (by decide))
    have h_60 : (up c 41 0 0) 3 4 = c 3 4 := (up_c (nn rfl))
    have h_61 := ir_1_5 hI
    have h_62 : (up c 41 0 0) 1 5 = c 1 5 := (up_c (nn rfl))
    have h_63 := ir_41_8 hI
    have h_64 : (up c 41 0 0) 41 8 = c 41 8 := (up_n (by decide))
    exact K P Q (up c 41 0 0) 0 (by decide) hI_41 ⟨by omega, ub_fr hU (fun j => up_c (nn rfl)) (fun j => up_c (nn rfl)), ⟨by omega, by omega, by omega, by omega⟩, by omega, by omega, iw_z (by omega), by omega⟩

set_option maxRecDepth 100000 in
set_option maxHeartbeats 4000000 in
theorem o_41 {xs : Nat → Int32} {L i0 d nc ns P Q : Nat} {c : ME} {Z : AR → Prop} (hi : i0 + 8 ≤ L) (hL : L ≤ 100000) (hI : Iv 0 (-1) P Q c) (hR : Rq P c) (K : ∀ (P2 Q2 : Nat) (c2 : ME) (e : Nat), e ≤ 1 → Iv 0 (-1) P2 Q2 c2 → (Rq P2 c2) → Wp (a_scr L xs) (d + 90) 296 1816 [(4, vi (i0 : Int)), (3, .ref 67), (2, .ref 41), (1, .ref 0), (0, .ref a_SC)] [] (Wd P2 Q2 P2 P2 c2) (nc + e) (ns + 6 * e) Z) : Wp (a_scr L xs) (d + 90) 296 1766 [(4, vi (i0 : Int)), (3, .ref 67), (2, .ref 41), (1, .ref 0), (0, .ref a_SC)] [] (Wd P Q P P c) nc ns Z := by
  obtain ⟨x1, hx1⟩ : ∃ z, (xs (i0 + 1)).toInt = z := ⟨_, rfl⟩
  have x1r := c_rng (xs (i0 + 1))
  rw [hx1] at x1r
  obtain ⟨x2, hx2⟩ : ∃ z, (xs (i0 + 2)).toInt = z := ⟨_, rfl⟩
  have x2r := c_rng (xs (i0 + 2))
  rw [hx2] at x2r
  obtain ⟨x3, hx3⟩ : ∃ z, (xs (i0 + 3)).toInt = z := ⟨_, rfl⟩
  have x3r := c_rng (xs (i0 + 3))
  rw [hx3] at x3r
  obtain ⟨x4, hx4⟩ : ∃ z, (xs (i0 + 4)).toInt = z := ⟨_, rfl⟩
  have x4r := c_rng (xs (i0 + 4))
  rw [hx4] at x4r
  obtain ⟨x5, hx5⟩ : ∃ z, (xs (i0 + 5)).toInt = z := ⟨_, rfl⟩
  have x5r := c_rng (xs (i0 + 5))
  rw [hx5] at x5r
  obtain ⟨x6, hx6⟩ : ∃ z, (xs (i0 + 6)).toInt = z := ⟨_, rfl⟩
  have x6r := c_rng (xs (i0 + 6))
  rw [hx6] at x6r
  obtain ⟨x7, hx7⟩ : ∃ z, (xs (i0 + 7)).toInt = z := ⟨_, rfl⟩
  have x7r := c_rng (xs (i0 + 7))
  rw [hx7] at x7r
  have hP := iv_P hI
  have hQ := iv_Q hI
  have hT := rl_t hR
  have hU := rl_u hR
  obtain ⟨n0, hn0⟩ : ∃ z, c P 0 = z := ⟨_, rfl⟩
  have hm0 : c 41 20 = n0 := (rl_nums hR).1.symm.trans hn0
  have hr0 := ir_p0_0 hI hP
  rw [hn0] at hr0
  obtain ⟨n1, hn1⟩ : ∃ z, c P 1 = z := ⟨_, rfl⟩
  have hm1 : c 41 21 = n1 := (rl_nums hR).2.1.symm.trans hn1
  have hr1 := ir_p0_1 hI hP
  rw [hn1] at hr1
  obtain ⟨n2, hn2⟩ : ∃ z, c P 2 = z := ⟨_, rfl⟩
  have hm2 : c 41 22 = n2 := (rl_nums hR).2.2.1.symm.trans hn2
  have hr2 := ir_p0_2 hI hP
  rw [hn2] at hr2
  obtain ⟨n3, hn3⟩ : ∃ z, c P 3 = z := ⟨_, rfl⟩
  have hm3 : c 41 23 = n3 := (rl_nums hR).2.2.2.symm.trans hn3
  have hr3 := ir_p0_3 hI hP
  rw [hn3] at hr3
  have hNimg := rl_img hR
  have hNwk := rl_wk hR
  have h_1 := ir_3_4 hI
  have hIw := rl_iw hR
  have hNplace := rl_place hR
  refine q_aload_n c_296_1766 rfl (q_aload_n c_296_1767 rfl (q_iload c_296_1768 rfl (q_iconst c_296_1770 (v_iadd (v := (i0 : Int) + 1) c_296_1771 rfl (v_scr (j := i0 + 1) c_296_1772 (by omega) (by omega) hL hx1 (v_cv c_296_1773 km_9_264 rfl rfl (Nat.le_of_ble_eq_true rfl) ⟨⟨rfl, rfl⟩, Nat.le_of_ble_eq_true rfl, rfl⟩ (Nat.le_of_ble_eq_true rfl) (Nat.le_of_ble_eq_true rfl) (s_142 (a1 := x1) hI (show (-2147483648) ≤ x1 ∧ x1 ≤ 2147483647 from ⟨by omega, by omega⟩) (fun y_2 hy_2 => (bk_inl ?_)))))))))
  refine q_pop c_296_1776 rfl (q_aload_n c_296_1777 rfl (q_aload_n c_296_1778 rfl (q_iload c_296_1779 rfl (q_iconst c_296_1781 (v_iadd (v := (i0 : Int) + 1) c_296_1782 rfl (v_scr (j := i0 + 1) c_296_1783 (by omega) (by omega) hL hx1 (v_cv c_296_1784 km_9_267 rfl rfl (Nat.le_of_ble_eq_true rfl) ⟨⟨rfl, rfl⟩, Nat.le_of_ble_eq_true rfl, rfl⟩ (Nat.le_of_ble_eq_true rfl) (Nat.le_of_ble_eq_true rfl) (s_261 (a1 := x1) hI (show (-2147483648) ≤ x1 ∧ x1 ≤ 2147483647 from ⟨by omega, by omega⟩) (fun c_3 y_6 hI_4 hF_5 hy_6 => ?_)))))))))
  refine bk_inl (q_pop c_296_1787 rfl (q_goto (t := 1816) c_296_1788 rfl (Wp_ls [(4, vi (i0 : Int)), (3, .ref 67), (2, .ref 41), (1, .ref 0), (0, .ref a_SC)] (lsub_cons rfl (lsub_cons rfl (lsub_cons rfl (lsub_cons rfl (lsub_cons rfl lsub_nil))))) ?_)))
  have h_7 := ir_1_3 hI
  have kn_8 : Hid (c_3 1 3 = c 1 3) := hF_5 1 3 (fun h => absurd h.1 (nn rfl))
  have h_9 : c_3 1 3 = c 1 3 := (hid kn_8)
  have h_10 := ir_41_2 hI
  have kn_11 : Hid (c_3 41 2 = c 41 2) := hF_5 41 2 (fun h => absurd h.2 (ni rfl))
  have h_12 : c_3 41 2 = c 41 2 := (hid kn_11)
  have kn_13 : Hid (c_3 P 0 = n0) := (hF_5 P 0 (fun h => absurd h.1 (np0 hP rfl))).trans (hn0)
  have h_14 : c_3 P 0 = n0 := (hid kn_13)
  have kn_15 : Hid (c_3 41 20 = n0) := (hF_5 41 20 (fun h => absurd h.2 (ni rfl))).trans (hm0)
  have h_16 : c_3 41 20 = n0 := (hid kn_15)
  have kn_17 : Hid (c_3 P 1 = n1) := (hF_5 P 1 (fun h => absurd h.1 (np0 hP rfl))).trans (hn1)
  have h_18 : c_3 P 1 = n1 := (hid kn_17)
  have kn_19 : Hid (c_3 41 21 = n1) := (hF_5 41 21 (fun h => absurd h.2 (ni rfl))).trans (hm1)
  have h_20 : c_3 41 21 = n1 := (hid kn_19)
  have kn_21 : Hid (c_3 P 2 = n2) := (hF_5 P 2 (fun h => absurd h.1 (np0 hP rfl))).trans (hn2)
  have h_22 : c_3 P 2 = n2 := (hid kn_21)
  have kn_23 : Hid (c_3 41 22 = n2) := (hF_5 41 22 (fun h => absurd h.2 (ni rfl))).trans (hm2)
  have h_24 : c_3 41 22 = n2 := (hid kn_23)
  have kn_25 : Hid (c_3 P 3 = n3) := (hF_5 P 3 (fun h => absurd h.1 (np0 hP rfl))).trans (hn3)
  have h_26 : c_3 P 3 = n3 := (hid kn_25)
  have kn_27 : Hid (c_3 41 23 = n3) := (hF_5 41 23 (fun h => absurd h.2 (ni rfl))).trans (hm3)
  have h_28 : c_3 41 23 = n3 := (hid kn_27)
  have kn_29 : Hid (c_3 3 4 = c 3 4) := hF_5 3 4 (fun h => absurd h.1 (nn rfl))
  have h_30 : c_3 3 4 = c 3 4 := (hid kn_29)
  have h_31 := ir_41_52 hI
  have kn_32 : Hid (c_3 41 52 = c 41 52) := hF_5 41 52 (fun h => absurd h.2 (ni rfl))
  have h_33 : c_3 41 52 = c 41 52 := (hid kn_32)
  have h_34 := ir_3_3 hI
  have kn_35 : Hid (c_3 3 3 = c 3 3) := hF_5 3 3 (fun h => absurd h.1 (nn rfl))
  have h_36 : c_3 3 3 = c 3 3 := (hid kn_35)
  have h_37 := ir_41_35 hI
  have kn_38 : Hid (c_3 41 35 = c 41 35) := hF_5 41 35 (fun h => absurd h.2 (ni rfl))
  have h_39 : c_3 41 35 = c 41 35 := (hid kn_38)
  have h_40 : c_3 3 4 = c 3 4 := (hid kn_29)
  have h_41 := ir_1_5 hI
  have kn_42 : Hid (c_3 1 5 = c 1 5) := hF_5 1 5 (fun h => absurd h.1 (nn rfl))
  have h_43 : c_3 1 5 = c 1 5 := (hid kn_42)
  have h_44 := ir_41_8 hI
  have kn_45 : Hid (c_3 41 8 = c 41 8) := hF_5 41 8 (fun h => absurd h.2 (ni rfl))
  have h_46 : c_3 41 8 = c 41 8 := (hid kn_45)
  exact K P Q c_3 0 (by decide) hI_4 ⟨by omega, ub_fr hU (fun j => hF_5 2 j (fun h => absurd h.1 (nn rfl))) (fun j => hF_5 43 j (fun h => absurd h.1 (nn rfl))), ⟨by omega, by omega, by omega, by omega⟩, by omega, by omega, iw_fr2 hIw (by omega) (fun j => hF_5 6 j (fun h => absurd h.1 (nn rfl))) (fun j => hF_5 66 j (fun h => absurd h.1 (nn rfl))), by omega⟩

set_option maxRecDepth 100000 in
set_option maxHeartbeats 4000000 in
theorem o_42 {xs : Nat → Int32} {L i0 d nc ns P Q : Nat} {c : ME} {Z : AR → Prop} (hi : i0 + 8 ≤ L) (hL : L ≤ 100000) (hI : Iv 0 (-1) P Q c) (hR : Rq P c) (K : ∀ (P2 Q2 : Nat) (c2 : ME) (e : Nat), e ≤ 1 → Iv 0 (-1) P2 Q2 c2 → (Rq P2 c2) → Wp (a_scr L xs) (d + 90) 296 1816 [(4, vi (i0 : Int)), (3, .ref 67), (2, .ref 41), (1, .ref 0), (0, .ref a_SC)] [] (Wd P2 Q2 P2 P2 c2) (nc + e) (ns + 6 * e) Z) : Wp (a_scr L xs) (d + 90) 296 1791 [(4, vi (i0 : Int)), (3, .ref 67), (2, .ref 41), (1, .ref 0), (0, .ref a_SC)] [] (Wd P Q P P c) nc ns Z := by
  obtain ⟨x1, hx1⟩ : ∃ z, (xs (i0 + 1)).toInt = z := ⟨_, rfl⟩
  have x1r := c_rng (xs (i0 + 1))
  rw [hx1] at x1r
  obtain ⟨x2, hx2⟩ : ∃ z, (xs (i0 + 2)).toInt = z := ⟨_, rfl⟩
  have x2r := c_rng (xs (i0 + 2))
  rw [hx2] at x2r
  obtain ⟨x3, hx3⟩ : ∃ z, (xs (i0 + 3)).toInt = z := ⟨_, rfl⟩
  have x3r := c_rng (xs (i0 + 3))
  rw [hx3] at x3r
  obtain ⟨x4, hx4⟩ : ∃ z, (xs (i0 + 4)).toInt = z := ⟨_, rfl⟩
  have x4r := c_rng (xs (i0 + 4))
  rw [hx4] at x4r
  obtain ⟨x5, hx5⟩ : ∃ z, (xs (i0 + 5)).toInt = z := ⟨_, rfl⟩
  have x5r := c_rng (xs (i0 + 5))
  rw [hx5] at x5r
  obtain ⟨x6, hx6⟩ : ∃ z, (xs (i0 + 6)).toInt = z := ⟨_, rfl⟩
  have x6r := c_rng (xs (i0 + 6))
  rw [hx6] at x6r
  obtain ⟨x7, hx7⟩ : ∃ z, (xs (i0 + 7)).toInt = z := ⟨_, rfl⟩
  have x7r := c_rng (xs (i0 + 7))
  rw [hx7] at x7r
  have hP := iv_P hI
  have hQ := iv_Q hI
  have hT := rl_t hR
  have hU := rl_u hR
  obtain ⟨n0, hn0⟩ : ∃ z, c P 0 = z := ⟨_, rfl⟩
  have hm0 : c 41 20 = n0 := (rl_nums hR).1.symm.trans hn0
  have hr0 := ir_p0_0 hI hP
  rw [hn0] at hr0
  obtain ⟨n1, hn1⟩ : ∃ z, c P 1 = z := ⟨_, rfl⟩
  have hm1 : c 41 21 = n1 := (rl_nums hR).2.1.symm.trans hn1
  have hr1 := ir_p0_1 hI hP
  rw [hn1] at hr1
  obtain ⟨n2, hn2⟩ : ∃ z, c P 2 = z := ⟨_, rfl⟩
  have hm2 : c 41 22 = n2 := (rl_nums hR).2.2.1.symm.trans hn2
  have hr2 := ir_p0_2 hI hP
  rw [hn2] at hr2
  obtain ⟨n3, hn3⟩ : ∃ z, c P 3 = z := ⟨_, rfl⟩
  have hm3 : c 41 23 = n3 := (rl_nums hR).2.2.2.symm.trans hn3
  have hr3 := ir_p0_3 hI hP
  rw [hn3] at hr3
  have hNimg := rl_img hR
  have hNwk := rl_wk hR
  have h_1 := ir_3_4 hI
  have hIw := rl_iw hR
  have hNplace := rl_place hR
  refine q_aload_n c_296_1791 rfl (q_aload_n c_296_1792 rfl (q_iload c_296_1793 rfl (q_iconst c_296_1795 (v_iadd (v := (i0 : Int) + 1) c_296_1796 rfl (v_scr (j := i0 + 1) c_296_1797 (by omega) (by omega) hL hx1 (v_cv c_296_1798 km_9_268 rfl rfl (Nat.le_of_ble_eq_true rfl) ⟨⟨rfl, rfl⟩, Nat.le_of_ble_eq_true rfl, rfl⟩ (Nat.le_of_ble_eq_true rfl) (Nat.le_of_ble_eq_true rfl) (s_143 (a1 := x1) hI (show (-2147483648) ≤ x1 ∧ x1 ≤ 2147483647 from ⟨by omega, by omega⟩) (fun y_2 hy_2 => (bk_inl ?_)))))))))
  refine q_pop c_296_1801 rfl (q_aload_n c_296_1802 rfl (q_aload_n c_296_1803 rfl (q_iload c_296_1804 rfl (q_iconst c_296_1806 (v_iadd (v := (i0 : Int) + 1) c_296_1807 rfl (v_scr (j := i0 + 1) c_296_1808 (by omega) (by omega) hL hx1 (v_cv c_296_1809 km_9_271 rfl rfl (Nat.le_of_ble_eq_true rfl) ⟨⟨rfl, rfl⟩, Nat.le_of_ble_eq_true rfl, rfl⟩ (Nat.le_of_ble_eq_true rfl) (Nat.le_of_ble_eq_true rfl) (s_262 (a1 := x1) hI (show (-2147483648) ≤ x1 ∧ x1 ≤ 2147483647 from ⟨by omega, by omega⟩) (fun c_3 y_6 hI_4 hF_5 hy_6 => ?_)))))))))
  refine bk_inl (q_pop c_296_1812 rfl (q_goto (t := 1816) c_296_1813 rfl (Wp_ls [(4, vi (i0 : Int)), (3, .ref 67), (2, .ref 41), (1, .ref 0), (0, .ref a_SC)] (lsub_cons rfl (lsub_cons rfl (lsub_cons rfl (lsub_cons rfl (lsub_cons rfl lsub_nil))))) ?_)))
  have h_7 := ir_1_3 hI
  have kn_8 : Hid (c_3 1 3 = c 1 3) := hF_5 1 3 (fun h => absurd h.1 (nn rfl))
  have h_9 : c_3 1 3 = c 1 3 := (hid kn_8)
  have h_10 := ir_41_2 hI
  have kn_11 : Hid (c_3 41 2 = c 41 2) := hF_5 41 2 (fun h => absurd h.2 (ni rfl))
  have h_12 : c_3 41 2 = c 41 2 := (hid kn_11)
  have kn_13 : Hid (c_3 P 0 = n0) := (hF_5 P 0 (fun h => absurd h.1 (np0 hP rfl))).trans (hn0)
  have h_14 : c_3 P 0 = n0 := (hid kn_13)
  have kn_15 : Hid (c_3 41 20 = n0) := (hF_5 41 20 (fun h => absurd h.2 (ni rfl))).trans (hm0)
  have h_16 : c_3 41 20 = n0 := (hid kn_15)
  have kn_17 : Hid (c_3 P 1 = n1) := (hF_5 P 1 (fun h => absurd h.1 (np0 hP rfl))).trans (hn1)
  have h_18 : c_3 P 1 = n1 := (hid kn_17)
  have kn_19 : Hid (c_3 41 21 = n1) := (hF_5 41 21 (fun h => absurd h.2 (ni rfl))).trans (hm1)
  have h_20 : c_3 41 21 = n1 := (hid kn_19)
  have kn_21 : Hid (c_3 P 2 = n2) := (hF_5 P 2 (fun h => absurd h.1 (np0 hP rfl))).trans (hn2)
  have h_22 : c_3 P 2 = n2 := (hid kn_21)
  have kn_23 : Hid (c_3 41 22 = n2) := (hF_5 41 22 (fun h => absurd h.2 (ni rfl))).trans (hm2)
  have h_24 : c_3 41 22 = n2 := (hid kn_23)
  have kn_25 : Hid (c_3 P 3 = n3) := (hF_5 P 3 (fun h => absurd h.1 (np0 hP rfl))).trans (hn3)
  have h_26 : c_3 P 3 = n3 := (hid kn_25)
  have kn_27 : Hid (c_3 41 23 = n3) := (hF_5 41 23 (fun h => absurd h.2 (ni rfl))).trans (hm3)
  have h_28 : c_3 41 23 = n3 := (hid kn_27)
  have kn_29 : Hid (c_3 3 4 = c 3 4) := hF_5 3 4 (fun h => absurd h.1 (nn rfl))
  have h_30 : c_3 3 4 = c 3 4 := (hid kn_29)
  have h_31 := ir_41_52 hI
  have kn_32 : Hid (c_3 41 52 = c 41 52) := hF_5 41 52 (fun h => absurd h.2 (ni rfl))
  have h_33 : c_3 41 52 = c 41 52 := (hid kn_32)
  have h_34 := ir_3_3 hI
  have kn_35 : Hid (c_3 3 3 = c 3 3) := hF_5 3 3 (fun h => absurd h.1 (nn rfl))
  have h_36 : c_3 3 3 = c 3 3 := (hid kn_35)
  have h_37 := ir_41_35 hI
  have kn_38 : Hid (c_3 41 35 = c 41 35) := hF_5 41 35 (fun h => absurd h.2 (ni rfl))
  have h_39 : c_3 41 35 = c 41 35 := (hid kn_38)
  have h_40 : c_3 3 4 = c 3 4 := (hid kn_29)
  have h_41 := ir_1_5 hI
  have kn_42 : Hid (c_3 1 5 = c 1 5) := hF_5 1 5 (fun h => absurd h.1 (nn rfl))
  have h_43 : c_3 1 5 = c 1 5 := (hid kn_42)
  have h_44 := ir_41_8 hI
  have kn_45 : Hid (c_3 41 8 = c 41 8) := hF_5 41 8 (fun h => absurd h.2 (ni rfl))
  have h_46 : c_3 41 8 = c 41 8 := (hid kn_45)
  exact K P Q c_3 0 (by decide) hI_4 ⟨by omega, ub_fr hU (fun j => hF_5 2 j (fun h => absurd h.1 (nn rfl))) (fun j => hF_5 43 j (fun h => absurd h.1 (nn rfl))), ⟨by omega, by omega, by omega, by omega⟩, by omega, by omega, iw_fr2 hIw (by omega) (fun j => hF_5 6 j (fun h => absurd h.1 (nn rfl))) (fun j => hF_5 66 j (fun h => absurd h.1 (nn rfl))), by omega⟩

