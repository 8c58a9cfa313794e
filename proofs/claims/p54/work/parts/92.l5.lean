section LGC
variable {p : Program} {l : Launch} {e : Env} {s : State} {m : MethodId} {below : List Frame} {meth : Method} {c : Code} {H : Heap} {locs : List Loc} {Q : State → Prop} {ls : Array Slot}
variable {D : va_G} {cy : Nat → ClassId} {σ0 : SG} {eda ca : Nat} {ia : Nat → Nat} {ad τ : List Nat} {q0 x0 av qv sa L a0 oa od t c0 n0 k N : Nat} {fd : Nat → Option Nat} {xs : Nat → Int32} {i : Int32}
theorem dL_law_1690 : decode cL_law 1690 = .ok (.aload_n 1, 1) := by decide +kernel
theorem dL_law_1691 : decode cL_law 1691 = .ok (.aload_n 0, 1) := by decide +kernel
theorem dL_law_1692 : decode cL_law 1692 = .ok (.iload 5, 2) := by decide +kernel
theorem dL_law_1694 : decode cL_law 1694 = .ok (.iconst 1, 1) := by decide +kernel
theorem dL_law_1695 : decode cL_law 1695 = .ok (.iadd, 1) := by decide +kernel
theorem dL_law_1696 : decode cL_law 1696 = .ok (.iaload, 1) := by decide +kernel
theorem dL_law_1697 : decode cL_law 1697 = .ok (.aload_n 3, 1) := by decide +kernel
theorem dL_law_1698 : decode cL_law 1698 = .ok (.invokestatic 319, 3) := by decide +kernel
theorem dL_law_1701 : decode cL_law 1701 = .ok (.istore 6, 2) := by decide +kernel
theorem dL_law_1703 : decode cL_law 1703 = .ok (.aload_n 2, 1) := by decide +kernel
theorem dL_law_1704 : decode cL_law 1704 = .ok (.aload_n 0, 1) := by decide +kernel
theorem dL_law_1705 : decode cL_law 1705 = .ok (.iload 5, 2) := by decide +kernel
theorem dL_law_1707 : decode cL_law 1707 = .ok (.iconst 1, 1) := by decide +kernel
theorem dL_law_1708 : decode cL_law 1708 = .ok (.iadd, 1) := by decide +kernel
theorem dL_law_1709 : decode cL_law 1709 = .ok (.iaload, 1) := by decide +kernel
theorem dL_law_1710 : decode cL_law 1710 = .ok (.invokevirtual 321, 3) := by decide +kernel
theorem dL_law_1713 : decode cL_law 1713 = .ok (.istore 7, 2) := by decide +kernel
theorem dL_law_1715 : decode cL_law 1715 = .ok (.goto 149, 3) := by decide +kernel
theorem dL_law_1718 : decode cL_law 1718 = .ok (.aload_n 1, 1) := by decide +kernel
theorem dL_law_1719 : decode cL_law 1719 = .ok (.aload_n 0, 1) := by decide +kernel
theorem dL_law_1720 : decode cL_law 1720 = .ok (.iload 5, 2) := by decide +kernel
theorem dL_law_1722 : decode cL_law 1722 = .ok (.iconst 1, 1) := by decide +kernel
theorem dL_law_1723 : decode cL_law 1723 = .ok (.iadd, 1) := by decide +kernel
theorem dL_law_1724 : decode cL_law 1724 = .ok (.iaload, 1) := by decide +kernel
theorem dL_law_1725 : decode cL_law 1725 = .ok (.i2c, 1) := by decide +kernel
theorem dL_law_1726 : decode cL_law 1726 = .ok (.aload_n 3, 1) := by decide +kernel
theorem dL_law_1727 : decode cL_law 1727 = .ok (.invokestatic 322, 3) := by decide +kernel
theorem dL_law_1730 : decode cL_law 1730 = .ok (.istore 6, 2) := by decide +kernel
theorem dL_law_1732 : decode cL_law 1732 = .ok (.aload_n 2, 1) := by decide +kernel
theorem dL_law_1733 : decode cL_law 1733 = .ok (.aload_n 0, 1) := by decide +kernel
theorem dL_law_1734 : decode cL_law 1734 = .ok (.iload 5, 2) := by decide +kernel
theorem dL_law_1736 : decode cL_law 1736 = .ok (.iconst 1, 1) := by decide +kernel
theorem dL_law_1737 : decode cL_law 1737 = .ok (.iadd, 1) := by decide +kernel
theorem dL_law_1738 : decode cL_law 1738 = .ok (.iaload, 1) := by decide +kernel
theorem dL_law_1739 : decode cL_law 1739 = .ok (.i2c, 1) := by decide +kernel
theorem dL_law_1740 : decode cL_law 1740 = .ok (.invokevirtual 325, 3) := by decide +kernel
theorem dL_law_1743 : decode cL_law 1743 = .ok (.istore 7, 2) := by decide +kernel
theorem dL_law_1745 : decode cL_law 1745 = .ok (.goto 119, 3) := by decide +kernel
theorem dL_law_1748 : decode cL_law 1748 = .ok (.aload_n 1, 1) := by decide +kernel
theorem dL_law_1749 : decode cL_law 1749 = .ok (.aload_n 0, 1) := by decide +kernel
theorem dL_law_1750 : decode cL_law 1750 = .ok (.iload 5, 2) := by decide +kernel
theorem dL_law_1752 : decode cL_law 1752 = .ok (.iconst 1, 1) := by decide +kernel
theorem dL_law_1753 : decode cL_law 1753 = .ok (.iadd, 1) := by decide +kernel
theorem dL_law_1754 : decode cL_law 1754 = .ok (.iaload, 1) := by decide +kernel
theorem dL_law_1755 : decode cL_law 1755 = .ok (.aload_n 3, 1) := by decide +kernel
theorem dL_law_1756 : decode cL_law 1756 = .ok (.invokestatic 326, 3) := by decide +kernel
theorem dL_law_1759 : decode cL_law 1759 = .ok (.istore 6, 2) := by decide +kernel
theorem dL_law_1761 : decode cL_law 1761 = .ok (.aload_n 2, 1) := by decide +kernel
theorem dL_law_1762 : decode cL_law 1762 = .ok (.aload_n 0, 1) := by decide +kernel
theorem dL_law_1763 : decode cL_law 1763 = .ok (.iload 5, 2) := by decide +kernel
theorem dL_law_1765 : decode cL_law 1765 = .ok (.iconst 1, 1) := by decide +kernel
theorem dL_law_1766 : decode cL_law 1766 = .ok (.iadd, 1) := by decide +kernel
theorem dL_law_1767 : decode cL_law 1767 = .ok (.iaload, 1) := by decide +kernel
theorem dL_law_1768 : decode cL_law 1768 = .ok (.invokevirtual 328, 3) := by decide +kernel
theorem dL_law_1771 : decode cL_law 1771 = .ok (.istore 7, 2) := by decide +kernel
theorem dL_law_1773 : decode cL_law 1773 = .ok (.goto 91, 3) := by decide +kernel
theorem dL_law_1776 : decode cL_law 1776 = .ok (.aload_n 1, 1) := by decide +kernel
theorem dL_law_1777 : decode cL_law 1777 = .ok (.aload_n 0, 1) := by decide +kernel
theorem dL_law_1778 : decode cL_law 1778 = .ok (.iload 5, 2) := by decide +kernel
theorem dL_law_1780 : decode cL_law 1780 = .ok (.iconst 1, 1) := by decide +kernel
theorem dL_law_1781 : decode cL_law 1781 = .ok (.iadd, 1) := by decide +kernel
theorem dL_law_1782 : decode cL_law 1782 = .ok (.iaload, 1) := by decide +kernel
theorem dL_law_1783 : decode cL_law 1783 = .ok (.aload_n 3, 1) := by decide +kernel
theorem dL_law_1784 : decode cL_law 1784 = .ok (.invokestatic 329, 3) := by decide +kernel
theorem dL_law_1787 : decode cL_law 1787 = .ok (.istore 6, 2) := by decide +kernel
theorem dL_law_1789 : decode cL_law 1789 = .ok (.aload_n 2, 1) := by decide +kernel
theorem dL_law_1790 : decode cL_law 1790 = .ok (.aload_n 0, 1) := by decide +kernel
theorem dL_law_1791 : decode cL_law 1791 = .ok (.iload 5, 2) := by decide +kernel
theorem dL_law_1793 : decode cL_law 1793 = .ok (.iconst 1, 1) := by decide +kernel
theorem dL_law_1794 : decode cL_law 1794 = .ok (.iadd, 1) := by decide +kernel
theorem dL_law_1795 : decode cL_law 1795 = .ok (.iaload, 1) := by decide +kernel
theorem dL_law_1796 : decode cL_law 1796 = .ok (.invokevirtual 331, 3) := by decide +kernel
theorem dL_law_1799 : decode cL_law 1799 = .ok (.istore 7, 2) := by decide +kernel
theorem dL_law_1801 : decode cL_law 1801 = .ok (.goto 63, 3) := by decide +kernel
theorem dL_law_1804 : decode cL_law 1804 = .ok (.aload_n 1, 1) := by decide +kernel
theorem dL_law_1805 : decode cL_law 1805 = .ok (.aload 4, 2) := by decide +kernel
theorem dL_law_1807 : decode cL_law 1807 = .ok (.invokestatic 332, 3) := by decide +kernel
theorem dL_law_1810 : decode cL_law 1810 = .ok (.istore 6, 2) := by decide +kernel
theorem dL_law_1812 : decode cL_law 1812 = .ok (.aload_n 2, 1) := by decide +kernel
theorem dL_law_1813 : decode cL_law 1813 = .ok (.invokevirtual 335, 3) := by decide +kernel
theorem dL_law_1816 : decode cL_law 1816 = .ok (.fstore 7, 2) := by decide +kernel
theorem dL_law_1818 : decode cL_law 1818 = .ok (.goto 46, 3) := by decide +kernel
theorem dL_law_1821 : decode cL_law 1821 = .ok (.aload_n 1, 1) := by decide +kernel
theorem dL_law_1822 : decode cL_law 1822 = .ok (.aload 4, 2) := by decide +kernel
theorem dL_law_1824 : decode cL_law 1824 = .ok (.invokestatic 336, 3) := by decide +kernel
theorem dL_law_1827 : decode cL_law 1827 = .ok (.istore 6, 2) := by decide +kernel
theorem dL_law_1829 : decode cL_law 1829 = .ok (.aload_n 2, 1) := by decide +kernel
theorem dL_law_1830 : decode cL_law 1830 = .ok (.invokevirtual 338, 3) := by decide +kernel
theorem dL_law_1833 : decode cL_law 1833 = .ok (.dstore 7, 2) := by decide +kernel
theorem dL_law_1835 : decode cL_law 1835 = .ok (.goto 29, 3) := by decide +kernel
theorem dL_law_1838 : decode cL_law 1838 = .ok (.aload_n 1, 1) := by decide +kernel
theorem dL_law_1839 : decode cL_law 1839 = .ok (.invokevirtual 339, 3) := by decide +kernel
theorem dL_law_1842 : decode cL_law 1842 = .ok (.pop2, 1) := by decide +kernel
theorem dL_law_1843 : decode cL_law 1843 = .ok (.aload_n 2, 1) := by decide +kernel
theorem dL_law_1844 : decode cL_law 1844 = .ok (.invokevirtual 343, 3) := by decide +kernel
theorem dL_law_1847 : decode cL_law 1847 = .ok (.pop2, 1) := by decide +kernel
theorem dL_law_1848 : decode cL_law 1848 = .ok (.goto 16, 3) := by decide +kernel
theorem dL_law_1851 : decode cL_law 1851 = .ok (.aload_n 1, 1) := by decide +kernel
theorem dL_law_1852 : decode cL_law 1852 = .ok (.invokevirtual 344, 3) := by decide +kernel
theorem dL_law_1855 : decode cL_law 1855 = .ok (.aload_n 2, 1) := by decide +kernel
theorem dL_law_1856 : decode cL_law 1856 = .ok (.invokevirtual 348, 3) := by decide +kernel
theorem dL_law_1859 : decode cL_law 1859 = .ok (.if_icmp .eq 5, 3) := by decide +kernel
set_option maxRecDepth 100000 in
set_option maxHeartbeats 4000000 in
theorem lg_45 (X : LX p l s m meth c D cy σ0 eda ca ia ad τ q0 x0 sa L xs) (ht : t < 512) (hc0 : c0 ≤ 40000) (hn0 : n0 ≤ 400000) (hI : LI D cy s σ0 eda ia ad τ q0 x0 av qv fd a0 oa od t c0 n0 H locs k N) (hi : i.toInt = 6 * (t : Int)) (hL : 6 * t + 6 ≤ L) (hl : lv_has ls 9 [(5, .int i), (4, .ref od), (3, .ref oa), (2, .ref a0), (1, .ref x0), (0, .ref sa)]) (hE : ∀ (H : Heap) (locs : List Loc) (k N : Nat) (ls : Array Slot), LI D cy s σ0 eda ia ad τ q0 x0 av qv fd a0 oa od (t + 1) c0 n0 H locs k N → lv_has ls 9 [(5, .int i), (4, .ref od), (3, .ref oa), (2, .ref a0), (1, .ref x0), (0, .ref sa)] → W p l e room_1 s m #[Value.ref sa] below meth c H locs k N Q (F0 m 1864 ls [])) : W p l e room_1 s m #[Value.ref sa] below meth c H locs k N Q (F0 m 1690 ls []) := by
  obtain ⟨F, hst, hs, hr0, hr1, hTT, hXs, hbl, hbA, hp0, hL9⟩ := X
  obtain ⟨hx, hb, hml, hown, hts⟩ := id F.1
  obtain ⟨σ, K, g, n, S, hw, nn, w, f, fD, hB, hnn, hk, hSS, hV, hKa, hY, hH, hO, hD, ht9, hC⟩ := hI
  subst hKa
  refine lv_aload_n hx hb dL_law_1690 rfl (lv_at hl 4 rfl) ?_
  refine lv_aload_n hx hb dL_law_1691 rfl (lv_at hl 5 rfl) ?_
  refine lv_iload hx hb dL_law_1692 (lv_at hl 0 rfl) ?_
  refine lv_iconst (v := 1) hx hb dL_law_1694 (by decide) ?_
  refine lv_iadd hx hb dL_law_1695 ?_
  refine va_sld hx hb hXs hbl hbA hB.1.2.2 (lx_in hi hL hL9 (k := 1) (by decide)) dL_law_1696 ?_
  refine lv_aload_n hx hb dL_law_1697 rfl (lv_at hl 2 rfl) ?_
  refine lw_wk (wr := [(od, .inl (cy 3, 1, .inr (.inr (.inr (.inl fD)))))]) (rest := []) (vx_runSW (g := F0 m 1698 ls _) (As := [.ref x0, .int (xs (i + 1).toNatClampNeg), .ref oa]) (rest := []) F.1 (w_gotAt l D cy hst _ oa _ hs ht9 hr0 hr1 ((xs (i + 1).toNatClampNeg))) (vx_cwSW 3 hts (lwS lxl_ (lx_ _ (List.mem_of_getElem? (i := 500) rfl)) (lx_ _ (List.mem_of_getElem? (i := 501) rfl)) (lx_ _ (List.mem_of_getElem? (i := 177) rfl)) (lx_ _ (List.mem_of_getElem? (i := 502) rfl))) rfl rfl rfl ⟨by decide, by decide, by decide +kernel⟩ ⟨Nat.le_of_ble_eq_true rfl, Nat.le_of_ble_eq_true rfl⟩) ⟨vi_px_blind, vi_px hO.1.right hD.right F.2.1 F.2.2.1 hTT hB.1.2.2 sgB_A⟩ rfl rfl hl.1 rfl (lv_room (Nat.le_of_ble_eq_true rfl)) dL_law_1698 ⟨rm_c (show _ + 1 ≤ 606000 by omega), rm_s (show _ + 6 * 1 ≤ 7100000 by have := hB.2.2; omega)⟩) hB hO hD ht9 (fun H locs kx1 w2 f1 hB hO hD ht1 hk9 => ?_)
  obtain ⟨w3, hC, hO, hD, ht9⟩ := CS_kept (a := (od, .inl (cy 3, 1, .inr (.inr (.inr (.inl fD)))))) hC ht1 hk9 (by decide +kernel) (by decide +kernel) hO hD
  have hO : lwO D σ ([(od, .inl (cy 3, 1, .inr (.inr (.inr (.inl fD)))))] ++ (oa, .inl (cy 2, 1, .inr (.inl f1))) :: w3) H := hO
  have hD : va_D (sgA σ0 s.heap.size) ([(od, .inl (cy 3, 1, .inr (.inr (.inr (.inl fD)))))] ++ (oa, .inl (cy 2, 1, .inr (.inl f1))) :: w3) := hD
  refine lv_istore (lv' := [(6, .int kx1), (5, .int i), (4, .ref od), (3, .ref oa), (2, .ref (kA K)), (1, .ref x0), (0, .ref sa)]) hx hb dL_law_1701 hl (by decide) rfl (fun ls hl => ?_)
  refine lv_aload_n hx hb dL_law_1703 rfl (lv_at hl 4 rfl) ?_
  refine lv_aload_n hx hb dL_law_1704 rfl (lv_at hl 6 rfl) ?_
  refine lv_iload hx hb dL_law_1705 (lv_at hl 1 rfl) ?_
  refine lv_iconst (v := 1) hx hb dL_law_1707 (by decide) ?_
  refine lv_iadd hx hb dL_law_1708 ?_
  refine va_sld hx hb hXs hbl hbA hB.1.2.2 (lx_in hi hL hL9 (k := 1) (by decide)) dL_law_1709 ?_
  refine lw_callV (ci := 19) (b := kA K) (As := [.int (xs (i + 1).toNatClampNeg)]) (rest := []) F hB hO (m_gotAt l D cy hV ((xs (i + 1).toNatClampNeg)) _) (cwV 1 hts (lwV lxm_ (lx_ _ (List.mem_of_getElem? (i := 503) rfl)) (lx_ _ (List.mem_of_getElem? (i := 504) rfl)) (lx_ _ (List.mem_of_getElem? (i := 505) rfl)) (lx_ _ (List.mem_of_getElem? (i := 182) rfl)) (lx_ _ (List.mem_of_getElem? (i := 506) rfl))) rfl rfl rfl ⟨rfl, by decide, by decide, by decide +kernel⟩ ⟨Nat.le_of_ble_eq_true rfl, Nat.le_of_ble_eq_true rfl⟩) rfl rfl (by decide) rfl hl.1 rfl (Nat.le_of_ble_eq_true rfl) dL_law_1710 (rm_c (show _ + 0 ≤ 606000 by omega)) (rm_s (show _ + 0 + sgPot σ0 ≤ 7100000 by omega)) (inv_Mr hV).1 (fun H locs v σ N hB hX hP hO => ?_)
  obtain ⟨⟨y5, rfl⟩, hV⟩ := hP
  refine lv_istore (lv' := [(7, .int y5), (6, .int kx1), (5, .int i), (4, .ref od), (3, .ref oa), (2, .ref (kA K)), (1, .ref x0), (0, .ref sa)]) hx hb dL_law_1713 hl (by decide) rfl (fun ls hl => ?_)
  refine lv_goto (tgt := 1864) hx hb dL_law_1715 (by decide) ?_
  exact hE _ _ _ _ _ ⟨σ, K, g, n, S, hw, _, w3, f1, fD, hB, by omega, by omega, by omega, hV, rfl, hY, hH, hO, hD, ht9, CS_up hC (by omega)⟩ (lv_sub hl [2, 3, 4, 5, 6, 7] rfl)

set_option maxRecDepth 100000 in
set_option maxHeartbeats 4000000 in
theorem lg_46 (X : LX p l s m meth c D cy σ0 eda ca ia ad τ q0 x0 sa L xs) (ht : t < 512) (hc0 : c0 ≤ 40000) (hn0 : n0 ≤ 400000) (hI : LI D cy s σ0 eda ia ad τ q0 x0 av qv fd a0 oa od t c0 n0 H locs k N) (hi : i.toInt = 6 * (t : Int)) (hL : 6 * t + 6 ≤ L) (hl : lv_has ls 9 [(5, .int i), (4, .ref od), (3, .ref oa), (2, .ref a0), (1, .ref x0), (0, .ref sa)]) (hE : ∀ (H : Heap) (locs : List Loc) (k N : Nat) (ls : Array Slot), LI D cy s σ0 eda ia ad τ q0 x0 av qv fd a0 oa od (t + 1) c0 n0 H locs k N → lv_has ls 9 [(5, .int i), (4, .ref od), (3, .ref oa), (2, .ref a0), (1, .ref x0), (0, .ref sa)] → W p l e room_1 s m #[Value.ref sa] below meth c H locs k N Q (F0 m 1864 ls [])) : W p l e room_1 s m #[Value.ref sa] below meth c H locs k N Q (F0 m 1718 ls []) := by
  obtain ⟨F, hst, hs, hr0, hr1, hTT, hXs, hbl, hbA, hp0, hL9⟩ := X
  obtain ⟨hx, hb, hml, hown, hts⟩ := id F.1
  obtain ⟨σ, K, g, n, S, hw, nn, w, f, fD, hB, hnn, hk, hSS, hV, hKa, hY, hH, hO, hD, ht9, hC⟩ := hI
  subst hKa
  refine lv_aload_n hx hb dL_law_1718 rfl (lv_at hl 4 rfl) ?_
  refine lv_aload_n hx hb dL_law_1719 rfl (lv_at hl 5 rfl) ?_
  refine lv_iload hx hb dL_law_1720 (lv_at hl 0 rfl) ?_
  refine lv_iconst (v := 1) hx hb dL_law_1722 (by decide) ?_
  refine lv_iadd hx hb dL_law_1723 ?_
  refine va_sld hx hb hXs hbl hbA hB.1.2.2 (lx_in hi hL hL9 (k := 1) (by decide)) dL_law_1724 ?_
  refine lv_i2c (v := ((xs (i + 1).toNatClampNeg).toUInt32 % 65536).toInt32) hx hb dL_law_1725 rfl ?_
  refine lv_aload_n hx hb dL_law_1726 rfl (lv_at hl 2 rfl) ?_
  refine lw_wk (wr := [(od, .inl (cy 3, 1, .inr (.inr (.inr (.inl fD)))))]) (rest := []) (vx_runSW (g := F0 m 1727 ls _) (As := [.ref x0, .int (((xs (i + 1).toNatClampNeg).toUInt32 % 65536).toInt32), .ref oa]) (rest := []) F.1 (w_packets l D cy hst _ oa _ hs ht9 hr0 hr1 ((((xs (i + 1).toNatClampNeg).toUInt32 % 65536).toInt32)) (lw_c16 (xs (i + 1).toNatClampNeg))) (vx_cwSW 3 hts (lwS lxl_ (lx_ _ (List.mem_of_getElem? (i := 507) rfl)) (lx_ _ (List.mem_of_getElem? (i := 508) rfl)) (lx_ _ (List.mem_of_getElem? (i := 177) rfl)) (lx_ _ (List.mem_of_getElem? (i := 509) rfl))) rfl rfl rfl ⟨by decide, by decide, by decide +kernel⟩ ⟨Nat.le_of_ble_eq_true rfl, Nat.le_of_ble_eq_true rfl⟩) ⟨vi_px_blind, vi_px hO.1.right hD.right F.2.1 F.2.2.1 hTT hB.1.2.2 sgB_A⟩ rfl rfl hl.1 rfl (lv_room (Nat.le_of_ble_eq_true rfl)) dL_law_1727 ⟨rm_c (show _ + 1 ≤ 606000 by omega), rm_s (show _ + 6 * 1 ≤ 7100000 by have := hB.2.2; omega)⟩) hB hO hD ht9 (fun H locs kx1 w2 f1 hB hO hD ht1 hk9 => ?_)
  obtain ⟨w3, hC, hO, hD, ht9⟩ := CS_kept (a := (od, .inl (cy 3, 1, .inr (.inr (.inr (.inl fD)))))) hC ht1 hk9 (by decide +kernel) (by decide +kernel) hO hD
  have hO : lwO D σ ([(od, .inl (cy 3, 1, .inr (.inr (.inr (.inl fD)))))] ++ (oa, .inl (cy 2, 1, .inr (.inl f1))) :: w3) H := hO
  have hD : va_D (sgA σ0 s.heap.size) ([(od, .inl (cy 3, 1, .inr (.inr (.inr (.inl fD)))))] ++ (oa, .inl (cy 2, 1, .inr (.inl f1))) :: w3) := hD
  refine lv_istore (lv' := [(6, .int kx1), (5, .int i), (4, .ref od), (3, .ref oa), (2, .ref (kA K)), (1, .ref x0), (0, .ref sa)]) hx hb dL_law_1730 hl (by decide) rfl (fun ls hl => ?_)
  refine lv_aload_n hx hb dL_law_1732 rfl (lv_at hl 4 rfl) ?_
  refine lv_aload_n hx hb dL_law_1733 rfl (lv_at hl 6 rfl) ?_
  refine lv_iload hx hb dL_law_1734 (lv_at hl 1 rfl) ?_
  refine lv_iconst (v := 1) hx hb dL_law_1736 (by decide) ?_
  refine lv_iadd hx hb dL_law_1737 ?_
  refine va_sld hx hb hXs hbl hbA hB.1.2.2 (lx_in hi hL hL9 (k := 1) (by decide)) dL_law_1738 ?_
  refine lv_i2c (v := ((xs (i + 1).toNatClampNeg).toUInt32 % 65536).toInt32) hx hb dL_law_1739 rfl ?_
  refine lw_callV (ci := 19) (b := kA K) (As := [.int (((xs (i + 1).toNatClampNeg).toUInt32 % 65536).toInt32)]) (rest := []) F hB hO (m_packets l D cy hV ((((xs (i + 1).toNatClampNeg).toUInt32 % 65536).toInt32)) _) (cwV 1 hts (lwV lxm_ (lx_ _ (List.mem_of_getElem? (i := 510) rfl)) (lx_ _ (List.mem_of_getElem? (i := 511) rfl)) (lx_ _ (List.mem_of_getElem? (i := 512) rfl)) (lx_ _ (List.mem_of_getElem? (i := 182) rfl)) (lx_ _ (List.mem_of_getElem? (i := 513) rfl))) rfl rfl rfl ⟨rfl, by decide, by decide, by decide +kernel⟩ ⟨Nat.le_of_ble_eq_true rfl, Nat.le_of_ble_eq_true rfl⟩) rfl rfl (by decide) rfl hl.1 rfl (Nat.le_of_ble_eq_true rfl) dL_law_1740 (rm_c (show _ + 0 ≤ 606000 by omega)) (rm_s (show _ + 0 + sgPot σ0 ≤ 7100000 by omega)) (inv_Mr hV).1 (fun H locs v σ N hB hX hP hO => ?_)
  obtain ⟨⟨y5, rfl⟩, hV⟩ := hP
  refine lv_istore (lv' := [(7, .int y5), (6, .int kx1), (5, .int i), (4, .ref od), (3, .ref oa), (2, .ref (kA K)), (1, .ref x0), (0, .ref sa)]) hx hb dL_law_1743 hl (by decide) rfl (fun ls hl => ?_)
  refine lv_goto (tgt := 1864) hx hb dL_law_1745 (by decide) ?_
  exact hE _ _ _ _ _ ⟨σ, K, g, n, S, hw, _, w3, f1, fD, hB, by omega, by omega, by omega, hV, rfl, hY, hH, hO, hD, ht9, CS_up hC (by omega)⟩ (lv_sub hl [2, 3, 4, 5, 6, 7] rfl)

set_option maxRecDepth 100000 in
set_option maxHeartbeats 4000000 in
theorem lg_47 (X : LX p l s m meth c D cy σ0 eda ca ia ad τ q0 x0 sa L xs) (ht : t < 512) (hc0 : c0 ≤ 40000) (hn0 : n0 ≤ 400000) (hI : LI D cy s σ0 eda ia ad τ q0 x0 av qv fd a0 oa od t c0 n0 H locs k N) (hi : i.toInt = 6 * (t : Int)) (hL : 6 * t + 6 ≤ L) (hl : lv_has ls 9 [(5, .int i), (4, .ref od), (3, .ref oa), (2, .ref a0), (1, .ref x0), (0, .ref sa)]) (hE : ∀ (H : Heap) (locs : List Loc) (k N : Nat) (ls : Array Slot), LI D cy s σ0 eda ia ad τ q0 x0 av qv fd a0 oa od (t + 1) c0 n0 H locs k N → lv_has ls 9 [(5, .int i), (4, .ref od), (3, .ref oa), (2, .ref a0), (1, .ref x0), (0, .ref sa)] → W p l e room_1 s m #[Value.ref sa] below meth c H locs k N Q (F0 m 1864 ls [])) : W p l e room_1 s m #[Value.ref sa] below meth c H locs k N Q (F0 m 1748 ls []) := by
  obtain ⟨F, hst, hs, hr0, hr1, hTT, hXs, hbl, hbA, hp0, hL9⟩ := X
  obtain ⟨hx, hb, hml, hown, hts⟩ := id F.1
  obtain ⟨σ, K, g, n, S, hw, nn, w, f, fD, hB, hnn, hk, hSS, hV, hKa, hY, hH, hO, hD, ht9, hC⟩ := hI
  subst hKa
  refine lv_aload_n hx hb dL_law_1748 rfl (lv_at hl 4 rfl) ?_
  refine lv_aload_n hx hb dL_law_1749 rfl (lv_at hl 5 rfl) ?_
  refine lv_iload hx hb dL_law_1750 (lv_at hl 0 rfl) ?_
  refine lv_iconst (v := 1) hx hb dL_law_1752 (by decide) ?_
  refine lv_iadd hx hb dL_law_1753 ?_
  refine va_sld hx hb hXs hbl hbA hB.1.2.2 (lx_in hi hL hL9 (k := 1) (by decide)) dL_law_1754 ?_
  refine lv_aload_n hx hb dL_law_1755 rfl (lv_at hl 2 rfl) ?_
  refine lw_wk (wr := [(od, .inl (cy 3, 1, .inr (.inr (.inr (.inl fD)))))]) (rest := []) (vx_runSW (g := F0 m 1756 ls _) (As := [.ref x0, .int (xs (i + 1).toNatClampNeg), .ref oa]) (rest := []) F.1 (w_blame l D cy hst _ oa _ hs ht9 hr0 hr1 ((xs (i + 1).toNatClampNeg))) (vx_cwSW 3 hts (lwS lxl_ (lx_ _ (List.mem_of_getElem? (i := 514) rfl)) (lx_ _ (List.mem_of_getElem? (i := 515) rfl)) (lx_ _ (List.mem_of_getElem? (i := 177) rfl)) (lx_ _ (List.mem_of_getElem? (i := 516) rfl))) rfl rfl rfl ⟨by decide, by decide, by decide +kernel⟩ ⟨Nat.le_of_ble_eq_true rfl, Nat.le_of_ble_eq_true rfl⟩) ⟨vi_px_blind, vi_px hO.1.right hD.right F.2.1 F.2.2.1 hTT hB.1.2.2 sgB_A⟩ rfl rfl hl.1 rfl (lv_room (Nat.le_of_ble_eq_true rfl)) dL_law_1756 ⟨rm_c (show _ + 1 ≤ 606000 by omega), rm_s (show _ + 6 * 1 ≤ 7100000 by have := hB.2.2; omega)⟩) hB hO hD ht9 (fun H locs kx1 w2 f1 hB hO hD ht1 hk9 => ?_)
  obtain ⟨w3, hC, hO, hD, ht9⟩ := CS_kept (a := (od, .inl (cy 3, 1, .inr (.inr (.inr (.inl fD)))))) hC ht1 hk9 (by decide +kernel) (by decide +kernel) hO hD
  have hO : lwO D σ ([(od, .inl (cy 3, 1, .inr (.inr (.inr (.inl fD)))))] ++ (oa, .inl (cy 2, 1, .inr (.inl f1))) :: w3) H := hO
  have hD : va_D (sgA σ0 s.heap.size) ([(od, .inl (cy 3, 1, .inr (.inr (.inr (.inl fD)))))] ++ (oa, .inl (cy 2, 1, .inr (.inl f1))) :: w3) := hD
  refine lv_istore (lv' := [(6, .int kx1), (5, .int i), (4, .ref od), (3, .ref oa), (2, .ref (kA K)), (1, .ref x0), (0, .ref sa)]) hx hb dL_law_1759 hl (by decide) rfl (fun ls hl => ?_)
  refine lv_aload_n hx hb dL_law_1761 rfl (lv_at hl 4 rfl) ?_
  refine lv_aload_n hx hb dL_law_1762 rfl (lv_at hl 6 rfl) ?_
  refine lv_iload hx hb dL_law_1763 (lv_at hl 1 rfl) ?_
  refine lv_iconst (v := 1) hx hb dL_law_1765 (by decide) ?_
  refine lv_iadd hx hb dL_law_1766 ?_
  refine va_sld hx hb hXs hbl hbA hB.1.2.2 (lx_in hi hL hL9 (k := 1) (by decide)) dL_law_1767 ?_
  refine lw_callV (ci := 19) (b := kA K) (As := [.int (xs (i + 1).toNatClampNeg)]) (rest := []) F hB hO (m_blame l D cy hV ((xs (i + 1).toNatClampNeg)) _) (cwV 1 hts (lwV lxm_ (lx_ _ (List.mem_of_getElem? (i := 517) rfl)) (lx_ _ (List.mem_of_getElem? (i := 518) rfl)) (lx_ _ (List.mem_of_getElem? (i := 519) rfl)) (lx_ _ (List.mem_of_getElem? (i := 182) rfl)) (lx_ _ (List.mem_of_getElem? (i := 520) rfl))) rfl rfl rfl ⟨rfl, by decide, by decide, by decide +kernel⟩ ⟨Nat.le_of_ble_eq_true rfl, Nat.le_of_ble_eq_true rfl⟩) rfl rfl (by decide) rfl hl.1 rfl (Nat.le_of_ble_eq_true rfl) dL_law_1768 (rm_c (show _ + 0 ≤ 606000 by omega)) (rm_s (show _ + 0 + sgPot σ0 ≤ 7100000 by omega)) (inv_Mr hV).1 (fun H locs v σ N hB hX hP hO => ?_)
  obtain ⟨⟨y5, rfl⟩, hV⟩ := hP
  refine lv_istore (lv' := [(7, .int y5), (6, .int kx1), (5, .int i), (4, .ref od), (3, .ref oa), (2, .ref (kA K)), (1, .ref x0), (0, .ref sa)]) hx hb dL_law_1771 hl (by decide) rfl (fun ls hl => ?_)
  refine lv_goto (tgt := 1864) hx hb dL_law_1773 (by decide) ?_
  exact hE _ _ _ _ _ ⟨σ, K, g, n, S, hw, _, w3, f1, fD, hB, by omega, by omega, by omega, hV, rfl, hY, hH, hO, hD, ht9, CS_up hC (by omega)⟩ (lv_sub hl [2, 3, 4, 5, 6, 7] rfl)

set_option maxRecDepth 100000 in
set_option maxHeartbeats 4000000 in
theorem lg_48 (X : LX p l s m meth c D cy σ0 eda ca ia ad τ q0 x0 sa L xs) (ht : t < 512) (hc0 : c0 ≤ 40000) (hn0 : n0 ≤ 400000) (hI : LI D cy s σ0 eda ia ad τ q0 x0 av qv fd a0 oa od t c0 n0 H locs k N) (hi : i.toInt = 6 * (t : Int)) (hL : 6 * t + 6 ≤ L) (hl : lv_has ls 9 [(5, .int i), (4, .ref od), (3, .ref oa), (2, .ref a0), (1, .ref x0), (0, .ref sa)]) (hE : ∀ (H : Heap) (locs : List Loc) (k N : Nat) (ls : Array Slot), LI D cy s σ0 eda ia ad τ q0 x0 av qv fd a0 oa od (t + 1) c0 n0 H locs k N → lv_has ls 9 [(5, .int i), (4, .ref od), (3, .ref oa), (2, .ref a0), (1, .ref x0), (0, .ref sa)] → W p l e room_1 s m #[Value.ref sa] below meth c H locs k N Q (F0 m 1864 ls [])) : W p l e room_1 s m #[Value.ref sa] below meth c H locs k N Q (F0 m 1776 ls []) := by
  obtain ⟨F, hst, hs, hr0, hr1, hTT, hXs, hbl, hbA, hp0, hL9⟩ := X
  obtain ⟨hx, hb, hml, hown, hts⟩ := id F.1
  obtain ⟨σ, K, g, n, S, hw, nn, w, f, fD, hB, hnn, hk, hSS, hV, hKa, hY, hH, hO, hD, ht9, hC⟩ := hI
  subst hKa
  refine lv_aload_n hx hb dL_law_1776 rfl (lv_at hl 4 rfl) ?_
  refine lv_aload_n hx hb dL_law_1777 rfl (lv_at hl 5 rfl) ?_
  refine lv_iload hx hb dL_law_1778 (lv_at hl 0 rfl) ?_
  refine lv_iconst (v := 1) hx hb dL_law_1780 (by decide) ?_
  refine lv_iadd hx hb dL_law_1781 ?_
  refine va_sld hx hb hXs hbl hbA hB.1.2.2 (lx_in hi hL hL9 (k := 1) (by decide)) dL_law_1782 ?_
  refine lv_aload_n hx hb dL_law_1783 rfl (lv_at hl 2 rfl) ?_
  refine lw_wk (wr := [(od, .inl (cy 3, 1, .inr (.inr (.inr (.inl fD)))))]) (rest := []) (vx_runSW (g := F0 m 1784 ls _) (As := [.ref x0, .int (xs (i + 1).toNatClampNeg), .ref oa]) (rest := []) F.1 (w_causeOf l D cy hst _ oa _ hs ht9 hr0 hr1 ((xs (i + 1).toNatClampNeg))) (vx_cwSW 3 hts (lwS lxl_ (lx_ _ (List.mem_of_getElem? (i := 521) rfl)) (lx_ _ (List.mem_of_getElem? (i := 522) rfl)) (lx_ _ (List.mem_of_getElem? (i := 177) rfl)) (lx_ _ (List.mem_of_getElem? (i := 523) rfl))) rfl rfl rfl ⟨by decide, by decide, by decide +kernel⟩ ⟨Nat.le_of_ble_eq_true rfl, Nat.le_of_ble_eq_true rfl⟩) ⟨vi_px_blind, vi_px hO.1.right hD.right F.2.1 F.2.2.1 hTT hB.1.2.2 sgB_A⟩ rfl rfl hl.1 rfl (lv_room (Nat.le_of_ble_eq_true rfl)) dL_law_1784 ⟨rm_c (show _ + 1 ≤ 606000 by omega), rm_s (show _ + 6 * 1 ≤ 7100000 by have := hB.2.2; omega)⟩) hB hO hD ht9 (fun H locs kx1 w2 f1 hB hO hD ht1 hk9 => ?_)
  obtain ⟨w3, hC, hO, hD, ht9⟩ := CS_kept (a := (od, .inl (cy 3, 1, .inr (.inr (.inr (.inl fD)))))) hC ht1 hk9 (by decide +kernel) (by decide +kernel) hO hD
  have hO : lwO D σ ([(od, .inl (cy 3, 1, .inr (.inr (.inr (.inl fD)))))] ++ (oa, .inl (cy 2, 1, .inr (.inl f1))) :: w3) H := hO
  have hD : va_D (sgA σ0 s.heap.size) ([(od, .inl (cy 3, 1, .inr (.inr (.inr (.inl fD)))))] ++ (oa, .inl (cy 2, 1, .inr (.inl f1))) :: w3) := hD
  refine lv_istore (lv' := [(6, .int kx1), (5, .int i), (4, .ref od), (3, .ref oa), (2, .ref (kA K)), (1, .ref x0), (0, .ref sa)]) hx hb dL_law_1787 hl (by decide) rfl (fun ls hl => ?_)
  refine lv_aload_n hx hb dL_law_1789 rfl (lv_at hl 4 rfl) ?_
  refine lv_aload_n hx hb dL_law_1790 rfl (lv_at hl 6 rfl) ?_
  refine lv_iload hx hb dL_law_1791 (lv_at hl 1 rfl) ?_
  refine lv_iconst (v := 1) hx hb dL_law_1793 (by decide) ?_
  refine lv_iadd hx hb dL_law_1794 ?_
  refine va_sld hx hb hXs hbl hbA hB.1.2.2 (lx_in hi hL hL9 (k := 1) (by decide)) dL_law_1795 ?_
  refine lw_callV (ci := 19) (b := kA K) (As := [.int (xs (i + 1).toNatClampNeg)]) (rest := []) F hB hO (m_causeOf l D cy hV ((xs (i + 1).toNatClampNeg)) _) (cwV 1 hts (lwV lxm_ (lx_ _ (List.mem_of_getElem? (i := 524) rfl)) (lx_ _ (List.mem_of_getElem? (i := 525) rfl)) (lx_ _ (List.mem_of_getElem? (i := 526) rfl)) (lx_ _ (List.mem_of_getElem? (i := 182) rfl)) (lx_ _ (List.mem_of_getElem? (i := 527) rfl))) rfl rfl rfl ⟨rfl, by decide, by decide, by decide +kernel⟩ ⟨Nat.le_of_ble_eq_true rfl, Nat.le_of_ble_eq_true rfl⟩) rfl rfl (by decide) rfl hl.1 rfl (Nat.le_of_ble_eq_true rfl) dL_law_1796 (rm_c (show _ + 0 ≤ 606000 by omega)) (rm_s (show _ + 0 + sgPot σ0 ≤ 7100000 by omega)) (inv_Mr hV).1 (fun H locs v σ N hB hX hP hO => ?_)
  obtain ⟨⟨y5, rfl⟩, hV⟩ := hP
  refine lv_istore (lv' := [(7, .int y5), (6, .int kx1), (5, .int i), (4, .ref od), (3, .ref oa), (2, .ref (kA K)), (1, .ref x0), (0, .ref sa)]) hx hb dL_law_1799 hl (by decide) rfl (fun ls hl => ?_)
  refine lv_goto (tgt := 1864) hx hb dL_law_1801 (by decide) ?_
  exact hE _ _ _ _ _ ⟨σ, K, g, n, S, hw, _, w3, f1, fD, hB, by omega, by omega, by omega, hV, rfl, hY, hH, hO, hD, ht9, CS_up hC (by omega)⟩ (lv_sub hl [2, 3, 4, 5, 6, 7] rfl)

set_option maxRecDepth 100000 in
set_option maxHeartbeats 4000000 in
theorem lg_49 (X : LX p l s m meth c D cy σ0 eda ca ia ad τ q0 x0 sa L xs) (ht : t < 512) (hc0 : c0 ≤ 40000) (hn0 : n0 ≤ 400000) (hI : LI D cy s σ0 eda ia ad τ q0 x0 av qv fd a0 oa od t c0 n0 H locs k N) (hi : i.toInt = 6 * (t : Int)) (hL : 6 * t + 6 ≤ L) (hl : lv_has ls 9 [(5, .int i), (4, .ref od), (3, .ref oa), (2, .ref a0), (1, .ref x0), (0, .ref sa)]) (hE : ∀ (H : Heap) (locs : List Loc) (k N : Nat) (ls : Array Slot), LI D cy s σ0 eda ia ad τ q0 x0 av qv fd a0 oa od (t + 1) c0 n0 H locs k N → lv_has ls 9 [(5, .int i), (4, .ref od), (3, .ref oa), (2, .ref a0), (1, .ref x0), (0, .ref sa)] → W p l e room_1 s m #[Value.ref sa] below meth c H locs k N Q (F0 m 1864 ls [])) : W p l e room_1 s m #[Value.ref sa] below meth c H locs k N Q (F0 m 1804 ls []) := by
  obtain ⟨F, hst, hs, hr0, hr1, hTT, hXs, hbl, hbA, hp0, hL9⟩ := X
  obtain ⟨hx, hb, hml, hown, hts⟩ := id F.1
  obtain ⟨σ, K, g, n, S, hw, nn, w, f, fD, hB, hnn, hk, hSS, hV, hKa, hY, hH, hO, hD, ht9, hC⟩ := hI
  subst hKa
  refine lv_aload_n hx hb dL_law_1804 rfl (lv_at hl 4 rfl) ?_
  refine lv_aload hx hb dL_law_1805 (lv_at hl 1 rfl) ?_
  obtain ⟨hO, hD⟩ := lw_swap hO hD
  have hD : va_D (sgA σ0 s.heap.size) ([(oa, .inl (cy 2, 1, .inr (.inl f)))] ++ (od, .inl (cy 3, 1, .inr (.inr (.inr (.inl fD))))) :: w) := hD
  have hO : lwO D σ ([(oa, .inl (cy 2, 1, .inr (.inl f)))] ++ (od, .inl (cy 3, 1, .inr (.inr (.inr (.inl fD))))) :: w) H := hO
  obtain ⟨vs, fr0, c1, c4, hf0, hf1⟩ := CS_f hC hr1
  refine lw_wkG (wr := [(oa, .inl (cy 2, 1, .inr (.inl f)))]) (rest := []) (vx_runSW (g := F0 m 1807 ls _) (As := [.ref x0, .ref od]) (rest := []) F.1 (w_busyShare l D cy hst _ od _ hs ht9 hr0 hr1 c1 c4 (by omega) (by omega)) (vx_cwSW 2 hts (lwS lxl_ (lx_ _ (List.mem_of_getElem? (i := 528) rfl)) (lx_ _ (List.mem_of_getElem? (i := 529) rfl)) (lx_ _ (List.mem_of_getElem? (i := 177) rfl)) (lx_ _ (List.mem_of_getElem? (i := 530) rfl))) rfl rfl rfl ⟨by decide, by decide, by decide +kernel⟩ ⟨Nat.le_of_ble_eq_true rfl, Nat.le_of_ble_eq_true rfl⟩) ⟨vi_px_blind, vi_px hO.1.right hD.right F.2.1 F.2.2.1 hTT hB.1.2.2 sgB_A⟩ rfl rfl hl.1 rfl (lv_room (Nat.le_of_ble_eq_true rfl)) dL_law_1807 ⟨rm_c (show _ + 1 ≤ 606000 by omega), rm_s (show _ + 6 * 1 ≤ 7100000 by have := hB.2.2; omega)⟩) hB hO hD ht9 (fun H locs kx1 w2 o1 hB hO hD ht1 hk9 h8 => ?_)
  obtain ⟨fD1, rfl⟩ := h8
  obtain ⟨hO, hD⟩ := lw_swap hO hD
  have hD : va_D (sgA σ0 s.heap.size) ([(od, .inl (cy 3, 1, .inr (.inr (.inr (.inl fD1)))))] ++ (oa, .inl (cy 2, 1, .inr (.inl f))) :: w2) := hD
  have hO : lwO D σ ([(od, .inl (cy 3, 1, .inr (.inr (.inr (.inl fD1)))))] ++ (oa, .inl (cy 2, 1, .inr (.inl f))) :: w2) H := hO
  obtain ⟨w3, hC, hO, hD, ht9⟩ := CS_kept (a := (od, .inl (cy 3, 1, .inr (.inr (.inr (.inl fD1)))))) hC ht1 hk9 (by decide +kernel) (by decide +kernel) hO hD
  have hO : lwO D σ ([(od, .inl (cy 3, 1, .inr (.inr (.inr (.inl fD1)))))] ++ (oa, .inl (cy 2, 1, .inr (.inl f))) :: w3) H := hO
  have hD : va_D (sgA σ0 s.heap.size) ([(od, .inl (cy 3, 1, .inr (.inr (.inr (.inl fD1)))))] ++ (oa, .inl (cy 2, 1, .inr (.inl f))) :: w3) := hD
  refine lv_istore (lv' := [(6, .int kx1), (5, .int i), (4, .ref od), (3, .ref oa), (2, .ref (kA K)), (1, .ref x0), (0, .ref sa)]) hx hb dL_law_1810 hl (by decide) rfl (fun ls hl => ?_)
  refine lv_aload_n hx hb dL_law_1812 rfl (lv_at hl 4 rfl) ?_
  refine lw_callV (ci := 19) (b := kA K) (As := []) (rest := []) F hB hO (m_busyShare l D cy hV _) (cwV 0 hts (lwV lxm_ (lx_ _ (List.mem_of_getElem? (i := 531) rfl)) (lx_ _ (List.mem_of_getElem? (i := 532) rfl)) (lx_ _ (List.mem_of_getElem? (i := 533) rfl)) (lx_ _ (List.mem_of_getElem? (i := 182) rfl)) (lx_ _ (List.mem_of_getElem? (i := 534) rfl))) rfl rfl rfl ⟨rfl, by decide, by decide, by decide +kernel⟩ ⟨Nat.le_of_ble_eq_true rfl, Nat.le_of_ble_eq_true rfl⟩) rfl rfl (by decide) rfl hl.1 rfl (Nat.le_of_ble_eq_true rfl) dL_law_1813 (rm_c (show _ + 0 ≤ 606000 by omega)) (rm_s (show _ + 0 + sgPot σ0 ≤ 7100000 by omega)) (inv_Mr hV).1 (fun H locs v σ N hB hX hP hO => ?_)
  obtain ⟨⟨y5, rfl⟩, hV⟩ := hP
  refine lv_fstore (lv' := [(7, .float y5), (6, .int kx1), (5, .int i), (4, .ref od), (3, .ref oa), (2, .ref (kA K)), (1, .ref x0), (0, .ref sa)]) hx hb dL_law_1816 hl (by decide) rfl (fun ls hl => ?_)
  refine lv_goto (tgt := 1864) hx hb dL_law_1818 (by decide) ?_
  exact hE _ _ _ _ _ ⟨σ, K, g, n, S, hw, _, w3, f, fD1, hB, by omega, by omega, by omega, hV, rfl, hY, hH, hO, hD, ht9, CS_up hC (by omega)⟩ (lv_sub hl [2, 3, 4, 5, 6, 7] rfl)

set_option maxRecDepth 100000 in
set_option maxHeartbeats 4000000 in
theorem lg_50 (X : LX p l s m meth c D cy σ0 eda ca ia ad τ q0 x0 sa L xs) (ht : t < 512) (hc0 : c0 ≤ 40000) (hn0 : n0 ≤ 400000) (hI : LI D cy s σ0 eda ia ad τ q0 x0 av qv fd a0 oa od t c0 n0 H locs k N) (hi : i.toInt = 6 * (t : Int)) (hL : 6 * t + 6 ≤ L) (hl : lv_has ls 9 [(5, .int i), (4, .ref od), (3, .ref oa), (2, .ref a0), (1, .ref x0), (0, .ref sa)]) (hE : ∀ (H : Heap) (locs : List Loc) (k N : Nat) (ls : Array Slot), LI D cy s σ0 eda ia ad τ q0 x0 av qv fd a0 oa od (t + 1) c0 n0 H locs k N → lv_has ls 9 [(5, .int i), (4, .ref od), (3, .ref oa), (2, .ref a0), (1, .ref x0), (0, .ref sa)] → W p l e room_1 s m #[Value.ref sa] below meth c H locs k N Q (F0 m 1864 ls [])) : W p l e room_1 s m #[Value.ref sa] below meth c H locs k N Q (F0 m 1821 ls []) := by
  obtain ⟨F, hst, hs, hr0, hr1, hTT, hXs, hbl, hbA, hp0, hL9⟩ := X
  obtain ⟨hx, hb, hml, hown, hts⟩ := id F.1
  obtain ⟨σ, K, g, n, S, hw, nn, w, f, fD, hB, hnn, hk, hSS, hV, hKa, hY, hH, hO, hD, ht9, hC⟩ := hI
  subst hKa
  refine lv_aload_n hx hb dL_law_1821 rfl (lv_at hl 4 rfl) ?_
  refine lv_aload hx hb dL_law_1822 (lv_at hl 1 rfl) ?_
  obtain ⟨hO, hD⟩ := lw_swap hO hD
  have hD : va_D (sgA σ0 s.heap.size) ([(oa, .inl (cy 2, 1, .inr (.inl f)))] ++ (od, .inl (cy 3, 1, .inr (.inr (.inr (.inl fD))))) :: w) := hD
  have hO : lwO D σ ([(oa, .inl (cy 2, 1, .inr (.inl f)))] ++ (od, .inl (cy 3, 1, .inr (.inr (.inr (.inl fD))))) :: w) H := hO
  obtain ⟨vs, fr0, c1, c4, hf0, hf1⟩ := CS_f hC hr1
  refine lw_wkG (wr := [(oa, .inl (cy 2, 1, .inr (.inl f)))]) (rest := []) (vx_runSW (g := F0 m 1824 ls _) (As := [.ref x0, .ref od]) (rest := []) F.1 (w_meanBytes l D cy hst _ od _ hs ht9 hr0 hr1 c1 c4) (vx_cwSW 2 hts (lwS lxl_ (lx_ _ (List.mem_of_getElem? (i := 535) rfl)) (lx_ _ (List.mem_of_getElem? (i := 536) rfl)) (lx_ _ (List.mem_of_getElem? (i := 177) rfl)) (lx_ _ (List.mem_of_getElem? (i := 537) rfl))) rfl rfl rfl ⟨by decide, by decide, by decide +kernel⟩ ⟨Nat.le_of_ble_eq_true rfl, Nat.le_of_ble_eq_true rfl⟩) ⟨vi_px_blind, vi_px hO.1.right hD.right F.2.1 F.2.2.1 hTT hB.1.2.2 sgB_A⟩ rfl rfl hl.1 rfl (lv_room (Nat.le_of_ble_eq_true rfl)) dL_law_1824 ⟨rm_c (show _ + 1 ≤ 606000 by omega), rm_s (show _ + 6 * 1 ≤ 7100000 by have := hB.2.2; omega)⟩) hB hO hD ht9 (fun H locs kx1 w2 o1 hB hO hD ht1 hk9 h8 => ?_)
  obtain ⟨fD1, rfl⟩ := h8
  obtain ⟨hO, hD⟩ := lw_swap hO hD
  have hD : va_D (sgA σ0 s.heap.size) ([(od, .inl (cy 3, 1, .inr (.inr (.inr (.inl fD1)))))] ++ (oa, .inl (cy 2, 1, .inr (.inl f))) :: w2) := hD
  have hO : lwO D σ ([(od, .inl (cy 3, 1, .inr (.inr (.inr (.inl fD1)))))] ++ (oa, .inl (cy 2, 1, .inr (.inl f))) :: w2) H := hO
  obtain ⟨w3, hC, hO, hD, ht9⟩ := CS_kept (a := (od, .inl (cy 3, 1, .inr (.inr (.inr (.inl fD1)))))) hC ht1 hk9 (by decide +kernel) (by decide +kernel) hO hD
  have hO : lwO D σ ([(od, .inl (cy 3, 1, .inr (.inr (.inr (.inl fD1)))))] ++ (oa, .inl (cy 2, 1, .inr (.inl f))) :: w3) H := hO
  have hD : va_D (sgA σ0 s.heap.size) ([(od, .inl (cy 3, 1, .inr (.inr (.inr (.inl fD1)))))] ++ (oa, .inl (cy 2, 1, .inr (.inl f))) :: w3) := hD
  refine lv_istore (lv' := [(6, .int kx1), (5, .int i), (4, .ref od), (3, .ref oa), (2, .ref (kA K)), (1, .ref x0), (0, .ref sa)]) hx hb dL_law_1827 hl (by decide) rfl (fun ls hl => ?_)
  refine lv_aload_n hx hb dL_law_1829 rfl (lv_at hl 4 rfl) ?_
  refine lw_callV (ci := 19) (b := kA K) (As := []) (rest := []) F hB hO (m_meanBytes l D cy hV _) (cwV 0 hts (lwV lxm_ (lx_ _ (List.mem_of_getElem? (i := 538) rfl)) (lx_ _ (List.mem_of_getElem? (i := 539) rfl)) (lx_ _ (List.mem_of_getElem? (i := 540) rfl)) (lx_ _ (List.mem_of_getElem? (i := 182) rfl)) (lx_ _ (List.mem_of_getElem? (i := 541) rfl))) rfl rfl rfl ⟨rfl, by decide, by decide, by decide +kernel⟩ ⟨Nat.le_of_ble_eq_true rfl, Nat.le_of_ble_eq_true rfl⟩) rfl rfl (by decide) rfl hl.1 rfl (Nat.le_of_ble_eq_true rfl) dL_law_1830 (rm_c (show _ + 0 ≤ 606000 by omega)) (rm_s (show _ + 0 + sgPot σ0 ≤ 7100000 by omega)) (inv_Mr hV).1 (fun H locs v σ N hB hX hP hO => ?_)
  obtain ⟨⟨y5, rfl⟩, hV⟩ := hP
  refine lv_dstore (lv' := [(7, .double y5), (6, .int kx1), (5, .int i), (4, .ref od), (3, .ref oa), (2, .ref (kA K)), (1, .ref x0), (0, .ref sa)]) hx hb dL_law_1833 hl (by decide) rfl (fun ls hl => ?_)
  refine lv_goto (tgt := 1864) hx hb dL_law_1835 (by decide) ?_
  exact hE _ _ _ _ _ ⟨σ, K, g, n, S, hw, _, w3, f, fD1, hB, by omega, by omega, by omega, hV, rfl, hY, hH, hO, hD, ht9, CS_up hC (by omega)⟩ (lv_sub hl [2, 3, 4, 5, 6, 7] rfl)

set_option maxRecDepth 100000 in
set_option maxHeartbeats 4000000 in
theorem lg_51 (X : LX p l s m meth c D cy σ0 eda ca ia ad τ q0 x0 sa L xs) (ht : t < 512) (hc0 : c0 ≤ 40000) (hn0 : n0 ≤ 400000) (hI : LI D cy s σ0 eda ia ad τ q0 x0 av qv fd a0 oa od t c0 n0 H locs k N) (hi : i.toInt = 6 * (t : Int)) (hL : 6 * t + 6 ≤ L) (hl : lv_has ls 9 [(5, .int i), (4, .ref od), (3, .ref oa), (2, .ref a0), (1, .ref x0), (0, .ref sa)]) (hE : ∀ (H : Heap) (locs : List Loc) (k N : Nat) (ls : Array Slot), LI D cy s σ0 eda ia ad τ q0 x0 av qv fd a0 oa od (t + 1) c0 n0 H locs k N → lv_has ls 9 [(5, .int i), (4, .ref od), (3, .ref oa), (2, .ref a0), (1, .ref x0), (0, .ref sa)] → W p l e room_1 s m #[Value.ref sa] below meth c H locs k N Q (F0 m 1864 ls [])) : W p l e room_1 s m #[Value.ref sa] below meth c H locs k N Q (F0 m 1838 ls []) := by
  obtain ⟨F, hst, hs, hr0, hr1, hTT, hXs, hbl, hbA, hp0, hL9⟩ := X
  obtain ⟨hx, hb, hml, hown, hts⟩ := id F.1
  obtain ⟨σ, K, g, n, S, hw, nn, w, f, fD, hB, hnn, hk, hSS, hV, hKa, hY, hH, hO, hD, ht9, hC⟩ := hI
  subst hKa
  refine lv_aload_n hx hb dL_law_1838 rfl (lv_at hl 4 rfl) ?_
  obtain ⟨vs, fr0, c1, c4, hf0, hf1⟩ := CS_f hC hr1
  have hOw : va_P D vwCl _ H := (show va_P D vwCl ([(oa, .inl (cy 2, 1, .inr (.inl f)))] ++ w) H from hO.1.right).right
  have hDw : va_D _ _ := (show va_D (sgA σ0 s.heap.size) ([(oa, .inl (cy 2, 1, .inr (.inl f)))] ++ w) from hD.right).right
  refine lw_wc (nc := 0) (wr := [(od, .inl (cy 3, 1, .inr (.inr (.inr (.inl fD))))), (oa, .inl (cy 2, 1, .inr (.inl f)))]) (rest := []) (lw_mono (Qb := vw_QC D vK cy ad τ w q_Hubcascade_checksum_0.2.2.2.1 (va_A _ H.size) (fun v _ => ∃ y : Int64, v = some (.long y))) (va_runV (g := F0 m 1839 ls _) (b := x0) (As := []) (rest := []) F.1 ((m_Hubcascade_checksum_0 l D cy hst).2 ad τ _ _ [.ref x0] hs ht9 rfl (vi_tys_ok (ad := ad) (τ := τ) (as := q_Hubcascade_checksum_0.1) ⟨Or.inr ⟨q0, x0, hr0, hr1, rfl⟩, True.intro⟩) (fun f hf => by cases hf)) (cwV 0 hts (lwV lxv_ (lx_ _ (List.mem_of_getElem? (i := 542) rfl)) (lx_ _ (List.mem_of_getElem? (i := 543) rfl)) (lx_ _ (List.mem_of_getElem? (i := 544) rfl)) (lx_ _ (List.mem_of_getElem? (i := 3) rfl)) (lx_ _ (List.mem_of_getElem? (i := 545) rfl))) rfl rfl rfl ⟨rfl, by decide, by decide, by decide +kernel⟩ ⟨Nat.le_of_ble_eq_true rfl, Nat.le_of_ble_eq_true rfl⟩) ⟨pme_blind, va_recv F.2.1 hOw (ci := 14) rfl c1, vi_pv hOw hDw F.2.1 F.2.2.1⟩ rfl rfl hl.1 rfl (lv_room (Nat.le_of_ble_eq_true rfl)) dL_law_1839 ⟨rm_c (show _ + 0 ≤ 606000 by omega), rm_s (show _ + 0 ≤ 7100000 by have := hB.2.2; omega)⟩) (fun st oc t h => ⟨by obtain ⟨⟨v, w1, alt, halt, e1, e2, e3, e4, e5⟩, -⟩ := h; exact ⟨v, w1, e1, e2, e3, e4, vw_long (by decide +kernel) halt e5⟩, h.2⟩)) hB hO hD ht9 (fun H locs v w1 hB hO hD ht1 hk9 h8 => ?_)
  obtain ⟨y2, rfl⟩ := h8
  have hO : lwO D σ ([(od, .inl (cy 3, 1, .inr (.inr (.inr (.inl fD)))))] ++ (oa, .inl (cy 2, 1, .inr (.inl f))) :: w1) H := hO
  have hD : va_D (sgA σ0 s.heap.size) ([(od, .inl (cy 3, 1, .inr (.inr (.inr (.inl fD)))))] ++ (oa, .inl (cy 2, 1, .inr (.inl f))) :: w1) := hD
  obtain ⟨w3, hC, hO, hD, ht9⟩ := CS_kept (a := (od, .inl (cy 3, 1, .inr (.inr (.inr (.inl fD)))))) hC ht1 hk9 (by decide +kernel) (by decide +kernel) hO hD
  have hO : lwO D σ ([(od, .inl (cy 3, 1, .inr (.inr (.inr (.inl fD)))))] ++ (oa, .inl (cy 2, 1, .inr (.inl f))) :: w3) H := hO
  have hD : va_D (sgA σ0 s.heap.size) ([(od, .inl (cy 3, 1, .inr (.inr (.inr (.inl fD)))))] ++ (oa, .inl (cy 2, 1, .inr (.inl f))) :: w3) := hD
  refine lv_pop2_2 hx hb dL_law_1842 rfl ?_
  refine lv_aload_n hx hb dL_law_1843 rfl (lv_at hl 3 rfl) ?_
  refine lw_callV (ci := 19) (b := kA K) (As := []) (rest := []) F hB hO (m_checksum l D cy hV _) (cwV 0 hts (lwV lxm_ (lx_ _ (List.mem_of_getElem? (i := 546) rfl)) (lx_ _ (List.mem_of_getElem? (i := 547) rfl)) (lx_ _ (List.mem_of_getElem? (i := 548) rfl)) (lx_ _ (List.mem_of_getElem? (i := 182) rfl)) (lx_ _ (List.mem_of_getElem? (i := 549) rfl))) rfl rfl rfl ⟨rfl, by decide, by decide, by decide +kernel⟩ ⟨Nat.le_of_ble_eq_true rfl, Nat.le_of_ble_eq_true rfl⟩) rfl rfl (by decide) rfl hl.1 rfl (Nat.le_of_ble_eq_true rfl) dL_law_1844 (rm_c (show _ + 1 ≤ 606000 by omega)) (rm_s (show _ + 4 + sgPot σ0 ≤ 7100000 by omega)) (inv_Mr hV).1 (fun H locs v σ N hB hX hP hO => ?_)
  obtain ⟨⟨y5, rfl⟩, hV⟩ := hP
  refine lv_pop2_2 hx hb dL_law_1847 rfl ?_
  refine lv_goto (tgt := 1864) hx hb dL_law_1848 (by decide) ?_
  exact hE _ _ _ _ _ ⟨σ, K, g, n, S, hw, _, w3, f, fD, hB, by omega, by omega, by omega, hV, rfl, hY, hH, hO, hD, ht9, CS_up hC (by omega)⟩ (lv_sub hl [0, 1, 2, 3, 4, 5] rfl)

set_option maxRecDepth 100000 in
set_option maxHeartbeats 4000000 in
theorem lg_52 (X : LX p l s m meth c D cy σ0 eda ca ia ad τ q0 x0 sa L xs) (ht : t < 512) (hc0 : c0 ≤ 40000) (hn0 : n0 ≤ 400000) (hI : LI D cy s σ0 eda ia ad τ q0 x0 av qv fd a0 oa od t c0 n0 H locs k N) (hi : i.toInt = 6 * (t : Int)) (hL : 6 * t + 6 ≤ L) (hl : lv_has ls 9 [(5, .int i), (4, .ref od), (3, .ref oa), (2, .ref a0), (1, .ref x0), (0, .ref sa)]) (hE : ∀ (H : Heap) (locs : List Loc) (k N : Nat) (ls : Array Slot), LI D cy s σ0 eda ia ad τ q0 x0 av qv fd a0 oa od (t + 1) c0 n0 H locs k N → lv_has ls 9 [(5, .int i), (4, .ref od), (3, .ref oa), (2, .ref a0), (1, .ref x0), (0, .ref sa)] → W p l e room_1 s m #[Value.ref sa] below meth c H locs k N Q (F0 m 1864 ls [])) : W p l e room_1 s m #[Value.ref sa] below meth c H locs k N Q (F0 m 1851 ls []) := by
  obtain ⟨F, hst, hs, hr0, hr1, hTT, hXs, hbl, hbA, hp0, hL9⟩ := X
  obtain ⟨hx, hb, hml, hown, hts⟩ := id F.1
  obtain ⟨σ, K, g, n, S, hw, nn, w, f, fD, hB, hnn, hk, hSS, hV, hKa, hY, hH, hO, hD, ht9, hC⟩ := hI
  subst hKa
  refine lv_aload_n hx hb dL_law_1851 rfl (lv_at hl 4 rfl) ?_
  obtain ⟨vs, fr0, c1, c4, hf0, hf1⟩ := CS_f hC hr1
  have hOw : va_P D vwCl _ H := (show va_P D vwCl ([(oa, .inl (cy 2, 1, .inr (.inl f)))] ++ w) H from hO.1.right).right
  have hDw : va_D _ _ := (show va_D (sgA σ0 s.heap.size) ([(oa, .inl (cy 2, 1, .inr (.inl f)))] ++ w) from hD.right).right
  refine lw_wcS (nc := 0) (wr := [(od, .inl (cy 3, 1, .inr (.inr (.inr (.inl fD))))), (oa, .inl (cy 2, 1, .inr (.inl f)))]) (rest := []) (va_runV (g := F0 m 1852 ls _) (b := x0) (As := []) (rest := []) F.1 (cs_sound l hC _) (cwV 0 hts (lwV lxv_ (lx_ _ (List.mem_of_getElem? (i := 550) rfl)) (lx_ _ (List.mem_of_getElem? (i := 551) rfl)) (lx_ _ (List.mem_of_getElem? (i := 552) rfl)) (lx_ _ (List.mem_of_getElem? (i := 3) rfl)) (lx_ _ (List.mem_of_getElem? (i := 553) rfl))) rfl rfl rfl ⟨rfl, by decide, by decide, by decide +kernel⟩ ⟨Nat.le_of_ble_eq_true rfl, Nat.le_of_ble_eq_true rfl⟩) ⟨pme_blind, va_recv F.2.1 hOw (ci := 14) rfl c1, vi_pv hOw hDw F.2.1 F.2.2.1⟩ rfl rfl hl.1 rfl (lv_room (Nat.le_of_ble_eq_true rfl)) dL_law_1852 ⟨rm_c (show _ + 0 ≤ 606000 by omega), rm_s (show _ + 0 ≤ 7100000 by have := hB.2.2; omega)⟩) hB hO hD ht9 (fun H locs v w1 hB hO hD ht1 h8 => ?_)
  obtain ⟨rfl, hC⟩ := h8
  have ht9 := ht1
  have hO : lwO D σ ([(od, .inl (cy 3, 1, .inr (.inr (.inr (.inl fD)))))] ++ (oa, .inl (cy 2, 1, .inr (.inl f))) :: w1) H := hO
  have hD : va_D (sgA σ0 s.heap.size) ([(od, .inl (cy 3, 1, .inr (.inr (.inr (.inl fD)))))] ++ (oa, .inl (cy 2, 1, .inr (.inl f))) :: w1) := hD
  refine lv_aload_n hx hb dL_law_1855 rfl (lv_at hl 3 rfl) ?_
  refine lw_callV (ci := 19) (b := kA K) (As := []) (rest := [.int 1]) F hB hO (m_isSound l D cy hV _) (cwV 0 hts (lwV lxm_ (lx_ _ (List.mem_of_getElem? (i := 554) rfl)) (lx_ _ (List.mem_of_getElem? (i := 555) rfl)) (lx_ _ (List.mem_of_getElem? (i := 556) rfl)) (lx_ _ (List.mem_of_getElem? (i := 182) rfl)) (lx_ _ (List.mem_of_getElem? (i := 557) rfl))) rfl rfl rfl ⟨rfl, by decide, by decide, by decide +kernel⟩ ⟨Nat.le_of_ble_eq_true rfl, Nat.le_of_ble_eq_true rfl⟩) rfl rfl (by decide) rfl hl.1 rfl (Nat.le_of_ble_eq_true rfl) dL_law_1856 (rm_c (show _ + 0 ≤ 606000 by omega)) (rm_s (show _ + 0 + sgPot σ0 ≤ 7100000 by omega)) (inv_Mr hV).1 (fun H locs v σ N hB hX hP hO => ?_)
  obtain ⟨rfl, hV⟩ := hP
  refine lv_icmp_eq (tgt := 1864) hx hb dL_law_1859 (by decide) (fun _ => ?_) (fun h9 => absurd rfl h9)
  exact hE _ _ _ _ _ ⟨σ, K, g, n, S, hw, _, w1, f, fD, hB, by omega, by omega, by omega, hV, rfl, hY, hH, hO, hD, ht9, CS_up hC (by omega)⟩ (lv_sub hl [0, 1, 2, 3, 4, 5] rfl)
end LGC
