section LGC
variable {p : Program} {l : Launch} {e : Env} {s : State} {m : MethodId} {below : List Frame} {meth : Method} {c : Code} {H : Heap} {locs : List Loc} {Q : State → Prop} {ls : Array Slot}
variable {D : va_G} {cy : Nat → ClassId} {σ0 : SG} {eda ca : Nat} {ia : Nat → Nat} {ad τ : List Nat} {q0 x0 av qv sa L a0 oa od t c0 n0 k N : Nat} {fd : Nat → Option Nat} {xs : Nat → Int32} {i : Int32}
theorem dL_law_666 : decode cL_law 666 = .ok (.aload_n 1, 1) := by decide +kernel
theorem dL_law_667 : decode cL_law 667 = .ok (.aload_n 0, 1) := by decide +kernel
theorem dL_law_668 : decode cL_law 668 = .ok (.iload 5, 2) := by decide +kernel
theorem dL_law_670 : decode cL_law 670 = .ok (.iconst 1, 1) := by decide +kernel
theorem dL_law_671 : decode cL_law 671 = .ok (.iadd, 1) := by decide +kernel
theorem dL_law_672 : decode cL_law 672 = .ok (.iaload, 1) := by decide +kernel
theorem dL_law_673 : decode cL_law 673 = .ok (.aload_n 3, 1) := by decide +kernel
theorem dL_law_674 : decode cL_law 674 = .ok (.invokestatic 200, 3) := by decide +kernel
theorem dL_law_677 : decode cL_law 677 = .ok (.istore 6, 2) := by decide +kernel
theorem dL_law_679 : decode cL_law 679 = .ok (.aload_n 2, 1) := by decide +kernel
theorem dL_law_680 : decode cL_law 680 = .ok (.aload_n 0, 1) := by decide +kernel
theorem dL_law_681 : decode cL_law 681 = .ok (.iload 5, 2) := by decide +kernel
theorem dL_law_683 : decode cL_law 683 = .ok (.iconst 1, 1) := by decide +kernel
theorem dL_law_684 : decode cL_law 684 = .ok (.iadd, 1) := by decide +kernel
theorem dL_law_685 : decode cL_law 685 = .ok (.iaload, 1) := by decide +kernel
theorem dL_law_686 : decode cL_law 686 = .ok (.invokevirtual 202, 3) := by decide +kernel
theorem dL_law_689 : decode cL_law 689 = .ok (.istore 7, 2) := by decide +kernel
theorem dL_law_691 : decode cL_law 691 = .ok (.goto 1173, 3) := by decide +kernel
theorem dL_law_694 : decode cL_law 694 = .ok (.aload_n 1, 1) := by decide +kernel
theorem dL_law_695 : decode cL_law 695 = .ok (.aload_n 3, 1) := by decide +kernel
theorem dL_law_696 : decode cL_law 696 = .ok (.invokestatic 203, 3) := by decide +kernel
theorem dL_law_699 : decode cL_law 699 = .ok (.istore 6, 2) := by decide +kernel
theorem dL_law_701 : decode cL_law 701 = .ok (.aload_n 2, 1) := by decide +kernel
theorem dL_law_702 : decode cL_law 702 = .ok (.invokevirtual 206, 3) := by decide +kernel
theorem dL_law_705 : decode cL_law 705 = .ok (.istore 7, 2) := by decide +kernel
theorem dL_law_707 : decode cL_law 707 = .ok (.goto 1157, 3) := by decide +kernel
theorem dL_law_710 : decode cL_law 710 = .ok (.aload_n 1, 1) := by decide +kernel
theorem dL_law_711 : decode cL_law 711 = .ok (.aload_n 0, 1) := by decide +kernel
theorem dL_law_712 : decode cL_law 712 = .ok (.iload 5, 2) := by decide +kernel
theorem dL_law_714 : decode cL_law 714 = .ok (.iconst 1, 1) := by decide +kernel
theorem dL_law_715 : decode cL_law 715 = .ok (.iadd, 1) := by decide +kernel
theorem dL_law_716 : decode cL_law 716 = .ok (.iaload, 1) := by decide +kernel
theorem dL_law_717 : decode cL_law 717 = .ok (.aload_n 0, 1) := by decide +kernel
theorem dL_law_718 : decode cL_law 718 = .ok (.iload 5, 2) := by decide +kernel
theorem dL_law_720 : decode cL_law 720 = .ok (.iconst 2, 1) := by decide +kernel
theorem dL_law_721 : decode cL_law 721 = .ok (.iadd, 1) := by decide +kernel
theorem dL_law_722 : decode cL_law 722 = .ok (.iaload, 1) := by decide +kernel
theorem dL_law_723 : decode cL_law 723 = .ok (.aload_n 3, 1) := by decide +kernel
theorem dL_law_724 : decode cL_law 724 = .ok (.invokestatic 207, 3) := by decide +kernel
theorem dL_law_727 : decode cL_law 727 = .ok (.istore 6, 2) := by decide +kernel
theorem dL_law_729 : decode cL_law 729 = .ok (.aload_n 2, 1) := by decide +kernel
theorem dL_law_730 : decode cL_law 730 = .ok (.aload_n 0, 1) := by decide +kernel
theorem dL_law_731 : decode cL_law 731 = .ok (.iload 5, 2) := by decide +kernel
theorem dL_law_733 : decode cL_law 733 = .ok (.iconst 1, 1) := by decide +kernel
theorem dL_law_734 : decode cL_law 734 = .ok (.iadd, 1) := by decide +kernel
theorem dL_law_735 : decode cL_law 735 = .ok (.iaload, 1) := by decide +kernel
theorem dL_law_736 : decode cL_law 736 = .ok (.aload_n 0, 1) := by decide +kernel
theorem dL_law_737 : decode cL_law 737 = .ok (.iload 5, 2) := by decide +kernel
theorem dL_law_739 : decode cL_law 739 = .ok (.iconst 2, 1) := by decide +kernel
theorem dL_law_740 : decode cL_law 740 = .ok (.iadd, 1) := by decide +kernel
theorem dL_law_741 : decode cL_law 741 = .ok (.iaload, 1) := by decide +kernel
theorem dL_law_742 : decode cL_law 742 = .ok (.invokevirtual 210, 3) := by decide +kernel
theorem dL_law_745 : decode cL_law 745 = .ok (.istore 7, 2) := by decide +kernel
theorem dL_law_747 : decode cL_law 747 = .ok (.goto 1117, 3) := by decide +kernel
theorem dL_law_750 : decode cL_law 750 = .ok (.aload_n 1, 1) := by decide +kernel
theorem dL_law_751 : decode cL_law 751 = .ok (.aload_n 0, 1) := by decide +kernel
theorem dL_law_752 : decode cL_law 752 = .ok (.iload 5, 2) := by decide +kernel
theorem dL_law_754 : decode cL_law 754 = .ok (.iconst 1, 1) := by decide +kernel
theorem dL_law_755 : decode cL_law 755 = .ok (.iadd, 1) := by decide +kernel
theorem dL_law_756 : decode cL_law 756 = .ok (.iaload, 1) := by decide +kernel
theorem dL_law_757 : decode cL_law 757 = .ok (.aload_n 3, 1) := by decide +kernel
theorem dL_law_758 : decode cL_law 758 = .ok (.invokestatic 211, 3) := by decide +kernel
theorem dL_law_761 : decode cL_law 761 = .ok (.istore 6, 2) := by decide +kernel
theorem dL_law_763 : decode cL_law 763 = .ok (.aload_n 2, 1) := by decide +kernel
theorem dL_law_764 : decode cL_law 764 = .ok (.aload_n 0, 1) := by decide +kernel
theorem dL_law_765 : decode cL_law 765 = .ok (.iload 5, 2) := by decide +kernel
theorem dL_law_767 : decode cL_law 767 = .ok (.iconst 1, 1) := by decide +kernel
theorem dL_law_768 : decode cL_law 768 = .ok (.iadd, 1) := by decide +kernel
theorem dL_law_769 : decode cL_law 769 = .ok (.iaload, 1) := by decide +kernel
theorem dL_law_770 : decode cL_law 770 = .ok (.invokevirtual 213, 3) := by decide +kernel
theorem dL_law_773 : decode cL_law 773 = .ok (.istore 7, 2) := by decide +kernel
theorem dL_law_775 : decode cL_law 775 = .ok (.goto 1089, 3) := by decide +kernel
theorem dL_law_778 : decode cL_law 778 = .ok (.aload_n 1, 1) := by decide +kernel
theorem dL_law_779 : decode cL_law 779 = .ok (.aload_n 0, 1) := by decide +kernel
theorem dL_law_780 : decode cL_law 780 = .ok (.iload 5, 2) := by decide +kernel
theorem dL_law_782 : decode cL_law 782 = .ok (.iconst 1, 1) := by decide +kernel
theorem dL_law_783 : decode cL_law 783 = .ok (.iadd, 1) := by decide +kernel
theorem dL_law_784 : decode cL_law 784 = .ok (.iaload, 1) := by decide +kernel
theorem dL_law_785 : decode cL_law 785 = .ok (.aload_n 0, 1) := by decide +kernel
theorem dL_law_786 : decode cL_law 786 = .ok (.iload 5, 2) := by decide +kernel
theorem dL_law_788 : decode cL_law 788 = .ok (.iconst 2, 1) := by decide +kernel
theorem dL_law_789 : decode cL_law 789 = .ok (.iadd, 1) := by decide +kernel
theorem dL_law_790 : decode cL_law 790 = .ok (.iaload, 1) := by decide +kernel
theorem dL_law_791 : decode cL_law 791 = .ok (.aload_n 3, 1) := by decide +kernel
theorem dL_law_792 : decode cL_law 792 = .ok (.invokestatic 214, 3) := by decide +kernel
theorem dL_law_795 : decode cL_law 795 = .ok (.istore 6, 2) := by decide +kernel
theorem dL_law_797 : decode cL_law 797 = .ok (.aload_n 2, 1) := by decide +kernel
theorem dL_law_798 : decode cL_law 798 = .ok (.aload_n 0, 1) := by decide +kernel
theorem dL_law_799 : decode cL_law 799 = .ok (.iload 5, 2) := by decide +kernel
theorem dL_law_801 : decode cL_law 801 = .ok (.iconst 1, 1) := by decide +kernel
theorem dL_law_802 : decode cL_law 802 = .ok (.iadd, 1) := by decide +kernel
theorem dL_law_803 : decode cL_law 803 = .ok (.iaload, 1) := by decide +kernel
theorem dL_law_804 : decode cL_law 804 = .ok (.aload_n 0, 1) := by decide +kernel
theorem dL_law_805 : decode cL_law 805 = .ok (.iload 5, 2) := by decide +kernel
theorem dL_law_807 : decode cL_law 807 = .ok (.iconst 2, 1) := by decide +kernel
theorem dL_law_808 : decode cL_law 808 = .ok (.iadd, 1) := by decide +kernel
theorem dL_law_809 : decode cL_law 809 = .ok (.iaload, 1) := by decide +kernel
theorem dL_law_810 : decode cL_law 810 = .ok (.invokevirtual 216, 3) := by decide +kernel
theorem dL_law_813 : decode cL_law 813 = .ok (.istore 7, 2) := by decide +kernel
theorem dL_law_815 : decode cL_law 815 = .ok (.goto 1049, 3) := by decide +kernel
theorem dL_law_818 : decode cL_law 818 = .ok (.aload_n 1, 1) := by decide +kernel
theorem dL_law_819 : decode cL_law 819 = .ok (.aload_n 0, 1) := by decide +kernel
theorem dL_law_820 : decode cL_law 820 = .ok (.iload 5, 2) := by decide +kernel
theorem dL_law_822 : decode cL_law 822 = .ok (.iconst 1, 1) := by decide +kernel
theorem dL_law_823 : decode cL_law 823 = .ok (.iadd, 1) := by decide +kernel
theorem dL_law_824 : decode cL_law 824 = .ok (.iaload, 1) := by decide +kernel
theorem dL_law_825 : decode cL_law 825 = .ok (.aload_n 3, 1) := by decide +kernel
theorem dL_law_826 : decode cL_law 826 = .ok (.invokestatic 217, 3) := by decide +kernel
theorem dL_law_829 : decode cL_law 829 = .ok (.istore 6, 2) := by decide +kernel
theorem dL_law_831 : decode cL_law 831 = .ok (.aload_n 2, 1) := by decide +kernel
theorem dL_law_832 : decode cL_law 832 = .ok (.aload_n 0, 1) := by decide +kernel
theorem dL_law_833 : decode cL_law 833 = .ok (.iload 5, 2) := by decide +kernel
theorem dL_law_835 : decode cL_law 835 = .ok (.iconst 1, 1) := by decide +kernel
theorem dL_law_836 : decode cL_law 836 = .ok (.iadd, 1) := by decide +kernel
theorem dL_law_837 : decode cL_law 837 = .ok (.iaload, 1) := by decide +kernel
theorem dL_law_838 : decode cL_law 838 = .ok (.invokevirtual 219, 3) := by decide +kernel
theorem dL_law_841 : decode cL_law 841 = .ok (.istore 7, 2) := by decide +kernel
theorem dL_law_843 : decode cL_law 843 = .ok (.goto 1021, 3) := by decide +kernel
theorem dL_law_846 : decode cL_law 846 = .ok (.aload_n 1, 1) := by decide +kernel
theorem dL_law_847 : decode cL_law 847 = .ok (.aload_n 0, 1) := by decide +kernel
theorem dL_law_848 : decode cL_law 848 = .ok (.iload 5, 2) := by decide +kernel
theorem dL_law_850 : decode cL_law 850 = .ok (.iconst 1, 1) := by decide +kernel
theorem dL_law_851 : decode cL_law 851 = .ok (.iadd, 1) := by decide +kernel
theorem dL_law_852 : decode cL_law 852 = .ok (.iaload, 1) := by decide +kernel
theorem dL_law_853 : decode cL_law 853 = .ok (.aload_n 3, 1) := by decide +kernel
theorem dL_law_854 : decode cL_law 854 = .ok (.invokestatic 220, 3) := by decide +kernel
theorem dL_law_857 : decode cL_law 857 = .ok (.istore 6, 2) := by decide +kernel
theorem dL_law_859 : decode cL_law 859 = .ok (.aload_n 2, 1) := by decide +kernel
theorem dL_law_860 : decode cL_law 860 = .ok (.aload_n 0, 1) := by decide +kernel
theorem dL_law_861 : decode cL_law 861 = .ok (.iload 5, 2) := by decide +kernel
theorem dL_law_863 : decode cL_law 863 = .ok (.iconst 1, 1) := by decide +kernel
theorem dL_law_864 : decode cL_law 864 = .ok (.iadd, 1) := by decide +kernel
theorem dL_law_865 : decode cL_law 865 = .ok (.iaload, 1) := by decide +kernel
theorem dL_law_866 : decode cL_law 866 = .ok (.invokevirtual 222, 3) := by decide +kernel
theorem dL_law_869 : decode cL_law 869 = .ok (.istore 7, 2) := by decide +kernel
theorem dL_law_871 : decode cL_law 871 = .ok (.goto 993, 3) := by decide +kernel
theorem dL_law_874 : decode cL_law 874 = .ok (.aload_n 1, 1) := by decide +kernel
theorem dL_law_875 : decode cL_law 875 = .ok (.aload_n 0, 1) := by decide +kernel
theorem dL_law_876 : decode cL_law 876 = .ok (.iload 5, 2) := by decide +kernel
theorem dL_law_878 : decode cL_law 878 = .ok (.iconst 1, 1) := by decide +kernel
theorem dL_law_879 : decode cL_law 879 = .ok (.iadd, 1) := by decide +kernel
theorem dL_law_880 : decode cL_law 880 = .ok (.iaload, 1) := by decide +kernel
theorem dL_law_881 : decode cL_law 881 = .ok (.aload_n 3, 1) := by decide +kernel
theorem dL_law_882 : decode cL_law 882 = .ok (.invokestatic 223, 3) := by decide +kernel
theorem dL_law_885 : decode cL_law 885 = .ok (.istore 6, 2) := by decide +kernel
theorem dL_law_887 : decode cL_law 887 = .ok (.aload_n 2, 1) := by decide +kernel
theorem dL_law_888 : decode cL_law 888 = .ok (.aload_n 0, 1) := by decide +kernel
theorem dL_law_889 : decode cL_law 889 = .ok (.iload 5, 2) := by decide +kernel
theorem dL_law_891 : decode cL_law 891 = .ok (.iconst 1, 1) := by decide +kernel
theorem dL_law_892 : decode cL_law 892 = .ok (.iadd, 1) := by decide +kernel
theorem dL_law_893 : decode cL_law 893 = .ok (.iaload, 1) := by decide +kernel
theorem dL_law_894 : decode cL_law 894 = .ok (.invokevirtual 225, 3) := by decide +kernel
theorem dL_law_897 : decode cL_law 897 = .ok (.istore 7, 2) := by decide +kernel
theorem dL_law_899 : decode cL_law 899 = .ok (.goto 965, 3) := by decide +kernel
theorem dL_law_902 : decode cL_law 902 = .ok (.aload_n 1, 1) := by decide +kernel
theorem dL_law_903 : decode cL_law 903 = .ok (.aload_n 0, 1) := by decide +kernel
theorem dL_law_904 : decode cL_law 904 = .ok (.iload 5, 2) := by decide +kernel
theorem dL_law_906 : decode cL_law 906 = .ok (.iconst 1, 1) := by decide +kernel
theorem dL_law_907 : decode cL_law 907 = .ok (.iadd, 1) := by decide +kernel
theorem dL_law_908 : decode cL_law 908 = .ok (.iaload, 1) := by decide +kernel
theorem dL_law_909 : decode cL_law 909 = .ok (.aload_n 3, 1) := by decide +kernel
theorem dL_law_910 : decode cL_law 910 = .ok (.invokestatic 226, 3) := by decide +kernel
theorem dL_law_913 : decode cL_law 913 = .ok (.istore 6, 2) := by decide +kernel
theorem dL_law_915 : decode cL_law 915 = .ok (.aload_n 2, 1) := by decide +kernel
theorem dL_law_916 : decode cL_law 916 = .ok (.aload_n 0, 1) := by decide +kernel
theorem dL_law_917 : decode cL_law 917 = .ok (.iload 5, 2) := by decide +kernel
theorem dL_law_919 : decode cL_law 919 = .ok (.iconst 1, 1) := by decide +kernel
theorem dL_law_920 : decode cL_law 920 = .ok (.iadd, 1) := by decide +kernel
theorem dL_law_921 : decode cL_law 921 = .ok (.iaload, 1) := by decide +kernel
theorem dL_law_922 : decode cL_law 922 = .ok (.invokevirtual 228, 3) := by decide +kernel
theorem dL_law_925 : decode cL_law 925 = .ok (.istore 7, 2) := by decide +kernel
theorem dL_law_927 : decode cL_law 927 = .ok (.goto 937, 3) := by decide +kernel
set_option maxRecDepth 100000 in
set_option maxHeartbeats 4000000 in
theorem lg_9 (X : LX p l s m meth c D cy σ0 eda ca ia ad τ q0 x0 sa L xs) (ht : t < 512) (hc0 : c0 ≤ 40000) (hn0 : n0 ≤ 400000) (hI : LI D cy s σ0 eda ia ad τ q0 x0 av qv fd a0 oa od t c0 n0 H locs k N) (hi : i.toInt = 6 * (t : Int)) (hL : 6 * t + 6 ≤ L) (hl : lv_has ls 9 [(5, .int i), (4, .ref od), (3, .ref oa), (2, .ref a0), (1, .ref x0), (0, .ref sa)]) (hE : ∀ (H : Heap) (locs : List Loc) (k N : Nat) (ls : Array Slot), LI D cy s σ0 eda ia ad τ q0 x0 av qv fd a0 oa od (t + 1) c0 n0 H locs k N → lv_has ls 9 [(5, .int i), (4, .ref od), (3, .ref oa), (2, .ref a0), (1, .ref x0), (0, .ref sa)] → W p l e room_1 s m #[Value.ref sa] below meth c H locs k N Q (F0 m 1864 ls [])) : W p l e room_1 s m #[Value.ref sa] below meth c H locs k N Q (F0 m 666 ls []) := by
  obtain ⟨F, hst, hs, hr0, hr1, hTT, hXs, hbl, hbA, hp0, hL9⟩ := X
  obtain ⟨hx, hb, hml, hown, hts⟩ := id F.1
  obtain ⟨σ, K, g, n, S, hw, nn, w, f, fD, hB, hnn, hk, hSS, hV, hKa, hY, hH, hO, hD, ht9, hC⟩ := hI
  subst hKa
  refine lv_aload_n hx hb dL_law_666 rfl (lv_at hl 4 rfl) ?_
  refine lv_aload_n hx hb dL_law_667 rfl (lv_at hl 5 rfl) ?_
  refine lv_iload hx hb dL_law_668 (lv_at hl 0 rfl) ?_
  refine lv_iconst (v := 1) hx hb dL_law_670 (by decide) ?_
  refine lv_iadd hx hb dL_law_671 ?_
  refine va_sld hx hb hXs hbl hbA hB.1.2.2 (lx_in hi hL hL9 (k := 1) (by decide)) dL_law_672 ?_
  refine lv_aload_n hx hb dL_law_673 rfl (lv_at hl 2 rfl) ?_
  refine lw_wk (wr := [(od, .inl (cy 3, 1, .inr (.inr (.inr (.inl fD)))))]) (rest := []) (vx_runSW (g := F0 m 674 ls _) (As := [.ref x0, .int (xs (i + 1).toNatClampNeg), .ref oa]) (rest := []) F.1 (w_addressOf l D cy hst _ oa _ hs ht9 hr0 hr1 ((xs (i + 1).toNatClampNeg))) (vx_cwSW 3 hts (lwS lxl_ (lx_ _ (List.mem_of_getElem? (i := 240) rfl)) (lx_ _ (List.mem_of_getElem? (i := 241) rfl)) (lx_ _ (List.mem_of_getElem? (i := 177) rfl)) (lx_ _ (List.mem_of_getElem? (i := 242) rfl))) rfl rfl rfl ⟨by decide, by decide, by decide +kernel⟩ ⟨Nat.le_of_ble_eq_true rfl, Nat.le_of_ble_eq_true rfl⟩) ⟨vi_px_blind, vi_px hO.1.right hD.right F.2.1 F.2.2.1 hTT hB.1.2.2 sgB_A⟩ rfl rfl hl.1 rfl (lv_room (Nat.le_of_ble_eq_true rfl)) dL_law_674 ⟨rm_c (show _ + 1 ≤ 606000 by omega), rm_s (show _ + 6 * 1 ≤ 7100000 by have := hB.2.2; omega)⟩) hB hO hD ht9 (fun H locs kx1 w2 f1 hB hO hD ht1 hk9 => ?_)
  obtain ⟨w3, hC, hO, hD, ht9⟩ := CS_kept (a := (od, .inl (cy 3, 1, .inr (.inr (.inr (.inl fD)))))) hC ht1 hk9 (by decide +kernel) (by decide +kernel) hO hD
  have hO : lwO D σ ([(od, .inl (cy 3, 1, .inr (.inr (.inr (.inl fD)))))] ++ (oa, .inl (cy 2, 1, .inr (.inl f1))) :: w3) H := hO
  have hD : va_D (sgA σ0 s.heap.size) ([(od, .inl (cy 3, 1, .inr (.inr (.inr (.inl fD)))))] ++ (oa, .inl (cy 2, 1, .inr (.inl f1))) :: w3) := hD
  refine lv_istore (lv' := [(6, .int kx1), (5, .int i), (4, .ref od), (3, .ref oa), (2, .ref (kA K)), (1, .ref x0), (0, .ref sa)]) hx hb dL_law_677 hl (by decide) rfl (fun ls hl => ?_)
  refine lv_aload_n hx hb dL_law_679 rfl (lv_at hl 4 rfl) ?_
  refine lv_aload_n hx hb dL_law_680 rfl (lv_at hl 6 rfl) ?_
  refine lv_iload hx hb dL_law_681 (lv_at hl 1 rfl) ?_
  refine lv_iconst (v := 1) hx hb dL_law_683 (by decide) ?_
  refine lv_iadd hx hb dL_law_684 ?_
  refine va_sld hx hb hXs hbl hbA hB.1.2.2 (lx_in hi hL hL9 (k := 1) (by decide)) dL_law_685 ?_
  refine lw_callV (ci := 19) (b := kA K) (As := [.int (xs (i + 1).toNatClampNeg)]) (rest := []) F hB hO (m_addressOf l D cy hV ((xs (i + 1).toNatClampNeg)) _) (cwV 1 hts (lwV lxm_ (lx_ _ (List.mem_of_getElem? (i := 243) rfl)) (lx_ _ (List.mem_of_getElem? (i := 244) rfl)) (lx_ _ (List.mem_of_getElem? (i := 245) rfl)) (lx_ _ (List.mem_of_getElem? (i := 182) rfl)) (lx_ _ (List.mem_of_getElem? (i := 246) rfl))) rfl rfl rfl ⟨rfl, by decide, by decide, by decide +kernel⟩ ⟨Nat.le_of_ble_eq_true rfl, Nat.le_of_ble_eq_true rfl⟩) rfl rfl (by decide) rfl hl.1 rfl (Nat.le_of_ble_eq_true rfl) dL_law_686 (rm_c (show _ + 0 ≤ 606000 by omega)) (rm_s (show _ + 0 + sgPot σ0 ≤ 7100000 by omega)) (inv_Mr hV).1 (fun H locs v σ N hB hX hP hO => ?_)
  obtain ⟨⟨y5, rfl⟩, hV⟩ := hP
  refine lv_istore (lv' := [(7, .int y5), (6, .int kx1), (5, .int i), (4, .ref od), (3, .ref oa), (2, .ref (kA K)), (1, .ref x0), (0, .ref sa)]) hx hb dL_law_689 hl (by decide) rfl (fun ls hl => ?_)
  refine lv_goto (tgt := 1864) hx hb dL_law_691 (by decide) ?_
  exact hE _ _ _ _ _ ⟨σ, K, g, n, S, hw, _, w3, f1, fD, hB, by omega, by omega, by omega, hV, rfl, hY, hH, hO, hD, ht9, CS_up hC (by omega)⟩ (lv_sub hl [2, 3, 4, 5, 6, 7] rfl)

set_option maxRecDepth 100000 in
set_option maxHeartbeats 4000000 in
theorem lg_10 (X : LX p l s m meth c D cy σ0 eda ca ia ad τ q0 x0 sa L xs) (ht : t < 512) (hc0 : c0 ≤ 40000) (hn0 : n0 ≤ 400000) (hI : LI D cy s σ0 eda ia ad τ q0 x0 av qv fd a0 oa od t c0 n0 H locs k N) (hi : i.toInt = 6 * (t : Int)) (hL : 6 * t + 6 ≤ L) (hl : lv_has ls 9 [(5, .int i), (4, .ref od), (3, .ref oa), (2, .ref a0), (1, .ref x0), (0, .ref sa)]) (hE : ∀ (H : Heap) (locs : List Loc) (k N : Nat) (ls : Array Slot), LI D cy s σ0 eda ia ad τ q0 x0 av qv fd a0 oa od (t + 1) c0 n0 H locs k N → lv_has ls 9 [(5, .int i), (4, .ref od), (3, .ref oa), (2, .ref a0), (1, .ref x0), (0, .ref sa)] → W p l e room_1 s m #[Value.ref sa] below meth c H locs k N Q (F0 m 1864 ls [])) : W p l e room_1 s m #[Value.ref sa] below meth c H locs k N Q (F0 m 694 ls []) := by
  obtain ⟨F, hst, hs, hr0, hr1, hTT, hXs, hbl, hbA, hp0, hL9⟩ := X
  obtain ⟨hx, hb, hml, hown, hts⟩ := id F.1
  obtain ⟨σ, K, g, n, S, hw, nn, w, f, fD, hB, hnn, hk, hSS, hV, hKa, hY, hH, hO, hD, ht9, hC⟩ := hI
  subst hKa
  refine lv_aload_n hx hb dL_law_694 rfl (lv_at hl 4 rfl) ?_
  refine lv_aload_n hx hb dL_law_695 rfl (lv_at hl 2 rfl) ?_
  refine lw_wkS (wr := [(od, .inl (cy 3, 1, .inr (.inr (.inr (.inl fD)))))]) (rest := []) (vx_runSW (g := F0 m 696 ls _) (As := [.ref x0, .ref oa]) (rest := []) F.1 (ws_look l D cy hst _ oa _ hs hr1 hC ) (vx_cwSW 2 hts (lwS lxl_ (lx_ _ (List.mem_of_getElem? (i := 247) rfl)) (lx_ _ (List.mem_of_getElem? (i := 248) rfl)) (lx_ _ (List.mem_of_getElem? (i := 177) rfl)) (lx_ _ (List.mem_of_getElem? (i := 249) rfl))) rfl rfl rfl ⟨by decide, by decide, by decide +kernel⟩ ⟨Nat.le_of_ble_eq_true rfl, Nat.le_of_ble_eq_true rfl⟩) ⟨vi_px_blind, vi_px hO.1.right hD.right F.2.1 F.2.2.1 hTT hB.1.2.2 sgB_A⟩ rfl rfl hl.1 rfl (lv_room (Nat.le_of_ble_eq_true rfl)) dL_law_696 ⟨rm_c (show _ + 1 ≤ 606000 by omega), rm_s (show _ + 6 * 1 ≤ 7100000 by have := hB.2.2; omega)⟩) hB hO hD ht9 (fun H locs kx1 w2 f1 hB hO hD ht1 hC => ?_)
  have ht9 := ht1
  refine lv_istore (lv' := [(6, .int kx1), (5, .int i), (4, .ref od), (3, .ref oa), (2, .ref (kA K)), (1, .ref x0), (0, .ref sa)]) hx hb dL_law_699 hl (by decide) rfl (fun ls hl => ?_)
  refine lv_aload_n hx hb dL_law_701 rfl (lv_at hl 4 rfl) ?_
  refine lw_callV (ci := 19) (b := kA K) (As := []) (rest := []) F hB hO (m_look l D cy hV hY _) (cwV 0 hts (lwV lxm_ (lx_ _ (List.mem_of_getElem? (i := 250) rfl)) (lx_ _ (List.mem_of_getElem? (i := 251) rfl)) (lx_ _ (List.mem_of_getElem? (i := 252) rfl)) (lx_ _ (List.mem_of_getElem? (i := 182) rfl)) (lx_ _ (List.mem_of_getElem? (i := 253) rfl))) rfl rfl rfl ⟨rfl, by decide, by decide, by decide +kernel⟩ ⟨Nat.le_of_ble_eq_true rfl, Nat.le_of_ble_eq_true rfl⟩) rfl rfl (by decide) rfl hl.1 rfl (Nat.le_of_ble_eq_true rfl) dL_law_702 (rm_c (show _ + 17 ≤ 606000 by omega)) (rm_s (show _ + 124 + sgPot σ0 ≤ 7100000 by omega)) (inv_Mr hV).1 (fun H locs v σ N hB hX hP hO => ?_)
  obtain ⟨⟨y4, rfl⟩, hV⟩ := hP
  refine lv_istore (lv' := [(7, .int y4), (6, .int kx1), (5, .int i), (4, .ref od), (3, .ref oa), (2, .ref (kA K)), (1, .ref x0), (0, .ref sa)]) hx hb dL_law_705 hl (by decide) rfl (fun ls hl => ?_)
  refine lv_goto (tgt := 1864) hx hb dL_law_707 (by decide) ?_
  exact hE _ _ _ _ _ ⟨σ, K, g, n, S, hw, _, w2, f1, fD, hB, by omega, by omega, by omega, hV, rfl, hY, hH, hO, hD, ht9, CS_up hC (by omega)⟩ (lv_sub hl [2, 3, 4, 5, 6, 7] rfl)

set_option maxRecDepth 100000 in
set_option maxHeartbeats 4000000 in
theorem lg_11 (X : LX p l s m meth c D cy σ0 eda ca ia ad τ q0 x0 sa L xs) (ht : t < 512) (hc0 : c0 ≤ 40000) (hn0 : n0 ≤ 400000) (hI : LI D cy s σ0 eda ia ad τ q0 x0 av qv fd a0 oa od t c0 n0 H locs k N) (hi : i.toInt = 6 * (t : Int)) (hL : 6 * t + 6 ≤ L) (hl : lv_has ls 9 [(5, .int i), (4, .ref od), (3, .ref oa), (2, .ref a0), (1, .ref x0), (0, .ref sa)]) (hE : ∀ (H : Heap) (locs : List Loc) (k N : Nat) (ls : Array Slot), LI D cy s σ0 eda ia ad τ q0 x0 av qv fd a0 oa od (t + 1) c0 n0 H locs k N → lv_has ls 9 [(5, .int i), (4, .ref od), (3, .ref oa), (2, .ref a0), (1, .ref x0), (0, .ref sa)] → W p l e room_1 s m #[Value.ref sa] below meth c H locs k N Q (F0 m 1864 ls [])) : W p l e room_1 s m #[Value.ref sa] below meth c H locs k N Q (F0 m 710 ls []) := by
  obtain ⟨F, hst, hs, hr0, hr1, hTT, hXs, hbl, hbA, hp0, hL9⟩ := X
  obtain ⟨hx, hb, hml, hown, hts⟩ := id F.1
  obtain ⟨σ, K, g, n, S, hw, nn, w, f, fD, hB, hnn, hk, hSS, hV, hKa, hY, hH, hO, hD, ht9, hC⟩ := hI
  subst hKa
  refine lv_aload_n hx hb dL_law_710 rfl (lv_at hl 4 rfl) ?_
  refine lv_aload_n hx hb dL_law_711 rfl (lv_at hl 5 rfl) ?_
  refine lv_iload hx hb dL_law_712 (lv_at hl 0 rfl) ?_
  refine lv_iconst (v := 1) hx hb dL_law_714 (by decide) ?_
  refine lv_iadd hx hb dL_law_715 ?_
  refine va_sld hx hb hXs hbl hbA hB.1.2.2 (lx_in hi hL hL9 (k := 1) (by decide)) dL_law_716 ?_
  refine lv_aload_n hx hb dL_law_717 rfl (lv_at hl 5 rfl) ?_
  refine lv_iload hx hb dL_law_718 (lv_at hl 0 rfl) ?_
  refine lv_iconst (v := 2) hx hb dL_law_720 (by decide) ?_
  refine lv_iadd hx hb dL_law_721 ?_
  refine va_sld hx hb hXs hbl hbA hB.1.2.2 (lx_in hi hL hL9 (k := 2) (by decide)) dL_law_722 ?_
  refine lv_aload_n hx hb dL_law_723 rfl (lv_at hl 2 rfl) ?_
  refine lw_wk (wr := [(od, .inl (cy 3, 1, .inr (.inr (.inr (.inl fD)))))]) (rest := []) (vx_runSW (g := F0 m 724 ls _) (As := [.ref x0, .int (xs (i + 1).toNatClampNeg), .int (xs (i + 2).toNatClampNeg), .ref oa]) (rest := []) F.1 (w_driver l D cy hst _ oa _ hs ht9 hr0 hr1 ((xs (i + 1).toNatClampNeg)) ((xs (i + 2).toNatClampNeg))) (vx_cwSW 4 hts (lwS lxl_ (lx_ _ (List.mem_of_getElem? (i := 254) rfl)) (lx_ _ (List.mem_of_getElem? (i := 255) rfl)) (lx_ _ (List.mem_of_getElem? (i := 177) rfl)) (lx_ _ (List.mem_of_getElem? (i := 256) rfl))) rfl rfl rfl ⟨by decide, by decide, by decide +kernel⟩ ⟨Nat.le_of_ble_eq_true rfl, Nat.le_of_ble_eq_true rfl⟩) ⟨vi_px_blind, vi_px hO.1.right hD.right F.2.1 F.2.2.1 hTT hB.1.2.2 sgB_A⟩ rfl rfl hl.1 rfl (lv_room (Nat.le_of_ble_eq_true rfl)) dL_law_724 ⟨rm_c (show _ + 1 ≤ 606000 by omega), rm_s (show _ + 6 * 1 ≤ 7100000 by have := hB.2.2; omega)⟩) hB hO hD ht9 (fun H locs kx1 w2 f1 hB hO hD ht1 hk9 => ?_)
  obtain ⟨w3, hC, hO, hD, ht9⟩ := CS_kept (a := (od, .inl (cy 3, 1, .inr (.inr (.inr (.inl fD)))))) hC ht1 hk9 (by decide +kernel) (by decide +kernel) hO hD
  have hO : lwO D σ ([(od, .inl (cy 3, 1, .inr (.inr (.inr (.inl fD)))))] ++ (oa, .inl (cy 2, 1, .inr (.inl f1))) :: w3) H := hO
  have hD : va_D (sgA σ0 s.heap.size) ([(od, .inl (cy 3, 1, .inr (.inr (.inr (.inl fD)))))] ++ (oa, .inl (cy 2, 1, .inr (.inl f1))) :: w3) := hD
  refine lv_istore (lv' := [(6, .int kx1), (5, .int i), (4, .ref od), (3, .ref oa), (2, .ref (kA K)), (1, .ref x0), (0, .ref sa)]) hx hb dL_law_727 hl (by decide) rfl (fun ls hl => ?_)
  refine lv_aload_n hx hb dL_law_729 rfl (lv_at hl 4 rfl) ?_
  refine lv_aload_n hx hb dL_law_730 rfl (lv_at hl 6 rfl) ?_
  refine lv_iload hx hb dL_law_731 (lv_at hl 1 rfl) ?_
  refine lv_iconst (v := 1) hx hb dL_law_733 (by decide) ?_
  refine lv_iadd hx hb dL_law_734 ?_
  refine va_sld hx hb hXs hbl hbA hB.1.2.2 (lx_in hi hL hL9 (k := 1) (by decide)) dL_law_735 ?_
  refine lv_aload_n hx hb dL_law_736 rfl (lv_at hl 6 rfl) ?_
  refine lv_iload hx hb dL_law_737 (lv_at hl 1 rfl) ?_
  refine lv_iconst (v := 2) hx hb dL_law_739 (by decide) ?_
  refine lv_iadd hx hb dL_law_740 ?_
  refine va_sld hx hb hXs hbl hbA hB.1.2.2 (lx_in hi hL hL9 (k := 2) (by decide)) dL_law_741 ?_
  refine lw_callV (ci := 19) (b := kA K) (As := [.int (xs (i + 1).toNatClampNeg), .int (xs (i + 2).toNatClampNeg)]) (rest := []) F hB hO (m_driver l D cy hV ((xs (i + 1).toNatClampNeg)) ((xs (i + 2).toNatClampNeg)) _) (cwV 2 hts (lwV lxm_ (lx_ _ (List.mem_of_getElem? (i := 257) rfl)) (lx_ _ (List.mem_of_getElem? (i := 258) rfl)) (lx_ _ (List.mem_of_getElem? (i := 259) rfl)) (lx_ _ (List.mem_of_getElem? (i := 182) rfl)) (lx_ _ (List.mem_of_getElem? (i := 260) rfl))) rfl rfl rfl ⟨rfl, by decide, by decide, by decide +kernel⟩ ⟨Nat.le_of_ble_eq_true rfl, Nat.le_of_ble_eq_true rfl⟩) rfl rfl (by decide) rfl hl.1 rfl (Nat.le_of_ble_eq_true rfl) dL_law_742 (rm_c (show _ + 2 ≤ 606000 by omega)) (rm_s (show _ + 17 + sgPot σ0 ≤ 7100000 by omega)) (inv_Mr hV).1 (fun H locs v σ N hB hX hP hO => ?_)
  obtain ⟨y5, rfl, hV, -⟩ := hP
  refine lv_istore (lv' := [(7, .int y5), (6, .int kx1), (5, .int i), (4, .ref od), (3, .ref oa), (2, .ref (kA K)), (1, .ref x0), (0, .ref sa)]) hx hb dL_law_745 hl (by decide) rfl (fun ls hl => ?_)
  refine lv_goto (tgt := 1864) hx hb dL_law_747 (by decide) ?_
  exact hE _ _ _ _ _ ⟨σ, K, g, n, S, hw, _, w3, f1, fD, hB, by omega, by omega, by omega, hV, rfl, hY, hH, hO, hD, ht9, CS_up hC (by omega)⟩ (lv_sub hl [2, 3, 4, 5, 6, 7] rfl)

set_option maxRecDepth 100000 in
set_option maxHeartbeats 4000000 in
theorem lg_12 (X : LX p l s m meth c D cy σ0 eda ca ia ad τ q0 x0 sa L xs) (ht : t < 512) (hc0 : c0 ≤ 40000) (hn0 : n0 ≤ 400000) (hI : LI D cy s σ0 eda ia ad τ q0 x0 av qv fd a0 oa od t c0 n0 H locs k N) (hi : i.toInt = 6 * (t : Int)) (hL : 6 * t + 6 ≤ L) (hl : lv_has ls 9 [(5, .int i), (4, .ref od), (3, .ref oa), (2, .ref a0), (1, .ref x0), (0, .ref sa)]) (hE : ∀ (H : Heap) (locs : List Loc) (k N : Nat) (ls : Array Slot), LI D cy s σ0 eda ia ad τ q0 x0 av qv fd a0 oa od (t + 1) c0 n0 H locs k N → lv_has ls 9 [(5, .int i), (4, .ref od), (3, .ref oa), (2, .ref a0), (1, .ref x0), (0, .ref sa)] → W p l e room_1 s m #[Value.ref sa] below meth c H locs k N Q (F0 m 1864 ls [])) : W p l e room_1 s m #[Value.ref sa] below meth c H locs k N Q (F0 m 750 ls []) := by
  obtain ⟨F, hst, hs, hr0, hr1, hTT, hXs, hbl, hbA, hp0, hL9⟩ := X
  obtain ⟨hx, hb, hml, hown, hts⟩ := id F.1
  obtain ⟨σ, K, g, n, S, hw, nn, w, f, fD, hB, hnn, hk, hSS, hV, hKa, hY, hH, hO, hD, ht9, hC⟩ := hI
  subst hKa
  refine lv_aload_n hx hb dL_law_750 rfl (lv_at hl 4 rfl) ?_
  refine lv_aload_n hx hb dL_law_751 rfl (lv_at hl 5 rfl) ?_
  refine lv_iload hx hb dL_law_752 (lv_at hl 0 rfl) ?_
  refine lv_iconst (v := 1) hx hb dL_law_754 (by decide) ?_
  refine lv_iadd hx hb dL_law_755 ?_
  refine va_sld hx hb hXs hbl hbA hB.1.2.2 (lx_in hi hL hL9 (k := 1) (by decide)) dL_law_756 ?_
  refine lv_aload_n hx hb dL_law_757 rfl (lv_at hl 2 rfl) ?_
  refine lw_wk (wr := [(od, .inl (cy 3, 1, .inr (.inr (.inr (.inl fD)))))]) (rest := []) (vx_runSW (g := F0 m 758 ls _) (As := [.ref x0, .int (xs (i + 1).toNatClampNeg), .ref oa]) (rest := []) F.1 (w_driverOf l D cy hst _ oa _ hs ht9 hr0 hr1 ((xs (i + 1).toNatClampNeg))) (vx_cwSW 3 hts (lwS lxl_ (lx_ _ (List.mem_of_getElem? (i := 261) rfl)) (lx_ _ (List.mem_of_getElem? (i := 262) rfl)) (lx_ _ (List.mem_of_getElem? (i := 177) rfl)) (lx_ _ (List.mem_of_getElem? (i := 263) rfl))) rfl rfl rfl ⟨by decide, by decide, by decide +kernel⟩ ⟨Nat.le_of_ble_eq_true rfl, Nat.le_of_ble_eq_true rfl⟩) ⟨vi_px_blind, vi_px hO.1.right hD.right F.2.1 F.2.2.1 hTT hB.1.2.2 sgB_A⟩ rfl rfl hl.1 rfl (lv_room (Nat.le_of_ble_eq_true rfl)) dL_law_758 ⟨rm_c (show _ + 1 ≤ 606000 by omega), rm_s (show _ + 6 * 1 ≤ 7100000 by have := hB.2.2; omega)⟩) hB hO hD ht9 (fun H locs kx1 w2 f1 hB hO hD ht1 hk9 => ?_)
  obtain ⟨w3, hC, hO, hD, ht9⟩ := CS_kept (a := (od, .inl (cy 3, 1, .inr (.inr (.inr (.inl fD)))))) hC ht1 hk9 (by decide +kernel) (by decide +kernel) hO hD
  have hO : lwO D σ ([(od, .inl (cy 3, 1, .inr (.inr (.inr (.inl fD)))))] ++ (oa, .inl (cy 2, 1, .inr (.inl f1))) :: w3) H := hO
  have hD : va_D (sgA σ0 s.heap.size) ([(od, .inl (cy 3, 1, .inr (.inr (.inr (.inl fD)))))] ++ (oa, .inl (cy 2, 1, .inr (.inl f1))) :: w3) := hD
  refine lv_istore (lv' := [(6, .int kx1), (5, .int i), (4, .ref od), (3, .ref oa), (2, .ref (kA K)), (1, .ref x0), (0, .ref sa)]) hx hb dL_law_761 hl (by decide) rfl (fun ls hl => ?_)
  refine lv_aload_n hx hb dL_law_763 rfl (lv_at hl 4 rfl) ?_
  refine lv_aload_n hx hb dL_law_764 rfl (lv_at hl 6 rfl) ?_
  refine lv_iload hx hb dL_law_765 (lv_at hl 1 rfl) ?_
  refine lv_iconst (v := 1) hx hb dL_law_767 (by decide) ?_
  refine lv_iadd hx hb dL_law_768 ?_
  refine va_sld hx hb hXs hbl hbA hB.1.2.2 (lx_in hi hL hL9 (k := 1) (by decide)) dL_law_769 ?_
  refine lw_callV (ci := 19) (b := kA K) (As := [.int (xs (i + 1).toNatClampNeg)]) (rest := []) F hB hO (m_driverOf l D cy hV ((xs (i + 1).toNatClampNeg)) _) (cwV 1 hts (lwV lxm_ (lx_ _ (List.mem_of_getElem? (i := 264) rfl)) (lx_ _ (List.mem_of_getElem? (i := 265) rfl)) (lx_ _ (List.mem_of_getElem? (i := 266) rfl)) (lx_ _ (List.mem_of_getElem? (i := 182) rfl)) (lx_ _ (List.mem_of_getElem? (i := 267) rfl))) rfl rfl rfl ⟨rfl, by decide, by decide, by decide +kernel⟩ ⟨Nat.le_of_ble_eq_true rfl, Nat.le_of_ble_eq_true rfl⟩) rfl rfl (by decide) rfl hl.1 rfl (Nat.le_of_ble_eq_true rfl) dL_law_770 (rm_c (show _ + 0 ≤ 606000 by omega)) (rm_s (show _ + 0 + sgPot σ0 ≤ 7100000 by omega)) (inv_Mr hV).1 (fun H locs v σ N hB hX hP hO => ?_)
  obtain ⟨⟨y5, rfl⟩, hV⟩ := hP
  refine lv_istore (lv' := [(7, .int y5), (6, .int kx1), (5, .int i), (4, .ref od), (3, .ref oa), (2, .ref (kA K)), (1, .ref x0), (0, .ref sa)]) hx hb dL_law_773 hl (by decide) rfl (fun ls hl => ?_)
  refine lv_goto (tgt := 1864) hx hb dL_law_775 (by decide) ?_
  exact hE _ _ _ _ _ ⟨σ, K, g, n, S, hw, _, w3, f1, fD, hB, by omega, by omega, by omega, hV, rfl, hY, hH, hO, hD, ht9, CS_up hC (by omega)⟩ (lv_sub hl [2, 3, 4, 5, 6, 7] rfl)

set_option maxRecDepth 100000 in
set_option maxHeartbeats 4000000 in
theorem lg_13 (X : LX p l s m meth c D cy σ0 eda ca ia ad τ q0 x0 sa L xs) (ht : t < 512) (hc0 : c0 ≤ 40000) (hn0 : n0 ≤ 400000) (hI : LI D cy s σ0 eda ia ad τ q0 x0 av qv fd a0 oa od t c0 n0 H locs k N) (hi : i.toInt = 6 * (t : Int)) (hL : 6 * t + 6 ≤ L) (hl : lv_has ls 9 [(5, .int i), (4, .ref od), (3, .ref oa), (2, .ref a0), (1, .ref x0), (0, .ref sa)]) (hE : ∀ (H : Heap) (locs : List Loc) (k N : Nat) (ls : Array Slot), LI D cy s σ0 eda ia ad τ q0 x0 av qv fd a0 oa od (t + 1) c0 n0 H locs k N → lv_has ls 9 [(5, .int i), (4, .ref od), (3, .ref oa), (2, .ref a0), (1, .ref x0), (0, .ref sa)] → W p l e room_1 s m #[Value.ref sa] below meth c H locs k N Q (F0 m 1864 ls [])) : W p l e room_1 s m #[Value.ref sa] below meth c H locs k N Q (F0 m 778 ls []) := by
  obtain ⟨F, hst, hs, hr0, hr1, hTT, hXs, hbl, hbA, hp0, hL9⟩ := X
  obtain ⟨hx, hb, hml, hown, hts⟩ := id F.1
  obtain ⟨σ, K, g, n, S, hw, nn, w, f, fD, hB, hnn, hk, hSS, hV, hKa, hY, hH, hO, hD, ht9, hC⟩ := hI
  subst hKa
  refine lv_aload_n hx hb dL_law_778 rfl (lv_at hl 4 rfl) ?_
  refine lv_aload_n hx hb dL_law_779 rfl (lv_at hl 5 rfl) ?_
  refine lv_iload hx hb dL_law_780 (lv_at hl 0 rfl) ?_
  refine lv_iconst (v := 1) hx hb dL_law_782 (by decide) ?_
  refine lv_iadd hx hb dL_law_783 ?_
  refine va_sld hx hb hXs hbl hbA hB.1.2.2 (lx_in hi hL hL9 (k := 1) (by decide)) dL_law_784 ?_
  refine lv_aload_n hx hb dL_law_785 rfl (lv_at hl 5 rfl) ?_
  refine lv_iload hx hb dL_law_786 (lv_at hl 0 rfl) ?_
  refine lv_iconst (v := 2) hx hb dL_law_788 (by decide) ?_
  refine lv_iadd hx hb dL_law_789 ?_
  refine va_sld hx hb hXs hbl hbA hB.1.2.2 (lx_in hi hL hL9 (k := 2) (by decide)) dL_law_790 ?_
  refine lv_aload_n hx hb dL_law_791 rfl (lv_at hl 2 rfl) ?_
  refine lw_wk (wr := [(od, .inl (cy 3, 1, .inr (.inr (.inr (.inl fD)))))]) (rest := []) (vx_runSW (g := F0 m 792 ls _) (As := [.ref x0, .int (xs (i + 1).toNatClampNeg), .int (xs (i + 2).toNatClampNeg), .ref oa]) (rest := []) F.1 (w_draw l D cy hst _ oa _ hs ht9 hr0 hr1 ((xs (i + 1).toNatClampNeg)) ((xs (i + 2).toNatClampNeg))) (vx_cwSW 4 hts (lwS lxl_ (lx_ _ (List.mem_of_getElem? (i := 268) rfl)) (lx_ _ (List.mem_of_getElem? (i := 269) rfl)) (lx_ _ (List.mem_of_getElem? (i := 177) rfl)) (lx_ _ (List.mem_of_getElem? (i := 270) rfl))) rfl rfl rfl ⟨by decide, by decide, by decide +kernel⟩ ⟨Nat.le_of_ble_eq_true rfl, Nat.le_of_ble_eq_true rfl⟩) ⟨vi_px_blind, vi_px hO.1.right hD.right F.2.1 F.2.2.1 hTT hB.1.2.2 sgB_A⟩ rfl rfl hl.1 rfl (lv_room (Nat.le_of_ble_eq_true rfl)) dL_law_792 ⟨rm_c (show _ + 1 ≤ 606000 by omega), rm_s (show _ + 6 * 1 ≤ 7100000 by have := hB.2.2; omega)⟩) hB hO hD ht9 (fun H locs kx1 w2 f1 hB hO hD ht1 hk9 => ?_)
  obtain ⟨w3, hC, hO, hD, ht9⟩ := CS_kept (a := (od, .inl (cy 3, 1, .inr (.inr (.inr (.inl fD)))))) hC ht1 hk9 (by decide +kernel) (by decide +kernel) hO hD
  have hO : lwO D σ ([(od, .inl (cy 3, 1, .inr (.inr (.inr (.inl fD)))))] ++ (oa, .inl (cy 2, 1, .inr (.inl f1))) :: w3) H := hO
  have hD : va_D (sgA σ0 s.heap.size) ([(od, .inl (cy 3, 1, .inr (.inr (.inr (.inl fD)))))] ++ (oa, .inl (cy 2, 1, .inr (.inl f1))) :: w3) := hD
  refine lv_istore (lv' := [(6, .int kx1), (5, .int i), (4, .ref od), (3, .ref oa), (2, .ref (kA K)), (1, .ref x0), (0, .ref sa)]) hx hb dL_law_795 hl (by decide) rfl (fun ls hl => ?_)
  refine lv_aload_n hx hb dL_law_797 rfl (lv_at hl 4 rfl) ?_
  refine lv_aload_n hx hb dL_law_798 rfl (lv_at hl 6 rfl) ?_
  refine lv_iload hx hb dL_law_799 (lv_at hl 1 rfl) ?_
  refine lv_iconst (v := 1) hx hb dL_law_801 (by decide) ?_
  refine lv_iadd hx hb dL_law_802 ?_
  refine va_sld hx hb hXs hbl hbA hB.1.2.2 (lx_in hi hL hL9 (k := 1) (by decide)) dL_law_803 ?_
  refine lv_aload_n hx hb dL_law_804 rfl (lv_at hl 6 rfl) ?_
  refine lv_iload hx hb dL_law_805 (lv_at hl 1 rfl) ?_
  refine lv_iconst (v := 2) hx hb dL_law_807 (by decide) ?_
  refine lv_iadd hx hb dL_law_808 ?_
  refine va_sld hx hb hXs hbl hbA hB.1.2.2 (lx_in hi hL hL9 (k := 2) (by decide)) dL_law_809 ?_
  refine lw_callV (ci := 19) (b := kA K) (As := [.int (xs (i + 1).toNatClampNeg), .int (xs (i + 2).toNatClampNeg)]) (rest := []) F hB hO (m_draw l D cy hV ((xs (i + 1).toNatClampNeg)) ((xs (i + 2).toNatClampNeg)) _) (cwV 2 hts (lwV lxm_ (lx_ _ (List.mem_of_getElem? (i := 271) rfl)) (lx_ _ (List.mem_of_getElem? (i := 272) rfl)) (lx_ _ (List.mem_of_getElem? (i := 273) rfl)) (lx_ _ (List.mem_of_getElem? (i := 182) rfl)) (lx_ _ (List.mem_of_getElem? (i := 274) rfl))) rfl rfl rfl ⟨rfl, by decide, by decide, by decide +kernel⟩ ⟨Nat.le_of_ble_eq_true rfl, Nat.le_of_ble_eq_true rfl⟩) rfl rfl (by decide) rfl hl.1 rfl (Nat.le_of_ble_eq_true rfl) dL_law_810 (rm_c (show _ + 0 ≤ 606000 by omega)) (rm_s (show _ + 0 + sgPot σ0 ≤ 7100000 by omega)) (inv_Mr hV).1 (fun H locs v σ N hB hX hP hO => ?_)
  obtain ⟨⟨y5, rfl⟩, hV⟩ := hP
  refine lv_istore (lv' := [(7, .int y5), (6, .int kx1), (5, .int i), (4, .ref od), (3, .ref oa), (2, .ref (kA K)), (1, .ref x0), (0, .ref sa)]) hx hb dL_law_813 hl (by decide) rfl (fun ls hl => ?_)
  refine lv_goto (tgt := 1864) hx hb dL_law_815 (by decide) ?_
  exact hE _ _ _ _ _ ⟨σ, K, g, n, S, hw, _, w3, f1, fD, hB, by omega, by omega, by omega, hV, rfl, hY, hH, hO, hD, ht9, CS_up hC (by omega)⟩ (lv_sub hl [2, 3, 4, 5, 6, 7] rfl)

set_option maxRecDepth 100000 in
set_option maxHeartbeats 4000000 in
theorem lg_14 (X : LX p l s m meth c D cy σ0 eda ca ia ad τ q0 x0 sa L xs) (ht : t < 512) (hc0 : c0 ≤ 40000) (hn0 : n0 ≤ 400000) (hI : LI D cy s σ0 eda ia ad τ q0 x0 av qv fd a0 oa od t c0 n0 H locs k N) (hi : i.toInt = 6 * (t : Int)) (hL : 6 * t + 6 ≤ L) (hl : lv_has ls 9 [(5, .int i), (4, .ref od), (3, .ref oa), (2, .ref a0), (1, .ref x0), (0, .ref sa)]) (hE : ∀ (H : Heap) (locs : List Loc) (k N : Nat) (ls : Array Slot), LI D cy s σ0 eda ia ad τ q0 x0 av qv fd a0 oa od (t + 1) c0 n0 H locs k N → lv_has ls 9 [(5, .int i), (4, .ref od), (3, .ref oa), (2, .ref a0), (1, .ref x0), (0, .ref sa)] → W p l e room_1 s m #[Value.ref sa] below meth c H locs k N Q (F0 m 1864 ls [])) : W p l e room_1 s m #[Value.ref sa] below meth c H locs k N Q (F0 m 818 ls []) := by
  obtain ⟨F, hst, hs, hr0, hr1, hTT, hXs, hbl, hbA, hp0, hL9⟩ := X
  obtain ⟨hx, hb, hml, hown, hts⟩ := id F.1
  obtain ⟨σ, K, g, n, S, hw, nn, w, f, fD, hB, hnn, hk, hSS, hV, hKa, hY, hH, hO, hD, ht9, hC⟩ := hI
  subst hKa
  refine lv_aload_n hx hb dL_law_818 rfl (lv_at hl 4 rfl) ?_
  refine lv_aload_n hx hb dL_law_819 rfl (lv_at hl 5 rfl) ?_
  refine lv_iload hx hb dL_law_820 (lv_at hl 0 rfl) ?_
  refine lv_iconst (v := 1) hx hb dL_law_822 (by decide) ?_
  refine lv_iadd hx hb dL_law_823 ?_
  refine va_sld hx hb hXs hbl hbA hB.1.2.2 (lx_in hi hL hL9 (k := 1) (by decide)) dL_law_824 ?_
  refine lv_aload_n hx hb dL_law_825 rfl (lv_at hl 2 rfl) ?_
  refine lw_wkS (wr := [(od, .inl (cy 3, 1, .inr (.inr (.inr (.inl fD)))))]) (rest := []) (vx_runSW (g := F0 m 826 ls _) (As := [.ref x0, .int (xs (i + 1).toNatClampNeg), .ref oa]) (rest := []) F.1 (ws_sleep l D cy hst _ oa _ hs hr1 hC ((xs (i + 1).toNatClampNeg))) (vx_cwSW 3 hts (lwS lxl_ (lx_ _ (List.mem_of_getElem? (i := 275) rfl)) (lx_ _ (List.mem_of_getElem? (i := 276) rfl)) (lx_ _ (List.mem_of_getElem? (i := 177) rfl)) (lx_ _ (List.mem_of_getElem? (i := 277) rfl))) rfl rfl rfl ⟨by decide, by decide, by decide +kernel⟩ ⟨Nat.le_of_ble_eq_true rfl, Nat.le_of_ble_eq_true rfl⟩) ⟨vi_px_blind, vi_px hO.1.right hD.right F.2.1 F.2.2.1 hTT hB.1.2.2 sgB_A⟩ rfl rfl hl.1 rfl (lv_room (Nat.le_of_ble_eq_true rfl)) dL_law_826 ⟨rm_c (show _ + 3 ≤ 606000 by omega), rm_s (show _ + 6 * 3 ≤ 7100000 by have := hB.2.2; omega)⟩) hB hO hD ht9 (fun H locs kx1 w2 f1 hB hO hD ht1 hC => ?_)
  have ht9 := ht1
  refine lv_istore (lv' := [(6, .int kx1), (5, .int i), (4, .ref od), (3, .ref oa), (2, .ref (kA K)), (1, .ref x0), (0, .ref sa)]) hx hb dL_law_829 hl (by decide) rfl (fun ls hl => ?_)
  refine lv_aload_n hx hb dL_law_831 rfl (lv_at hl 4 rfl) ?_
  refine lv_aload_n hx hb dL_law_832 rfl (lv_at hl 6 rfl) ?_
  refine lv_iload hx hb dL_law_833 (lv_at hl 1 rfl) ?_
  refine lv_iconst (v := 1) hx hb dL_law_835 (by decide) ?_
  refine lv_iadd hx hb dL_law_836 ?_
  refine va_sld hx hb hXs hbl hbA hB.1.2.2 (lx_in hi hL hL9 (k := 1) (by decide)) dL_law_837 ?_
  refine lw_callV (ci := 19) (b := kA K) (As := [.int (xs (i + 1).toNatClampNeg)]) (rest := []) F hB hO (m_sleep l D cy hV ((xs (i + 1).toNatClampNeg)) _) (cwV 1 hts (lwV lxm_ (lx_ _ (List.mem_of_getElem? (i := 278) rfl)) (lx_ _ (List.mem_of_getElem? (i := 279) rfl)) (lx_ _ (List.mem_of_getElem? (i := 280) rfl)) (lx_ _ (List.mem_of_getElem? (i := 182) rfl)) (lx_ _ (List.mem_of_getElem? (i := 281) rfl))) rfl rfl rfl ⟨rfl, by decide, by decide, by decide +kernel⟩ ⟨Nat.le_of_ble_eq_true rfl, Nat.le_of_ble_eq_true rfl⟩) rfl rfl (by decide) rfl hl.1 rfl (Nat.le_of_ble_eq_true rfl) dL_law_838 (rm_c (show _ + 0 ≤ 606000 by omega)) (rm_s (show _ + 0 + sgPot σ0 ≤ 7100000 by omega)) (inv_Mr hV).1 (fun H locs v σ N hB hX hP hO => ?_)
  obtain ⟨⟨y4, rfl⟩, hV⟩ := hP
  refine lv_istore (lv' := [(7, .int y4), (6, .int kx1), (5, .int i), (4, .ref od), (3, .ref oa), (2, .ref (kA K)), (1, .ref x0), (0, .ref sa)]) hx hb dL_law_841 hl (by decide) rfl (fun ls hl => ?_)
  refine lv_goto (tgt := 1864) hx hb dL_law_843 (by decide) ?_
  exact hE _ _ _ _ _ ⟨σ, K, g, n, S, hw, _, w2, f1, fD, hB, by omega, by omega, by omega, hV, rfl, hY, hH, hO, hD, ht9, CS_up hC (by omega)⟩ (lv_sub hl [2, 3, 4, 5, 6, 7] rfl)

set_option maxRecDepth 100000 in
set_option maxHeartbeats 4000000 in
theorem lg_15 (X : LX p l s m meth c D cy σ0 eda ca ia ad τ q0 x0 sa L xs) (ht : t < 512) (hc0 : c0 ≤ 40000) (hn0 : n0 ≤ 400000) (hI : LI D cy s σ0 eda ia ad τ q0 x0 av qv fd a0 oa od t c0 n0 H locs k N) (hi : i.toInt = 6 * (t : Int)) (hL : 6 * t + 6 ≤ L) (hl : lv_has ls 9 [(5, .int i), (4, .ref od), (3, .ref oa), (2, .ref a0), (1, .ref x0), (0, .ref sa)]) (hE : ∀ (H : Heap) (locs : List Loc) (k N : Nat) (ls : Array Slot), LI D cy s σ0 eda ia ad τ q0 x0 av qv fd a0 oa od (t + 1) c0 n0 H locs k N → lv_has ls 9 [(5, .int i), (4, .ref od), (3, .ref oa), (2, .ref a0), (1, .ref x0), (0, .ref sa)] → W p l e room_1 s m #[Value.ref sa] below meth c H locs k N Q (F0 m 1864 ls [])) : W p l e room_1 s m #[Value.ref sa] below meth c H locs k N Q (F0 m 846 ls []) := by
  obtain ⟨F, hst, hs, hr0, hr1, hTT, hXs, hbl, hbA, hp0, hL9⟩ := X
  obtain ⟨hx, hb, hml, hown, hts⟩ := id F.1
  obtain ⟨σ, K, g, n, S, hw, nn, w, f, fD, hB, hnn, hk, hSS, hV, hKa, hY, hH, hO, hD, ht9, hC⟩ := hI
  subst hKa
  refine lv_aload_n hx hb dL_law_846 rfl (lv_at hl 4 rfl) ?_
  refine lv_aload_n hx hb dL_law_847 rfl (lv_at hl 5 rfl) ?_
  refine lv_iload hx hb dL_law_848 (lv_at hl 0 rfl) ?_
  refine lv_iconst (v := 1) hx hb dL_law_850 (by decide) ?_
  refine lv_iadd hx hb dL_law_851 ?_
  refine va_sld hx hb hXs hbl hbA hB.1.2.2 (lx_in hi hL hL9 (k := 1) (by decide)) dL_law_852 ?_
  refine lv_aload_n hx hb dL_law_853 rfl (lv_at hl 2 rfl) ?_
  refine lw_wkS (wr := [(od, .inl (cy 3, 1, .inr (.inr (.inr (.inl fD)))))]) (rest := []) (vx_runSW (g := F0 m 854 ls _) (As := [.ref x0, .int (xs (i + 1).toNatClampNeg), .ref oa]) (rest := []) F.1 (ws_wake l D cy hst _ oa _ hs hr1 hC ((xs (i + 1).toNatClampNeg))) (vx_cwSW 3 hts (lwS lxl_ (lx_ _ (List.mem_of_getElem? (i := 282) rfl)) (lx_ _ (List.mem_of_getElem? (i := 283) rfl)) (lx_ _ (List.mem_of_getElem? (i := 177) rfl)) (lx_ _ (List.mem_of_getElem? (i := 284) rfl))) rfl rfl rfl ⟨by decide, by decide, by decide +kernel⟩ ⟨Nat.le_of_ble_eq_true rfl, Nat.le_of_ble_eq_true rfl⟩) ⟨vi_px_blind, vi_px hO.1.right hD.right F.2.1 F.2.2.1 hTT hB.1.2.2 sgB_A⟩ rfl rfl hl.1 rfl (lv_room (Nat.le_of_ble_eq_true rfl)) dL_law_854 ⟨rm_c (show _ + 2 ≤ 606000 by omega), rm_s (show _ + 6 * 2 ≤ 7100000 by have := hB.2.2; omega)⟩) hB hO hD ht9 (fun H locs kx1 w2 f1 hB hO hD ht1 hC => ?_)
  have ht9 := ht1
  refine lv_istore (lv' := [(6, .int kx1), (5, .int i), (4, .ref od), (3, .ref oa), (2, .ref (kA K)), (1, .ref x0), (0, .ref sa)]) hx hb dL_law_857 hl (by decide) rfl (fun ls hl => ?_)
  refine lv_aload_n hx hb dL_law_859 rfl (lv_at hl 4 rfl) ?_
  refine lv_aload_n hx hb dL_law_860 rfl (lv_at hl 6 rfl) ?_
  refine lv_iload hx hb dL_law_861 (lv_at hl 1 rfl) ?_
  refine lv_iconst (v := 1) hx hb dL_law_863 (by decide) ?_
  refine lv_iadd hx hb dL_law_864 ?_
  refine va_sld hx hb hXs hbl hbA hB.1.2.2 (lx_in hi hL hL9 (k := 1) (by decide)) dL_law_865 ?_
  refine lw_callV (ci := 19) (b := kA K) (As := [.int (xs (i + 1).toNatClampNeg)]) (rest := []) F hB hO (m_wake l D cy hV ((xs (i + 1).toNatClampNeg)) _) (cwV 1 hts (lwV lxm_ (lx_ _ (List.mem_of_getElem? (i := 285) rfl)) (lx_ _ (List.mem_of_getElem? (i := 286) rfl)) (lx_ _ (List.mem_of_getElem? (i := 287) rfl)) (lx_ _ (List.mem_of_getElem? (i := 182) rfl)) (lx_ _ (List.mem_of_getElem? (i := 288) rfl))) rfl rfl rfl ⟨rfl, by decide, by decide, by decide +kernel⟩ ⟨Nat.le_of_ble_eq_true rfl, Nat.le_of_ble_eq_true rfl⟩) rfl rfl (by decide) rfl hl.1 rfl (Nat.le_of_ble_eq_true rfl) dL_law_866 (rm_c (show _ + 0 ≤ 606000 by omega)) (rm_s (show _ + 0 + sgPot σ0 ≤ 7100000 by omega)) (inv_Mr hV).1 (fun H locs v σ N hB hX hP hO => ?_)
  obtain ⟨⟨y4, rfl⟩, hV⟩ := hP
  refine lv_istore (lv' := [(7, .int y4), (6, .int kx1), (5, .int i), (4, .ref od), (3, .ref oa), (2, .ref (kA K)), (1, .ref x0), (0, .ref sa)]) hx hb dL_law_869 hl (by decide) rfl (fun ls hl => ?_)
  refine lv_goto (tgt := 1864) hx hb dL_law_871 (by decide) ?_
  exact hE _ _ _ _ _ ⟨σ, K, g, n, S, hw, _, w2, f1, fD, hB, by omega, by omega, by omega, hV, rfl, hY, hH, hO, hD, ht9, CS_up hC (by omega)⟩ (lv_sub hl [2, 3, 4, 5, 6, 7] rfl)

set_option maxRecDepth 100000 in
set_option maxHeartbeats 4000000 in
theorem lg_16 (X : LX p l s m meth c D cy σ0 eda ca ia ad τ q0 x0 sa L xs) (ht : t < 512) (hc0 : c0 ≤ 40000) (hn0 : n0 ≤ 400000) (hI : LI D cy s σ0 eda ia ad τ q0 x0 av qv fd a0 oa od t c0 n0 H locs k N) (hi : i.toInt = 6 * (t : Int)) (hL : 6 * t + 6 ≤ L) (hl : lv_has ls 9 [(5, .int i), (4, .ref od), (3, .ref oa), (2, .ref a0), (1, .ref x0), (0, .ref sa)]) (hE : ∀ (H : Heap) (locs : List Loc) (k N : Nat) (ls : Array Slot), LI D cy s σ0 eda ia ad τ q0 x0 av qv fd a0 oa od (t + 1) c0 n0 H locs k N → lv_has ls 9 [(5, .int i), (4, .ref od), (3, .ref oa), (2, .ref a0), (1, .ref x0), (0, .ref sa)] → W p l e room_1 s m #[Value.ref sa] below meth c H locs k N Q (F0 m 1864 ls [])) : W p l e room_1 s m #[Value.ref sa] below meth c H locs k N Q (F0 m 874 ls []) := by
  obtain ⟨F, hst, hs, hr0, hr1, hTT, hXs, hbl, hbA, hp0, hL9⟩ := X
  obtain ⟨hx, hb, hml, hown, hts⟩ := id F.1
  obtain ⟨σ, K, g, n, S, hw, nn, w, f, fD, hB, hnn, hk, hSS, hV, hKa, hY, hH, hO, hD, ht9, hC⟩ := hI
  subst hKa
  refine lv_aload_n hx hb dL_law_874 rfl (lv_at hl 4 rfl) ?_
  refine lv_aload_n hx hb dL_law_875 rfl (lv_at hl 5 rfl) ?_
  refine lv_iload hx hb dL_law_876 (lv_at hl 0 rfl) ?_
  refine lv_iconst (v := 1) hx hb dL_law_878 (by decide) ?_
  refine lv_iadd hx hb dL_law_879 ?_
  refine va_sld hx hb hXs hbl hbA hB.1.2.2 (lx_in hi hL hL9 (k := 1) (by decide)) dL_law_880 ?_
  refine lv_aload_n hx hb dL_law_881 rfl (lv_at hl 2 rfl) ?_
  refine lw_wk (wr := [(od, .inl (cy 3, 1, .inr (.inr (.inr (.inl fD)))))]) (rest := []) (vx_runSW (g := F0 m 882 ls _) (As := [.ref x0, .int (xs (i + 1).toNatClampNeg), .ref oa]) (rest := []) F.1 (w_five l D cy hst _ oa _ hs ht9 hr0 hr1 ((xs (i + 1).toNatClampNeg))) (vx_cwSW 3 hts (lwS lxl_ (lx_ _ (List.mem_of_getElem? (i := 289) rfl)) (lx_ _ (List.mem_of_getElem? (i := 290) rfl)) (lx_ _ (List.mem_of_getElem? (i := 177) rfl)) (lx_ _ (List.mem_of_getElem? (i := 291) rfl))) rfl rfl rfl ⟨by decide, by decide, by decide +kernel⟩ ⟨Nat.le_of_ble_eq_true rfl, Nat.le_of_ble_eq_true rfl⟩) ⟨vi_px_blind, vi_px hO.1.right hD.right F.2.1 F.2.2.1 hTT hB.1.2.2 sgB_A⟩ rfl rfl hl.1 rfl (lv_room (Nat.le_of_ble_eq_true rfl)) dL_law_882 ⟨rm_c (show _ + 1 ≤ 606000 by omega), rm_s (show _ + 6 * 1 ≤ 7100000 by have := hB.2.2; omega)⟩) hB hO hD ht9 (fun H locs kx1 w2 f1 hB hO hD ht1 hk9 => ?_)
  obtain ⟨w3, hC, hO, hD, ht9⟩ := CS_kept (a := (od, .inl (cy 3, 1, .inr (.inr (.inr (.inl fD)))))) hC ht1 hk9 (by decide +kernel) (by decide +kernel) hO hD
  have hO : lwO D σ ([(od, .inl (cy 3, 1, .inr (.inr (.inr (.inl fD)))))] ++ (oa, .inl (cy 2, 1, .inr (.inl f1))) :: w3) H := hO
  have hD : va_D (sgA σ0 s.heap.size) ([(od, .inl (cy 3, 1, .inr (.inr (.inr (.inl fD)))))] ++ (oa, .inl (cy 2, 1, .inr (.inl f1))) :: w3) := hD
  refine lv_istore (lv' := [(6, .int kx1), (5, .int i), (4, .ref od), (3, .ref oa), (2, .ref (kA K)), (1, .ref x0), (0, .ref sa)]) hx hb dL_law_885 hl (by decide) rfl (fun ls hl => ?_)
  refine lv_aload_n hx hb dL_law_887 rfl (lv_at hl 4 rfl) ?_
  refine lv_aload_n hx hb dL_law_888 rfl (lv_at hl 6 rfl) ?_
  refine lv_iload hx hb dL_law_889 (lv_at hl 1 rfl) ?_
  refine lv_iconst (v := 1) hx hb dL_law_891 (by decide) ?_
  refine lv_iadd hx hb dL_law_892 ?_
  refine va_sld hx hb hXs hbl hbA hB.1.2.2 (lx_in hi hL hL9 (k := 1) (by decide)) dL_law_893 ?_
  refine lw_callV (ci := 19) (b := kA K) (As := [.int (xs (i + 1).toNatClampNeg)]) (rest := []) F hB hO (m_five l D cy hV ((xs (i + 1).toNatClampNeg)) _) (cwV 1 hts (lwV lxm_ (lx_ _ (List.mem_of_getElem? (i := 292) rfl)) (lx_ _ (List.mem_of_getElem? (i := 293) rfl)) (lx_ _ (List.mem_of_getElem? (i := 294) rfl)) (lx_ _ (List.mem_of_getElem? (i := 182) rfl)) (lx_ _ (List.mem_of_getElem? (i := 295) rfl))) rfl rfl rfl ⟨rfl, by decide, by decide, by decide +kernel⟩ ⟨Nat.le_of_ble_eq_true rfl, Nat.le_of_ble_eq_true rfl⟩) rfl rfl (by decide) rfl hl.1 rfl (Nat.le_of_ble_eq_true rfl) dL_law_894 (rm_c (show _ + 0 ≤ 606000 by omega)) (rm_s (show _ + 0 + sgPot σ0 ≤ 7100000 by omega)) (inv_Mr hV).1 (fun H locs v σ N hB hX hP hO => ?_)
  obtain ⟨hV, hP⟩ := hP
  obtain ⟨y5, rfl⟩ : ∃ y : Int32, v = some (.int y) := by
    rcases hP with ⟨-, h, -⟩ | ⟨-, h, -⟩ <;> exact ⟨_, h⟩
  refine lv_istore (lv' := [(7, .int y5), (6, .int kx1), (5, .int i), (4, .ref od), (3, .ref oa), (2, .ref (kA K)), (1, .ref x0), (0, .ref sa)]) hx hb dL_law_897 hl (by decide) rfl (fun ls hl => ?_)
  refine lv_goto (tgt := 1864) hx hb dL_law_899 (by decide) ?_
  exact hE _ _ _ _ _ ⟨σ, K, g, n, S, hw, _, w3, f1, fD, hB, by omega, by omega, by omega, hV, rfl, hY, hH, hO, hD, ht9, CS_up hC (by omega)⟩ (lv_sub hl [2, 3, 4, 5, 6, 7] rfl)

set_option maxRecDepth 100000 in
set_option maxHeartbeats 4000000 in
theorem lg_17 (X : LX p l s m meth c D cy σ0 eda ca ia ad τ q0 x0 sa L xs) (ht : t < 512) (hc0 : c0 ≤ 40000) (hn0 : n0 ≤ 400000) (hI : LI D cy s σ0 eda ia ad τ q0 x0 av qv fd a0 oa od t c0 n0 H locs k N) (hi : i.toInt = 6 * (t : Int)) (hL : 6 * t + 6 ≤ L) (hl : lv_has ls 9 [(5, .int i), (4, .ref od), (3, .ref oa), (2, .ref a0), (1, .ref x0), (0, .ref sa)]) (hE : ∀ (H : Heap) (locs : List Loc) (k N : Nat) (ls : Array Slot), LI D cy s σ0 eda ia ad τ q0 x0 av qv fd a0 oa od (t + 1) c0 n0 H locs k N → lv_has ls 9 [(5, .int i), (4, .ref od), (3, .ref oa), (2, .ref a0), (1, .ref x0), (0, .ref sa)] → W p l e room_1 s m #[Value.ref sa] below meth c H locs k N Q (F0 m 1864 ls [])) : W p l e room_1 s m #[Value.ref sa] below meth c H locs k N Q (F0 m 902 ls []) := by
  obtain ⟨F, hst, hs, hr0, hr1, hTT, hXs, hbl, hbA, hp0, hL9⟩ := X
  obtain ⟨hx, hb, hml, hown, hts⟩ := id F.1
  obtain ⟨σ, K, g, n, S, hw, nn, w, f, fD, hB, hnn, hk, hSS, hV, hKa, hY, hH, hO, hD, ht9, hC⟩ := hI
  subst hKa
  refine lv_aload_n hx hb dL_law_902 rfl (lv_at hl 4 rfl) ?_
  refine lv_aload_n hx hb dL_law_903 rfl (lv_at hl 5 rfl) ?_
  refine lv_iload hx hb dL_law_904 (lv_at hl 0 rfl) ?_
  refine lv_iconst (v := 1) hx hb dL_law_906 (by decide) ?_
  refine lv_iadd hx hb dL_law_907 ?_
  refine va_sld hx hb hXs hbl hbA hB.1.2.2 (lx_in hi hL hL9 (k := 1) (by decide)) dL_law_908 ?_
  refine lv_aload_n hx hb dL_law_909 rfl (lv_at hl 2 rfl) ?_
  refine lw_wk (wr := [(od, .inl (cy 3, 1, .inr (.inr (.inr (.inl fD)))))]) (rest := []) (vx_runSW (g := F0 m 910 ls _) (As := [.ref x0, .int (xs (i + 1).toNatClampNeg), .ref oa]) (rest := []) F.1 (w_type l D cy hst _ oa _ hs ht9 hr0 hr1 ((xs (i + 1).toNatClampNeg))) (vx_cwSW 3 hts (lwS lxl_ (lx_ _ (List.mem_of_getElem? (i := 296) rfl)) (lx_ _ (List.mem_of_getElem? (i := 297) rfl)) (lx_ _ (List.mem_of_getElem? (i := 177) rfl)) (lx_ _ (List.mem_of_getElem? (i := 298) rfl))) rfl rfl rfl ⟨by decide, by decide, by decide +kernel⟩ ⟨Nat.le_of_ble_eq_true rfl, Nat.le_of_ble_eq_true rfl⟩) ⟨vi_px_blind, vi_px hO.1.right hD.right F.2.1 F.2.2.1 hTT hB.1.2.2 sgB_A⟩ rfl rfl hl.1 rfl (lv_room (Nat.le_of_ble_eq_true rfl)) dL_law_910 ⟨rm_c (show _ + 1 ≤ 606000 by omega), rm_s (show _ + 6 * 1 ≤ 7100000 by have := hB.2.2; omega)⟩) hB hO hD ht9 (fun H locs kx1 w2 f1 hB hO hD ht1 hk9 => ?_)
  obtain ⟨w3, hC, hO, hD, ht9⟩ := CS_kept (a := (od, .inl (cy 3, 1, .inr (.inr (.inr (.inl fD)))))) hC ht1 hk9 (by decide +kernel) (by decide +kernel) hO hD
  have hO : lwO D σ ([(od, .inl (cy 3, 1, .inr (.inr (.inr (.inl fD)))))] ++ (oa, .inl (cy 2, 1, .inr (.inl f1))) :: w3) H := hO
  have hD : va_D (sgA σ0 s.heap.size) ([(od, .inl (cy 3, 1, .inr (.inr (.inr (.inl fD)))))] ++ (oa, .inl (cy 2, 1, .inr (.inl f1))) :: w3) := hD
  refine lv_istore (lv' := [(6, .int kx1), (5, .int i), (4, .ref od), (3, .ref oa), (2, .ref (kA K)), (1, .ref x0), (0, .ref sa)]) hx hb dL_law_913 hl (by decide) rfl (fun ls hl => ?_)
  refine lv_aload_n hx hb dL_law_915 rfl (lv_at hl 4 rfl) ?_
  refine lv_aload_n hx hb dL_law_916 rfl (lv_at hl 6 rfl) ?_
  refine lv_iload hx hb dL_law_917 (lv_at hl 1 rfl) ?_
  refine lv_iconst (v := 1) hx hb dL_law_919 (by decide) ?_
  refine lv_iadd hx hb dL_law_920 ?_
  refine va_sld hx hb hXs hbl hbA hB.1.2.2 (lx_in hi hL hL9 (k := 1) (by decide)) dL_law_921 ?_
  refine lw_callV (ci := 19) (b := kA K) (As := [.int (xs (i + 1).toNatClampNeg)]) (rest := []) F hB hO (m_type l D cy hV ((xs (i + 1).toNatClampNeg)) _) (cwV 1 hts (lwV lxm_ (lx_ _ (List.mem_of_getElem? (i := 299) rfl)) (lx_ _ (List.mem_of_getElem? (i := 300) rfl)) (lx_ _ (List.mem_of_getElem? (i := 301) rfl)) (lx_ _ (List.mem_of_getElem? (i := 182) rfl)) (lx_ _ (List.mem_of_getElem? (i := 302) rfl))) rfl rfl rfl ⟨rfl, by decide, by decide, by decide +kernel⟩ ⟨Nat.le_of_ble_eq_true rfl, Nat.le_of_ble_eq_true rfl⟩) rfl rfl (by decide) rfl hl.1 rfl (Nat.le_of_ble_eq_true rfl) dL_law_922 (rm_c (show _ + 2 ≤ 606000 by omega)) (rm_s (show _ + 16 + sgPot σ0 ≤ 7100000 by omega)) (inv_Mr hV).1 (fun H locs v σ N hB hX hP hO => ?_)
  obtain ⟨⟨y5, rfl⟩, hV⟩ := hP
  refine lv_istore (lv' := [(7, .int y5), (6, .int kx1), (5, .int i), (4, .ref od), (3, .ref oa), (2, .ref (kA K)), (1, .ref x0), (0, .ref sa)]) hx hb dL_law_925 hl (by decide) rfl (fun ls hl => ?_)
  refine lv_goto (tgt := 1864) hx hb dL_law_927 (by decide) ?_
  exact hE _ _ _ _ _ ⟨σ, K, g, n, S, hw, _, w3, f1, fD, hB, by omega, by omega, by omega, hV, rfl, hY, hH, hO, hD, ht9, CS_up hC (by omega)⟩ (lv_sub hl [2, 3, 4, 5, 6, 7] rfl)
end LGC
