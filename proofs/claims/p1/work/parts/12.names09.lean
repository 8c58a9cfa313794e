theorem dL_law_623 : decode cL_law 623 = .ok (.aload_n 3, 1) := by decide +kernel
theorem dL_law_624 : decode cL_law 624 = .ok (.iconst 0, 1) := by decide +kernel
theorem dL_law_625 : decode cL_law 625 = .ok (.laload, 1) := by decide +kernel
theorem dL_law_626 : decode cL_law 626 = .ok (.iload 7, 2) := by decide +kernel
theorem dL_law_628 : decode cL_law 628 = .ok (.i2l, 1) := by decide +kernel
theorem dL_law_629 : decode cL_law 629 = .ok (.lcmp, 1) := by decide +kernel
theorem dL_law_630 : decode cL_law 630 = .ok (.ifCond .eq 5, 3) := by decide +kernel
theorem dL_law_633 : decode cL_law 633 = .ok (.iconst 0, 1) := by decide +kernel
theorem dL_law_634 : decode cL_law 634 = .ok (.ireturn, 1) := by decide +kernel
theorem dL_law_635 : decode cL_law 635 = .ok (.goto 2482, 3) := by decide +kernel
theorem dL_law_638 : decode cL_law 638 = .ok (.aload_n 1, 1) := by decide +kernel
theorem dL_law_639 : decode cL_law 639 = .ok (.aload_n 0, 1) := by decide +kernel
theorem dL_law_640 : decode cL_law 640 = .ok (.iload 5, 2) := by decide +kernel
theorem dL_law_642 : decode cL_law 642 = .ok (.iconst 1, 1) := by decide +kernel
theorem dL_law_643 : decode cL_law 643 = .ok (.iadd, 1) := by decide +kernel
theorem dL_law_644 : decode cL_law 644 = .ok (.iaload, 1) := by decide +kernel
theorem dL_law_645 : decode cL_law 645 = .ok (.aload_n 3, 1) := by decide +kernel
theorem dL_law_646 : decode cL_law 646 = .ok (.invokestatic 188, 3) := by decide +kernel
theorem dL_law_649 : decode cL_law 649 = .ok (.istore 6, 2) := by decide +kernel
theorem dL_law_651 : decode cL_law 651 = .ok (.aload_n 2, 1) := by decide +kernel
theorem dL_law_652 : decode cL_law 652 = .ok (.aload_n 0, 1) := by decide +kernel
theorem dL_law_653 : decode cL_law 653 = .ok (.iload 5, 2) := by decide +kernel
theorem dL_law_655 : decode cL_law 655 = .ok (.iconst 1, 1) := by decide +kernel
theorem dL_law_656 : decode cL_law 656 = .ok (.iadd, 1) := by decide +kernel
theorem dL_law_657 : decode cL_law 657 = .ok (.iaload, 1) := by decide +kernel
theorem dL_law_658 : decode cL_law 658 = .ok (.invokevirtual 190, 3) := by decide +kernel
theorem dL_law_661 : decode cL_law 661 = .ok (.istore 7, 2) := by decide +kernel
theorem dL_law_663 : decode cL_law 663 = .ok (.aload_n 2, 1) := by decide +kernel
theorem dL_law_664 : decode cL_law 664 = .ok (.invokevirtual 173, 3) := by decide +kernel
theorem dL_law_667 : decode cL_law 667 = .ok (.iload 6, 2) := by decide +kernel
theorem dL_law_669 : decode cL_law 669 = .ok (.if_icmp .eq 5, 3) := by decide +kernel
theorem dL_law_672 : decode cL_law 672 = .ok (.iconst 0, 1) := by decide +kernel
theorem dL_law_673 : decode cL_law 673 = .ok (.ireturn, 1) := by decide +kernel
theorem dL_law_674 : decode cL_law 674 = .ok (.iload 6, 2) := by decide +kernel
theorem dL_law_676 : decode cL_law 676 = .ok (.ifCond .ne 15, 3) := by decide +kernel
theorem dL_law_679 : decode cL_law 679 = .ok (.aload_n 3, 1) := by decide +kernel
theorem dL_law_680 : decode cL_law 680 = .ok (.iconst 0, 1) := by decide +kernel
theorem dL_law_681 : decode cL_law 681 = .ok (.laload, 1) := by decide +kernel
theorem dL_law_682 : decode cL_law 682 = .ok (.iload 7, 2) := by decide +kernel
theorem dL_law_684 : decode cL_law 684 = .ok (.i2l, 1) := by decide +kernel
theorem dL_law_685 : decode cL_law 685 = .ok (.lcmp, 1) := by decide +kernel
theorem dL_law_686 : decode cL_law 686 = .ok (.ifCond .eq 5, 3) := by decide +kernel
theorem dL_law_689 : decode cL_law 689 = .ok (.iconst 0, 1) := by decide +kernel
theorem dL_law_690 : decode cL_law 690 = .ok (.ireturn, 1) := by decide +kernel
theorem dL_law_691 : decode cL_law 691 = .ok (.goto 2426, 3) := by decide +kernel
theorem dL_law_694 : decode cL_law 694 = .ok (.aload_n 1, 1) := by decide +kernel
theorem dL_law_695 : decode cL_law 695 = .ok (.aload_n 0, 1) := by decide +kernel
theorem dL_law_696 : decode cL_law 696 = .ok (.iload 5, 2) := by decide +kernel
theorem dL_law_698 : decode cL_law 698 = .ok (.iconst 1, 1) := by decide +kernel
theorem dL_law_699 : decode cL_law 699 = .ok (.iadd, 1) := by decide +kernel
theorem dL_law_700 : decode cL_law 700 = .ok (.iaload, 1) := by decide +kernel
theorem dL_law_701 : decode cL_law 701 = .ok (.aload_n 3, 1) := by decide +kernel
theorem dL_law_702 : decode cL_law 702 = .ok (.invokestatic 191, 3) := by decide +kernel
theorem dL_law_705 : decode cL_law 705 = .ok (.istore 6, 2) := by decide +kernel
theorem dL_law_707 : decode cL_law 707 = .ok (.aload_n 2, 1) := by decide +kernel
theorem dL_law_708 : decode cL_law 708 = .ok (.aload_n 0, 1) := by decide +kernel
theorem dL_law_709 : decode cL_law 709 = .ok (.iload 5, 2) := by decide +kernel
theorem dL_law_711 : decode cL_law 711 = .ok (.iconst 1, 1) := by decide +kernel
theorem dL_law_712 : decode cL_law 712 = .ok (.iadd, 1) := by decide +kernel
theorem dL_law_713 : decode cL_law 713 = .ok (.iaload, 1) := by decide +kernel
theorem dL_law_714 : decode cL_law 714 = .ok (.invokevirtual 193, 3) := by decide +kernel
theorem dL_law_717 : decode cL_law 717 = .ok (.istore 7, 2) := by decide +kernel
theorem dL_law_719 : decode cL_law 719 = .ok (.aload_n 2, 1) := by decide +kernel
theorem dL_law_720 : decode cL_law 720 = .ok (.invokevirtual 173, 3) := by decide +kernel
theorem dL_law_723 : decode cL_law 723 = .ok (.iload 6, 2) := by decide +kernel
theorem dL_law_725 : decode cL_law 725 = .ok (.if_icmp .eq 5, 3) := by decide +kernel
theorem dL_law_728 : decode cL_law 728 = .ok (.iconst 0, 1) := by decide +kernel
theorem dL_law_729 : decode cL_law 729 = .ok (.ireturn, 1) := by decide +kernel
theorem dL_law_730 : decode cL_law 730 = .ok (.iload 6, 2) := by decide +kernel
theorem dL_law_732 : decode cL_law 732 = .ok (.ifCond .ne 15, 3) := by decide +kernel
theorem dL_law_735 : decode cL_law 735 = .ok (.aload_n 3, 1) := by decide +kernel
theorem dL_law_736 : decode cL_law 736 = .ok (.iconst 0, 1) := by decide +kernel
theorem dL_law_737 : decode cL_law 737 = .ok (.laload, 1) := by decide +kernel
theorem dL_law_738 : decode cL_law 738 = .ok (.iload 7, 2) := by decide +kernel
theorem dL_law_740 : decode cL_law 740 = .ok (.i2l, 1) := by decide +kernel
theorem dL_law_741 : decode cL_law 741 = .ok (.lcmp, 1) := by decide +kernel
theorem dL_law_742 : decode cL_law 742 = .ok (.ifCond .eq 5, 3) := by decide +kernel
theorem dL_law_745 : decode cL_law 745 = .ok (.iconst 0, 1) := by decide +kernel
theorem dL_law_746 : decode cL_law 746 = .ok (.ireturn, 1) := by decide +kernel
theorem dL_law_747 : decode cL_law 747 = .ok (.goto 2370, 3) := by decide +kernel
theorem dL_law_750 : decode cL_law 750 = .ok (.aload_n 1, 1) := by decide +kernel
theorem dL_law_751 : decode cL_law 751 = .ok (.aload_n 0, 1) := by decide +kernel
theorem dL_law_752 : decode cL_law 752 = .ok (.iload 5, 2) := by decide +kernel
theorem dL_law_754 : decode cL_law 754 = .ok (.iconst 1, 1) := by decide +kernel
theorem dL_law_755 : decode cL_law 755 = .ok (.iadd, 1) := by decide +kernel
theorem dL_law_756 : decode cL_law 756 = .ok (.iaload, 1) := by decide +kernel
theorem dL_law_757 : decode cL_law 757 = .ok (.aload_n 3, 1) := by decide +kernel
theorem dL_law_758 : decode cL_law 758 = .ok (.invokestatic 194, 3) := by decide +kernel
theorem dL_law_761 : decode cL_law 761 = .ok (.istore 6, 2) := by decide +kernel
theorem dL_law_763 : decode cL_law 763 = .ok (.aload_n 2, 1) := by decide +kernel
theorem dL_law_764 : decode cL_law 764 = .ok (.aload_n 0, 1) := by decide +kernel
theorem dL_law_765 : decode cL_law 765 = .ok (.iload 5, 2) := by decide +kernel
theorem dL_law_767 : decode cL_law 767 = .ok (.iconst 1, 1) := by decide +kernel
theorem dL_law_768 : decode cL_law 768 = .ok (.iadd, 1) := by decide +kernel
theorem dL_law_769 : decode cL_law 769 = .ok (.iaload, 1) := by decide +kernel
theorem dL_law_770 : decode cL_law 770 = .ok (.invokevirtual 196, 3) := by decide +kernel
theorem dL_law_773 : decode cL_law 773 = .ok (.istore 7, 2) := by decide +kernel
theorem dL_law_775 : decode cL_law 775 = .ok (.aload_n 2, 1) := by decide +kernel
theorem dL_law_776 : decode cL_law 776 = .ok (.invokevirtual 173, 3) := by decide +kernel
theorem dL_law_779 : decode cL_law 779 = .ok (.iload 6, 2) := by decide +kernel
theorem dL_law_781 : decode cL_law 781 = .ok (.if_icmp .eq 5, 3) := by decide +kernel
theorem dL_law_784 : decode cL_law 784 = .ok (.iconst 0, 1) := by decide +kernel
theorem dL_law_785 : decode cL_law 785 = .ok (.ireturn, 1) := by decide +kernel
theorem dL_law_786 : decode cL_law 786 = .ok (.iload 6, 2) := by decide +kernel
theorem dL_law_788 : decode cL_law 788 = .ok (.ifCond .ne 15, 3) := by decide +kernel
theorem dL_law_791 : decode cL_law 791 = .ok (.aload_n 3, 1) := by decide +kernel
theorem dL_law_792 : decode cL_law 792 = .ok (.iconst 0, 1) := by decide +kernel
theorem dL_law_793 : decode cL_law 793 = .ok (.laload, 1) := by decide +kernel
theorem dL_law_794 : decode cL_law 794 = .ok (.iload 7, 2) := by decide +kernel
theorem dL_law_796 : decode cL_law 796 = .ok (.i2l, 1) := by decide +kernel
theorem dL_law_797 : decode cL_law 797 = .ok (.lcmp, 1) := by decide +kernel
theorem dL_law_798 : decode cL_law 798 = .ok (.ifCond .eq 5, 3) := by decide +kernel
theorem dL_law_801 : decode cL_law 801 = .ok (.iconst 0, 1) := by decide +kernel
theorem dL_law_802 : decode cL_law 802 = .ok (.ireturn, 1) := by decide +kernel
theorem dL_law_803 : decode cL_law 803 = .ok (.goto 2314, 3) := by decide +kernel
theorem dL_law_806 : decode cL_law 806 = .ok (.aload_n 1, 1) := by decide +kernel
theorem dL_law_807 : decode cL_law 807 = .ok (.aload_n 0, 1) := by decide +kernel
theorem dL_law_808 : decode cL_law 808 = .ok (.iload 5, 2) := by decide +kernel
theorem dL_law_810 : decode cL_law 810 = .ok (.iconst 1, 1) := by decide +kernel
theorem dL_law_811 : decode cL_law 811 = .ok (.iadd, 1) := by decide +kernel
theorem dL_law_812 : decode cL_law 812 = .ok (.iaload, 1) := by decide +kernel
theorem dL_law_813 : decode cL_law 813 = .ok (.aload_n 3, 1) := by decide +kernel
theorem dL_law_814 : decode cL_law 814 = .ok (.invokestatic 197, 3) := by decide +kernel
theorem dL_law_817 : decode cL_law 817 = .ok (.istore 6, 2) := by decide +kernel
theorem dL_law_819 : decode cL_law 819 = .ok (.aload_n 2, 1) := by decide +kernel
theorem dL_law_820 : decode cL_law 820 = .ok (.aload_n 0, 1) := by decide +kernel
theorem dL_law_821 : decode cL_law 821 = .ok (.iload 5, 2) := by decide +kernel
theorem dL_law_823 : decode cL_law 823 = .ok (.iconst 1, 1) := by decide +kernel
theorem dL_law_824 : decode cL_law 824 = .ok (.iadd, 1) := by decide +kernel
theorem dL_law_825 : decode cL_law 825 = .ok (.iaload, 1) := by decide +kernel
theorem dL_law_826 : decode cL_law 826 = .ok (.invokevirtual 199, 3) := by decide +kernel
theorem dL_law_829 : decode cL_law 829 = .ok (.istore 7, 2) := by decide +kernel
theorem dL_law_831 : decode cL_law 831 = .ok (.aload_n 2, 1) := by decide +kernel
theorem dL_law_832 : decode cL_law 832 = .ok (.invokevirtual 173, 3) := by decide +kernel
theorem dL_law_835 : decode cL_law 835 = .ok (.iload 6, 2) := by decide +kernel
theorem dL_law_837 : decode cL_law 837 = .ok (.if_icmp .eq 5, 3) := by decide +kernel
theorem dL_law_840 : decode cL_law 840 = .ok (.iconst 0, 1) := by decide +kernel
theorem dL_law_841 : decode cL_law 841 = .ok (.ireturn, 1) := by decide +kernel
theorem dL_law_842 : decode cL_law 842 = .ok (.iload 6, 2) := by decide +kernel
theorem dL_law_844 : decode cL_law 844 = .ok (.ifCond .ne 15, 3) := by decide +kernel
theorem dL_law_847 : decode cL_law 847 = .ok (.aload_n 3, 1) := by decide +kernel
theorem dL_law_848 : decode cL_law 848 = .ok (.iconst 0, 1) := by decide +kernel
theorem dL_law_849 : decode cL_law 849 = .ok (.laload, 1) := by decide +kernel
theorem dL_law_850 : decode cL_law 850 = .ok (.iload 7, 2) := by decide +kernel
theorem dL_law_852 : decode cL_law 852 = .ok (.i2l, 1) := by decide +kernel
theorem dL_law_853 : decode cL_law 853 = .ok (.lcmp, 1) := by decide +kernel
theorem dL_law_854 : decode cL_law 854 = .ok (.ifCond .eq 5, 3) := by decide +kernel
theorem dL_law_857 : decode cL_law 857 = .ok (.iconst 0, 1) := by decide +kernel
theorem dL_law_858 : decode cL_law 858 = .ok (.ireturn, 1) := by decide +kernel
theorem dL_law_859 : decode cL_law 859 = .ok (.goto 2258, 3) := by decide +kernel
theorem dL_law_862 : decode cL_law 862 = .ok (.aload_n 1, 1) := by decide +kernel
theorem dL_law_863 : decode cL_law 863 = .ok (.aload_n 0, 1) := by decide +kernel
theorem dL_law_864 : decode cL_law 864 = .ok (.iload 5, 2) := by decide +kernel
theorem dL_law_866 : decode cL_law 866 = .ok (.iconst 1, 1) := by decide +kernel
theorem dL_law_867 : decode cL_law 867 = .ok (.iadd, 1) := by decide +kernel
theorem dL_law_868 : decode cL_law 868 = .ok (.iaload, 1) := by decide +kernel
theorem dL_law_869 : decode cL_law 869 = .ok (.aload_n 3, 1) := by decide +kernel
theorem dL_law_870 : decode cL_law 870 = .ok (.invokestatic 200, 3) := by decide +kernel
theorem dL_law_873 : decode cL_law 873 = .ok (.istore 6, 2) := by decide +kernel
theorem dL_law_875 : decode cL_law 875 = .ok (.aload_n 2, 1) := by decide +kernel
theorem dL_law_876 : decode cL_law 876 = .ok (.aload_n 0, 1) := by decide +kernel
theorem dL_law_877 : decode cL_law 877 = .ok (.iload 5, 2) := by decide +kernel
theorem dL_law_879 : decode cL_law 879 = .ok (.iconst 1, 1) := by decide +kernel
theorem dL_law_880 : decode cL_law 880 = .ok (.iadd, 1) := by decide +kernel
theorem dL_law_881 : decode cL_law 881 = .ok (.iaload, 1) := by decide +kernel
theorem dL_law_882 : decode cL_law 882 = .ok (.invokevirtual 202, 3) := by decide +kernel
theorem dL_law_885 : decode cL_law 885 = .ok (.istore 7, 2) := by decide +kernel
theorem dL_law_887 : decode cL_law 887 = .ok (.aload_n 2, 1) := by decide +kernel
theorem dL_law_888 : decode cL_law 888 = .ok (.invokevirtual 173, 3) := by decide +kernel
theorem dL_law_891 : decode cL_law 891 = .ok (.iload 6, 2) := by decide +kernel
theorem dL_law_893 : decode cL_law 893 = .ok (.if_icmp .eq 5, 3) := by decide +kernel
theorem dL_law_896 : decode cL_law 896 = .ok (.iconst 0, 1) := by decide +kernel
theorem dL_law_897 : decode cL_law 897 = .ok (.ireturn, 1) := by decide +kernel
theorem dL_law_898 : decode cL_law 898 = .ok (.iload 6, 2) := by decide +kernel
theorem dL_law_900 : decode cL_law 900 = .ok (.ifCond .ne 15, 3) := by decide +kernel
theorem dL_law_903 : decode cL_law 903 = .ok (.aload_n 3, 1) := by decide +kernel
theorem dL_law_904 : decode cL_law 904 = .ok (.iconst 0, 1) := by decide +kernel
theorem dL_law_905 : decode cL_law 905 = .ok (.laload, 1) := by decide +kernel
theorem dL_law_906 : decode cL_law 906 = .ok (.iload 7, 2) := by decide +kernel
theorem dL_law_908 : decode cL_law 908 = .ok (.i2l, 1) := by decide +kernel
theorem dL_law_909 : decode cL_law 909 = .ok (.lcmp, 1) := by decide +kernel
theorem dL_law_910 : decode cL_law 910 = .ok (.ifCond .eq 5, 3) := by decide +kernel
theorem dL_law_913 : decode cL_law 913 = .ok (.iconst 0, 1) := by decide +kernel
theorem dL_law_914 : decode cL_law 914 = .ok (.ireturn, 1) := by decide +kernel
theorem dL_law_915 : decode cL_law 915 = .ok (.goto 2202, 3) := by decide +kernel
theorem dL_law_918 : decode cL_law 918 = .ok (.aload_n 1, 1) := by decide +kernel
theorem dL_law_919 : decode cL_law 919 = .ok (.aload_n 0, 1) := by decide +kernel
theorem dL_law_920 : decode cL_law 920 = .ok (.iload 5, 2) := by decide +kernel
theorem dL_law_922 : decode cL_law 922 = .ok (.iconst 1, 1) := by decide +kernel
theorem dL_law_923 : decode cL_law 923 = .ok (.iadd, 1) := by decide +kernel
theorem dL_law_924 : decode cL_law 924 = .ok (.iaload, 1) := by decide +kernel
theorem dL_law_925 : decode cL_law 925 = .ok (.aload_n 3, 1) := by decide +kernel
theorem dL_law_926 : decode cL_law 926 = .ok (.invokestatic 203, 3) := by decide +kernel
theorem dL_law_929 : decode cL_law 929 = .ok (.istore 6, 2) := by decide +kernel
theorem dL_law_931 : decode cL_law 931 = .ok (.aload_n 2, 1) := by decide +kernel
theorem dL_law_932 : decode cL_law 932 = .ok (.aload_n 0, 1) := by decide +kernel
theorem dL_law_933 : decode cL_law 933 = .ok (.iload 5, 2) := by decide +kernel
theorem dL_law_935 : decode cL_law 935 = .ok (.iconst 1, 1) := by decide +kernel
theorem dL_law_936 : decode cL_law 936 = .ok (.iadd, 1) := by decide +kernel
theorem dL_law_937 : decode cL_law 937 = .ok (.iaload, 1) := by decide +kernel
theorem dL_law_938 : decode cL_law 938 = .ok (.invokevirtual 205, 3) := by decide +kernel
theorem dL_law_941 : decode cL_law 941 = .ok (.istore 7, 2) := by decide +kernel
theorem dL_law_943 : decode cL_law 943 = .ok (.aload_n 2, 1) := by decide +kernel
theorem dL_law_944 : decode cL_law 944 = .ok (.invokevirtual 173, 3) := by decide +kernel
theorem dL_law_947 : decode cL_law 947 = .ok (.iload 6, 2) := by decide +kernel
theorem dL_law_949 : decode cL_law 949 = .ok (.if_icmp .eq 5, 3) := by decide +kernel
theorem dL_law_952 : decode cL_law 952 = .ok (.iconst 0, 1) := by decide +kernel
theorem dL_law_953 : decode cL_law 953 = .ok (.ireturn, 1) := by decide +kernel
theorem dL_law_954 : decode cL_law 954 = .ok (.iload 6, 2) := by decide +kernel
theorem dL_law_956 : decode cL_law 956 = .ok (.ifCond .ne 15, 3) := by decide +kernel
theorem dL_law_959 : decode cL_law 959 = .ok (.aload_n 3, 1) := by decide +kernel
theorem dL_law_960 : decode cL_law 960 = .ok (.iconst 0, 1) := by decide +kernel
theorem dL_law_961 : decode cL_law 961 = .ok (.laload, 1) := by decide +kernel
theorem dL_law_962 : decode cL_law 962 = .ok (.iload 7, 2) := by decide +kernel
theorem dL_law_964 : decode cL_law 964 = .ok (.i2l, 1) := by decide +kernel
theorem dL_law_965 : decode cL_law 965 = .ok (.lcmp, 1) := by decide +kernel
theorem dL_law_966 : decode cL_law 966 = .ok (.ifCond .eq 5, 3) := by decide +kernel
theorem dL_law_969 : decode cL_law 969 = .ok (.iconst 0, 1) := by decide +kernel
theorem dL_law_970 : decode cL_law 970 = .ok (.ireturn, 1) := by decide +kernel
theorem dL_law_971 : decode cL_law 971 = .ok (.goto 2146, 3) := by decide +kernel
theorem dL_law_974 : decode cL_law 974 = .ok (.aload_n 1, 1) := by decide +kernel
theorem dL_law_975 : decode cL_law 975 = .ok (.aload_n 3, 1) := by decide +kernel
theorem dL_law_976 : decode cL_law 976 = .ok (.invokestatic 206, 3) := by decide +kernel
theorem dL_law_979 : decode cL_law 979 = .ok (.istore 6, 2) := by decide +kernel
theorem dL_law_981 : decode cL_law 981 = .ok (.aload_n 2, 1) := by decide +kernel
theorem dL_law_982 : decode cL_law 982 = .ok (.invokevirtual 209, 3) := by decide +kernel
theorem dL_law_985 : decode cL_law 985 = .ok (.istore 7, 2) := by decide +kernel
theorem dL_law_987 : decode cL_law 987 = .ok (.aload_n 2, 1) := by decide +kernel
theorem dL_law_988 : decode cL_law 988 = .ok (.invokevirtual 173, 3) := by decide +kernel
theorem dL_law_991 : decode cL_law 991 = .ok (.iload 6, 2) := by decide +kernel
theorem dL_law_993 : decode cL_law 993 = .ok (.if_icmp .eq 5, 3) := by decide +kernel
theorem dL_law_996 : decode cL_law 996 = .ok (.iconst 0, 1) := by decide +kernel
theorem dL_law_997 : decode cL_law 997 = .ok (.ireturn, 1) := by decide +kernel
theorem dL_law_998 : decode cL_law 998 = .ok (.iload 6, 2) := by decide +kernel
theorem dL_law_1000 : decode cL_law 1000 = .ok (.ifCond .ne 15, 3) := by decide +kernel
theorem dL_law_1003 : decode cL_law 1003 = .ok (.aload_n 3, 1) := by decide +kernel
theorem dL_law_1004 : decode cL_law 1004 = .ok (.iconst 0, 1) := by decide +kernel
theorem dL_law_1005 : decode cL_law 1005 = .ok (.laload, 1) := by decide +kernel
theorem dL_law_1006 : decode cL_law 1006 = .ok (.iload 7, 2) := by decide +kernel
theorem dL_law_1008 : decode cL_law 1008 = .ok (.i2l, 1) := by decide +kernel
theorem dL_law_1009 : decode cL_law 1009 = .ok (.lcmp, 1) := by decide +kernel
theorem dL_law_1010 : decode cL_law 1010 = .ok (.ifCond .eq 5, 3) := by decide +kernel
theorem dL_law_1013 : decode cL_law 1013 = .ok (.iconst 0, 1) := by decide +kernel
theorem dL_law_1014 : decode cL_law 1014 = .ok (.ireturn, 1) := by decide +kernel
theorem dL_law_1015 : decode cL_law 1015 = .ok (.goto 2102, 3) := by decide +kernel
theorem dL_law_1018 : decode cL_law 1018 = .ok (.aload_n 1, 1) := by decide +kernel
theorem dL_law_1019 : decode cL_law 1019 = .ok (.aload_n 0, 1) := by decide +kernel
theorem dL_law_1020 : decode cL_law 1020 = .ok (.iload 5, 2) := by decide +kernel
theorem dL_law_1022 : decode cL_law 1022 = .ok (.iconst 1, 1) := by decide +kernel
theorem dL_law_1023 : decode cL_law 1023 = .ok (.iadd, 1) := by decide +kernel
theorem dL_law_1024 : decode cL_law 1024 = .ok (.iaload, 1) := by decide +kernel
theorem dL_law_1025 : decode cL_law 1025 = .ok (.aload_n 0, 1) := by decide +kernel
theorem dL_law_1026 : decode cL_law 1026 = .ok (.iload 5, 2) := by decide +kernel
theorem dL_law_1028 : decode cL_law 1028 = .ok (.iconst 2, 1) := by decide +kernel
theorem dL_law_1029 : decode cL_law 1029 = .ok (.iadd, 1) := by decide +kernel
theorem dL_law_1030 : decode cL_law 1030 = .ok (.iaload, 1) := by decide +kernel
theorem dL_law_1031 : decode cL_law 1031 = .ok (.aload_n 3, 1) := by decide +kernel
theorem dL_law_1032 : decode cL_law 1032 = .ok (.invokestatic 210, 3) := by decide +kernel
theorem dL_law_1035 : decode cL_law 1035 = .ok (.istore 6, 2) := by decide +kernel
theorem dL_law_1037 : decode cL_law 1037 = .ok (.aload_n 2, 1) := by decide +kernel
theorem dL_law_1038 : decode cL_law 1038 = .ok (.aload_n 0, 1) := by decide +kernel
theorem dL_law_1039 : decode cL_law 1039 = .ok (.iload 5, 2) := by decide +kernel
theorem dL_law_1041 : decode cL_law 1041 = .ok (.iconst 1, 1) := by decide +kernel
theorem dL_law_1042 : decode cL_law 1042 = .ok (.iadd, 1) := by decide +kernel
theorem dL_law_1043 : decode cL_law 1043 = .ok (.iaload, 1) := by decide +kernel
theorem dL_law_1044 : decode cL_law 1044 = .ok (.aload_n 0, 1) := by decide +kernel
theorem dL_law_1045 : decode cL_law 1045 = .ok (.iload 5, 2) := by decide +kernel
theorem dL_law_1047 : decode cL_law 1047 = .ok (.iconst 2, 1) := by decide +kernel
theorem dL_law_1048 : decode cL_law 1048 = .ok (.iadd, 1) := by decide +kernel
theorem dL_law_1049 : decode cL_law 1049 = .ok (.iaload, 1) := by decide +kernel
theorem dL_law_1050 : decode cL_law 1050 = .ok (.invokevirtual 213, 3) := by decide +kernel
theorem dL_law_1053 : decode cL_law 1053 = .ok (.istore 7, 2) := by decide +kernel
theorem dL_law_1055 : decode cL_law 1055 = .ok (.aload_n 2, 1) := by decide +kernel
theorem dL_law_1056 : decode cL_law 1056 = .ok (.invokevirtual 173, 3) := by decide +kernel
theorem dL_law_1059 : decode cL_law 1059 = .ok (.iload 6, 2) := by decide +kernel
theorem dL_law_1061 : decode cL_law 1061 = .ok (.if_icmp .eq 5, 3) := by decide +kernel
theorem dL_law_1064 : decode cL_law 1064 = .ok (.iconst 0, 1) := by decide +kernel
theorem dL_law_1065 : decode cL_law 1065 = .ok (.ireturn, 1) := by decide +kernel
theorem dL_law_1066 : decode cL_law 1066 = .ok (.iload 6, 2) := by decide +kernel
theorem dL_law_1068 : decode cL_law 1068 = .ok (.ifCond .ne 15, 3) := by decide +kernel
theorem dL_law_1071 : decode cL_law 1071 = .ok (.aload_n 3, 1) := by decide +kernel
theorem dL_law_1072 : decode cL_law 1072 = .ok (.iconst 0, 1) := by decide +kernel
theorem dL_law_1073 : decode cL_law 1073 = .ok (.laload, 1) := by decide +kernel
theorem dL_law_1074 : decode cL_law 1074 = .ok (.iload 7, 2) := by decide +kernel
theorem dL_law_1076 : decode cL_law 1076 = .ok (.i2l, 1) := by decide +kernel
theorem dL_law_1077 : decode cL_law 1077 = .ok (.lcmp, 1) := by decide +kernel
theorem dL_law_1078 : decode cL_law 1078 = .ok (.ifCond .eq 5, 3) := by decide +kernel
theorem dL_law_1081 : decode cL_law 1081 = .ok (.iconst 0, 1) := by decide +kernel
theorem dL_law_1082 : decode cL_law 1082 = .ok (.ireturn, 1) := by decide +kernel
theorem dL_law_1083 : decode cL_law 1083 = .ok (.goto 2034, 3) := by decide +kernel
theorem dL_law_1086 : decode cL_law 1086 = .ok (.aload_n 1, 1) := by decide +kernel
theorem dL_law_1087 : decode cL_law 1087 = .ok (.aload_n 0, 1) := by decide +kernel
theorem dL_law_1088 : decode cL_law 1088 = .ok (.iload 5, 2) := by decide +kernel
theorem dL_law_1090 : decode cL_law 1090 = .ok (.iconst 1, 1) := by decide +kernel
theorem dL_law_1091 : decode cL_law 1091 = .ok (.iadd, 1) := by decide +kernel
theorem dL_law_1092 : decode cL_law 1092 = .ok (.iaload, 1) := by decide +kernel
theorem dL_law_1093 : decode cL_law 1093 = .ok (.aload_n 3, 1) := by decide +kernel
theorem dL_law_1094 : decode cL_law 1094 = .ok (.invokestatic 214, 3) := by decide +kernel
theorem dL_law_1097 : decode cL_law 1097 = .ok (.istore 6, 2) := by decide +kernel
theorem dL_law_1099 : decode cL_law 1099 = .ok (.aload_n 2, 1) := by decide +kernel
theorem dL_law_1100 : decode cL_law 1100 = .ok (.aload_n 0, 1) := by decide +kernel
theorem dL_law_1101 : decode cL_law 1101 = .ok (.iload 5, 2) := by decide +kernel
theorem dL_law_1103 : decode cL_law 1103 = .ok (.iconst 1, 1) := by decide +kernel
theorem dL_law_1104 : decode cL_law 1104 = .ok (.iadd, 1) := by decide +kernel
theorem dL_law_1105 : decode cL_law 1105 = .ok (.iaload, 1) := by decide +kernel
theorem dL_law_1106 : decode cL_law 1106 = .ok (.invokevirtual 216, 3) := by decide +kernel
theorem dL_law_1109 : decode cL_law 1109 = .ok (.istore 7, 2) := by decide +kernel
theorem dL_law_1111 : decode cL_law 1111 = .ok (.aload_n 2, 1) := by decide +kernel
theorem dL_law_1112 : decode cL_law 1112 = .ok (.invokevirtual 173, 3) := by decide +kernel
theorem dL_law_1115 : decode cL_law 1115 = .ok (.iload 6, 2) := by decide +kernel
theorem dL_law_1117 : decode cL_law 1117 = .ok (.if_icmp .eq 5, 3) := by decide +kernel
theorem dL_law_1120 : decode cL_law 1120 = .ok (.iconst 0, 1) := by decide +kernel
theorem dL_law_1121 : decode cL_law 1121 = .ok (.ireturn, 1) := by decide +kernel
theorem dL_law_1122 : decode cL_law 1122 = .ok (.iload 6, 2) := by decide +kernel
theorem dL_law_1124 : decode cL_law 1124 = .ok (.ifCond .ne 15, 3) := by decide +kernel
theorem dL_law_1127 : decode cL_law 1127 = .ok (.aload_n 3, 1) := by decide +kernel
theorem dL_law_1128 : decode cL_law 1128 = .ok (.iconst 0, 1) := by decide +kernel
theorem dL_law_1129 : decode cL_law 1129 = .ok (.laload, 1) := by decide +kernel
theorem dL_law_1130 : decode cL_law 1130 = .ok (.iload 7, 2) := by decide +kernel
theorem dL_law_1132 : decode cL_law 1132 = .ok (.i2l, 1) := by decide +kernel
theorem dL_law_1133 : decode cL_law 1133 = .ok (.lcmp, 1) := by decide +kernel
theorem dL_law_1134 : decode cL_law 1134 = .ok (.ifCond .eq 5, 3) := by decide +kernel
theorem dL_law_1137 : decode cL_law 1137 = .ok (.iconst 0, 1) := by decide +kernel
theorem dL_law_1138 : decode cL_law 1138 = .ok (.ireturn, 1) := by decide +kernel
theorem dL_law_1139 : decode cL_law 1139 = .ok (.goto 1978, 3) := by decide +kernel
theorem dL_law_1142 : decode cL_law 1142 = .ok (.aload_n 1, 1) := by decide +kernel
theorem dL_law_1143 : decode cL_law 1143 = .ok (.aload_n 0, 1) := by decide +kernel
theorem dL_law_1144 : decode cL_law 1144 = .ok (.iload 5, 2) := by decide +kernel
theorem dL_law_1146 : decode cL_law 1146 = .ok (.iconst 1, 1) := by decide +kernel
theorem dL_law_1147 : decode cL_law 1147 = .ok (.iadd, 1) := by decide +kernel
theorem dL_law_1148 : decode cL_law 1148 = .ok (.iaload, 1) := by decide +kernel
theorem dL_law_1149 : decode cL_law 1149 = .ok (.aload_n 0, 1) := by decide +kernel
theorem dL_law_1150 : decode cL_law 1150 = .ok (.iload 5, 2) := by decide +kernel
theorem dL_law_1152 : decode cL_law 1152 = .ok (.iconst 2, 1) := by decide +kernel
theorem dL_law_1153 : decode cL_law 1153 = .ok (.iadd, 1) := by decide +kernel
theorem dL_law_1154 : decode cL_law 1154 = .ok (.iaload, 1) := by decide +kernel
theorem dL_law_1155 : decode cL_law 1155 = .ok (.aload_n 3, 1) := by decide +kernel
theorem dL_law_1156 : decode cL_law 1156 = .ok (.invokestatic 217, 3) := by decide +kernel
theorem dL_law_1159 : decode cL_law 1159 = .ok (.istore 6, 2) := by decide +kernel
theorem dL_law_1161 : decode cL_law 1161 = .ok (.aload_n 2, 1) := by decide +kernel
theorem dL_law_1162 : decode cL_law 1162 = .ok (.aload_n 0, 1) := by decide +kernel
theorem dL_law_1163 : decode cL_law 1163 = .ok (.iload 5, 2) := by decide +kernel
theorem dL_law_1165 : decode cL_law 1165 = .ok (.iconst 1, 1) := by decide +kernel
theorem dL_law_1166 : decode cL_law 1166 = .ok (.iadd, 1) := by decide +kernel
theorem dL_law_1167 : decode cL_law 1167 = .ok (.iaload, 1) := by decide +kernel
theorem dL_law_1168 : decode cL_law 1168 = .ok (.aload_n 0, 1) := by decide +kernel
theorem dL_law_1169 : decode cL_law 1169 = .ok (.iload 5, 2) := by decide +kernel
theorem dL_law_1171 : decode cL_law 1171 = .ok (.iconst 2, 1) := by decide +kernel
theorem dL_law_1172 : decode cL_law 1172 = .ok (.iadd, 1) := by decide +kernel
theorem dL_law_1173 : decode cL_law 1173 = .ok (.iaload, 1) := by decide +kernel
theorem dL_law_1174 : decode cL_law 1174 = .ok (.invokevirtual 219, 3) := by decide +kernel
theorem dL_law_1177 : decode cL_law 1177 = .ok (.istore 7, 2) := by decide +kernel
theorem dL_law_1179 : decode cL_law 1179 = .ok (.aload_n 2, 1) := by decide +kernel
theorem dL_law_1180 : decode cL_law 1180 = .ok (.invokevirtual 173, 3) := by decide +kernel
theorem dL_law_1183 : decode cL_law 1183 = .ok (.iload 6, 2) := by decide +kernel
theorem dL_law_1185 : decode cL_law 1185 = .ok (.if_icmp .eq 5, 3) := by decide +kernel
theorem dL_law_1188 : decode cL_law 1188 = .ok (.iconst 0, 1) := by decide +kernel
theorem dL_law_1189 : decode cL_law 1189 = .ok (.ireturn, 1) := by decide +kernel
theorem dL_law_1190 : decode cL_law 1190 = .ok (.iload 6, 2) := by decide +kernel
theorem dL_law_1192 : decode cL_law 1192 = .ok (.ifCond .ne 15, 3) := by decide +kernel
theorem dL_law_1195 : decode cL_law 1195 = .ok (.aload_n 3, 1) := by decide +kernel
theorem dL_law_1196 : decode cL_law 1196 = .ok (.iconst 0, 1) := by decide +kernel
theorem dL_law_1197 : decode cL_law 1197 = .ok (.laload, 1) := by decide +kernel
theorem dL_law_1198 : decode cL_law 1198 = .ok (.iload 7, 2) := by decide +kernel
theorem dL_law_1200 : decode cL_law 1200 = .ok (.i2l, 1) := by decide +kernel
theorem dL_law_1201 : decode cL_law 1201 = .ok (.lcmp, 1) := by decide +kernel
theorem dL_law_1202 : decode cL_law 1202 = .ok (.ifCond .eq 5, 3) := by decide +kernel
theorem dL_law_1205 : decode cL_law 1205 = .ok (.iconst 0, 1) := by decide +kernel
theorem dL_law_1206 : decode cL_law 1206 = .ok (.ireturn, 1) := by decide +kernel
theorem dL_law_1207 : decode cL_law 1207 = .ok (.goto 1910, 3) := by decide +kernel
theorem dL_law_1210 : decode cL_law 1210 = .ok (.aload_n 1, 1) := by decide +kernel
theorem dL_law_1211 : decode cL_law 1211 = .ok (.aload_n 0, 1) := by decide +kernel
theorem dL_law_1212 : decode cL_law 1212 = .ok (.iload 5, 2) := by decide +kernel
theorem dL_law_1214 : decode cL_law 1214 = .ok (.iconst 1, 1) := by decide +kernel
theorem dL_law_1215 : decode cL_law 1215 = .ok (.iadd, 1) := by decide +kernel
theorem dL_law_1216 : decode cL_law 1216 = .ok (.iaload, 1) := by decide +kernel
theorem dL_law_1217 : decode cL_law 1217 = .ok (.aload_n 3, 1) := by decide +kernel
theorem dL_law_1218 : decode cL_law 1218 = .ok (.invokestatic 220, 3) := by decide +kernel
theorem dL_law_1221 : decode cL_law 1221 = .ok (.istore 6, 2) := by decide +kernel
theorem dL_law_1223 : decode cL_law 1223 = .ok (.aload_n 2, 1) := by decide +kernel
theorem dL_law_1224 : decode cL_law 1224 = .ok (.aload_n 0, 1) := by decide +kernel
theorem dL_law_1225 : decode cL_law 1225 = .ok (.iload 5, 2) := by decide +kernel
theorem dL_law_1227 : decode cL_law 1227 = .ok (.iconst 1, 1) := by decide +kernel
theorem dL_law_1228 : decode cL_law 1228 = .ok (.iadd, 1) := by decide +kernel
theorem dL_law_1229 : decode cL_law 1229 = .ok (.iaload, 1) := by decide +kernel
theorem dL_law_1230 : decode cL_law 1230 = .ok (.invokevirtual 222, 3) := by decide +kernel
theorem dL_law_1233 : decode cL_law 1233 = .ok (.istore 7, 2) := by decide +kernel
theorem dL_law_1235 : decode cL_law 1235 = .ok (.aload_n 2, 1) := by decide +kernel
theorem dL_law_1236 : decode cL_law 1236 = .ok (.invokevirtual 173, 3) := by decide +kernel
theorem dL_law_1239 : decode cL_law 1239 = .ok (.iload 6, 2) := by decide +kernel
theorem dL_law_1241 : decode cL_law 1241 = .ok (.if_icmp .eq 5, 3) := by decide +kernel
theorem dL_law_1244 : decode cL_law 1244 = .ok (.iconst 0, 1) := by decide +kernel
theorem dL_law_1245 : decode cL_law 1245 = .ok (.ireturn, 1) := by decide +kernel
theorem dL_law_1246 : decode cL_law 1246 = .ok (.iload 6, 2) := by decide +kernel
theorem dL_law_1248 : decode cL_law 1248 = .ok (.ifCond .ne 15, 3) := by decide +kernel
theorem dL_law_1251 : decode cL_law 1251 = .ok (.aload_n 3, 1) := by decide +kernel
theorem dL_law_1252 : decode cL_law 1252 = .ok (.iconst 0, 1) := by decide +kernel
theorem dL_law_1253 : decode cL_law 1253 = .ok (.laload, 1) := by decide +kernel
theorem dL_law_1254 : decode cL_law 1254 = .ok (.iload 7, 2) := by decide +kernel
theorem dL_law_1256 : decode cL_law 1256 = .ok (.i2l, 1) := by decide +kernel
theorem dL_law_1257 : decode cL_law 1257 = .ok (.lcmp, 1) := by decide +kernel
theorem dL_law_1258 : decode cL_law 1258 = .ok (.ifCond .eq 5, 3) := by decide +kernel
theorem dL_law_1261 : decode cL_law 1261 = .ok (.iconst 0, 1) := by decide +kernel
theorem dL_law_1262 : decode cL_law 1262 = .ok (.ireturn, 1) := by decide +kernel
theorem dL_law_1263 : decode cL_law 1263 = .ok (.goto 1854, 3) := by decide +kernel
theorem dL_law_1266 : decode cL_law 1266 = .ok (.aload_n 1, 1) := by decide +kernel
theorem dL_law_1267 : decode cL_law 1267 = .ok (.aload_n 0, 1) := by decide +kernel
theorem dL_law_1268 : decode cL_law 1268 = .ok (.iload 5, 2) := by decide +kernel
theorem dL_law_1270 : decode cL_law 1270 = .ok (.iconst 1, 1) := by decide +kernel
theorem dL_law_1271 : decode cL_law 1271 = .ok (.iadd, 1) := by decide +kernel
theorem dL_law_1272 : decode cL_law 1272 = .ok (.iaload, 1) := by decide +kernel
theorem dL_law_1273 : decode cL_law 1273 = .ok (.aload_n 3, 1) := by decide +kernel
theorem dL_law_1274 : decode cL_law 1274 = .ok (.invokestatic 223, 3) := by decide +kernel
theorem dL_law_1277 : decode cL_law 1277 = .ok (.istore 6, 2) := by decide +kernel
theorem dL_law_1279 : decode cL_law 1279 = .ok (.aload_n 2, 1) := by decide +kernel
theorem dL_law_1280 : decode cL_law 1280 = .ok (.aload_n 0, 1) := by decide +kernel
theorem dL_law_1281 : decode cL_law 1281 = .ok (.iload 5, 2) := by decide +kernel
theorem dL_law_1283 : decode cL_law 1283 = .ok (.iconst 1, 1) := by decide +kernel
theorem dL_law_1284 : decode cL_law 1284 = .ok (.iadd, 1) := by decide +kernel
theorem dL_law_1285 : decode cL_law 1285 = .ok (.iaload, 1) := by decide +kernel
theorem dL_law_1286 : decode cL_law 1286 = .ok (.invokevirtual 225, 3) := by decide +kernel
theorem dL_law_1289 : decode cL_law 1289 = .ok (.istore 7, 2) := by decide +kernel
theorem dL_law_1291 : decode cL_law 1291 = .ok (.aload_n 2, 1) := by decide +kernel
theorem dL_law_1292 : decode cL_law 1292 = .ok (.invokevirtual 173, 3) := by decide +kernel
theorem dL_law_1295 : decode cL_law 1295 = .ok (.iload 6, 2) := by decide +kernel
theorem dL_law_1297 : decode cL_law 1297 = .ok (.if_icmp .eq 5, 3) := by decide +kernel
theorem dL_law_1300 : decode cL_law 1300 = .ok (.iconst 0, 1) := by decide +kernel
theorem dL_law_1301 : decode cL_law 1301 = .ok (.ireturn, 1) := by decide +kernel
theorem dL_law_1302 : decode cL_law 1302 = .ok (.iload 6, 2) := by decide +kernel
theorem dL_law_1304 : decode cL_law 1304 = .ok (.ifCond .ne 15, 3) := by decide +kernel
theorem dL_law_1307 : decode cL_law 1307 = .ok (.aload_n 3, 1) := by decide +kernel
theorem dL_law_1308 : decode cL_law 1308 = .ok (.iconst 0, 1) := by decide +kernel
theorem dL_law_1309 : decode cL_law 1309 = .ok (.laload, 1) := by decide +kernel
theorem dL_law_1310 : decode cL_law 1310 = .ok (.iload 7, 2) := by decide +kernel
theorem dL_law_1312 : decode cL_law 1312 = .ok (.i2l, 1) := by decide +kernel
theorem dL_law_1313 : decode cL_law 1313 = .ok (.lcmp, 1) := by decide +kernel
theorem dL_law_1314 : decode cL_law 1314 = .ok (.ifCond .eq 5, 3) := by decide +kernel
theorem dL_law_1317 : decode cL_law 1317 = .ok (.iconst 0, 1) := by decide +kernel
theorem dL_law_1318 : decode cL_law 1318 = .ok (.ireturn, 1) := by decide +kernel
theorem dL_law_1319 : decode cL_law 1319 = .ok (.goto 1798, 3) := by decide +kernel
theorem dL_law_1322 : decode cL_law 1322 = .ok (.aload_n 1, 1) := by decide +kernel
theorem dL_law_1323 : decode cL_law 1323 = .ok (.aload_n 0, 1) := by decide +kernel
theorem dL_law_1324 : decode cL_law 1324 = .ok (.iload 5, 2) := by decide +kernel
theorem dL_law_1326 : decode cL_law 1326 = .ok (.iconst 1, 1) := by decide +kernel
theorem dL_law_1327 : decode cL_law 1327 = .ok (.iadd, 1) := by decide +kernel
theorem dL_law_1328 : decode cL_law 1328 = .ok (.iaload, 1) := by decide +kernel
theorem dL_law_1329 : decode cL_law 1329 = .ok (.aload_n 3, 1) := by decide +kernel
theorem dL_law_1330 : decode cL_law 1330 = .ok (.invokestatic 226, 3) := by decide +kernel
theorem dL_law_1333 : decode cL_law 1333 = .ok (.istore 6, 2) := by decide +kernel
theorem dL_law_1335 : decode cL_law 1335 = .ok (.aload_n 2, 1) := by decide +kernel
theorem dL_law_1336 : decode cL_law 1336 = .ok (.aload_n 0, 1) := by decide +kernel
theorem dL_law_1337 : decode cL_law 1337 = .ok (.iload 5, 2) := by decide +kernel
theorem dL_law_1339 : decode cL_law 1339 = .ok (.iconst 1, 1) := by decide +kernel
theorem dL_law_1340 : decode cL_law 1340 = .ok (.iadd, 1) := by decide +kernel
theorem dL_law_1341 : decode cL_law 1341 = .ok (.iaload, 1) := by decide +kernel
theorem dL_law_1342 : decode cL_law 1342 = .ok (.invokevirtual 228, 3) := by decide +kernel
theorem dL_law_1345 : decode cL_law 1345 = .ok (.istore 7, 2) := by decide +kernel
theorem dL_law_1347 : decode cL_law 1347 = .ok (.aload_n 2, 1) := by decide +kernel
theorem dL_law_1348 : decode cL_law 1348 = .ok (.invokevirtual 173, 3) := by decide +kernel
theorem dL_law_1351 : decode cL_law 1351 = .ok (.iload 6, 2) := by decide +kernel
theorem dL_law_1353 : decode cL_law 1353 = .ok (.if_icmp .eq 5, 3) := by decide +kernel
theorem dL_law_1356 : decode cL_law 1356 = .ok (.iconst 0, 1) := by decide +kernel
theorem dL_law_1357 : decode cL_law 1357 = .ok (.ireturn, 1) := by decide +kernel
theorem dL_law_1358 : decode cL_law 1358 = .ok (.iload 6, 2) := by decide +kernel
theorem dL_law_1360 : decode cL_law 1360 = .ok (.ifCond .ne 15, 3) := by decide +kernel
theorem dL_law_1363 : decode cL_law 1363 = .ok (.aload_n 3, 1) := by decide +kernel
theorem dL_law_1364 : decode cL_law 1364 = .ok (.iconst 0, 1) := by decide +kernel
theorem dL_law_1365 : decode cL_law 1365 = .ok (.laload, 1) := by decide +kernel
theorem dL_law_1366 : decode cL_law 1366 = .ok (.iload 7, 2) := by decide +kernel
theorem dL_law_1368 : decode cL_law 1368 = .ok (.i2l, 1) := by decide +kernel
theorem dL_law_1369 : decode cL_law 1369 = .ok (.lcmp, 1) := by decide +kernel
theorem dL_law_1370 : decode cL_law 1370 = .ok (.ifCond .eq 5, 3) := by decide +kernel
theorem dL_law_1373 : decode cL_law 1373 = .ok (.iconst 0, 1) := by decide +kernel
theorem dL_law_1374 : decode cL_law 1374 = .ok (.ireturn, 1) := by decide +kernel
theorem dL_law_1375 : decode cL_law 1375 = .ok (.goto 1742, 3) := by decide +kernel
theorem dL_law_1378 : decode cL_law 1378 = .ok (.aload_n 1, 1) := by decide +kernel
theorem dL_law_1379 : decode cL_law 1379 = .ok (.aload_n 0, 1) := by decide +kernel
theorem dL_law_1380 : decode cL_law 1380 = .ok (.iload 5, 2) := by decide +kernel
theorem dL_law_1382 : decode cL_law 1382 = .ok (.iconst 1, 1) := by decide +kernel
theorem dL_law_1383 : decode cL_law 1383 = .ok (.iadd, 1) := by decide +kernel
theorem dL_law_1384 : decode cL_law 1384 = .ok (.iaload, 1) := by decide +kernel
theorem dL_law_1385 : decode cL_law 1385 = .ok (.aload_n 3, 1) := by decide +kernel
theorem dL_law_1386 : decode cL_law 1386 = .ok (.invokestatic 229, 3) := by decide +kernel
theorem dL_law_1389 : decode cL_law 1389 = .ok (.istore 6, 2) := by decide +kernel
theorem dL_law_1391 : decode cL_law 1391 = .ok (.aload_n 2, 1) := by decide +kernel
theorem dL_law_1392 : decode cL_law 1392 = .ok (.aload_n 0, 1) := by decide +kernel
theorem dL_law_1393 : decode cL_law 1393 = .ok (.iload 5, 2) := by decide +kernel
theorem dL_law_1395 : decode cL_law 1395 = .ok (.iconst 1, 1) := by decide +kernel
theorem dL_law_1396 : decode cL_law 1396 = .ok (.iadd, 1) := by decide +kernel
theorem dL_law_1397 : decode cL_law 1397 = .ok (.iaload, 1) := by decide +kernel
theorem dL_law_1398 : decode cL_law 1398 = .ok (.invokevirtual 231, 3) := by decide +kernel
theorem dL_law_1401 : decode cL_law 1401 = .ok (.istore 7, 2) := by decide +kernel
theorem dL_law_1403 : decode cL_law 1403 = .ok (.aload_n 2, 1) := by decide +kernel
theorem dL_law_1404 : decode cL_law 1404 = .ok (.invokevirtual 173, 3) := by decide +kernel
theorem dL_law_1407 : decode cL_law 1407 = .ok (.iload 6, 2) := by decide +kernel
theorem dL_law_1409 : decode cL_law 1409 = .ok (.if_icmp .eq 5, 3) := by decide +kernel
theorem dL_law_1412 : decode cL_law 1412 = .ok (.iconst 0, 1) := by decide +kernel
theorem dL_law_1413 : decode cL_law 1413 = .ok (.ireturn, 1) := by decide +kernel
theorem dL_law_1414 : decode cL_law 1414 = .ok (.iload 6, 2) := by decide +kernel
theorem dL_law_1416 : decode cL_law 1416 = .ok (.ifCond .ne 15, 3) := by decide +kernel
theorem dL_law_1419 : decode cL_law 1419 = .ok (.aload_n 3, 1) := by decide +kernel
theorem dL_law_1420 : decode cL_law 1420 = .ok (.iconst 0, 1) := by decide +kernel
theorem dL_law_1421 : decode cL_law 1421 = .ok (.laload, 1) := by decide +kernel
theorem dL_law_1422 : decode cL_law 1422 = .ok (.iload 7, 2) := by decide +kernel
theorem dL_law_1424 : decode cL_law 1424 = .ok (.i2l, 1) := by decide +kernel
theorem dL_law_1425 : decode cL_law 1425 = .ok (.lcmp, 1) := by decide +kernel
theorem dL_law_1426 : decode cL_law 1426 = .ok (.ifCond .eq 5, 3) := by decide +kernel
theorem dL_law_1429 : decode cL_law 1429 = .ok (.iconst 0, 1) := by decide +kernel
theorem dL_law_1430 : decode cL_law 1430 = .ok (.ireturn, 1) := by decide +kernel
theorem dL_law_1431 : decode cL_law 1431 = .ok (.goto 1686, 3) := by decide +kernel
theorem dL_law_1434 : decode cL_law 1434 = .ok (.aload_n 1, 1) := by decide +kernel
theorem dL_law_1435 : decode cL_law 1435 = .ok (.invokevirtual 232, 3) := by decide +kernel
theorem dL_law_1438 : decode cL_law 1438 = .ok (.aload_n 2, 1) := by decide +kernel
theorem dL_law_1439 : decode cL_law 1439 = .ok (.invokevirtual 235, 3) := by decide +kernel
theorem dL_law_1442 : decode cL_law 1442 = .ok (.if_icmp .eq 1675, 3) := by decide +kernel
theorem dL_law_1445 : decode cL_law 1445 = .ok (.iconst 0, 1) := by decide +kernel
theorem dL_law_1446 : decode cL_law 1446 = .ok (.ireturn, 1) := by decide +kernel
theorem dL_law_1447 : decode cL_law 1447 = .ok (.aload_n 1, 1) := by decide +kernel
theorem dL_law_1448 : decode cL_law 1448 = .ok (.invokevirtual 236, 3) := by decide +kernel
theorem dL_law_1451 : decode cL_law 1451 = .ok (.aload_n 2, 1) := by decide +kernel
theorem dL_law_1452 : decode cL_law 1452 = .ok (.invokevirtual 239, 3) := by decide +kernel
theorem dL_law_1455 : decode cL_law 1455 = .ok (.if_icmp .eq 1662, 3) := by decide +kernel
theorem dL_law_1458 : decode cL_law 1458 = .ok (.iconst 0, 1) := by decide +kernel
theorem dL_law_1459 : decode cL_law 1459 = .ok (.ireturn, 1) := by decide +kernel
theorem dL_law_1460 : decode cL_law 1460 = .ok (.aload_n 1, 1) := by decide +kernel
theorem dL_law_1461 : decode cL_law 1461 = .ok (.invokevirtual 240, 3) := by decide +kernel
theorem dL_law_1464 : decode cL_law 1464 = .ok (.aload_n 2, 1) := by decide +kernel
theorem dL_law_1465 : decode cL_law 1465 = .ok (.invokevirtual 243, 3) := by decide +kernel
theorem dL_law_1468 : decode cL_law 1468 = .ok (.if_icmp .eq 1649, 3) := by decide +kernel
theorem dL_law_1471 : decode cL_law 1471 = .ok (.iconst 0, 1) := by decide +kernel
theorem dL_law_1472 : decode cL_law 1472 = .ok (.ireturn, 1) := by decide +kernel
theorem dL_law_1473 : decode cL_law 1473 = .ok (.aload_n 1, 1) := by decide +kernel
theorem dL_law_1474 : decode cL_law 1474 = .ok (.aload_n 0, 1) := by decide +kernel
theorem dL_law_1475 : decode cL_law 1475 = .ok (.iload 5, 2) := by decide +kernel
theorem dL_law_1477 : decode cL_law 1477 = .ok (.iconst 1, 1) := by decide +kernel
theorem dL_law_1478 : decode cL_law 1478 = .ok (.iadd, 1) := by decide +kernel
theorem dL_law_1479 : decode cL_law 1479 = .ok (.iaload, 1) := by decide +kernel
theorem dL_law_1480 : decode cL_law 1480 = .ok (.aload_n 0, 1) := by decide +kernel
theorem dL_law_1481 : decode cL_law 1481 = .ok (.iload 5, 2) := by decide +kernel
theorem dL_law_1483 : decode cL_law 1483 = .ok (.iconst 2, 1) := by decide +kernel
theorem dL_law_1484 : decode cL_law 1484 = .ok (.iadd, 1) := by decide +kernel
theorem dL_law_1485 : decode cL_law 1485 = .ok (.iaload, 1) := by decide +kernel
theorem dL_law_1486 : decode cL_law 1486 = .ok (.aload_n 0, 1) := by decide +kernel
theorem dL_law_1487 : decode cL_law 1487 = .ok (.iload 5, 2) := by decide +kernel
theorem dL_law_1489 : decode cL_law 1489 = .ok (.iconst 3, 1) := by decide +kernel
theorem dL_law_1490 : decode cL_law 1490 = .ok (.iadd, 1) := by decide +kernel
theorem dL_law_1491 : decode cL_law 1491 = .ok (.iaload, 1) := by decide +kernel
theorem dL_law_1492 : decode cL_law 1492 = .ok (.i2c, 1) := by decide +kernel
theorem dL_law_1493 : decode cL_law 1493 = .ok (.aload_n 0, 1) := by decide +kernel
theorem dL_law_1494 : decode cL_law 1494 = .ok (.iload 5, 2) := by decide +kernel
theorem dL_law_1496 : decode cL_law 1496 = .ok (.iconst 4, 1) := by decide +kernel
theorem dL_law_1497 : decode cL_law 1497 = .ok (.iadd, 1) := by decide +kernel
theorem dL_law_1498 : decode cL_law 1498 = .ok (.iaload, 1) := by decide +kernel
theorem dL_law_1499 : decode cL_law 1499 = .ok (.aload_n 3, 1) := by decide +kernel
theorem dL_law_1500 : decode cL_law 1500 = .ok (.invokestatic 244, 3) := by decide +kernel
theorem dL_law_1503 : decode cL_law 1503 = .ok (.istore 6, 2) := by decide +kernel
theorem dL_law_1505 : decode cL_law 1505 = .ok (.aload_n 2, 1) := by decide +kernel
theorem dL_law_1506 : decode cL_law 1506 = .ok (.aload_n 0, 1) := by decide +kernel
theorem dL_law_1507 : decode cL_law 1507 = .ok (.iload 5, 2) := by decide +kernel
theorem dL_law_1509 : decode cL_law 1509 = .ok (.iconst 1, 1) := by decide +kernel
theorem dL_law_1510 : decode cL_law 1510 = .ok (.iadd, 1) := by decide +kernel
theorem dL_law_1511 : decode cL_law 1511 = .ok (.iaload, 1) := by decide +kernel
theorem dL_law_1512 : decode cL_law 1512 = .ok (.aload_n 0, 1) := by decide +kernel
theorem dL_law_1513 : decode cL_law 1513 = .ok (.iload 5, 2) := by decide +kernel
theorem dL_law_1515 : decode cL_law 1515 = .ok (.iconst 2, 1) := by decide +kernel
theorem dL_law_1516 : decode cL_law 1516 = .ok (.iadd, 1) := by decide +kernel
theorem dL_law_1517 : decode cL_law 1517 = .ok (.iaload, 1) := by decide +kernel
theorem dL_law_1518 : decode cL_law 1518 = .ok (.aload_n 0, 1) := by decide +kernel
theorem dL_law_1519 : decode cL_law 1519 = .ok (.iload 5, 2) := by decide +kernel
theorem dL_law_1521 : decode cL_law 1521 = .ok (.iconst 3, 1) := by decide +kernel
theorem dL_law_1522 : decode cL_law 1522 = .ok (.iadd, 1) := by decide +kernel
theorem dL_law_1523 : decode cL_law 1523 = .ok (.iaload, 1) := by decide +kernel
theorem dL_law_1524 : decode cL_law 1524 = .ok (.i2c, 1) := by decide +kernel
theorem dL_law_1525 : decode cL_law 1525 = .ok (.aload_n 0, 1) := by decide +kernel
theorem dL_law_1526 : decode cL_law 1526 = .ok (.iload 5, 2) := by decide +kernel
theorem dL_law_1528 : decode cL_law 1528 = .ok (.iconst 4, 1) := by decide +kernel
theorem dL_law_1529 : decode cL_law 1529 = .ok (.iadd, 1) := by decide +kernel
theorem dL_law_1530 : decode cL_law 1530 = .ok (.iaload, 1) := by decide +kernel
theorem dL_law_1531 : decode cL_law 1531 = .ok (.invokevirtual 247, 3) := by decide +kernel
theorem dL_law_1534 : decode cL_law 1534 = .ok (.istore 7, 2) := by decide +kernel
theorem dL_law_1536 : decode cL_law 1536 = .ok (.aload_n 2, 1) := by decide +kernel
theorem dL_law_1537 : decode cL_law 1537 = .ok (.invokevirtual 173, 3) := by decide +kernel
theorem dL_law_1540 : decode cL_law 1540 = .ok (.iload 6, 2) := by decide +kernel
theorem dL_law_1542 : decode cL_law 1542 = .ok (.if_icmp .eq 5, 3) := by decide +kernel
theorem dL_law_1545 : decode cL_law 1545 = .ok (.iconst 0, 1) := by decide +kernel
theorem dL_law_1546 : decode cL_law 1546 = .ok (.ireturn, 1) := by decide +kernel
theorem dL_law_1547 : decode cL_law 1547 = .ok (.iload 6, 2) := by decide +kernel
theorem dL_law_1549 : decode cL_law 1549 = .ok (.ifCond .ne 15, 3) := by decide +kernel
theorem dL_law_1552 : decode cL_law 1552 = .ok (.aload_n 3, 1) := by decide +kernel
theorem dL_law_1553 : decode cL_law 1553 = .ok (.iconst 0, 1) := by decide +kernel
theorem dL_law_1554 : decode cL_law 1554 = .ok (.laload, 1) := by decide +kernel
theorem dL_law_1555 : decode cL_law 1555 = .ok (.iload 7, 2) := by decide +kernel
theorem dL_law_1557 : decode cL_law 1557 = .ok (.i2l, 1) := by decide +kernel
theorem dL_law_1558 : decode cL_law 1558 = .ok (.lcmp, 1) := by decide +kernel
theorem dL_law_1559 : decode cL_law 1559 = .ok (.ifCond .eq 5, 3) := by decide +kernel
theorem dL_law_1562 : decode cL_law 1562 = .ok (.iconst 0, 1) := by decide +kernel
theorem dL_law_1563 : decode cL_law 1563 = .ok (.ireturn, 1) := by decide +kernel
theorem dL_law_1564 : decode cL_law 1564 = .ok (.goto 1553, 3) := by decide +kernel
theorem dL_law_1567 : decode cL_law 1567 = .ok (.aload_n 1, 1) := by decide +kernel
theorem dL_law_1568 : decode cL_law 1568 = .ok (.aload_n 0, 1) := by decide +kernel
theorem dL_law_1569 : decode cL_law 1569 = .ok (.iload 5, 2) := by decide +kernel
theorem dL_law_1571 : decode cL_law 1571 = .ok (.iconst 1, 1) := by decide +kernel
theorem dL_law_1572 : decode cL_law 1572 = .ok (.iadd, 1) := by decide +kernel
theorem dL_law_1573 : decode cL_law 1573 = .ok (.iaload, 1) := by decide +kernel
theorem dL_law_1574 : decode cL_law 1574 = .ok (.aload_n 3, 1) := by decide +kernel
theorem dL_law_1575 : decode cL_law 1575 = .ok (.invokestatic 248, 3) := by decide +kernel
theorem dL_law_1578 : decode cL_law 1578 = .ok (.istore 6, 2) := by decide +kernel
theorem dL_law_1580 : decode cL_law 1580 = .ok (.aload_n 2, 1) := by decide +kernel
theorem dL_law_1581 : decode cL_law 1581 = .ok (.aload_n 0, 1) := by decide +kernel
theorem dL_law_1582 : decode cL_law 1582 = .ok (.iload 5, 2) := by decide +kernel
theorem dL_law_1584 : decode cL_law 1584 = .ok (.iconst 1, 1) := by decide +kernel
theorem dL_law_1585 : decode cL_law 1585 = .ok (.iadd, 1) := by decide +kernel
theorem dL_law_1586 : decode cL_law 1586 = .ok (.iaload, 1) := by decide +kernel
theorem dL_law_1587 : decode cL_law 1587 = .ok (.invokevirtual 250, 3) := by decide +kernel
theorem dL_law_1590 : decode cL_law 1590 = .ok (.istore 7, 2) := by decide +kernel
theorem dL_law_1592 : decode cL_law 1592 = .ok (.aload_n 2, 1) := by decide +kernel
theorem dL_law_1593 : decode cL_law 1593 = .ok (.invokevirtual 173, 3) := by decide +kernel
theorem dL_law_1596 : decode cL_law 1596 = .ok (.iload 6, 2) := by decide +kernel
theorem dL_law_1598 : decode cL_law 1598 = .ok (.if_icmp .eq 5, 3) := by decide +kernel
theorem dL_law_1601 : decode cL_law 1601 = .ok (.iconst 0, 1) := by decide +kernel
theorem dL_law_1602 : decode cL_law 1602 = .ok (.ireturn, 1) := by decide +kernel
theorem dL_law_1603 : decode cL_law 1603 = .ok (.iload 6, 2) := by decide +kernel
theorem dL_law_1605 : decode cL_law 1605 = .ok (.ifCond .ne 15, 3) := by decide +kernel
theorem dL_law_1608 : decode cL_law 1608 = .ok (.aload_n 3, 1) := by decide +kernel
theorem dL_law_1609 : decode cL_law 1609 = .ok (.iconst 0, 1) := by decide +kernel
theorem dL_law_1610 : decode cL_law 1610 = .ok (.laload, 1) := by decide +kernel
theorem dL_law_1611 : decode cL_law 1611 = .ok (.iload 7, 2) := by decide +kernel
theorem dL_law_1613 : decode cL_law 1613 = .ok (.i2l, 1) := by decide +kernel
theorem dL_law_1614 : decode cL_law 1614 = .ok (.lcmp, 1) := by decide +kernel
theorem dL_law_1615 : decode cL_law 1615 = .ok (.ifCond .eq 5, 3) := by decide +kernel
theorem dL_law_1618 : decode cL_law 1618 = .ok (.iconst 0, 1) := by decide +kernel
theorem dL_law_1619 : decode cL_law 1619 = .ok (.ireturn, 1) := by decide +kernel
theorem dL_law_1620 : decode cL_law 1620 = .ok (.goto 1497, 3) := by decide +kernel
theorem dL_law_1623 : decode cL_law 1623 = .ok (.aload_n 1, 1) := by decide +kernel
theorem dL_law_1624 : decode cL_law 1624 = .ok (.aload_n 0, 1) := by decide +kernel
theorem dL_law_1625 : decode cL_law 1625 = .ok (.iload 5, 2) := by decide +kernel
theorem dL_law_1627 : decode cL_law 1627 = .ok (.iconst 1, 1) := by decide +kernel
theorem dL_law_1628 : decode cL_law 1628 = .ok (.iadd, 1) := by decide +kernel
theorem dL_law_1629 : decode cL_law 1629 = .ok (.iaload, 1) := by decide +kernel
theorem dL_law_1630 : decode cL_law 1630 = .ok (.aload_n 3, 1) := by decide +kernel
theorem dL_law_1631 : decode cL_law 1631 = .ok (.invokestatic 251, 3) := by decide +kernel
theorem dL_law_1634 : decode cL_law 1634 = .ok (.istore 6, 2) := by decide +kernel
theorem dL_law_1636 : decode cL_law 1636 = .ok (.aload_n 2, 1) := by decide +kernel
theorem dL_law_1637 : decode cL_law 1637 = .ok (.aload_n 0, 1) := by decide +kernel
theorem dL_law_1638 : decode cL_law 1638 = .ok (.iload 5, 2) := by decide +kernel
theorem dL_law_1640 : decode cL_law 1640 = .ok (.iconst 1, 1) := by decide +kernel
theorem dL_law_1641 : decode cL_law 1641 = .ok (.iadd, 1) := by decide +kernel
theorem dL_law_1642 : decode cL_law 1642 = .ok (.iaload, 1) := by decide +kernel
theorem dL_law_1643 : decode cL_law 1643 = .ok (.invokevirtual 253, 3) := by decide +kernel
theorem dL_law_1646 : decode cL_law 1646 = .ok (.istore 7, 2) := by decide +kernel
theorem dL_law_1648 : decode cL_law 1648 = .ok (.aload_n 2, 1) := by decide +kernel
theorem dL_law_1649 : decode cL_law 1649 = .ok (.invokevirtual 173, 3) := by decide +kernel
theorem dL_law_1652 : decode cL_law 1652 = .ok (.iload 6, 2) := by decide +kernel
theorem dL_law_1654 : decode cL_law 1654 = .ok (.if_icmp .eq 5, 3) := by decide +kernel
theorem dL_law_1657 : decode cL_law 1657 = .ok (.iconst 0, 1) := by decide +kernel
theorem dL_law_1658 : decode cL_law 1658 = .ok (.ireturn, 1) := by decide +kernel
theorem dL_law_1659 : decode cL_law 1659 = .ok (.iload 6, 2) := by decide +kernel
theorem dL_law_1661 : decode cL_law 1661 = .ok (.ifCond .ne 15, 3) := by decide +kernel
theorem dL_law_1664 : decode cL_law 1664 = .ok (.aload_n 3, 1) := by decide +kernel
theorem dL_law_1665 : decode cL_law 1665 = .ok (.iconst 0, 1) := by decide +kernel
theorem dL_law_1666 : decode cL_law 1666 = .ok (.laload, 1) := by decide +kernel
theorem dL_law_1667 : decode cL_law 1667 = .ok (.iload 7, 2) := by decide +kernel
theorem dL_law_1669 : decode cL_law 1669 = .ok (.i2l, 1) := by decide +kernel
theorem dL_law_1670 : decode cL_law 1670 = .ok (.lcmp, 1) := by decide +kernel
theorem dL_law_1671 : decode cL_law 1671 = .ok (.ifCond .eq 5, 3) := by decide +kernel
theorem dL_law_1674 : decode cL_law 1674 = .ok (.iconst 0, 1) := by decide +kernel
theorem dL_law_1675 : decode cL_law 1675 = .ok (.ireturn, 1) := by decide +kernel
theorem dL_law_1676 : decode cL_law 1676 = .ok (.goto 1441, 3) := by decide +kernel
theorem dL_law_1679 : decode cL_law 1679 = .ok (.aload_n 1, 1) := by decide +kernel
theorem dL_law_1680 : decode cL_law 1680 = .ok (.aload_n 0, 1) := by decide +kernel
theorem dL_law_1681 : decode cL_law 1681 = .ok (.iload 5, 2) := by decide +kernel
theorem dL_law_1683 : decode cL_law 1683 = .ok (.iconst 1, 1) := by decide +kernel
theorem dL_law_1684 : decode cL_law 1684 = .ok (.iadd, 1) := by decide +kernel
theorem dL_law_1685 : decode cL_law 1685 = .ok (.iaload, 1) := by decide +kernel
theorem dL_law_1686 : decode cL_law 1686 = .ok (.aload_n 0, 1) := by decide +kernel
theorem dL_law_1687 : decode cL_law 1687 = .ok (.iload 5, 2) := by decide +kernel
theorem dL_law_1689 : decode cL_law 1689 = .ok (.iconst 2, 1) := by decide +kernel
theorem dL_law_1690 : decode cL_law 1690 = .ok (.iadd, 1) := by decide +kernel
theorem dL_law_1691 : decode cL_law 1691 = .ok (.iaload, 1) := by decide +kernel
theorem dL_law_1692 : decode cL_law 1692 = .ok (.aload_n 3, 1) := by decide +kernel
theorem dL_law_1693 : decode cL_law 1693 = .ok (.invokestatic 254, 3) := by decide +kernel
theorem dL_law_1696 : decode cL_law 1696 = .ok (.istore 6, 2) := by decide +kernel
theorem dL_law_1698 : decode cL_law 1698 = .ok (.aload_n 2, 1) := by decide +kernel
theorem dL_law_1699 : decode cL_law 1699 = .ok (.aload_n 0, 1) := by decide +kernel
theorem dL_law_1700 : decode cL_law 1700 = .ok (.iload 5, 2) := by decide +kernel
theorem dL_law_1702 : decode cL_law 1702 = .ok (.iconst 1, 1) := by decide +kernel
theorem dL_law_1703 : decode cL_law 1703 = .ok (.iadd, 1) := by decide +kernel
theorem dL_law_1704 : decode cL_law 1704 = .ok (.iaload, 1) := by decide +kernel
theorem dL_law_1705 : decode cL_law 1705 = .ok (.aload_n 0, 1) := by decide +kernel
theorem dL_law_1706 : decode cL_law 1706 = .ok (.iload 5, 2) := by decide +kernel
theorem dL_law_1708 : decode cL_law 1708 = .ok (.iconst 2, 1) := by decide +kernel
theorem dL_law_1709 : decode cL_law 1709 = .ok (.iadd, 1) := by decide +kernel
theorem dL_law_1710 : decode cL_law 1710 = .ok (.iaload, 1) := by decide +kernel
theorem dL_law_1711 : decode cL_law 1711 = .ok (.invokevirtual 256, 3) := by decide +kernel
theorem dL_law_1714 : decode cL_law 1714 = .ok (.istore 7, 2) := by decide +kernel
theorem dL_law_1716 : decode cL_law 1716 = .ok (.aload_n 2, 1) := by decide +kernel
theorem dL_law_1717 : decode cL_law 1717 = .ok (.invokevirtual 173, 3) := by decide +kernel
theorem dL_law_1720 : decode cL_law 1720 = .ok (.iload 6, 2) := by decide +kernel
theorem dL_law_1722 : decode cL_law 1722 = .ok (.if_icmp .eq 5, 3) := by decide +kernel
theorem dL_law_1725 : decode cL_law 1725 = .ok (.iconst 0, 1) := by decide +kernel
theorem dL_law_1726 : decode cL_law 1726 = .ok (.ireturn, 1) := by decide +kernel
theorem dL_law_1727 : decode cL_law 1727 = .ok (.iload 6, 2) := by decide +kernel
theorem dL_law_1729 : decode cL_law 1729 = .ok (.ifCond .ne 15, 3) := by decide +kernel
theorem dL_law_1732 : decode cL_law 1732 = .ok (.aload_n 3, 1) := by decide +kernel
theorem dL_law_1733 : decode cL_law 1733 = .ok (.iconst 0, 1) := by decide +kernel
theorem dL_law_1734 : decode cL_law 1734 = .ok (.laload, 1) := by decide +kernel
theorem dL_law_1735 : decode cL_law 1735 = .ok (.iload 7, 2) := by decide +kernel
theorem dL_law_1737 : decode cL_law 1737 = .ok (.i2l, 1) := by decide +kernel
theorem dL_law_1738 : decode cL_law 1738 = .ok (.lcmp, 1) := by decide +kernel
theorem dL_law_1739 : decode cL_law 1739 = .ok (.ifCond .eq 5, 3) := by decide +kernel
theorem dL_law_1742 : decode cL_law 1742 = .ok (.iconst 0, 1) := by decide +kernel
theorem dL_law_1743 : decode cL_law 1743 = .ok (.ireturn, 1) := by decide +kernel
theorem dL_law_1744 : decode cL_law 1744 = .ok (.goto 1373, 3) := by decide +kernel
theorem dL_law_1747 : decode cL_law 1747 = .ok (.aload_n 1, 1) := by decide +kernel
theorem dL_law_1748 : decode cL_law 1748 = .ok (.aload_n 0, 1) := by decide +kernel
theorem dL_law_1749 : decode cL_law 1749 = .ok (.iload 5, 2) := by decide +kernel
theorem dL_law_1751 : decode cL_law 1751 = .ok (.iconst 1, 1) := by decide +kernel
theorem dL_law_1752 : decode cL_law 1752 = .ok (.iadd, 1) := by decide +kernel
theorem dL_law_1753 : decode cL_law 1753 = .ok (.iaload, 1) := by decide +kernel
theorem dL_law_1754 : decode cL_law 1754 = .ok (.aload_n 3, 1) := by decide +kernel
theorem dL_law_1755 : decode cL_law 1755 = .ok (.invokestatic 257, 3) := by decide +kernel
theorem dL_law_1758 : decode cL_law 1758 = .ok (.istore 6, 2) := by decide +kernel
theorem dL_law_1760 : decode cL_law 1760 = .ok (.aload_n 2, 1) := by decide +kernel
theorem dL_law_1761 : decode cL_law 1761 = .ok (.aload_n 0, 1) := by decide +kernel
theorem dL_law_1762 : decode cL_law 1762 = .ok (.iload 5, 2) := by decide +kernel
theorem dL_law_1764 : decode cL_law 1764 = .ok (.iconst 1, 1) := by decide +kernel
theorem dL_law_1765 : decode cL_law 1765 = .ok (.iadd, 1) := by decide +kernel
theorem dL_law_1766 : decode cL_law 1766 = .ok (.iaload, 1) := by decide +kernel
theorem dL_law_1767 : decode cL_law 1767 = .ok (.invokevirtual 259, 3) := by decide +kernel
theorem dL_law_1770 : decode cL_law 1770 = .ok (.istore 7, 2) := by decide +kernel
theorem dL_law_1772 : decode cL_law 1772 = .ok (.aload_n 2, 1) := by decide +kernel
theorem dL_law_1773 : decode cL_law 1773 = .ok (.invokevirtual 173, 3) := by decide +kernel
theorem dL_law_1776 : decode cL_law 1776 = .ok (.iload 6, 2) := by decide +kernel
theorem dL_law_1778 : decode cL_law 1778 = .ok (.if_icmp .eq 5, 3) := by decide +kernel
theorem dL_law_1781 : decode cL_law 1781 = .ok (.iconst 0, 1) := by decide +kernel
theorem dL_law_1782 : decode cL_law 1782 = .ok (.ireturn, 1) := by decide +kernel
theorem dL_law_1783 : decode cL_law 1783 = .ok (.iload 6, 2) := by decide +kernel
theorem dL_law_1785 : decode cL_law 1785 = .ok (.ifCond .ne 15, 3) := by decide +kernel
theorem dL_law_1788 : decode cL_law 1788 = .ok (.aload_n 3, 1) := by decide +kernel
theorem dL_law_1789 : decode cL_law 1789 = .ok (.iconst 0, 1) := by decide +kernel
theorem dL_law_1790 : decode cL_law 1790 = .ok (.laload, 1) := by decide +kernel
theorem dL_law_1791 : decode cL_law 1791 = .ok (.iload 7, 2) := by decide +kernel
theorem dL_law_1793 : decode cL_law 1793 = .ok (.i2l, 1) := by decide +kernel
theorem dL_law_1794 : decode cL_law 1794 = .ok (.lcmp, 1) := by decide +kernel
theorem dL_law_1795 : decode cL_law 1795 = .ok (.ifCond .eq 5, 3) := by decide +kernel
theorem dL_law_1798 : decode cL_law 1798 = .ok (.iconst 0, 1) := by decide +kernel
theorem dL_law_1799 : decode cL_law 1799 = .ok (.ireturn, 1) := by decide +kernel
theorem dL_law_1800 : decode cL_law 1800 = .ok (.goto 1317, 3) := by decide +kernel
theorem dL_law_1803 : decode cL_law 1803 = .ok (.aload_n 1, 1) := by decide +kernel
theorem dL_law_1804 : decode cL_law 1804 = .ok (.aload_n 0, 1) := by decide +kernel
theorem dL_law_1805 : decode cL_law 1805 = .ok (.iload 5, 2) := by decide +kernel
theorem dL_law_1807 : decode cL_law 1807 = .ok (.iconst 1, 1) := by decide +kernel
theorem dL_law_1808 : decode cL_law 1808 = .ok (.iadd, 1) := by decide +kernel
theorem dL_law_1809 : decode cL_law 1809 = .ok (.iaload, 1) := by decide +kernel
theorem dL_law_1810 : decode cL_law 1810 = .ok (.aload_n 0, 1) := by decide +kernel
theorem dL_law_1811 : decode cL_law 1811 = .ok (.iload 5, 2) := by decide +kernel
theorem dL_law_1813 : decode cL_law 1813 = .ok (.iconst 2, 1) := by decide +kernel
theorem dL_law_1814 : decode cL_law 1814 = .ok (.iadd, 1) := by decide +kernel
theorem dL_law_1815 : decode cL_law 1815 = .ok (.iaload, 1) := by decide +kernel
theorem dL_law_1816 : decode cL_law 1816 = .ok (.aload_n 3, 1) := by decide +kernel
theorem dL_law_1817 : decode cL_law 1817 = .ok (.invokestatic 260, 3) := by decide +kernel
theorem dL_law_1820 : decode cL_law 1820 = .ok (.istore 6, 2) := by decide +kernel
theorem dL_law_1822 : decode cL_law 1822 = .ok (.aload_n 2, 1) := by decide +kernel
theorem dL_law_1823 : decode cL_law 1823 = .ok (.aload_n 0, 1) := by decide +kernel
theorem dL_law_1824 : decode cL_law 1824 = .ok (.iload 5, 2) := by decide +kernel
theorem dL_law_1826 : decode cL_law 1826 = .ok (.iconst 1, 1) := by decide +kernel
theorem dL_law_1827 : decode cL_law 1827 = .ok (.iadd, 1) := by decide +kernel
theorem dL_law_1828 : decode cL_law 1828 = .ok (.iaload, 1) := by decide +kernel
theorem dL_law_1829 : decode cL_law 1829 = .ok (.aload_n 0, 1) := by decide +kernel
theorem dL_law_1830 : decode cL_law 1830 = .ok (.iload 5, 2) := by decide +kernel
theorem dL_law_1832 : decode cL_law 1832 = .ok (.iconst 2, 1) := by decide +kernel
theorem dL_law_1833 : decode cL_law 1833 = .ok (.iadd, 1) := by decide +kernel
theorem dL_law_1834 : decode cL_law 1834 = .ok (.iaload, 1) := by decide +kernel
theorem dL_law_1835 : decode cL_law 1835 = .ok (.invokevirtual 262, 3) := by decide +kernel
theorem dL_law_1838 : decode cL_law 1838 = .ok (.istore 7, 2) := by decide +kernel
theorem dL_law_1840 : decode cL_law 1840 = .ok (.aload_n 2, 1) := by decide +kernel
theorem dL_law_1841 : decode cL_law 1841 = .ok (.invokevirtual 173, 3) := by decide +kernel
theorem dL_law_1844 : decode cL_law 1844 = .ok (.iload 6, 2) := by decide +kernel
theorem dL_law_1846 : decode cL_law 1846 = .ok (.if_icmp .eq 5, 3) := by decide +kernel
theorem dL_law_1849 : decode cL_law 1849 = .ok (.iconst 0, 1) := by decide +kernel
theorem dL_law_1850 : decode cL_law 1850 = .ok (.ireturn, 1) := by decide +kernel
theorem dL_law_1851 : decode cL_law 1851 = .ok (.iload 6, 2) := by decide +kernel
theorem dL_law_1853 : decode cL_law 1853 = .ok (.ifCond .ne 15, 3) := by decide +kernel
theorem dL_law_1856 : decode cL_law 1856 = .ok (.aload_n 3, 1) := by decide +kernel
theorem dL_law_1857 : decode cL_law 1857 = .ok (.iconst 0, 1) := by decide +kernel
theorem dL_law_1858 : decode cL_law 1858 = .ok (.laload, 1) := by decide +kernel
theorem dL_law_1859 : decode cL_law 1859 = .ok (.iload 7, 2) := by decide +kernel
theorem dL_law_1861 : decode cL_law 1861 = .ok (.i2l, 1) := by decide +kernel
theorem dL_law_1862 : decode cL_law 1862 = .ok (.lcmp, 1) := by decide +kernel
theorem dL_law_1863 : decode cL_law 1863 = .ok (.ifCond .eq 5, 3) := by decide +kernel
theorem dL_law_1866 : decode cL_law 1866 = .ok (.iconst 0, 1) := by decide +kernel
theorem dL_law_1867 : decode cL_law 1867 = .ok (.ireturn, 1) := by decide +kernel
theorem dL_law_1868 : decode cL_law 1868 = .ok (.goto 1249, 3) := by decide +kernel
theorem dL_law_1871 : decode cL_law 1871 = .ok (.aload_n 1, 1) := by decide +kernel
theorem dL_law_1872 : decode cL_law 1872 = .ok (.aload_n 0, 1) := by decide +kernel
theorem dL_law_1873 : decode cL_law 1873 = .ok (.iload 5, 2) := by decide +kernel
theorem dL_law_1875 : decode cL_law 1875 = .ok (.iconst 1, 1) := by decide +kernel
theorem dL_law_1876 : decode cL_law 1876 = .ok (.iadd, 1) := by decide +kernel
theorem dL_law_1877 : decode cL_law 1877 = .ok (.iaload, 1) := by decide +kernel
theorem dL_law_1878 : decode cL_law 1878 = .ok (.aload_n 3, 1) := by decide +kernel
theorem dL_law_1879 : decode cL_law 1879 = .ok (.invokestatic 263, 3) := by decide +kernel
theorem dL_law_1882 : decode cL_law 1882 = .ok (.istore 6, 2) := by decide +kernel
theorem dL_law_1884 : decode cL_law 1884 = .ok (.aload_n 2, 1) := by decide +kernel
theorem dL_law_1885 : decode cL_law 1885 = .ok (.aload_n 0, 1) := by decide +kernel
theorem dL_law_1886 : decode cL_law 1886 = .ok (.iload 5, 2) := by decide +kernel
theorem dL_law_1888 : decode cL_law 1888 = .ok (.iconst 1, 1) := by decide +kernel
theorem dL_law_1889 : decode cL_law 1889 = .ok (.iadd, 1) := by decide +kernel
theorem dL_law_1890 : decode cL_law 1890 = .ok (.iaload, 1) := by decide +kernel
theorem dL_law_1891 : decode cL_law 1891 = .ok (.invokevirtual 265, 3) := by decide +kernel
theorem dL_law_1894 : decode cL_law 1894 = .ok (.istore 7, 2) := by decide +kernel
theorem dL_law_1896 : decode cL_law 1896 = .ok (.aload_n 2, 1) := by decide +kernel
theorem dL_law_1897 : decode cL_law 1897 = .ok (.invokevirtual 173, 3) := by decide +kernel
theorem dL_law_1900 : decode cL_law 1900 = .ok (.iload 6, 2) := by decide +kernel
theorem dL_law_1902 : decode cL_law 1902 = .ok (.if_icmp .eq 5, 3) := by decide +kernel
theorem dL_law_1905 : decode cL_law 1905 = .ok (.iconst 0, 1) := by decide +kernel
theorem dL_law_1906 : decode cL_law 1906 = .ok (.ireturn, 1) := by decide +kernel
theorem dL_law_1907 : decode cL_law 1907 = .ok (.iload 6, 2) := by decide +kernel
theorem dL_law_1909 : decode cL_law 1909 = .ok (.ifCond .ne 15, 3) := by decide +kernel
theorem dL_law_1912 : decode cL_law 1912 = .ok (.aload_n 3, 1) := by decide +kernel
theorem dL_law_1913 : decode cL_law 1913 = .ok (.iconst 0, 1) := by decide +kernel
theorem dL_law_1914 : decode cL_law 1914 = .ok (.laload, 1) := by decide +kernel
theorem dL_law_1915 : decode cL_law 1915 = .ok (.iload 7, 2) := by decide +kernel
theorem dL_law_1917 : decode cL_law 1917 = .ok (.i2l, 1) := by decide +kernel
theorem dL_law_1918 : decode cL_law 1918 = .ok (.lcmp, 1) := by decide +kernel
theorem dL_law_1919 : decode cL_law 1919 = .ok (.ifCond .eq 5, 3) := by decide +kernel
theorem dL_law_1922 : decode cL_law 1922 = .ok (.iconst 0, 1) := by decide +kernel
theorem dL_law_1923 : decode cL_law 1923 = .ok (.ireturn, 1) := by decide +kernel
theorem dL_law_1924 : decode cL_law 1924 = .ok (.goto 1193, 3) := by decide +kernel
theorem dL_law_1927 : decode cL_law 1927 = .ok (.aload_n 1, 1) := by decide +kernel
theorem dL_law_1928 : decode cL_law 1928 = .ok (.aload_n 0, 1) := by decide +kernel
theorem dL_law_1929 : decode cL_law 1929 = .ok (.iload 5, 2) := by decide +kernel
theorem dL_law_1931 : decode cL_law 1931 = .ok (.iconst 1, 1) := by decide +kernel
theorem dL_law_1932 : decode cL_law 1932 = .ok (.iadd, 1) := by decide +kernel
theorem dL_law_1933 : decode cL_law 1933 = .ok (.iaload, 1) := by decide +kernel
theorem dL_law_1934 : decode cL_law 1934 = .ok (.aload_n 3, 1) := by decide +kernel
theorem dL_law_1935 : decode cL_law 1935 = .ok (.invokestatic 266, 3) := by decide +kernel
theorem dL_law_1938 : decode cL_law 1938 = .ok (.istore 6, 2) := by decide +kernel
theorem dL_law_1940 : decode cL_law 1940 = .ok (.aload_n 2, 1) := by decide +kernel
theorem dL_law_1941 : decode cL_law 1941 = .ok (.aload_n 0, 1) := by decide +kernel
theorem dL_law_1942 : decode cL_law 1942 = .ok (.iload 5, 2) := by decide +kernel
theorem dL_law_1944 : decode cL_law 1944 = .ok (.iconst 1, 1) := by decide +kernel
theorem dL_law_1945 : decode cL_law 1945 = .ok (.iadd, 1) := by decide +kernel
theorem dL_law_1946 : decode cL_law 1946 = .ok (.iaload, 1) := by decide +kernel
theorem dL_law_1947 : decode cL_law 1947 = .ok (.invokevirtual 268, 3) := by decide +kernel
theorem dL_law_1950 : decode cL_law 1950 = .ok (.istore 7, 2) := by decide +kernel
theorem dL_law_1952 : decode cL_law 1952 = .ok (.aload_n 2, 1) := by decide +kernel
theorem dL_law_1953 : decode cL_law 1953 = .ok (.invokevirtual 173, 3) := by decide +kernel
theorem dL_law_1956 : decode cL_law 1956 = .ok (.iload 6, 2) := by decide +kernel
theorem dL_law_1958 : decode cL_law 1958 = .ok (.if_icmp .eq 5, 3) := by decide +kernel
theorem dL_law_1961 : decode cL_law 1961 = .ok (.iconst 0, 1) := by decide +kernel
theorem dL_law_1962 : decode cL_law 1962 = .ok (.ireturn, 1) := by decide +kernel
theorem dL_law_1963 : decode cL_law 1963 = .ok (.iload 6, 2) := by decide +kernel
theorem dL_law_1965 : decode cL_law 1965 = .ok (.ifCond .ne 22, 3) := by decide +kernel
theorem dL_law_1968 : decode cL_law 1968 = .ok (.aload_n 3, 1) := by decide +kernel
theorem dL_law_1969 : decode cL_law 1969 = .ok (.iconst 0, 1) := by decide +kernel
theorem dL_law_1970 : decode cL_law 1970 = .ok (.laload, 1) := by decide +kernel
theorem dL_law_1971 : decode cL_law 1971 = .ok (.iload 7, 2) := by decide +kernel
theorem dL_law_1973 : decode cL_law 1973 = .ok (.ifCond .eq 7, 3) := by decide +kernel
theorem dL_law_1976 : decode cL_law 1976 = .ok (.lconst 1, 1) := by decide +kernel
theorem dL_law_1977 : decode cL_law 1977 = .ok (.goto 4, 3) := by decide +kernel
theorem dL_law_1980 : decode cL_law 1980 = .ok (.lconst 0, 1) := by decide +kernel
theorem dL_law_1981 : decode cL_law 1981 = .ok (.lcmp, 1) := by decide +kernel
theorem dL_law_1982 : decode cL_law 1982 = .ok (.ifCond .eq 5, 3) := by decide +kernel
theorem dL_law_1985 : decode cL_law 1985 = .ok (.iconst 0, 1) := by decide +kernel
theorem dL_law_1986 : decode cL_law 1986 = .ok (.ireturn, 1) := by decide +kernel
theorem dL_law_1987 : decode cL_law 1987 = .ok (.goto 1130, 3) := by decide +kernel
theorem dL_law_1990 : decode cL_law 1990 = .ok (.aload_n 1, 1) := by decide +kernel
theorem dL_law_1991 : decode cL_law 1991 = .ok (.aload_n 0, 1) := by decide +kernel
theorem dL_law_1992 : decode cL_law 1992 = .ok (.iload 5, 2) := by decide +kernel
theorem dL_law_1994 : decode cL_law 1994 = .ok (.iconst 1, 1) := by decide +kernel
theorem dL_law_1995 : decode cL_law 1995 = .ok (.iadd, 1) := by decide +kernel
theorem dL_law_1996 : decode cL_law 1996 = .ok (.iaload, 1) := by decide +kernel
theorem dL_law_1997 : decode cL_law 1997 = .ok (.aload_n 3, 1) := by decide +kernel
theorem dL_law_1998 : decode cL_law 1998 = .ok (.invokestatic 269, 3) := by decide +kernel
theorem dL_law_2001 : decode cL_law 2001 = .ok (.istore 6, 2) := by decide +kernel
theorem dL_law_2003 : decode cL_law 2003 = .ok (.aload_n 2, 1) := by decide +kernel
theorem dL_law_2004 : decode cL_law 2004 = .ok (.aload_n 0, 1) := by decide +kernel
theorem dL_law_2005 : decode cL_law 2005 = .ok (.iload 5, 2) := by decide +kernel
theorem dL_law_2007 : decode cL_law 2007 = .ok (.iconst 1, 1) := by decide +kernel
theorem dL_law_2008 : decode cL_law 2008 = .ok (.iadd, 1) := by decide +kernel
theorem dL_law_2009 : decode cL_law 2009 = .ok (.iaload, 1) := by decide +kernel
theorem dL_law_2010 : decode cL_law 2010 = .ok (.invokevirtual 271, 3) := by decide +kernel
theorem dL_law_2013 : decode cL_law 2013 = .ok (.istore 7, 2) := by decide +kernel
theorem dL_law_2015 : decode cL_law 2015 = .ok (.aload_n 2, 1) := by decide +kernel
theorem dL_law_2016 : decode cL_law 2016 = .ok (.invokevirtual 173, 3) := by decide +kernel
theorem dL_law_2019 : decode cL_law 2019 = .ok (.iload 6, 2) := by decide +kernel
theorem dL_law_2021 : decode cL_law 2021 = .ok (.if_icmp .eq 5, 3) := by decide +kernel
theorem dL_law_2024 : decode cL_law 2024 = .ok (.iconst 0, 1) := by decide +kernel
theorem dL_law_2025 : decode cL_law 2025 = .ok (.ireturn, 1) := by decide +kernel
theorem dL_law_2026 : decode cL_law 2026 = .ok (.iload 6, 2) := by decide +kernel
theorem dL_law_2028 : decode cL_law 2028 = .ok (.ifCond .ne 15, 3) := by decide +kernel
theorem dL_law_2031 : decode cL_law 2031 = .ok (.aload_n 3, 1) := by decide +kernel
theorem dL_law_2032 : decode cL_law 2032 = .ok (.iconst 0, 1) := by decide +kernel
theorem dL_law_2033 : decode cL_law 2033 = .ok (.laload, 1) := by decide +kernel
theorem dL_law_2034 : decode cL_law 2034 = .ok (.iload 7, 2) := by decide +kernel
theorem dL_law_2036 : decode cL_law 2036 = .ok (.i2l, 1) := by decide +kernel
theorem dL_law_2037 : decode cL_law 2037 = .ok (.lcmp, 1) := by decide +kernel
theorem dL_law_2038 : decode cL_law 2038 = .ok (.ifCond .eq 5, 3) := by decide +kernel
theorem dL_law_2041 : decode cL_law 2041 = .ok (.iconst 0, 1) := by decide +kernel
theorem dL_law_2042 : decode cL_law 2042 = .ok (.ireturn, 1) := by decide +kernel
theorem dL_law_2043 : decode cL_law 2043 = .ok (.goto 1074, 3) := by decide +kernel
theorem dL_law_2046 : decode cL_law 2046 = .ok (.aload_n 1, 1) := by decide +kernel
theorem dL_law_2047 : decode cL_law 2047 = .ok (.aload_n 0, 1) := by decide +kernel
theorem dL_law_2048 : decode cL_law 2048 = .ok (.iload 5, 2) := by decide +kernel
theorem dL_law_2050 : decode cL_law 2050 = .ok (.iconst 1, 1) := by decide +kernel
theorem dL_law_2051 : decode cL_law 2051 = .ok (.iadd, 1) := by decide +kernel
theorem dL_law_2052 : decode cL_law 2052 = .ok (.iaload, 1) := by decide +kernel
theorem dL_law_2053 : decode cL_law 2053 = .ok (.aload_n 3, 1) := by decide +kernel
theorem dL_law_2054 : decode cL_law 2054 = .ok (.invokestatic 272, 3) := by decide +kernel
theorem dL_law_2057 : decode cL_law 2057 = .ok (.istore 6, 2) := by decide +kernel
theorem dL_law_2059 : decode cL_law 2059 = .ok (.aload_n 2, 1) := by decide +kernel
theorem dL_law_2060 : decode cL_law 2060 = .ok (.aload_n 0, 1) := by decide +kernel
theorem dL_law_2061 : decode cL_law 2061 = .ok (.iload 5, 2) := by decide +kernel
theorem dL_law_2063 : decode cL_law 2063 = .ok (.iconst 1, 1) := by decide +kernel
theorem dL_law_2064 : decode cL_law 2064 = .ok (.iadd, 1) := by decide +kernel
theorem dL_law_2065 : decode cL_law 2065 = .ok (.iaload, 1) := by decide +kernel
theorem dL_law_2066 : decode cL_law 2066 = .ok (.invokevirtual 274, 3) := by decide +kernel
theorem dL_law_2069 : decode cL_law 2069 = .ok (.istore 7, 2) := by decide +kernel
theorem dL_law_2071 : decode cL_law 2071 = .ok (.aload_n 2, 1) := by decide +kernel
theorem dL_law_2072 : decode cL_law 2072 = .ok (.invokevirtual 173, 3) := by decide +kernel
theorem dL_law_2075 : decode cL_law 2075 = .ok (.iload 6, 2) := by decide +kernel
theorem dL_law_2077 : decode cL_law 2077 = .ok (.if_icmp .eq 5, 3) := by decide +kernel
theorem dL_law_2080 : decode cL_law 2080 = .ok (.iconst 0, 1) := by decide +kernel
theorem dL_law_2081 : decode cL_law 2081 = .ok (.ireturn, 1) := by decide +kernel
theorem dL_law_2082 : decode cL_law 2082 = .ok (.iload 6, 2) := by decide +kernel
theorem dL_law_2084 : decode cL_law 2084 = .ok (.ifCond .ne 15, 3) := by decide +kernel
theorem dL_law_2087 : decode cL_law 2087 = .ok (.aload_n 3, 1) := by decide +kernel
theorem dL_law_2088 : decode cL_law 2088 = .ok (.iconst 0, 1) := by decide +kernel
theorem dL_law_2089 : decode cL_law 2089 = .ok (.laload, 1) := by decide +kernel
theorem dL_law_2090 : decode cL_law 2090 = .ok (.iload 7, 2) := by decide +kernel
theorem dL_law_2092 : decode cL_law 2092 = .ok (.i2l, 1) := by decide +kernel
theorem dL_law_2093 : decode cL_law 2093 = .ok (.lcmp, 1) := by decide +kernel
theorem dL_law_2094 : decode cL_law 2094 = .ok (.ifCond .eq 5, 3) := by decide +kernel
theorem dL_law_2097 : decode cL_law 2097 = .ok (.iconst 0, 1) := by decide +kernel
theorem dL_law_2098 : decode cL_law 2098 = .ok (.ireturn, 1) := by decide +kernel
theorem dL_law_2099 : decode cL_law 2099 = .ok (.goto 1018, 3) := by decide +kernel
theorem dL_law_2102 : decode cL_law 2102 = .ok (.aload_n 1, 1) := by decide +kernel
theorem dL_law_2103 : decode cL_law 2103 = .ok (.aload_n 0, 1) := by decide +kernel
theorem dL_law_2104 : decode cL_law 2104 = .ok (.iload 5, 2) := by decide +kernel
theorem dL_law_2106 : decode cL_law 2106 = .ok (.iconst 1, 1) := by decide +kernel
theorem dL_law_2107 : decode cL_law 2107 = .ok (.iadd, 1) := by decide +kernel
theorem dL_law_2108 : decode cL_law 2108 = .ok (.iaload, 1) := by decide +kernel
theorem dL_law_2109 : decode cL_law 2109 = .ok (.aload_n 0, 1) := by decide +kernel
theorem dL_law_2110 : decode cL_law 2110 = .ok (.iload 5, 2) := by decide +kernel
theorem dL_law_2112 : decode cL_law 2112 = .ok (.iconst 2, 1) := by decide +kernel
theorem dL_law_2113 : decode cL_law 2113 = .ok (.iadd, 1) := by decide +kernel
theorem dL_law_2114 : decode cL_law 2114 = .ok (.iaload, 1) := by decide +kernel
theorem dL_law_2115 : decode cL_law 2115 = .ok (.aload_n 3, 1) := by decide +kernel
theorem dL_law_2116 : decode cL_law 2116 = .ok (.invokestatic 275, 3) := by decide +kernel
theorem dL_law_2119 : decode cL_law 2119 = .ok (.istore 6, 2) := by decide +kernel
theorem dL_law_2121 : decode cL_law 2121 = .ok (.aload_n 2, 1) := by decide +kernel
theorem dL_law_2122 : decode cL_law 2122 = .ok (.aload_n 0, 1) := by decide +kernel
theorem dL_law_2123 : decode cL_law 2123 = .ok (.iload 5, 2) := by decide +kernel
theorem dL_law_2125 : decode cL_law 2125 = .ok (.iconst 1, 1) := by decide +kernel
theorem dL_law_2126 : decode cL_law 2126 = .ok (.iadd, 1) := by decide +kernel
theorem dL_law_2127 : decode cL_law 2127 = .ok (.iaload, 1) := by decide +kernel
theorem dL_law_2128 : decode cL_law 2128 = .ok (.aload_n 0, 1) := by decide +kernel
theorem dL_law_2129 : decode cL_law 2129 = .ok (.iload 5, 2) := by decide +kernel
theorem dL_law_2131 : decode cL_law 2131 = .ok (.iconst 2, 1) := by decide +kernel
theorem dL_law_2132 : decode cL_law 2132 = .ok (.iadd, 1) := by decide +kernel
theorem dL_law_2133 : decode cL_law 2133 = .ok (.iaload, 1) := by decide +kernel
theorem dL_law_2134 : decode cL_law 2134 = .ok (.invokevirtual 277, 3) := by decide +kernel
theorem dL_law_2137 : decode cL_law 2137 = .ok (.istore 7, 2) := by decide +kernel
theorem dL_law_2139 : decode cL_law 2139 = .ok (.aload_n 2, 1) := by decide +kernel
theorem dL_law_2140 : decode cL_law 2140 = .ok (.invokevirtual 173, 3) := by decide +kernel
theorem dL_law_2143 : decode cL_law 2143 = .ok (.iload 6, 2) := by decide +kernel
theorem dL_law_2145 : decode cL_law 2145 = .ok (.if_icmp .eq 5, 3) := by decide +kernel
theorem dL_law_2148 : decode cL_law 2148 = .ok (.iconst 0, 1) := by decide +kernel
theorem dL_law_2149 : decode cL_law 2149 = .ok (.ireturn, 1) := by decide +kernel
theorem dL_law_2150 : decode cL_law 2150 = .ok (.iload 6, 2) := by decide +kernel
theorem dL_law_2152 : decode cL_law 2152 = .ok (.ifCond .ne 15, 3) := by decide +kernel
theorem dL_law_2155 : decode cL_law 2155 = .ok (.aload_n 3, 1) := by decide +kernel
theorem dL_law_2156 : decode cL_law 2156 = .ok (.iconst 0, 1) := by decide +kernel
theorem dL_law_2157 : decode cL_law 2157 = .ok (.laload, 1) := by decide +kernel
theorem dL_law_2158 : decode cL_law 2158 = .ok (.iload 7, 2) := by decide +kernel
theorem dL_law_2160 : decode cL_law 2160 = .ok (.i2l, 1) := by decide +kernel
theorem dL_law_2161 : decode cL_law 2161 = .ok (.lcmp, 1) := by decide +kernel
theorem dL_law_2162 : decode cL_law 2162 = .ok (.ifCond .eq 5, 3) := by decide +kernel
theorem dL_law_2165 : decode cL_law 2165 = .ok (.iconst 0, 1) := by decide +kernel
theorem dL_law_2166 : decode cL_law 2166 = .ok (.ireturn, 1) := by decide +kernel
theorem dL_law_2167 : decode cL_law 2167 = .ok (.goto 950, 3) := by decide +kernel
theorem dL_law_2170 : decode cL_law 2170 = .ok (.aload_n 1, 1) := by decide +kernel
theorem dL_law_2171 : decode cL_law 2171 = .ok (.aload_n 0, 1) := by decide +kernel
theorem dL_law_2172 : decode cL_law 2172 = .ok (.iload 5, 2) := by decide +kernel
theorem dL_law_2174 : decode cL_law 2174 = .ok (.iconst 1, 1) := by decide +kernel
theorem dL_law_2175 : decode cL_law 2175 = .ok (.iadd, 1) := by decide +kernel
theorem dL_law_2176 : decode cL_law 2176 = .ok (.iaload, 1) := by decide +kernel
theorem dL_law_2177 : decode cL_law 2177 = .ok (.aload_n 0, 1) := by decide +kernel
theorem dL_law_2178 : decode cL_law 2178 = .ok (.iload 5, 2) := by decide +kernel
theorem dL_law_2180 : decode cL_law 2180 = .ok (.iconst 2, 1) := by decide +kernel
theorem dL_law_2181 : decode cL_law 2181 = .ok (.iadd, 1) := by decide +kernel
theorem dL_law_2182 : decode cL_law 2182 = .ok (.iaload, 1) := by decide +kernel
theorem dL_law_2183 : decode cL_law 2183 = .ok (.aload_n 0, 1) := by decide +kernel
theorem dL_law_2184 : decode cL_law 2184 = .ok (.iload 5, 2) := by decide +kernel
theorem dL_law_2186 : decode cL_law 2186 = .ok (.iconst 3, 1) := by decide +kernel
theorem dL_law_2187 : decode cL_law 2187 = .ok (.iadd, 1) := by decide +kernel
theorem dL_law_2188 : decode cL_law 2188 = .ok (.iaload, 1) := by decide +kernel
theorem dL_law_2189 : decode cL_law 2189 = .ok (.i2c, 1) := by decide +kernel
theorem dL_law_2190 : decode cL_law 2190 = .ok (.aload_n 0, 1) := by decide +kernel
theorem dL_law_2191 : decode cL_law 2191 = .ok (.iload 5, 2) := by decide +kernel
theorem dL_law_2193 : decode cL_law 2193 = .ok (.iconst 4, 1) := by decide +kernel
theorem dL_law_2194 : decode cL_law 2194 = .ok (.iadd, 1) := by decide +kernel
theorem dL_law_2195 : decode cL_law 2195 = .ok (.iaload, 1) := by decide +kernel
theorem dL_law_2196 : decode cL_law 2196 = .ok (.aload_n 3, 1) := by decide +kernel
theorem dL_law_2197 : decode cL_law 2197 = .ok (.invokestatic 278, 3) := by decide +kernel
theorem dL_law_2200 : decode cL_law 2200 = .ok (.istore 6, 2) := by decide +kernel
theorem dL_law_2202 : decode cL_law 2202 = .ok (.aload_n 2, 1) := by decide +kernel
theorem dL_law_2203 : decode cL_law 2203 = .ok (.aload_n 0, 1) := by decide +kernel
theorem dL_law_2204 : decode cL_law 2204 = .ok (.iload 5, 2) := by decide +kernel
theorem dL_law_2206 : decode cL_law 2206 = .ok (.iconst 1, 1) := by decide +kernel
theorem dL_law_2207 : decode cL_law 2207 = .ok (.iadd, 1) := by decide +kernel
theorem dL_law_2208 : decode cL_law 2208 = .ok (.iaload, 1) := by decide +kernel
theorem dL_law_2209 : decode cL_law 2209 = .ok (.aload_n 0, 1) := by decide +kernel
theorem dL_law_2210 : decode cL_law 2210 = .ok (.iload 5, 2) := by decide +kernel
theorem dL_law_2212 : decode cL_law 2212 = .ok (.iconst 2, 1) := by decide +kernel
theorem dL_law_2213 : decode cL_law 2213 = .ok (.iadd, 1) := by decide +kernel
theorem dL_law_2214 : decode cL_law 2214 = .ok (.iaload, 1) := by decide +kernel
theorem dL_law_2215 : decode cL_law 2215 = .ok (.aload_n 0, 1) := by decide +kernel
theorem dL_law_2216 : decode cL_law 2216 = .ok (.iload 5, 2) := by decide +kernel
theorem dL_law_2218 : decode cL_law 2218 = .ok (.iconst 3, 1) := by decide +kernel
theorem dL_law_2219 : decode cL_law 2219 = .ok (.iadd, 1) := by decide +kernel
theorem dL_law_2220 : decode cL_law 2220 = .ok (.iaload, 1) := by decide +kernel
theorem dL_law_2221 : decode cL_law 2221 = .ok (.i2c, 1) := by decide +kernel
theorem dL_law_2222 : decode cL_law 2222 = .ok (.aload_n 0, 1) := by decide +kernel
theorem dL_law_2223 : decode cL_law 2223 = .ok (.iload 5, 2) := by decide +kernel
theorem dL_law_2225 : decode cL_law 2225 = .ok (.iconst 4, 1) := by decide +kernel
theorem dL_law_2226 : decode cL_law 2226 = .ok (.iadd, 1) := by decide +kernel
theorem dL_law_2227 : decode cL_law 2227 = .ok (.iaload, 1) := by decide +kernel
theorem dL_law_2228 : decode cL_law 2228 = .ok (.invokevirtual 280, 3) := by decide +kernel
theorem dL_law_2231 : decode cL_law 2231 = .ok (.istore 7, 2) := by decide +kernel
theorem dL_law_2233 : decode cL_law 2233 = .ok (.aload_n 2, 1) := by decide +kernel
theorem dL_law_2234 : decode cL_law 2234 = .ok (.invokevirtual 173, 3) := by decide +kernel
theorem dL_law_2237 : decode cL_law 2237 = .ok (.iload 6, 2) := by decide +kernel
theorem dL_law_2239 : decode cL_law 2239 = .ok (.if_icmp .eq 5, 3) := by decide +kernel
theorem dL_law_2242 : decode cL_law 2242 = .ok (.iconst 0, 1) := by decide +kernel
theorem dL_law_2243 : decode cL_law 2243 = .ok (.ireturn, 1) := by decide +kernel
theorem dL_law_2244 : decode cL_law 2244 = .ok (.iload 6, 2) := by decide +kernel
theorem dL_law_2246 : decode cL_law 2246 = .ok (.ifCond .ne 15, 3) := by decide +kernel
theorem dL_law_2249 : decode cL_law 2249 = .ok (.aload_n 3, 1) := by decide +kernel
theorem dL_law_2250 : decode cL_law 2250 = .ok (.iconst 0, 1) := by decide +kernel
theorem dL_law_2251 : decode cL_law 2251 = .ok (.laload, 1) := by decide +kernel
theorem dL_law_2252 : decode cL_law 2252 = .ok (.iload 7, 2) := by decide +kernel
theorem dL_law_2254 : decode cL_law 2254 = .ok (.i2l, 1) := by decide +kernel
theorem dL_law_2255 : decode cL_law 2255 = .ok (.lcmp, 1) := by decide +kernel
theorem dL_law_2256 : decode cL_law 2256 = .ok (.ifCond .eq 5, 3) := by decide +kernel
theorem dL_law_2259 : decode cL_law 2259 = .ok (.iconst 0, 1) := by decide +kernel
theorem dL_law_2260 : decode cL_law 2260 = .ok (.ireturn, 1) := by decide +kernel
theorem dL_law_2261 : decode cL_law 2261 = .ok (.goto 856, 3) := by decide +kernel
theorem dL_law_2264 : decode cL_law 2264 = .ok (.aload_n 1, 1) := by decide +kernel
theorem dL_law_2265 : decode cL_law 2265 = .ok (.invokevirtual 281, 3) := by decide +kernel
theorem dL_law_2268 : decode cL_law 2268 = .ok (.aload_n 2, 1) := by decide +kernel
theorem dL_law_2269 : decode cL_law 2269 = .ok (.invokevirtual 284, 3) := by decide +kernel
theorem dL_law_2272 : decode cL_law 2272 = .ok (.if_icmp .eq 845, 3) := by decide +kernel
theorem dL_law_2275 : decode cL_law 2275 = .ok (.iconst 0, 1) := by decide +kernel
theorem dL_law_2276 : decode cL_law 2276 = .ok (.ireturn, 1) := by decide +kernel
theorem dL_law_2277 : decode cL_law 2277 = .ok (.aload_n 1, 1) := by decide +kernel
theorem dL_law_2278 : decode cL_law 2278 = .ok (.invokevirtual 285, 3) := by decide +kernel
theorem dL_law_2281 : decode cL_law 2281 = .ok (.aload_n 2, 1) := by decide +kernel
theorem dL_law_2282 : decode cL_law 2282 = .ok (.invokevirtual 288, 3) := by decide +kernel
theorem dL_law_2285 : decode cL_law 2285 = .ok (.if_icmp .eq 832, 3) := by decide +kernel
theorem dL_law_2288 : decode cL_law 2288 = .ok (.iconst 0, 1) := by decide +kernel
theorem dL_law_2289 : decode cL_law 2289 = .ok (.ireturn, 1) := by decide +kernel
theorem dL_law_2290 : decode cL_law 2290 = .ok (.aload_n 1, 1) := by decide +kernel
theorem dL_law_2291 : decode cL_law 2291 = .ok (.aload_n 0, 1) := by decide +kernel
theorem dL_law_2292 : decode cL_law 2292 = .ok (.iload 5, 2) := by decide +kernel
theorem dL_law_2294 : decode cL_law 2294 = .ok (.iconst 1, 1) := by decide +kernel
theorem dL_law_2295 : decode cL_law 2295 = .ok (.iadd, 1) := by decide +kernel
theorem dL_law_2296 : decode cL_law 2296 = .ok (.iaload, 1) := by decide +kernel
theorem dL_law_2297 : decode cL_law 2297 = .ok (.aload_n 3, 1) := by decide +kernel
theorem dL_law_2298 : decode cL_law 2298 = .ok (.invokestatic 289, 3) := by decide +kernel
theorem dL_law_2301 : decode cL_law 2301 = .ok (.istore 6, 2) := by decide +kernel
theorem dL_law_2303 : decode cL_law 2303 = .ok (.aload_n 2, 1) := by decide +kernel
theorem dL_law_2304 : decode cL_law 2304 = .ok (.aload_n 0, 1) := by decide +kernel
theorem dL_law_2305 : decode cL_law 2305 = .ok (.iload 5, 2) := by decide +kernel
theorem dL_law_2307 : decode cL_law 2307 = .ok (.iconst 1, 1) := by decide +kernel
theorem dL_law_2308 : decode cL_law 2308 = .ok (.iadd, 1) := by decide +kernel
theorem dL_law_2309 : decode cL_law 2309 = .ok (.iaload, 1) := by decide +kernel
theorem dL_law_2310 : decode cL_law 2310 = .ok (.invokevirtual 291, 3) := by decide +kernel
theorem dL_law_2313 : decode cL_law 2313 = .ok (.istore 7, 2) := by decide +kernel
theorem dL_law_2315 : decode cL_law 2315 = .ok (.aload_n 2, 1) := by decide +kernel
theorem dL_law_2316 : decode cL_law 2316 = .ok (.invokevirtual 173, 3) := by decide +kernel
theorem dL_law_2319 : decode cL_law 2319 = .ok (.iload 6, 2) := by decide +kernel
theorem dL_law_2321 : decode cL_law 2321 = .ok (.if_icmp .eq 5, 3) := by decide +kernel
theorem dL_law_2324 : decode cL_law 2324 = .ok (.iconst 0, 1) := by decide +kernel
theorem dL_law_2325 : decode cL_law 2325 = .ok (.ireturn, 1) := by decide +kernel
theorem dL_law_2326 : decode cL_law 2326 = .ok (.iload 6, 2) := by decide +kernel
theorem dL_law_2328 : decode cL_law 2328 = .ok (.ifCond .ne 15, 3) := by decide +kernel
theorem dL_law_2331 : decode cL_law 2331 = .ok (.aload_n 3, 1) := by decide +kernel
theorem dL_law_2332 : decode cL_law 2332 = .ok (.iconst 0, 1) := by decide +kernel
theorem dL_law_2333 : decode cL_law 2333 = .ok (.laload, 1) := by decide +kernel
theorem dL_law_2334 : decode cL_law 2334 = .ok (.iload 7, 2) := by decide +kernel
theorem dL_law_2336 : decode cL_law 2336 = .ok (.i2l, 1) := by decide +kernel
theorem dL_law_2337 : decode cL_law 2337 = .ok (.lcmp, 1) := by decide +kernel
theorem dL_law_2338 : decode cL_law 2338 = .ok (.ifCond .eq 5, 3) := by decide +kernel
theorem dL_law_2341 : decode cL_law 2341 = .ok (.iconst 0, 1) := by decide +kernel
theorem dL_law_2342 : decode cL_law 2342 = .ok (.ireturn, 1) := by decide +kernel
theorem dL_law_2343 : decode cL_law 2343 = .ok (.goto 774, 3) := by decide +kernel
theorem dL_law_2346 : decode cL_law 2346 = .ok (.aload_n 1, 1) := by decide +kernel
theorem dL_law_2347 : decode cL_law 2347 = .ok (.invokevirtual 292, 3) := by decide +kernel
theorem dL_law_2350 : decode cL_law 2350 = .ok (.aload_n 2, 1) := by decide +kernel
theorem dL_law_2351 : decode cL_law 2351 = .ok (.invokevirtual 295, 3) := by decide +kernel
theorem dL_law_2354 : decode cL_law 2354 = .ok (.if_icmp .eq 763, 3) := by decide +kernel
theorem dL_law_2357 : decode cL_law 2357 = .ok (.iconst 0, 1) := by decide +kernel
theorem dL_law_2358 : decode cL_law 2358 = .ok (.ireturn, 1) := by decide +kernel
theorem dL_law_2359 : decode cL_law 2359 = .ok (.aload_n 1, 1) := by decide +kernel
theorem dL_law_2360 : decode cL_law 2360 = .ok (.aload_n 3, 1) := by decide +kernel
theorem dL_law_2361 : decode cL_law 2361 = .ok (.invokestatic 296, 3) := by decide +kernel
theorem dL_law_2364 : decode cL_law 2364 = .ok (.istore 6, 2) := by decide +kernel
theorem dL_law_2366 : decode cL_law 2366 = .ok (.aload_n 2, 1) := by decide +kernel
theorem dL_law_2367 : decode cL_law 2367 = .ok (.invokevirtual 298, 3) := by decide +kernel
theorem dL_law_2370 : decode cL_law 2370 = .ok (.istore 7, 2) := by decide +kernel
theorem dL_law_2372 : decode cL_law 2372 = .ok (.aload_n 2, 1) := by decide +kernel
theorem dL_law_2373 : decode cL_law 2373 = .ok (.invokevirtual 173, 3) := by decide +kernel
theorem dL_law_2376 : decode cL_law 2376 = .ok (.iload 6, 2) := by decide +kernel
theorem dL_law_2378 : decode cL_law 2378 = .ok (.if_icmp .eq 5, 3) := by decide +kernel
theorem dL_law_2381 : decode cL_law 2381 = .ok (.iconst 0, 1) := by decide +kernel
theorem dL_law_2382 : decode cL_law 2382 = .ok (.ireturn, 1) := by decide +kernel
theorem dL_law_2383 : decode cL_law 2383 = .ok (.iload 6, 2) := by decide +kernel
theorem dL_law_2385 : decode cL_law 2385 = .ok (.ifCond .ne 15, 3) := by decide +kernel
theorem dL_law_2388 : decode cL_law 2388 = .ok (.aload_n 3, 1) := by decide +kernel
theorem dL_law_2389 : decode cL_law 2389 = .ok (.iconst 0, 1) := by decide +kernel
theorem dL_law_2390 : decode cL_law 2390 = .ok (.laload, 1) := by decide +kernel
theorem dL_law_2391 : decode cL_law 2391 = .ok (.iload 7, 2) := by decide +kernel
theorem dL_law_2393 : decode cL_law 2393 = .ok (.i2l, 1) := by decide +kernel
theorem dL_law_2394 : decode cL_law 2394 = .ok (.lcmp, 1) := by decide +kernel
theorem dL_law_2395 : decode cL_law 2395 = .ok (.ifCond .eq 5, 3) := by decide +kernel
theorem dL_law_2398 : decode cL_law 2398 = .ok (.iconst 0, 1) := by decide +kernel
theorem dL_law_2399 : decode cL_law 2399 = .ok (.ireturn, 1) := by decide +kernel
theorem dL_law_2400 : decode cL_law 2400 = .ok (.goto 717, 3) := by decide +kernel
theorem dL_law_2403 : decode cL_law 2403 = .ok (.aload_n 1, 1) := by decide +kernel
theorem dL_law_2404 : decode cL_law 2404 = .ok (.aload_n 3, 1) := by decide +kernel
theorem dL_law_2405 : decode cL_law 2405 = .ok (.invokestatic 299, 3) := by decide +kernel
theorem dL_law_2408 : decode cL_law 2408 = .ok (.istore 6, 2) := by decide +kernel
theorem dL_law_2410 : decode cL_law 2410 = .ok (.aload_n 2, 1) := by decide +kernel
theorem dL_law_2411 : decode cL_law 2411 = .ok (.invokevirtual 301, 3) := by decide +kernel
theorem dL_law_2414 : decode cL_law 2414 = .ok (.istore 7, 2) := by decide +kernel
theorem dL_law_2416 : decode cL_law 2416 = .ok (.aload_n 2, 1) := by decide +kernel
theorem dL_law_2417 : decode cL_law 2417 = .ok (.invokevirtual 173, 3) := by decide +kernel
theorem dL_law_2420 : decode cL_law 2420 = .ok (.iload 6, 2) := by decide +kernel
theorem dL_law_2422 : decode cL_law 2422 = .ok (.if_icmp .eq 5, 3) := by decide +kernel
theorem dL_law_2425 : decode cL_law 2425 = .ok (.iconst 0, 1) := by decide +kernel
theorem dL_law_2426 : decode cL_law 2426 = .ok (.ireturn, 1) := by decide +kernel
theorem dL_law_2427 : decode cL_law 2427 = .ok (.iload 6, 2) := by decide +kernel
theorem dL_law_2429 : decode cL_law 2429 = .ok (.ifCond .ne 15, 3) := by decide +kernel
theorem dL_law_2432 : decode cL_law 2432 = .ok (.aload_n 3, 1) := by decide +kernel
theorem dL_law_2433 : decode cL_law 2433 = .ok (.iconst 0, 1) := by decide +kernel
theorem dL_law_2434 : decode cL_law 2434 = .ok (.laload, 1) := by decide +kernel
theorem dL_law_2435 : decode cL_law 2435 = .ok (.iload 7, 2) := by decide +kernel
theorem dL_law_2437 : decode cL_law 2437 = .ok (.i2l, 1) := by decide +kernel
theorem dL_law_2438 : decode cL_law 2438 = .ok (.lcmp, 1) := by decide +kernel
theorem dL_law_2439 : decode cL_law 2439 = .ok (.ifCond .eq 5, 3) := by decide +kernel
theorem dL_law_2442 : decode cL_law 2442 = .ok (.iconst 0, 1) := by decide +kernel
theorem dL_law_2443 : decode cL_law 2443 = .ok (.ireturn, 1) := by decide +kernel
theorem dL_law_2444 : decode cL_law 2444 = .ok (.goto 673, 3) := by decide +kernel
theorem dL_law_2447 : decode cL_law 2447 = .ok (.aload_n 1, 1) := by decide +kernel
theorem dL_law_2448 : decode cL_law 2448 = .ok (.aload_n 3, 1) := by decide +kernel
theorem dL_law_2449 : decode cL_law 2449 = .ok (.invokestatic 302, 3) := by decide +kernel
theorem dL_law_2452 : decode cL_law 2452 = .ok (.istore 6, 2) := by decide +kernel
theorem dL_law_2454 : decode cL_law 2454 = .ok (.aload_n 2, 1) := by decide +kernel
theorem dL_law_2455 : decode cL_law 2455 = .ok (.invokevirtual 304, 3) := by decide +kernel
theorem dL_law_2458 : decode cL_law 2458 = .ok (.istore 7, 2) := by decide +kernel
theorem dL_law_2460 : decode cL_law 2460 = .ok (.aload_n 2, 1) := by decide +kernel
theorem dL_law_2461 : decode cL_law 2461 = .ok (.invokevirtual 173, 3) := by decide +kernel
theorem dL_law_2464 : decode cL_law 2464 = .ok (.iload 6, 2) := by decide +kernel
theorem dL_law_2466 : decode cL_law 2466 = .ok (.if_icmp .eq 5, 3) := by decide +kernel
theorem dL_law_2469 : decode cL_law 2469 = .ok (.iconst 0, 1) := by decide +kernel
theorem dL_law_2470 : decode cL_law 2470 = .ok (.ireturn, 1) := by decide +kernel
theorem dL_law_2471 : decode cL_law 2471 = .ok (.iload 6, 2) := by decide +kernel
theorem dL_law_2473 : decode cL_law 2473 = .ok (.ifCond .ne 15, 3) := by decide +kernel
theorem dL_law_2476 : decode cL_law 2476 = .ok (.aload_n 3, 1) := by decide +kernel
theorem dL_law_2477 : decode cL_law 2477 = .ok (.iconst 0, 1) := by decide +kernel
theorem dL_law_2478 : decode cL_law 2478 = .ok (.laload, 1) := by decide +kernel
theorem dL_law_2479 : decode cL_law 2479 = .ok (.iload 7, 2) := by decide +kernel
theorem dL_law_2481 : decode cL_law 2481 = .ok (.i2l, 1) := by decide +kernel
theorem dL_law_2482 : decode cL_law 2482 = .ok (.lcmp, 1) := by decide +kernel
theorem dL_law_2483 : decode cL_law 2483 = .ok (.ifCond .eq 5, 3) := by decide +kernel
theorem dL_law_2486 : decode cL_law 2486 = .ok (.iconst 0, 1) := by decide +kernel
theorem dL_law_2487 : decode cL_law 2487 = .ok (.ireturn, 1) := by decide +kernel
theorem dL_law_2488 : decode cL_law 2488 = .ok (.goto 629, 3) := by decide +kernel
theorem dL_law_2491 : decode cL_law 2491 = .ok (.aload_n 1, 1) := by decide +kernel
theorem dL_law_2492 : decode cL_law 2492 = .ok (.invokevirtual 305, 3) := by decide +kernel
theorem dL_law_2495 : decode cL_law 2495 = .ok (.aload_n 2, 1) := by decide +kernel
theorem dL_law_2496 : decode cL_law 2496 = .ok (.invokevirtual 308, 3) := by decide +kernel
theorem dL_law_2499 : decode cL_law 2499 = .ok (.if_icmp .eq 618, 3) := by decide +kernel
theorem dL_law_2502 : decode cL_law 2502 = .ok (.iconst 0, 1) := by decide +kernel
theorem dL_law_2503 : decode cL_law 2503 = .ok (.ireturn, 1) := by decide +kernel
theorem dL_law_2504 : decode cL_law 2504 = .ok (.aload_n 1, 1) := by decide +kernel
theorem dL_law_2505 : decode cL_law 2505 = .ok (.aload_n 0, 1) := by decide +kernel
theorem dL_law_2506 : decode cL_law 2506 = .ok (.iload 5, 2) := by decide +kernel
theorem dL_law_2508 : decode cL_law 2508 = .ok (.iconst 1, 1) := by decide +kernel
theorem dL_law_2509 : decode cL_law 2509 = .ok (.iadd, 1) := by decide +kernel
theorem dL_law_2510 : decode cL_law 2510 = .ok (.iaload, 1) := by decide +kernel
theorem dL_law_2511 : decode cL_law 2511 = .ok (.aload_n 0, 1) := by decide +kernel
theorem dL_law_2512 : decode cL_law 2512 = .ok (.iload 5, 2) := by decide +kernel
theorem dL_law_2514 : decode cL_law 2514 = .ok (.iconst 2, 1) := by decide +kernel
theorem dL_law_2515 : decode cL_law 2515 = .ok (.iadd, 1) := by decide +kernel
theorem dL_law_2516 : decode cL_law 2516 = .ok (.iaload, 1) := by decide +kernel
theorem dL_law_2517 : decode cL_law 2517 = .ok (.aload_n 3, 1) := by decide +kernel
theorem dL_law_2518 : decode cL_law 2518 = .ok (.invokestatic 309, 3) := by decide +kernel
theorem dL_law_2521 : decode cL_law 2521 = .ok (.istore 6, 2) := by decide +kernel
theorem dL_law_2523 : decode cL_law 2523 = .ok (.aload_n 2, 1) := by decide +kernel
theorem dL_law_2524 : decode cL_law 2524 = .ok (.aload_n 0, 1) := by decide +kernel
theorem dL_law_2525 : decode cL_law 2525 = .ok (.iload 5, 2) := by decide +kernel
theorem dL_law_2527 : decode cL_law 2527 = .ok (.iconst 1, 1) := by decide +kernel
theorem dL_law_2528 : decode cL_law 2528 = .ok (.iadd, 1) := by decide +kernel
theorem dL_law_2529 : decode cL_law 2529 = .ok (.iaload, 1) := by decide +kernel
theorem dL_law_2530 : decode cL_law 2530 = .ok (.aload_n 0, 1) := by decide +kernel
theorem dL_law_2531 : decode cL_law 2531 = .ok (.iload 5, 2) := by decide +kernel
theorem dL_law_2533 : decode cL_law 2533 = .ok (.iconst 2, 1) := by decide +kernel
theorem dL_law_2534 : decode cL_law 2534 = .ok (.iadd, 1) := by decide +kernel
theorem dL_law_2535 : decode cL_law 2535 = .ok (.iaload, 1) := by decide +kernel
theorem dL_law_2536 : decode cL_law 2536 = .ok (.invokevirtual 311, 3) := by decide +kernel
theorem dL_law_2539 : decode cL_law 2539 = .ok (.istore 7, 2) := by decide +kernel
theorem dL_law_2541 : decode cL_law 2541 = .ok (.aload_n 2, 1) := by decide +kernel
theorem dL_law_2542 : decode cL_law 2542 = .ok (.invokevirtual 173, 3) := by decide +kernel
theorem dL_law_2545 : decode cL_law 2545 = .ok (.iload 6, 2) := by decide +kernel
theorem dL_law_2547 : decode cL_law 2547 = .ok (.if_icmp .eq 5, 3) := by decide +kernel
theorem dL_law_2550 : decode cL_law 2550 = .ok (.iconst 0, 1) := by decide +kernel
theorem dL_law_2551 : decode cL_law 2551 = .ok (.ireturn, 1) := by decide +kernel
theorem dL_law_2552 : decode cL_law 2552 = .ok (.iload 6, 2) := by decide +kernel
theorem dL_law_2554 : decode cL_law 2554 = .ok (.ifCond .ne 15, 3) := by decide +kernel
theorem dL_law_2557 : decode cL_law 2557 = .ok (.aload_n 3, 1) := by decide +kernel
theorem dL_law_2558 : decode cL_law 2558 = .ok (.iconst 0, 1) := by decide +kernel
theorem dL_law_2559 : decode cL_law 2559 = .ok (.laload, 1) := by decide +kernel
theorem dL_law_2560 : decode cL_law 2560 = .ok (.iload 7, 2) := by decide +kernel
theorem dL_law_2562 : decode cL_law 2562 = .ok (.i2l, 1) := by decide +kernel
theorem dL_law_2563 : decode cL_law 2563 = .ok (.lcmp, 1) := by decide +kernel
theorem dL_law_2564 : decode cL_law 2564 = .ok (.ifCond .eq 5, 3) := by decide +kernel
theorem dL_law_2567 : decode cL_law 2567 = .ok (.iconst 0, 1) := by decide +kernel
theorem dL_law_2568 : decode cL_law 2568 = .ok (.ireturn, 1) := by decide +kernel
theorem dL_law_2569 : decode cL_law 2569 = .ok (.goto 548, 3) := by decide +kernel
theorem dL_law_2572 : decode cL_law 2572 = .ok (.aload_n 1, 1) := by decide +kernel
theorem dL_law_2573 : decode cL_law 2573 = .ok (.aload_n 0, 1) := by decide +kernel
theorem dL_law_2574 : decode cL_law 2574 = .ok (.iload 5, 2) := by decide +kernel
theorem dL_law_2576 : decode cL_law 2576 = .ok (.iconst 1, 1) := by decide +kernel
theorem dL_law_2577 : decode cL_law 2577 = .ok (.iadd, 1) := by decide +kernel
theorem dL_law_2578 : decode cL_law 2578 = .ok (.iaload, 1) := by decide +kernel
theorem dL_law_2579 : decode cL_law 2579 = .ok (.aload_n 0, 1) := by decide +kernel
theorem dL_law_2580 : decode cL_law 2580 = .ok (.iload 5, 2) := by decide +kernel
theorem dL_law_2582 : decode cL_law 2582 = .ok (.iconst 2, 1) := by decide +kernel
theorem dL_law_2583 : decode cL_law 2583 = .ok (.iadd, 1) := by decide +kernel
theorem dL_law_2584 : decode cL_law 2584 = .ok (.iaload, 1) := by decide +kernel
theorem dL_law_2585 : decode cL_law 2585 = .ok (.aload_n 0, 1) := by decide +kernel
theorem dL_law_2586 : decode cL_law 2586 = .ok (.iload 5, 2) := by decide +kernel
theorem dL_law_2588 : decode cL_law 2588 = .ok (.iconst 3, 1) := by decide +kernel
theorem dL_law_2589 : decode cL_law 2589 = .ok (.iadd, 1) := by decide +kernel
theorem dL_law_2590 : decode cL_law 2590 = .ok (.iaload, 1) := by decide +kernel
theorem dL_law_2591 : decode cL_law 2591 = .ok (.aload_n 3, 1) := by decide +kernel
theorem dL_law_2592 : decode cL_law 2592 = .ok (.invokestatic 312, 3) := by decide +kernel
theorem dL_law_2595 : decode cL_law 2595 = .ok (.istore 6, 2) := by decide +kernel
theorem dL_law_2597 : decode cL_law 2597 = .ok (.aload_n 2, 1) := by decide +kernel
theorem dL_law_2598 : decode cL_law 2598 = .ok (.aload_n 0, 1) := by decide +kernel
theorem dL_law_2599 : decode cL_law 2599 = .ok (.iload 5, 2) := by decide +kernel
theorem dL_law_2601 : decode cL_law 2601 = .ok (.iconst 1, 1) := by decide +kernel
theorem dL_law_2602 : decode cL_law 2602 = .ok (.iadd, 1) := by decide +kernel
theorem dL_law_2603 : decode cL_law 2603 = .ok (.iaload, 1) := by decide +kernel
theorem dL_law_2604 : decode cL_law 2604 = .ok (.aload_n 0, 1) := by decide +kernel
theorem dL_law_2605 : decode cL_law 2605 = .ok (.iload 5, 2) := by decide +kernel
theorem dL_law_2607 : decode cL_law 2607 = .ok (.iconst 2, 1) := by decide +kernel
theorem dL_law_2608 : decode cL_law 2608 = .ok (.iadd, 1) := by decide +kernel
theorem dL_law_2609 : decode cL_law 2609 = .ok (.iaload, 1) := by decide +kernel
theorem dL_law_2610 : decode cL_law 2610 = .ok (.aload_n 0, 1) := by decide +kernel
theorem dL_law_2611 : decode cL_law 2611 = .ok (.iload 5, 2) := by decide +kernel
theorem dL_law_2613 : decode cL_law 2613 = .ok (.iconst 3, 1) := by decide +kernel
theorem dL_law_2614 : decode cL_law 2614 = .ok (.iadd, 1) := by decide +kernel
theorem dL_law_2615 : decode cL_law 2615 = .ok (.iaload, 1) := by decide +kernel
theorem dL_law_2616 : decode cL_law 2616 = .ok (.invokevirtual 314, 3) := by decide +kernel
theorem dL_law_2619 : decode cL_law 2619 = .ok (.istore 7, 2) := by decide +kernel
theorem dL_law_2621 : decode cL_law 2621 = .ok (.aload_n 2, 1) := by decide +kernel
theorem dL_law_2622 : decode cL_law 2622 = .ok (.invokevirtual 173, 3) := by decide +kernel
theorem dL_law_2625 : decode cL_law 2625 = .ok (.iload 6, 2) := by decide +kernel
theorem dL_law_2627 : decode cL_law 2627 = .ok (.if_icmp .eq 5, 3) := by decide +kernel
theorem dL_law_2630 : decode cL_law 2630 = .ok (.iconst 0, 1) := by decide +kernel
theorem dL_law_2631 : decode cL_law 2631 = .ok (.ireturn, 1) := by decide +kernel
theorem dL_law_2632 : decode cL_law 2632 = .ok (.iload 6, 2) := by decide +kernel
theorem dL_law_2634 : decode cL_law 2634 = .ok (.ifCond .ne 15, 3) := by decide +kernel
theorem dL_law_2637 : decode cL_law 2637 = .ok (.aload_n 3, 1) := by decide +kernel
theorem dL_law_2638 : decode cL_law 2638 = .ok (.iconst 0, 1) := by decide +kernel
theorem dL_law_2639 : decode cL_law 2639 = .ok (.laload, 1) := by decide +kernel
theorem dL_law_2640 : decode cL_law 2640 = .ok (.iload 7, 2) := by decide +kernel
theorem dL_law_2642 : decode cL_law 2642 = .ok (.i2l, 1) := by decide +kernel
theorem dL_law_2643 : decode cL_law 2643 = .ok (.lcmp, 1) := by decide +kernel
theorem dL_law_2644 : decode cL_law 2644 = .ok (.ifCond .eq 5, 3) := by decide +kernel
theorem dL_law_2647 : decode cL_law 2647 = .ok (.iconst 0, 1) := by decide +kernel
theorem dL_law_2648 : decode cL_law 2648 = .ok (.ireturn, 1) := by decide +kernel
theorem dL_law_2649 : decode cL_law 2649 = .ok (.goto 468, 3) := by decide +kernel
theorem dL_law_2652 : decode cL_law 2652 = .ok (.aload_n 1, 1) := by decide +kernel
theorem dL_law_2653 : decode cL_law 2653 = .ok (.aload_n 0, 1) := by decide +kernel
theorem dL_law_2654 : decode cL_law 2654 = .ok (.iload 5, 2) := by decide +kernel
theorem dL_law_2656 : decode cL_law 2656 = .ok (.iconst 1, 1) := by decide +kernel
theorem dL_law_2657 : decode cL_law 2657 = .ok (.iadd, 1) := by decide +kernel
theorem dL_law_2658 : decode cL_law 2658 = .ok (.iaload, 1) := by decide +kernel
theorem dL_law_2659 : decode cL_law 2659 = .ok (.aload_n 0, 1) := by decide +kernel
theorem dL_law_2660 : decode cL_law 2660 = .ok (.iload 5, 2) := by decide +kernel
theorem dL_law_2662 : decode cL_law 2662 = .ok (.iconst 2, 1) := by decide +kernel
theorem dL_law_2663 : decode cL_law 2663 = .ok (.iadd, 1) := by decide +kernel
theorem dL_law_2664 : decode cL_law 2664 = .ok (.iaload, 1) := by decide +kernel
theorem dL_law_2665 : decode cL_law 2665 = .ok (.aload_n 3, 1) := by decide +kernel
theorem dL_law_2666 : decode cL_law 2666 = .ok (.invokestatic 315, 3) := by decide +kernel
theorem dL_law_2669 : decode cL_law 2669 = .ok (.istore 6, 2) := by decide +kernel
theorem dL_law_2671 : decode cL_law 2671 = .ok (.aload_n 2, 1) := by decide +kernel
theorem dL_law_2672 : decode cL_law 2672 = .ok (.aload_n 0, 1) := by decide +kernel
theorem dL_law_2673 : decode cL_law 2673 = .ok (.iload 5, 2) := by decide +kernel
theorem dL_law_2675 : decode cL_law 2675 = .ok (.iconst 1, 1) := by decide +kernel
theorem dL_law_2676 : decode cL_law 2676 = .ok (.iadd, 1) := by decide +kernel
theorem dL_law_2677 : decode cL_law 2677 = .ok (.iaload, 1) := by decide +kernel
theorem dL_law_2678 : decode cL_law 2678 = .ok (.aload_n 0, 1) := by decide +kernel
theorem dL_law_2679 : decode cL_law 2679 = .ok (.iload 5, 2) := by decide +kernel
theorem dL_law_2681 : decode cL_law 2681 = .ok (.iconst 2, 1) := by decide +kernel
theorem dL_law_2682 : decode cL_law 2682 = .ok (.iadd, 1) := by decide +kernel
theorem dL_law_2683 : decode cL_law 2683 = .ok (.iaload, 1) := by decide +kernel
theorem dL_law_2684 : decode cL_law 2684 = .ok (.invokevirtual 317, 3) := by decide +kernel
theorem dL_law_2687 : decode cL_law 2687 = .ok (.istore 7, 2) := by decide +kernel
theorem dL_law_2689 : decode cL_law 2689 = .ok (.aload_n 2, 1) := by decide +kernel
theorem dL_law_2690 : decode cL_law 2690 = .ok (.invokevirtual 173, 3) := by decide +kernel
theorem dL_law_2693 : decode cL_law 2693 = .ok (.iload 6, 2) := by decide +kernel
theorem dL_law_2695 : decode cL_law 2695 = .ok (.if_icmp .eq 5, 3) := by decide +kernel
theorem dL_law_2698 : decode cL_law 2698 = .ok (.iconst 0, 1) := by decide +kernel
theorem dL_law_2699 : decode cL_law 2699 = .ok (.ireturn, 1) := by decide +kernel
theorem dL_law_2700 : decode cL_law 2700 = .ok (.iload 6, 2) := by decide +kernel
theorem dL_law_2702 : decode cL_law 2702 = .ok (.ifCond .ne 15, 3) := by decide +kernel
theorem dL_law_2705 : decode cL_law 2705 = .ok (.aload_n 3, 1) := by decide +kernel
theorem dL_law_2706 : decode cL_law 2706 = .ok (.iconst 0, 1) := by decide +kernel
theorem dL_law_2707 : decode cL_law 2707 = .ok (.laload, 1) := by decide +kernel
theorem dL_law_2708 : decode cL_law 2708 = .ok (.iload 7, 2) := by decide +kernel
theorem dL_law_2710 : decode cL_law 2710 = .ok (.i2l, 1) := by decide +kernel
theorem dL_law_2711 : decode cL_law 2711 = .ok (.lcmp, 1) := by decide +kernel
theorem dL_law_2712 : decode cL_law 2712 = .ok (.ifCond .eq 5, 3) := by decide +kernel
theorem dL_law_2715 : decode cL_law 2715 = .ok (.iconst 0, 1) := by decide +kernel
theorem dL_law_2716 : decode cL_law 2716 = .ok (.ireturn, 1) := by decide +kernel
theorem dL_law_2717 : decode cL_law 2717 = .ok (.goto 400, 3) := by decide +kernel
theorem dL_law_2720 : decode cL_law 2720 = .ok (.aload_n 1, 1) := by decide +kernel
theorem dL_law_2721 : decode cL_law 2721 = .ok (.invokevirtual 318, 3) := by decide +kernel
theorem dL_law_2724 : decode cL_law 2724 = .ok (.aload_n 2, 1) := by decide +kernel
theorem dL_law_2725 : decode cL_law 2725 = .ok (.invokevirtual 321, 3) := by decide +kernel
theorem dL_law_2728 : decode cL_law 2728 = .ok (.if_icmp .eq 389, 3) := by decide +kernel
theorem dL_law_2731 : decode cL_law 2731 = .ok (.iconst 0, 1) := by decide +kernel
theorem dL_law_2732 : decode cL_law 2732 = .ok (.ireturn, 1) := by decide +kernel
theorem dL_law_2733 : decode cL_law 2733 = .ok (.aload_n 1, 1) := by decide +kernel
theorem dL_law_2734 : decode cL_law 2734 = .ok (.aload_n 0, 1) := by decide +kernel
theorem dL_law_2735 : decode cL_law 2735 = .ok (.iload 5, 2) := by decide +kernel
theorem dL_law_2737 : decode cL_law 2737 = .ok (.iconst 1, 1) := by decide +kernel
theorem dL_law_2738 : decode cL_law 2738 = .ok (.iadd, 1) := by decide +kernel
theorem dL_law_2739 : decode cL_law 2739 = .ok (.iaload, 1) := by decide +kernel
theorem dL_law_2740 : decode cL_law 2740 = .ok (.aload_n 3, 1) := by decide +kernel
theorem dL_law_2741 : decode cL_law 2741 = .ok (.invokestatic 322, 3) := by decide +kernel
theorem dL_law_2744 : decode cL_law 2744 = .ok (.istore 6, 2) := by decide +kernel
theorem dL_law_2746 : decode cL_law 2746 = .ok (.aload_n 2, 1) := by decide +kernel
theorem dL_law_2747 : decode cL_law 2747 = .ok (.aload_n 0, 1) := by decide +kernel
theorem dL_law_2748 : decode cL_law 2748 = .ok (.iload 5, 2) := by decide +kernel
theorem dL_law_2750 : decode cL_law 2750 = .ok (.iconst 1, 1) := by decide +kernel
theorem dL_law_2751 : decode cL_law 2751 = .ok (.iadd, 1) := by decide +kernel
theorem dL_law_2752 : decode cL_law 2752 = .ok (.iaload, 1) := by decide +kernel
theorem dL_law_2753 : decode cL_law 2753 = .ok (.invokevirtual 324, 3) := by decide +kernel
theorem dL_law_2756 : decode cL_law 2756 = .ok (.istore 7, 2) := by decide +kernel
theorem dL_law_2758 : decode cL_law 2758 = .ok (.aload_n 2, 1) := by decide +kernel
theorem dL_law_2759 : decode cL_law 2759 = .ok (.invokevirtual 173, 3) := by decide +kernel
theorem dL_law_2762 : decode cL_law 2762 = .ok (.iload 6, 2) := by decide +kernel
theorem dL_law_2764 : decode cL_law 2764 = .ok (.if_icmp .eq 5, 3) := by decide +kernel
theorem dL_law_2767 : decode cL_law 2767 = .ok (.iconst 0, 1) := by decide +kernel
theorem dL_law_2768 : decode cL_law 2768 = .ok (.ireturn, 1) := by decide +kernel
theorem dL_law_2769 : decode cL_law 2769 = .ok (.iload 6, 2) := by decide +kernel
theorem dL_law_2771 : decode cL_law 2771 = .ok (.ifCond .ne 15, 3) := by decide +kernel
theorem dL_law_2774 : decode cL_law 2774 = .ok (.aload_n 3, 1) := by decide +kernel
theorem dL_law_2775 : decode cL_law 2775 = .ok (.iconst 0, 1) := by decide +kernel
theorem dL_law_2776 : decode cL_law 2776 = .ok (.laload, 1) := by decide +kernel
theorem dL_law_2777 : decode cL_law 2777 = .ok (.iload 7, 2) := by decide +kernel
theorem dL_law_2779 : decode cL_law 2779 = .ok (.i2l, 1) := by decide +kernel
theorem dL_law_2780 : decode cL_law 2780 = .ok (.lcmp, 1) := by decide +kernel
theorem dL_law_2781 : decode cL_law 2781 = .ok (.ifCond .eq 5, 3) := by decide +kernel
theorem dL_law_2784 : decode cL_law 2784 = .ok (.iconst 0, 1) := by decide +kernel
theorem dL_law_2785 : decode cL_law 2785 = .ok (.ireturn, 1) := by decide +kernel
theorem dL_law_2786 : decode cL_law 2786 = .ok (.goto 331, 3) := by decide +kernel
theorem dL_law_2789 : decode cL_law 2789 = .ok (.aload_n 1, 1) := by decide +kernel
theorem dL_law_2790 : decode cL_law 2790 = .ok (.aload_n 0, 1) := by decide +kernel
theorem dL_law_2791 : decode cL_law 2791 = .ok (.iload 5, 2) := by decide +kernel
theorem dL_law_2793 : decode cL_law 2793 = .ok (.iconst 1, 1) := by decide +kernel
theorem dL_law_2794 : decode cL_law 2794 = .ok (.iadd, 1) := by decide +kernel
theorem dL_law_2795 : decode cL_law 2795 = .ok (.iaload, 1) := by decide +kernel
theorem dL_law_2796 : decode cL_law 2796 = .ok (.i2c, 1) := by decide +kernel
theorem dL_law_2797 : decode cL_law 2797 = .ok (.aload_n 3, 1) := by decide +kernel
theorem dL_law_2798 : decode cL_law 2798 = .ok (.invokestatic 325, 3) := by decide +kernel
theorem dL_law_2801 : decode cL_law 2801 = .ok (.istore 6, 2) := by decide +kernel
theorem dL_law_2803 : decode cL_law 2803 = .ok (.aload_n 2, 1) := by decide +kernel
theorem dL_law_2804 : decode cL_law 2804 = .ok (.aload_n 0, 1) := by decide +kernel
theorem dL_law_2805 : decode cL_law 2805 = .ok (.iload 5, 2) := by decide +kernel
theorem dL_law_2807 : decode cL_law 2807 = .ok (.iconst 1, 1) := by decide +kernel
theorem dL_law_2808 : decode cL_law 2808 = .ok (.iadd, 1) := by decide +kernel
theorem dL_law_2809 : decode cL_law 2809 = .ok (.iaload, 1) := by decide +kernel
theorem dL_law_2810 : decode cL_law 2810 = .ok (.i2c, 1) := by decide +kernel
theorem dL_law_2811 : decode cL_law 2811 = .ok (.invokevirtual 328, 3) := by decide +kernel
theorem dL_law_2814 : decode cL_law 2814 = .ok (.istore 7, 2) := by decide +kernel
theorem dL_law_2816 : decode cL_law 2816 = .ok (.aload_n 2, 1) := by decide +kernel
theorem dL_law_2817 : decode cL_law 2817 = .ok (.invokevirtual 173, 3) := by decide +kernel
theorem dL_law_2820 : decode cL_law 2820 = .ok (.iload 6, 2) := by decide +kernel
theorem dL_law_2822 : decode cL_law 2822 = .ok (.if_icmp .eq 5, 3) := by decide +kernel
theorem dL_law_2825 : decode cL_law 2825 = .ok (.iconst 0, 1) := by decide +kernel
theorem dL_law_2826 : decode cL_law 2826 = .ok (.ireturn, 1) := by decide +kernel
theorem dL_law_2827 : decode cL_law 2827 = .ok (.iload 6, 2) := by decide +kernel
theorem dL_law_2829 : decode cL_law 2829 = .ok (.ifCond .ne 15, 3) := by decide +kernel
theorem dL_law_2832 : decode cL_law 2832 = .ok (.aload_n 3, 1) := by decide +kernel
theorem dL_law_2833 : decode cL_law 2833 = .ok (.iconst 0, 1) := by decide +kernel
theorem dL_law_2834 : decode cL_law 2834 = .ok (.laload, 1) := by decide +kernel
theorem dL_law_2835 : decode cL_law 2835 = .ok (.iload 7, 2) := by decide +kernel
theorem dL_law_2837 : decode cL_law 2837 = .ok (.i2l, 1) := by decide +kernel
theorem dL_law_2838 : decode cL_law 2838 = .ok (.lcmp, 1) := by decide +kernel
theorem dL_law_2839 : decode cL_law 2839 = .ok (.ifCond .eq 5, 3) := by decide +kernel
theorem dL_law_2842 : decode cL_law 2842 = .ok (.iconst 0, 1) := by decide +kernel
theorem dL_law_2843 : decode cL_law 2843 = .ok (.ireturn, 1) := by decide +kernel
theorem dL_law_2844 : decode cL_law 2844 = .ok (.goto 273, 3) := by decide +kernel
theorem dL_law_2847 : decode cL_law 2847 = .ok (.aload_n 1, 1) := by decide +kernel
theorem dL_law_2848 : decode cL_law 2848 = .ok (.aload_n 0, 1) := by decide +kernel
theorem dL_law_2849 : decode cL_law 2849 = .ok (.iload 5, 2) := by decide +kernel
theorem dL_law_2851 : decode cL_law 2851 = .ok (.iconst 1, 1) := by decide +kernel
theorem dL_law_2852 : decode cL_law 2852 = .ok (.iadd, 1) := by decide +kernel
theorem dL_law_2853 : decode cL_law 2853 = .ok (.iaload, 1) := by decide +kernel
theorem dL_law_2854 : decode cL_law 2854 = .ok (.aload_n 3, 1) := by decide +kernel
theorem dL_law_2855 : decode cL_law 2855 = .ok (.invokestatic 329, 3) := by decide +kernel
theorem dL_law_2858 : decode cL_law 2858 = .ok (.istore 6, 2) := by decide +kernel
theorem dL_law_2860 : decode cL_law 2860 = .ok (.aload_n 2, 1) := by decide +kernel
theorem dL_law_2861 : decode cL_law 2861 = .ok (.aload_n 0, 1) := by decide +kernel
theorem dL_law_2862 : decode cL_law 2862 = .ok (.iload 5, 2) := by decide +kernel
theorem dL_law_2864 : decode cL_law 2864 = .ok (.iconst 1, 1) := by decide +kernel
theorem dL_law_2865 : decode cL_law 2865 = .ok (.iadd, 1) := by decide +kernel
theorem dL_law_2866 : decode cL_law 2866 = .ok (.iaload, 1) := by decide +kernel
theorem dL_law_2867 : decode cL_law 2867 = .ok (.invokevirtual 331, 3) := by decide +kernel
theorem dL_law_2870 : decode cL_law 2870 = .ok (.istore 7, 2) := by decide +kernel
theorem dL_law_2872 : decode cL_law 2872 = .ok (.aload_n 2, 1) := by decide +kernel
theorem dL_law_2873 : decode cL_law 2873 = .ok (.invokevirtual 173, 3) := by decide +kernel
theorem dL_law_2876 : decode cL_law 2876 = .ok (.iload 6, 2) := by decide +kernel
theorem dL_law_2878 : decode cL_law 2878 = .ok (.if_icmp .eq 5, 3) := by decide +kernel
theorem dL_law_2881 : decode cL_law 2881 = .ok (.iconst 0, 1) := by decide +kernel
theorem dL_law_2882 : decode cL_law 2882 = .ok (.ireturn, 1) := by decide +kernel
theorem dL_law_2883 : decode cL_law 2883 = .ok (.iload 6, 2) := by decide +kernel
theorem dL_law_2885 : decode cL_law 2885 = .ok (.ifCond .ne 15, 3) := by decide +kernel
theorem dL_law_2888 : decode cL_law 2888 = .ok (.aload_n 3, 1) := by decide +kernel
theorem dL_law_2889 : decode cL_law 2889 = .ok (.iconst 0, 1) := by decide +kernel
theorem dL_law_2890 : decode cL_law 2890 = .ok (.laload, 1) := by decide +kernel
theorem dL_law_2891 : decode cL_law 2891 = .ok (.iload 7, 2) := by decide +kernel
theorem dL_law_2893 : decode cL_law 2893 = .ok (.i2l, 1) := by decide +kernel
theorem dL_law_2894 : decode cL_law 2894 = .ok (.lcmp, 1) := by decide +kernel
theorem dL_law_2895 : decode cL_law 2895 = .ok (.ifCond .eq 5, 3) := by decide +kernel
theorem dL_law_2898 : decode cL_law 2898 = .ok (.iconst 0, 1) := by decide +kernel
theorem dL_law_2899 : decode cL_law 2899 = .ok (.ireturn, 1) := by decide +kernel
theorem dL_law_2900 : decode cL_law 2900 = .ok (.goto 217, 3) := by decide +kernel
theorem dL_law_2903 : decode cL_law 2903 = .ok (.aload_n 1, 1) := by decide +kernel
theorem dL_law_2904 : decode cL_law 2904 = .ok (.aload_n 0, 1) := by decide +kernel
theorem dL_law_2905 : decode cL_law 2905 = .ok (.iload 5, 2) := by decide +kernel
theorem dL_law_2907 : decode cL_law 2907 = .ok (.iconst 1, 1) := by decide +kernel
theorem dL_law_2908 : decode cL_law 2908 = .ok (.iadd, 1) := by decide +kernel
theorem dL_law_2909 : decode cL_law 2909 = .ok (.iaload, 1) := by decide +kernel
theorem dL_law_2910 : decode cL_law 2910 = .ok (.aload_n 3, 1) := by decide +kernel
theorem dL_law_2911 : decode cL_law 2911 = .ok (.invokestatic 332, 3) := by decide +kernel
theorem dL_law_2914 : decode cL_law 2914 = .ok (.istore 6, 2) := by decide +kernel
theorem dL_law_2916 : decode cL_law 2916 = .ok (.aload_n 2, 1) := by decide +kernel
theorem dL_law_2917 : decode cL_law 2917 = .ok (.aload_n 0, 1) := by decide +kernel
theorem dL_law_2918 : decode cL_law 2918 = .ok (.iload 5, 2) := by decide +kernel
theorem dL_law_2920 : decode cL_law 2920 = .ok (.iconst 1, 1) := by decide +kernel
theorem dL_law_2921 : decode cL_law 2921 = .ok (.iadd, 1) := by decide +kernel
theorem dL_law_2922 : decode cL_law 2922 = .ok (.iaload, 1) := by decide +kernel
theorem dL_law_2923 : decode cL_law 2923 = .ok (.invokevirtual 334, 3) := by decide +kernel
theorem dL_law_2926 : decode cL_law 2926 = .ok (.istore 7, 2) := by decide +kernel
theorem dL_law_2928 : decode cL_law 2928 = .ok (.aload_n 2, 1) := by decide +kernel
theorem dL_law_2929 : decode cL_law 2929 = .ok (.invokevirtual 173, 3) := by decide +kernel
theorem dL_law_2932 : decode cL_law 2932 = .ok (.iload 6, 2) := by decide +kernel
theorem dL_law_2934 : decode cL_law 2934 = .ok (.if_icmp .eq 5, 3) := by decide +kernel
theorem dL_law_2937 : decode cL_law 2937 = .ok (.iconst 0, 1) := by decide +kernel
theorem dL_law_2938 : decode cL_law 2938 = .ok (.ireturn, 1) := by decide +kernel
theorem dL_law_2939 : decode cL_law 2939 = .ok (.iload 6, 2) := by decide +kernel
theorem dL_law_2941 : decode cL_law 2941 = .ok (.ifCond .ne 15, 3) := by decide +kernel
theorem dL_law_2944 : decode cL_law 2944 = .ok (.aload_n 3, 1) := by decide +kernel
theorem dL_law_2945 : decode cL_law 2945 = .ok (.iconst 0, 1) := by decide +kernel
theorem dL_law_2946 : decode cL_law 2946 = .ok (.laload, 1) := by decide +kernel
theorem dL_law_2947 : decode cL_law 2947 = .ok (.iload 7, 2) := by decide +kernel
theorem dL_law_2949 : decode cL_law 2949 = .ok (.i2l, 1) := by decide +kernel
theorem dL_law_2950 : decode cL_law 2950 = .ok (.lcmp, 1) := by decide +kernel
theorem dL_law_2951 : decode cL_law 2951 = .ok (.ifCond .eq 5, 3) := by decide +kernel
theorem dL_law_2954 : decode cL_law 2954 = .ok (.iconst 0, 1) := by decide +kernel
theorem dL_law_2955 : decode cL_law 2955 = .ok (.ireturn, 1) := by decide +kernel
theorem dL_law_2956 : decode cL_law 2956 = .ok (.goto 161, 3) := by decide +kernel
theorem dL_law_2959 : decode cL_law 2959 = .ok (.aload_n 1, 1) := by decide +kernel
theorem dL_law_2960 : decode cL_law 2960 = .ok (.aload 4, 2) := by decide +kernel
theorem dL_law_2962 : decode cL_law 2962 = .ok (.invokestatic 335, 3) := by decide +kernel
theorem dL_law_2965 : decode cL_law 2965 = .ok (.istore 6, 2) := by decide +kernel
theorem dL_law_2967 : decode cL_law 2967 = .ok (.aload_n 2, 1) := by decide +kernel
theorem dL_law_2968 : decode cL_law 2968 = .ok (.invokevirtual 338, 3) := by decide +kernel
theorem dL_law_2971 : decode cL_law 2971 = .ok (.fstore 7, 2) := by decide +kernel
theorem dL_law_2973 : decode cL_law 2973 = .ok (.aload_n 2, 1) := by decide +kernel
theorem dL_law_2974 : decode cL_law 2974 = .ok (.invokevirtual 173, 3) := by decide +kernel
theorem dL_law_2977 : decode cL_law 2977 = .ok (.iload 6, 2) := by decide +kernel
theorem dL_law_2979 : decode cL_law 2979 = .ok (.if_icmp .eq 5, 3) := by decide +kernel
theorem dL_law_2982 : decode cL_law 2982 = .ok (.iconst 0, 1) := by decide +kernel
theorem dL_law_2983 : decode cL_law 2983 = .ok (.ireturn, 1) := by decide +kernel
theorem dL_law_2984 : decode cL_law 2984 = .ok (.iload 6, 2) := by decide +kernel
theorem dL_law_2986 : decode cL_law 2986 = .ok (.ifCond .ne 36, 3) := by decide +kernel
theorem dL_law_2989 : decode cL_law 2989 = .ok (.aload 4, 2) := by decide +kernel
theorem dL_law_2991 : decode cL_law 2991 = .ok (.iconst 0, 1) := by decide +kernel
theorem dL_law_2992 : decode cL_law 2992 = .ok (.daload, 1) := by decide +kernel
theorem dL_law_2993 : decode cL_law 2993 = .ok (.fload 7, 2) := by decide +kernel
theorem dL_law_2995 : decode cL_law 2995 = .ok (.f2d, 1) := by decide +kernel
theorem dL_law_2996 : decode cL_law 2996 = .ok (.dcmp .l, 1) := by decide +kernel
theorem dL_law_2997 : decode cL_law 2997 = .ok (.ifCond .eq 25, 3) := by decide +kernel
theorem dL_law_3000 : decode cL_law 3000 = .ok (.aload 4, 2) := by decide +kernel
theorem dL_law_3002 : decode cL_law 3002 = .ok (.iconst 0, 1) := by decide +kernel
theorem dL_law_3003 : decode cL_law 3003 = .ok (.daload, 1) := by decide +kernel
theorem dL_law_3004 : decode cL_law 3004 = .ok (.aload 4, 2) := by decide +kernel
theorem dL_law_3006 : decode cL_law 3006 = .ok (.iconst 0, 1) := by decide +kernel
theorem dL_law_3007 : decode cL_law 3007 = .ok (.daload, 1) := by decide +kernel
theorem dL_law_3008 : decode cL_law 3008 = .ok (.dcmp .l, 1) := by decide +kernel
theorem dL_law_3009 : decode cL_law 3009 = .ok (.ifCond .eq 11, 3) := by decide +kernel
theorem dL_law_3012 : decode cL_law 3012 = .ok (.fload 7, 2) := by decide +kernel
theorem dL_law_3014 : decode cL_law 3014 = .ok (.fload 7, 2) := by decide +kernel
theorem dL_law_3016 : decode cL_law 3016 = .ok (.fcmp .l, 1) := by decide +kernel
theorem dL_law_3017 : decode cL_law 3017 = .ok (.ifCond .ne 5, 3) := by decide +kernel
theorem dL_law_3020 : decode cL_law 3020 = .ok (.iconst 0, 1) := by decide +kernel
theorem dL_law_3021 : decode cL_law 3021 = .ok (.ireturn, 1) := by decide +kernel
theorem dL_law_3022 : decode cL_law 3022 = .ok (.goto 95, 3) := by decide +kernel
theorem dL_law_3025 : decode cL_law 3025 = .ok (.aload_n 1, 1) := by decide +kernel
theorem dL_law_3026 : decode cL_law 3026 = .ok (.aload 4, 2) := by decide +kernel
theorem dL_law_3028 : decode cL_law 3028 = .ok (.invokestatic 339, 3) := by decide +kernel
theorem dL_law_3031 : decode cL_law 3031 = .ok (.istore 6, 2) := by decide +kernel
theorem dL_law_3033 : decode cL_law 3033 = .ok (.aload_n 2, 1) := by decide +kernel
theorem dL_law_3034 : decode cL_law 3034 = .ok (.invokevirtual 341, 3) := by decide +kernel
theorem dL_law_3037 : decode cL_law 3037 = .ok (.dstore 7, 2) := by decide +kernel
theorem dL_law_3039 : decode cL_law 3039 = .ok (.aload_n 2, 1) := by decide +kernel
theorem dL_law_3040 : decode cL_law 3040 = .ok (.invokevirtual 173, 3) := by decide +kernel
theorem dL_law_3043 : decode cL_law 3043 = .ok (.iload 6, 2) := by decide +kernel
theorem dL_law_3045 : decode cL_law 3045 = .ok (.if_icmp .eq 5, 3) := by decide +kernel
theorem dL_law_3048 : decode cL_law 3048 = .ok (.iconst 0, 1) := by decide +kernel
theorem dL_law_3049 : decode cL_law 3049 = .ok (.ireturn, 1) := by decide +kernel
theorem dL_law_3050 : decode cL_law 3050 = .ok (.iload 6, 2) := by decide +kernel
theorem dL_law_3052 : decode cL_law 3052 = .ok (.ifCond .ne 35, 3) := by decide +kernel
theorem dL_law_3055 : decode cL_law 3055 = .ok (.aload 4, 2) := by decide +kernel
theorem dL_law_3057 : decode cL_law 3057 = .ok (.iconst 0, 1) := by decide +kernel
theorem dL_law_3058 : decode cL_law 3058 = .ok (.daload, 1) := by decide +kernel
theorem dL_law_3059 : decode cL_law 3059 = .ok (.dload 7, 2) := by decide +kernel
theorem dL_law_3061 : decode cL_law 3061 = .ok (.dcmp .l, 1) := by decide +kernel
theorem dL_law_3062 : decode cL_law 3062 = .ok (.ifCond .eq 25, 3) := by decide +kernel
theorem dL_law_3065 : decode cL_law 3065 = .ok (.aload 4, 2) := by decide +kernel
theorem dL_law_3067 : decode cL_law 3067 = .ok (.iconst 0, 1) := by decide +kernel
theorem dL_law_3068 : decode cL_law 3068 = .ok (.daload, 1) := by decide +kernel
theorem dL_law_3069 : decode cL_law 3069 = .ok (.aload 4, 2) := by decide +kernel
theorem dL_law_3071 : decode cL_law 3071 = .ok (.iconst 0, 1) := by decide +kernel
theorem dL_law_3072 : decode cL_law 3072 = .ok (.daload, 1) := by decide +kernel
theorem dL_law_3073 : decode cL_law 3073 = .ok (.dcmp .l, 1) := by decide +kernel
theorem dL_law_3074 : decode cL_law 3074 = .ok (.ifCond .eq 11, 3) := by decide +kernel
theorem dL_law_3077 : decode cL_law 3077 = .ok (.dload 7, 2) := by decide +kernel
theorem dL_law_3079 : decode cL_law 3079 = .ok (.dload 7, 2) := by decide +kernel
theorem dL_law_3081 : decode cL_law 3081 = .ok (.dcmp .l, 1) := by decide +kernel
theorem dL_law_3082 : decode cL_law 3082 = .ok (.ifCond .ne 5, 3) := by decide +kernel
theorem dL_law_3085 : decode cL_law 3085 = .ok (.iconst 0, 1) := by decide +kernel
theorem dL_law_3086 : decode cL_law 3086 = .ok (.ireturn, 1) := by decide +kernel
theorem dL_law_3087 : decode cL_law 3087 = .ok (.goto 30, 3) := by decide +kernel
theorem dL_law_3090 : decode cL_law 3090 = .ok (.aload_n 1, 1) := by decide +kernel
theorem dL_law_3091 : decode cL_law 3091 = .ok (.invokevirtual 342, 3) := by decide +kernel
theorem dL_law_3094 : decode cL_law 3094 = .ok (.aload_n 2, 1) := by decide +kernel
theorem dL_law_3095 : decode cL_law 3095 = .ok (.invokevirtual 346, 3) := by decide +kernel
theorem dL_law_3098 : decode cL_law 3098 = .ok (.lcmp, 1) := by decide +kernel
theorem dL_law_3099 : decode cL_law 3099 = .ok (.ifCond .eq 18, 3) := by decide +kernel
theorem dL_law_3102 : decode cL_law 3102 = .ok (.iconst 0, 1) := by decide +kernel
theorem dL_law_3103 : decode cL_law 3103 = .ok (.ireturn, 1) := by decide +kernel
theorem dL_law_3104 : decode cL_law 3104 = .ok (.aload_n 1, 1) := by decide +kernel
theorem dL_law_3105 : decode cL_law 3105 = .ok (.invokevirtual 347, 3) := by decide +kernel
theorem dL_law_3108 : decode cL_law 3108 = .ok (.aload_n 2, 1) := by decide +kernel
theorem dL_law_3109 : decode cL_law 3109 = .ok (.invokevirtual 351, 3) := by decide +kernel
theorem dL_law_3112 : decode cL_law 3112 = .ok (.if_icmp .eq 5, 3) := by decide +kernel
theorem dL_law_3115 : decode cL_law 3115 = .ok (.iconst 0, 1) := by decide +kernel
theorem dL_law_3116 : decode cL_law 3116 = .ok (.ireturn, 1) := by decide +kernel
theorem dL_law_3117 : decode cL_law 3117 = .ok (.iinc 5 6, 3) := by decide +kernel
theorem dL_law_3120 : decode cL_law 3120 = .ok (.goto (-3092), 3) := by decide +kernel
theorem dL_law_3123 : decode cL_law 3123 = .ok (.iconst 1, 1) := by decide +kernel
theorem dL_law_3124 : decode cL_law 3124 = .ok (.ireturn, 1) := by decide +kernel
abbrev vwCl : List vw_C := [(RJ0, TJ0, 2), (RJ6, TJ6, 1), (RJx00060, TJx00060, 6), (RJx35411, TJx35411, 4), (RJx4a65c, TJx4a65c, 3), (RX0, TX0, 4), (RX1, TX1, 20), (RX2, TX2, 9), (RX3, TX3, 10), (RX4, TX4, 2), (RX5, TX5, 14), (RX6, TX6, 3), (RX7, TX7, 6), (RX8, TX8, 5), (RX9, TX9, 13), (RX10, TX10, 16), (RX11, TX11, 5), (RX12, TX12, 10), (RX13, TX13, 5), (RX14, TX14, 19)]
/-- the objects of Hubcascade$ByteRow, kind 0: what each holds, by its address -/
