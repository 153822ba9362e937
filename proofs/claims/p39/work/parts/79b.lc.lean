theorem dL_law_713 : decode cL_law 713 = .ok (.aload_n 1, 1) := by decide +kernel
theorem dL_law_717 : decode cL_law 717 = .ok (.pop, 1) := by decide +kernel
theorem dL_law_718 : decode cL_law 718 = .ok (.aload_n 2, 1) := by decide +kernel
theorem dL_law_722 : decode cL_law 722 = .ok (.pop, 1) := by decide +kernel
theorem dL_law_723 : decode cL_law 723 = .ok (.goto 655, 3) := by decide +kernel
theorem dL_law_726 : decode cL_law 726 = .ok (.aload_n 1, 1) := by decide +kernel
theorem dL_law_727 : decode cL_law 727 = .ok (.aload_n 0, 1) := by decide +kernel
theorem dL_law_728 : decode cL_law 728 = .ok (.iload 4, 2) := by decide +kernel
theorem dL_law_730 : decode cL_law 730 = .ok (.iconst 1, 1) := by decide +kernel
theorem dL_law_731 : decode cL_law 731 = .ok (.iadd, 1) := by decide +kernel
theorem dL_law_732 : decode cL_law 732 = .ok (.iaload, 1) := by decide +kernel
theorem dL_law_733 : decode cL_law 733 = .ok (.aload_n 0, 1) := by decide +kernel
theorem dL_law_734 : decode cL_law 734 = .ok (.iload 4, 2) := by decide +kernel
theorem dL_law_736 : decode cL_law 736 = .ok (.iconst 2, 1) := by decide +kernel
theorem dL_law_737 : decode cL_law 737 = .ok (.iadd, 1) := by decide +kernel
theorem dL_law_738 : decode cL_law 738 = .ok (.iaload, 1) := by decide +kernel
theorem dL_law_742 : decode cL_law 742 = .ok (.pop, 1) := by decide +kernel
theorem dL_law_743 : decode cL_law 743 = .ok (.aload_n 2, 1) := by decide +kernel
theorem dL_law_744 : decode cL_law 744 = .ok (.aload_n 0, 1) := by decide +kernel
theorem dL_law_745 : decode cL_law 745 = .ok (.iload 4, 2) := by decide +kernel
theorem dL_law_747 : decode cL_law 747 = .ok (.iconst 1, 1) := by decide +kernel
theorem dL_law_748 : decode cL_law 748 = .ok (.iadd, 1) := by decide +kernel
theorem dL_law_749 : decode cL_law 749 = .ok (.iaload, 1) := by decide +kernel
theorem dL_law_750 : decode cL_law 750 = .ok (.aload_n 0, 1) := by decide +kernel
theorem dL_law_751 : decode cL_law 751 = .ok (.iload 4, 2) := by decide +kernel
theorem dL_law_753 : decode cL_law 753 = .ok (.iconst 2, 1) := by decide +kernel
theorem dL_law_754 : decode cL_law 754 = .ok (.iadd, 1) := by decide +kernel
theorem dL_law_755 : decode cL_law 755 = .ok (.iaload, 1) := by decide +kernel
theorem dL_law_759 : decode cL_law 759 = .ok (.pop, 1) := by decide +kernel
theorem dL_law_760 : decode cL_law 760 = .ok (.goto 618, 3) := by decide +kernel
theorem dL_law_763 : decode cL_law 763 = .ok (.aload_n 1, 1) := by decide +kernel
theorem dL_law_767 : decode cL_law 767 = .ok (.pop, 1) := by decide +kernel
theorem dL_law_768 : decode cL_law 768 = .ok (.aload_n 2, 1) := by decide +kernel
theorem dL_law_772 : decode cL_law 772 = .ok (.pop, 1) := by decide +kernel
theorem dL_law_773 : decode cL_law 773 = .ok (.goto 605, 3) := by decide +kernel
theorem dL_law_776 : decode cL_law 776 = .ok (.aload_n 1, 1) := by decide +kernel
theorem dL_law_777 : decode cL_law 777 = .ok (.aload_n 0, 1) := by decide +kernel
theorem dL_law_778 : decode cL_law 778 = .ok (.iload 4, 2) := by decide +kernel
theorem dL_law_780 : decode cL_law 780 = .ok (.iconst 1, 1) := by decide +kernel
theorem dL_law_781 : decode cL_law 781 = .ok (.iadd, 1) := by decide +kernel
theorem dL_law_782 : decode cL_law 782 = .ok (.iaload, 1) := by decide +kernel
theorem dL_law_783 : decode cL_law 783 = .ok (.aload_n 0, 1) := by decide +kernel
theorem dL_law_784 : decode cL_law 784 = .ok (.iload 4, 2) := by decide +kernel
theorem dL_law_786 : decode cL_law 786 = .ok (.iconst 2, 1) := by decide +kernel
theorem dL_law_787 : decode cL_law 787 = .ok (.iadd, 1) := by decide +kernel
theorem dL_law_788 : decode cL_law 788 = .ok (.iaload, 1) := by decide +kernel
theorem dL_law_792 : decode cL_law 792 = .ok (.pop, 1) := by decide +kernel
theorem dL_law_793 : decode cL_law 793 = .ok (.aload_n 2, 1) := by decide +kernel
theorem dL_law_794 : decode cL_law 794 = .ok (.aload_n 0, 1) := by decide +kernel
theorem dL_law_795 : decode cL_law 795 = .ok (.iload 4, 2) := by decide +kernel
theorem dL_law_797 : decode cL_law 797 = .ok (.iconst 1, 1) := by decide +kernel
theorem dL_law_798 : decode cL_law 798 = .ok (.iadd, 1) := by decide +kernel
theorem dL_law_799 : decode cL_law 799 = .ok (.iaload, 1) := by decide +kernel
theorem dL_law_800 : decode cL_law 800 = .ok (.aload_n 0, 1) := by decide +kernel
theorem dL_law_801 : decode cL_law 801 = .ok (.iload 4, 2) := by decide +kernel
theorem dL_law_803 : decode cL_law 803 = .ok (.iconst 2, 1) := by decide +kernel
theorem dL_law_804 : decode cL_law 804 = .ok (.iadd, 1) := by decide +kernel
theorem dL_law_805 : decode cL_law 805 = .ok (.iaload, 1) := by decide +kernel
theorem dL_law_809 : decode cL_law 809 = .ok (.pop, 1) := by decide +kernel
theorem dL_law_810 : decode cL_law 810 = .ok (.goto 568, 3) := by decide +kernel
theorem dL_law_813 : decode cL_law 813 = .ok (.aload_n 1, 1) := by decide +kernel
theorem dL_law_814 : decode cL_law 814 = .ok (.aload_n 0, 1) := by decide +kernel
theorem dL_law_815 : decode cL_law 815 = .ok (.iload 4, 2) := by decide +kernel
theorem dL_law_817 : decode cL_law 817 = .ok (.iconst 1, 1) := by decide +kernel
theorem dL_law_818 : decode cL_law 818 = .ok (.iadd, 1) := by decide +kernel
theorem dL_law_819 : decode cL_law 819 = .ok (.iaload, 1) := by decide +kernel
theorem dL_law_823 : decode cL_law 823 = .ok (.pop, 1) := by decide +kernel
theorem dL_law_824 : decode cL_law 824 = .ok (.aload_n 2, 1) := by decide +kernel
theorem dL_law_825 : decode cL_law 825 = .ok (.aload_n 0, 1) := by decide +kernel
theorem dL_law_826 : decode cL_law 826 = .ok (.iload 4, 2) := by decide +kernel
theorem dL_law_828 : decode cL_law 828 = .ok (.iconst 1, 1) := by decide +kernel
theorem dL_law_829 : decode cL_law 829 = .ok (.iadd, 1) := by decide +kernel
theorem dL_law_830 : decode cL_law 830 = .ok (.iaload, 1) := by decide +kernel
theorem dL_law_834 : decode cL_law 834 = .ok (.pop, 1) := by decide +kernel
theorem dL_law_835 : decode cL_law 835 = .ok (.goto 543, 3) := by decide +kernel
theorem dL_law_838 : decode cL_law 838 = .ok (.aload_n 1, 1) := by decide +kernel
theorem dL_law_842 : decode cL_law 842 = .ok (.pop, 1) := by decide +kernel
theorem dL_law_843 : decode cL_law 843 = .ok (.aload_n 2, 1) := by decide +kernel
theorem dL_law_847 : decode cL_law 847 = .ok (.pop, 1) := by decide +kernel
theorem dL_law_848 : decode cL_law 848 = .ok (.goto 530, 3) := by decide +kernel
theorem dL_law_851 : decode cL_law 851 = .ok (.aload_n 1, 1) := by decide +kernel
theorem dL_law_852 : decode cL_law 852 = .ok (.aload_n 0, 1) := by decide +kernel
theorem dL_law_853 : decode cL_law 853 = .ok (.iload 4, 2) := by decide +kernel
theorem dL_law_855 : decode cL_law 855 = .ok (.iconst 1, 1) := by decide +kernel
theorem dL_law_856 : decode cL_law 856 = .ok (.iadd, 1) := by decide +kernel
theorem dL_law_857 : decode cL_law 857 = .ok (.iaload, 1) := by decide +kernel
theorem dL_law_858 : decode cL_law 858 = .ok (.aload_n 0, 1) := by decide +kernel
theorem dL_law_859 : decode cL_law 859 = .ok (.iload 4, 2) := by decide +kernel
theorem dL_law_861 : decode cL_law 861 = .ok (.iconst 2, 1) := by decide +kernel
theorem dL_law_862 : decode cL_law 862 = .ok (.iadd, 1) := by decide +kernel
theorem dL_law_863 : decode cL_law 863 = .ok (.iaload, 1) := by decide +kernel
theorem dL_law_867 : decode cL_law 867 = .ok (.pop, 1) := by decide +kernel
theorem dL_law_868 : decode cL_law 868 = .ok (.aload_n 2, 1) := by decide +kernel
theorem dL_law_869 : decode cL_law 869 = .ok (.aload_n 0, 1) := by decide +kernel
theorem dL_law_870 : decode cL_law 870 = .ok (.iload 4, 2) := by decide +kernel
theorem dL_law_872 : decode cL_law 872 = .ok (.iconst 1, 1) := by decide +kernel
theorem dL_law_873 : decode cL_law 873 = .ok (.iadd, 1) := by decide +kernel
theorem dL_law_874 : decode cL_law 874 = .ok (.iaload, 1) := by decide +kernel
theorem dL_law_875 : decode cL_law 875 = .ok (.aload_n 0, 1) := by decide +kernel
theorem dL_law_876 : decode cL_law 876 = .ok (.iload 4, 2) := by decide +kernel
theorem dL_law_878 : decode cL_law 878 = .ok (.iconst 2, 1) := by decide +kernel
theorem dL_law_879 : decode cL_law 879 = .ok (.iadd, 1) := by decide +kernel
theorem dL_law_880 : decode cL_law 880 = .ok (.iaload, 1) := by decide +kernel
theorem dL_law_884 : decode cL_law 884 = .ok (.pop, 1) := by decide +kernel
theorem dL_law_885 : decode cL_law 885 = .ok (.goto 493, 3) := by decide +kernel
theorem dL_law_888 : decode cL_law 888 = .ok (.aload_n 1, 1) := by decide +kernel
theorem dL_law_889 : decode cL_law 889 = .ok (.aload_n 0, 1) := by decide +kernel
theorem dL_law_890 : decode cL_law 890 = .ok (.iload 4, 2) := by decide +kernel
theorem dL_law_892 : decode cL_law 892 = .ok (.iconst 1, 1) := by decide +kernel
theorem dL_law_893 : decode cL_law 893 = .ok (.iadd, 1) := by decide +kernel
theorem dL_law_894 : decode cL_law 894 = .ok (.iaload, 1) := by decide +kernel
theorem dL_law_895 : decode cL_law 895 = .ok (.aload_n 0, 1) := by decide +kernel
theorem dL_law_896 : decode cL_law 896 = .ok (.iload 4, 2) := by decide +kernel
theorem dL_law_898 : decode cL_law 898 = .ok (.iconst 2, 1) := by decide +kernel
theorem dL_law_899 : decode cL_law 899 = .ok (.iadd, 1) := by decide +kernel
theorem dL_law_900 : decode cL_law 900 = .ok (.iaload, 1) := by decide +kernel
theorem dL_law_904 : decode cL_law 904 = .ok (.pop, 1) := by decide +kernel
theorem dL_law_905 : decode cL_law 905 = .ok (.aload_n 2, 1) := by decide +kernel
theorem dL_law_906 : decode cL_law 906 = .ok (.aload_n 0, 1) := by decide +kernel
theorem dL_law_907 : decode cL_law 907 = .ok (.iload 4, 2) := by decide +kernel
theorem dL_law_909 : decode cL_law 909 = .ok (.iconst 1, 1) := by decide +kernel
theorem dL_law_910 : decode cL_law 910 = .ok (.iadd, 1) := by decide +kernel
theorem dL_law_911 : decode cL_law 911 = .ok (.iaload, 1) := by decide +kernel
theorem dL_law_912 : decode cL_law 912 = .ok (.aload_n 0, 1) := by decide +kernel
theorem dL_law_913 : decode cL_law 913 = .ok (.iload 4, 2) := by decide +kernel
theorem dL_law_915 : decode cL_law 915 = .ok (.iconst 2, 1) := by decide +kernel
theorem dL_law_916 : decode cL_law 916 = .ok (.iadd, 1) := by decide +kernel
theorem dL_law_917 : decode cL_law 917 = .ok (.iaload, 1) := by decide +kernel
theorem dL_law_921 : decode cL_law 921 = .ok (.pop, 1) := by decide +kernel
theorem dL_law_922 : decode cL_law 922 = .ok (.goto 456, 3) := by decide +kernel
theorem dL_law_925 : decode cL_law 925 = .ok (.aload_n 1, 1) := by decide +kernel
theorem dL_law_929 : decode cL_law 929 = .ok (.pop, 1) := by decide +kernel
theorem dL_law_930 : decode cL_law 930 = .ok (.aload_n 2, 1) := by decide +kernel
theorem dL_law_934 : decode cL_law 934 = .ok (.pop, 1) := by decide +kernel
theorem dL_law_935 : decode cL_law 935 = .ok (.goto 443, 3) := by decide +kernel
theorem dL_law_938 : decode cL_law 938 = .ok (.aload_n 1, 1) := by decide +kernel
theorem dL_law_939 : decode cL_law 939 = .ok (.aload_n 0, 1) := by decide +kernel
theorem dL_law_940 : decode cL_law 940 = .ok (.iload 4, 2) := by decide +kernel
theorem dL_law_942 : decode cL_law 942 = .ok (.iconst 1, 1) := by decide +kernel
theorem dL_law_943 : decode cL_law 943 = .ok (.iadd, 1) := by decide +kernel
theorem dL_law_944 : decode cL_law 944 = .ok (.iaload, 1) := by decide +kernel
theorem dL_law_948 : decode cL_law 948 = .ok (.pop, 1) := by decide +kernel
theorem dL_law_949 : decode cL_law 949 = .ok (.aload_n 2, 1) := by decide +kernel
theorem dL_law_950 : decode cL_law 950 = .ok (.aload_n 0, 1) := by decide +kernel
theorem dL_law_951 : decode cL_law 951 = .ok (.iload 4, 2) := by decide +kernel
theorem dL_law_953 : decode cL_law 953 = .ok (.iconst 1, 1) := by decide +kernel
theorem dL_law_954 : decode cL_law 954 = .ok (.iadd, 1) := by decide +kernel
theorem dL_law_955 : decode cL_law 955 = .ok (.iaload, 1) := by decide +kernel
theorem dL_law_959 : decode cL_law 959 = .ok (.pop, 1) := by decide +kernel
theorem dL_law_960 : decode cL_law 960 = .ok (.goto 418, 3) := by decide +kernel
theorem dL_law_963 : decode cL_law 963 = .ok (.aload_n 1, 1) := by decide +kernel
theorem dL_law_967 : decode cL_law 967 = .ok (.pop, 1) := by decide +kernel
theorem dL_law_968 : decode cL_law 968 = .ok (.aload_n 2, 1) := by decide +kernel
theorem dL_law_972 : decode cL_law 972 = .ok (.pop, 1) := by decide +kernel
theorem dL_law_973 : decode cL_law 973 = .ok (.goto 405, 3) := by decide +kernel
theorem dL_law_976 : decode cL_law 976 = .ok (.aload_n 1, 1) := by decide +kernel
theorem dL_law_977 : decode cL_law 977 = .ok (.aload_n 0, 1) := by decide +kernel
theorem dL_law_978 : decode cL_law 978 = .ok (.iload 4, 2) := by decide +kernel
theorem dL_law_980 : decode cL_law 980 = .ok (.iconst 1, 1) := by decide +kernel
theorem dL_law_981 : decode cL_law 981 = .ok (.iadd, 1) := by decide +kernel
theorem dL_law_982 : decode cL_law 982 = .ok (.iaload, 1) := by decide +kernel
theorem dL_law_986 : decode cL_law 986 = .ok (.pop, 1) := by decide +kernel
theorem dL_law_987 : decode cL_law 987 = .ok (.aload_n 2, 1) := by decide +kernel
theorem dL_law_988 : decode cL_law 988 = .ok (.aload_n 0, 1) := by decide +kernel
theorem dL_law_989 : decode cL_law 989 = .ok (.iload 4, 2) := by decide +kernel
theorem dL_law_991 : decode cL_law 991 = .ok (.iconst 1, 1) := by decide +kernel
theorem dL_law_992 : decode cL_law 992 = .ok (.iadd, 1) := by decide +kernel
theorem dL_law_993 : decode cL_law 993 = .ok (.iaload, 1) := by decide +kernel
theorem dL_law_997 : decode cL_law 997 = .ok (.pop, 1) := by decide +kernel
theorem dL_law_998 : decode cL_law 998 = .ok (.goto 380, 3) := by decide +kernel
theorem dL_law_1001 : decode cL_law 1001 = .ok (.aload_n 1, 1) := by decide +kernel
theorem dL_law_1002 : decode cL_law 1002 = .ok (.aload_n 0, 1) := by decide +kernel
theorem dL_law_1003 : decode cL_law 1003 = .ok (.iload 4, 2) := by decide +kernel
theorem dL_law_1005 : decode cL_law 1005 = .ok (.iconst 1, 1) := by decide +kernel
theorem dL_law_1006 : decode cL_law 1006 = .ok (.iadd, 1) := by decide +kernel
theorem dL_law_1007 : decode cL_law 1007 = .ok (.iaload, 1) := by decide +kernel
theorem dL_law_1008 : decode cL_law 1008 = .ok (.aload_n 0, 1) := by decide +kernel
theorem dL_law_1009 : decode cL_law 1009 = .ok (.iload 4, 2) := by decide +kernel
theorem dL_law_1011 : decode cL_law 1011 = .ok (.iconst 2, 1) := by decide +kernel
theorem dL_law_1012 : decode cL_law 1012 = .ok (.iadd, 1) := by decide +kernel
theorem dL_law_1013 : decode cL_law 1013 = .ok (.iaload, 1) := by decide +kernel
theorem dL_law_1014 : decode cL_law 1014 = .ok (.aload_n 3, 1) := by decide +kernel
theorem dL_law_1018 : decode cL_law 1018 = .ok (.istore 5, 2) := by decide +kernel
theorem dL_law_1020 : decode cL_law 1020 = .ok (.aload_n 2, 1) := by decide +kernel
theorem dL_law_1021 : decode cL_law 1021 = .ok (.aload_n 0, 1) := by decide +kernel
theorem dL_law_1022 : decode cL_law 1022 = .ok (.iload 4, 2) := by decide +kernel
theorem dL_law_1024 : decode cL_law 1024 = .ok (.iconst 1, 1) := by decide +kernel
theorem dL_law_1025 : decode cL_law 1025 = .ok (.iadd, 1) := by decide +kernel
theorem dL_law_1026 : decode cL_law 1026 = .ok (.iaload, 1) := by decide +kernel
theorem dL_law_1027 : decode cL_law 1027 = .ok (.aload_n 0, 1) := by decide +kernel
theorem dL_law_1028 : decode cL_law 1028 = .ok (.iload 4, 2) := by decide +kernel
theorem dL_law_1030 : decode cL_law 1030 = .ok (.iconst 2, 1) := by decide +kernel
theorem dL_law_1031 : decode cL_law 1031 = .ok (.iadd, 1) := by decide +kernel
theorem dL_law_1032 : decode cL_law 1032 = .ok (.iaload, 1) := by decide +kernel
theorem dL_law_1036 : decode cL_law 1036 = .ok (.istore 6, 2) := by decide +kernel
theorem dL_law_1038 : decode cL_law 1038 = .ok (.goto 340, 3) := by decide +kernel
theorem dL_law_1041 : decode cL_law 1041 = .ok (.aload_n 1, 1) := by decide +kernel
theorem dL_law_1042 : decode cL_law 1042 = .ok (.aload_n 0, 1) := by decide +kernel
theorem dL_law_1043 : decode cL_law 1043 = .ok (.iload 4, 2) := by decide +kernel
theorem dL_law_1045 : decode cL_law 1045 = .ok (.iconst 1, 1) := by decide +kernel
theorem dL_law_1046 : decode cL_law 1046 = .ok (.iadd, 1) := by decide +kernel
theorem dL_law_1047 : decode cL_law 1047 = .ok (.iaload, 1) := by decide +kernel
theorem dL_law_1051 : decode cL_law 1051 = .ok (.pop, 1) := by decide +kernel
theorem dL_law_1052 : decode cL_law 1052 = .ok (.aload_n 2, 1) := by decide +kernel
theorem dL_law_1053 : decode cL_law 1053 = .ok (.aload_n 0, 1) := by decide +kernel
theorem dL_law_1054 : decode cL_law 1054 = .ok (.iload 4, 2) := by decide +kernel
theorem dL_law_1056 : decode cL_law 1056 = .ok (.iconst 1, 1) := by decide +kernel
theorem dL_law_1057 : decode cL_law 1057 = .ok (.iadd, 1) := by decide +kernel
theorem dL_law_1058 : decode cL_law 1058 = .ok (.iaload, 1) := by decide +kernel
theorem dL_law_1062 : decode cL_law 1062 = .ok (.pop, 1) := by decide +kernel
theorem dL_law_1063 : decode cL_law 1063 = .ok (.goto 315, 3) := by decide +kernel
set_option maxHeartbeats 4000000 in
set_option maxRecDepth 100000 in
theorem lc_undo {p : Program} {l : Launch} {e : Env} {s : State} {m : MethodId} {args : Array Value} {below : List Frame} {meth : Method} {c : Code} {Q : State → Prop} {dC : Nat → ClassId} {dI : Nat → Nat → Nat} {ky : Nat → ClassId} {A : Nat → Prop} {cells slots : Nat} {H : Heap} {locs : List Loc} {ls : Array Slot} {adK adV : Nat → Nat} {b L : Nat} {xs : Nat → Int32} {t o out : Nat} (hx : p.tables.exec = Jvm.exec) (hb : c.code = cL_law) (hml : c.maxLocals = 7) (hown : s.vm.findClass RL = some m.cls) (hts : ∀ w ∈ lw_tbl, w.before args s = true) (hK : Kk dC dI ky s) (hA : ∀ q, s.heap.size ≤ q → A q) (hE : SEnv adK adV A s s.heap) (hst : l.stackTraces = false) (hTh : ThE s s.heap) (hAn : ∀ a, a < s.heap.size → ¬ A a) (hX : va_X b L xs s s.heap) (hbl : b < s.heap.size) (hbA : ¬ A b) (hL : L ≤ 3072) (hcap : cells + 1 ≤ room_1.cells ∧ slots + 6 ≤ room_1.slots) {i : Nat} (hi : i + 6 ≤ L) (hLI : LI dC dI ky A t o out H) (hS : va_S A s.heap H locs) (hl : lv_has ls 7 [(4, .int (nI i)), (3, .ref out), (2, .ref o), (1, .ref t), (0, .ref b)]) (kx : ∀ (H : Heap) (locs : List Loc) (ls : Array Slot), LI dC dI ky A t o out H → va_S A s.heap H locs → lv_has ls 7 [(4, .int (nI i)), (3, .ref out), (2, .ref o), (1, .ref t), (0, .ref b)] → W p l e room_1 s m args below meth c H locs (cells + 1) (slots + 6) Q (F0 m 1378 ls [])) : W p l e room_1 s m args below meth c H locs cells slots Q (F0 m 713 ls []) := by
  obtain ⟨tl, z0, z1, kz, w, wm, fo, hCI, hMI, hP, hD⟩ := hLI
  have hcs : cells + 0 ≤ room_1.cells ∧ slots + 0 ≤ room_1.slots := ⟨by omega, by omega⟩
  refine lv_aload_n hx hb dL_law_713 rfl (lv_at hl 3 rfl) ?_
  refine ci_undo (rest := []) hx hb hml hown hts hK hA hcs hl (Nat.le_of_ble_eq_true rfl)  hCI hP hD hS (fun r tl9 y0 y1 w9 H locs hf hCI hP hD hS => ?_)
  refine lv_pop hx hb dL_law_717 rfl ?_
  have hP := hP.perm (pm_sw wm [(out, .inl (ky 1, 1, .inr (.inl fo)))] w9)
  have hD := hD.perm (pm_sw wm [(out, .inl (ky 1, 1, .inr (.inl fo)))] w9)
  refine lv_aload_n hx hb dL_law_718 rfl (lv_at hl 2 rfl) ?_
  refine mi_undo (rest := []) hx hb hml hown hts hK hA hcs hl (Nat.le_of_ble_eq_true rfl)  hMI hP hD hS (fun r2 tm9 kz9 wm9 H locs hf2 hMI hP hD hS => ?_)
  have hP := hP.perm (pm_sw w9 [(out, .inl (ky 1, 1, .inr (.inl fo)))] wm9)
  have hD := hD.perm (pm_sw w9 [(out, .inl (ky 1, 1, .inr (.inl fo)))] wm9)
  refine lv_pop hx hb dL_law_722 rfl ?_
  subst hf hf2
  refine lv_goto (tgt := 1378) hx hb dL_law_723 (by decide) ?_
  refine W.widen (k := cells + 1) (n := slots + 6) (by omega) (by omega) ?_
  exact kx H locs ls ⟨_, y0, y1, kz9, w9, wm9, fo, hCI, hMI, hP, hD⟩ hS hl
set_option maxHeartbeats 4000000 in
set_option maxRecDepth 100000 in
theorem lc_cost {p : Program} {l : Launch} {e : Env} {s : State} {m : MethodId} {args : Array Value} {below : List Frame} {meth : Method} {c : Code} {Q : State → Prop} {dC : Nat → ClassId} {dI : Nat → Nat → Nat} {ky : Nat → ClassId} {A : Nat → Prop} {cells slots : Nat} {H : Heap} {locs : List Loc} {ls : Array Slot} {adK adV : Nat → Nat} {b L : Nat} {xs : Nat → Int32} {t o out : Nat} (hx : p.tables.exec = Jvm.exec) (hb : c.code = cL_law) (hml : c.maxLocals = 7) (hown : s.vm.findClass RL = some m.cls) (hts : ∀ w ∈ lw_tbl, w.before args s = true) (hK : Kk dC dI ky s) (hA : ∀ q, s.heap.size ≤ q → A q) (hE : SEnv adK adV A s s.heap) (hst : l.stackTraces = false) (hTh : ThE s s.heap) (hAn : ∀ a, a < s.heap.size → ¬ A a) (hX : va_X b L xs s s.heap) (hbl : b < s.heap.size) (hbA : ¬ A b) (hL : L ≤ 3072) (hcap : cells + 1 ≤ room_1.cells ∧ slots + 6 ≤ room_1.slots) {i : Nat} (hi : i + 6 ≤ L) (hLI : LI dC dI ky A t o out H) (hS : va_S A s.heap H locs) (hl : lv_has ls 7 [(4, .int (nI i)), (3, .ref out), (2, .ref o), (1, .ref t), (0, .ref b)]) (kx : ∀ (H : Heap) (locs : List Loc) (ls : Array Slot), LI dC dI ky A t o out H → va_S A s.heap H locs → lv_has ls 7 [(4, .int (nI i)), (3, .ref out), (2, .ref o), (1, .ref t), (0, .ref b)] → W p l e room_1 s m args below meth c H locs (cells + 1) (slots + 6) Q (F0 m 1378 ls [])) : W p l e room_1 s m args below meth c H locs cells slots Q (F0 m 726 ls []) := by
  obtain ⟨tl, z0, z1, kz, w, wm, fo, hCI, hMI, hP, hD⟩ := hLI
  have hcs : cells + 0 ≤ room_1.cells ∧ slots + 0 ≤ room_1.slots := ⟨by omega, by omega⟩
  refine lv_aload_n hx hb dL_law_726 rfl (lv_at hl 3 rfl) ?_
  refine lv_aload_n hx hb dL_law_727 rfl (lv_at hl 4 rfl) ?_
  refine lv_iload hx hb dL_law_728 (lv_at hl 0 rfl) ?_
  refine lv_iconst (v := nI 1) hx hb dL_law_730 (by decide) ?_
  refine lv_iadd hx hb dL_law_731 ?_
  refine r_ti (nI (i + 1)) (nI_add _ _) ?_
  refine r_sld hx hb hX hbl hbA hS (i + 1) (by omega) (by omega) (xs (i + 1)) rfl dL_law_732 ?_
  refine lv_aload_n hx hb dL_law_733 rfl (lv_at hl 4 rfl) ?_
  refine lv_iload hx hb dL_law_734 (lv_at hl 0 rfl) ?_
  refine lv_iconst (v := nI 2) hx hb dL_law_736 (by decide) ?_
  refine lv_iadd hx hb dL_law_737 ?_
  refine r_ti (nI (i + 2)) (nI_add _ _) ?_
  refine r_sld hx hb hX hbl hbA hS (i + 2) (by omega) (by omega) (xs (i + 2)) rfl dL_law_738 ?_
  refine ci_cost (rest := []) hx hb hml hown hts hK hA hcs hl (Nat.le_of_ble_eq_true rfl) (xs (i + 1)) (xs (i + 2)) hCI hP hD hS (fun r tl9 y0 y1 w9 H locs hf hCI hP hD hS => ?_)
  refine lv_pop hx hb dL_law_742 rfl ?_
  have hP := hP.perm (pm_sw wm [(out, .inl (ky 1, 1, .inr (.inl fo)))] w9)
  have hD := hD.perm (pm_sw wm [(out, .inl (ky 1, 1, .inr (.inl fo)))] w9)
  refine lv_aload_n hx hb dL_law_743 rfl (lv_at hl 2 rfl) ?_
  refine lv_aload_n hx hb dL_law_744 rfl (lv_at hl 4 rfl) ?_
  refine lv_iload hx hb dL_law_745 (lv_at hl 0 rfl) ?_
  refine lv_iconst (v := nI 1) hx hb dL_law_747 (by decide) ?_
  refine lv_iadd hx hb dL_law_748 ?_
  refine r_ti (nI (i + 1)) (nI_add _ _) ?_
  refine r_sld hx hb hX hbl hbA hS (i + 1) (by omega) (by omega) (xs (i + 1)) rfl dL_law_749 ?_
  refine lv_aload_n hx hb dL_law_750 rfl (lv_at hl 4 rfl) ?_
  refine lv_iload hx hb dL_law_751 (lv_at hl 0 rfl) ?_
  refine lv_iconst (v := nI 2) hx hb dL_law_753 (by decide) ?_
  refine lv_iadd hx hb dL_law_754 ?_
  refine r_ti (nI (i + 2)) (nI_add _ _) ?_
  refine r_sld hx hb hX hbl hbA hS (i + 2) (by omega) (by omega) (xs (i + 2)) rfl dL_law_755 ?_
  refine mi_cost (rest := []) hx hb hml hown hts hK hA hcs hl (Nat.le_of_ble_eq_true rfl) (xs (i + 1)) (xs (i + 2)) hMI hP hD hS (fun r2 tm9 kz9 wm9 H locs hf2 hMI hP hD hS => ?_)
  have hP := hP.perm (pm_sw w9 [(out, .inl (ky 1, 1, .inr (.inl fo)))] wm9)
  have hD := hD.perm (pm_sw w9 [(out, .inl (ky 1, 1, .inr (.inl fo)))] wm9)
  refine lv_pop hx hb dL_law_759 rfl ?_
  subst hf hf2
  refine lv_goto (tgt := 1378) hx hb dL_law_760 (by decide) ?_
  refine W.widen (k := cells + 1) (n := slots + 6) (by omega) (by omega) ?_
  exact kx H locs ls ⟨_, y0, y1, kz9, w9, wm9, fo, hCI, hMI, hP, hD⟩ hS hl
set_option maxHeartbeats 4000000 in
set_option maxRecDepth 100000 in
theorem lc_skin {p : Program} {l : Launch} {e : Env} {s : State} {m : MethodId} {args : Array Value} {below : List Frame} {meth : Method} {c : Code} {Q : State → Prop} {dC : Nat → ClassId} {dI : Nat → Nat → Nat} {ky : Nat → ClassId} {A : Nat → Prop} {cells slots : Nat} {H : Heap} {locs : List Loc} {ls : Array Slot} {adK adV : Nat → Nat} {b L : Nat} {xs : Nat → Int32} {t o out : Nat} (hx : p.tables.exec = Jvm.exec) (hb : c.code = cL_law) (hml : c.maxLocals = 7) (hown : s.vm.findClass RL = some m.cls) (hts : ∀ w ∈ lw_tbl, w.before args s = true) (hK : Kk dC dI ky s) (hA : ∀ q, s.heap.size ≤ q → A q) (hE : SEnv adK adV A s s.heap) (hst : l.stackTraces = false) (hTh : ThE s s.heap) (hAn : ∀ a, a < s.heap.size → ¬ A a) (hX : va_X b L xs s s.heap) (hbl : b < s.heap.size) (hbA : ¬ A b) (hL : L ≤ 3072) (hcap : cells + 1 ≤ room_1.cells ∧ slots + 6 ≤ room_1.slots) {i : Nat} (hi : i + 6 ≤ L) (hLI : LI dC dI ky A t o out H) (hS : va_S A s.heap H locs) (hl : lv_has ls 7 [(4, .int (nI i)), (3, .ref out), (2, .ref o), (1, .ref t), (0, .ref b)]) (kx : ∀ (H : Heap) (locs : List Loc) (ls : Array Slot), LI dC dI ky A t o out H → va_S A s.heap H locs → lv_has ls 7 [(4, .int (nI i)), (3, .ref out), (2, .ref o), (1, .ref t), (0, .ref b)] → W p l e room_1 s m args below meth c H locs (cells + 1) (slots + 6) Q (F0 m 1378 ls [])) : W p l e room_1 s m args below meth c H locs cells slots Q (F0 m 763 ls []) := by
  obtain ⟨tl, z0, z1, kz, w, wm, fo, hCI, hMI, hP, hD⟩ := hLI
  have hcs : cells + 0 ≤ room_1.cells ∧ slots + 0 ≤ room_1.slots := ⟨by omega, by omega⟩
  refine lv_aload_n hx hb dL_law_763 rfl (lv_at hl 3 rfl) ?_
  refine ci_skin (rest := []) hx hb hml hown hts hK hA hcs hl (Nat.le_of_ble_eq_true rfl)  hCI hP hD hS (fun r tl9 y0 y1 w9 H locs hf hCI hP hD hS => ?_)
  refine lv_pop hx hb dL_law_767 rfl ?_
  have hP := hP.perm (pm_sw wm [(out, .inl (ky 1, 1, .inr (.inl fo)))] w9)
  have hD := hD.perm (pm_sw wm [(out, .inl (ky 1, 1, .inr (.inl fo)))] w9)
  refine lv_aload_n hx hb dL_law_768 rfl (lv_at hl 2 rfl) ?_
  refine mi_skin (rest := []) hx hb hml hown hts hK hA hcs hl (Nat.le_of_ble_eq_true rfl)  hMI hP hD hS (fun r2 tm9 kz9 wm9 H locs hf2 hMI hP hD hS => ?_)
  have hP := hP.perm (pm_sw w9 [(out, .inl (ky 1, 1, .inr (.inl fo)))] wm9)
  have hD := hD.perm (pm_sw w9 [(out, .inl (ky 1, 1, .inr (.inl fo)))] wm9)
  refine lv_pop hx hb dL_law_772 rfl ?_
  subst hf hf2
  refine lv_goto (tgt := 1378) hx hb dL_law_773 (by decide) ?_
  refine W.widen (k := cells + 1) (n := slots + 6) (by omega) (by omega) ?_
  exact kx H locs ls ⟨_, y0, y1, kz9, w9, wm9, fo, hCI, hMI, hP, hD⟩ hS hl
set_option maxHeartbeats 4000000 in
set_option maxRecDepth 100000 in
theorem lc_way {p : Program} {l : Launch} {e : Env} {s : State} {m : MethodId} {args : Array Value} {below : List Frame} {meth : Method} {c : Code} {Q : State → Prop} {dC : Nat → ClassId} {dI : Nat → Nat → Nat} {ky : Nat → ClassId} {A : Nat → Prop} {cells slots : Nat} {H : Heap} {locs : List Loc} {ls : Array Slot} {adK adV : Nat → Nat} {b L : Nat} {xs : Nat → Int32} {t o out : Nat} (hx : p.tables.exec = Jvm.exec) (hb : c.code = cL_law) (hml : c.maxLocals = 7) (hown : s.vm.findClass RL = some m.cls) (hts : ∀ w ∈ lw_tbl, w.before args s = true) (hK : Kk dC dI ky s) (hA : ∀ q, s.heap.size ≤ q → A q) (hE : SEnv adK adV A s s.heap) (hst : l.stackTraces = false) (hTh : ThE s s.heap) (hAn : ∀ a, a < s.heap.size → ¬ A a) (hX : va_X b L xs s s.heap) (hbl : b < s.heap.size) (hbA : ¬ A b) (hL : L ≤ 3072) (hcap : cells + 1 ≤ room_1.cells ∧ slots + 6 ≤ room_1.slots) {i : Nat} (hi : i + 6 ≤ L) (hLI : LI dC dI ky A t o out H) (hS : va_S A s.heap H locs) (hl : lv_has ls 7 [(4, .int (nI i)), (3, .ref out), (2, .ref o), (1, .ref t), (0, .ref b)]) (kx : ∀ (H : Heap) (locs : List Loc) (ls : Array Slot), LI dC dI ky A t o out H → va_S A s.heap H locs → lv_has ls 7 [(4, .int (nI i)), (3, .ref out), (2, .ref o), (1, .ref t), (0, .ref b)] → W p l e room_1 s m args below meth c H locs (cells + 1) (slots + 6) Q (F0 m 1378 ls [])) : W p l e room_1 s m args below meth c H locs cells slots Q (F0 m 776 ls []) := by
  obtain ⟨tl, z0, z1, kz, w, wm, fo, hCI, hMI, hP, hD⟩ := hLI
  have hcs : cells + 0 ≤ room_1.cells ∧ slots + 0 ≤ room_1.slots := ⟨by omega, by omega⟩
  refine lv_aload_n hx hb dL_law_776 rfl (lv_at hl 3 rfl) ?_
  refine lv_aload_n hx hb dL_law_777 rfl (lv_at hl 4 rfl) ?_
  refine lv_iload hx hb dL_law_778 (lv_at hl 0 rfl) ?_
  refine lv_iconst (v := nI 1) hx hb dL_law_780 (by decide) ?_
  refine lv_iadd hx hb dL_law_781 ?_
  refine r_ti (nI (i + 1)) (nI_add _ _) ?_
  refine r_sld hx hb hX hbl hbA hS (i + 1) (by omega) (by omega) (xs (i + 1)) rfl dL_law_782 ?_
  refine lv_aload_n hx hb dL_law_783 rfl (lv_at hl 4 rfl) ?_
  refine lv_iload hx hb dL_law_784 (lv_at hl 0 rfl) ?_
  refine lv_iconst (v := nI 2) hx hb dL_law_786 (by decide) ?_
  refine lv_iadd hx hb dL_law_787 ?_
  refine r_ti (nI (i + 2)) (nI_add _ _) ?_
  refine r_sld hx hb hX hbl hbA hS (i + 2) (by omega) (by omega) (xs (i + 2)) rfl dL_law_788 ?_
  refine ci_way (rest := []) hx hb hml hown hts hK hA hcs hl (Nat.le_of_ble_eq_true rfl) (xs (i + 1)) (xs (i + 2)) hCI hP hD hS (fun r tl9 y0 y1 w9 H locs hf hCI hP hD hS => ?_)
  refine lv_pop hx hb dL_law_792 rfl ?_
  have hP := hP.perm (pm_sw wm [(out, .inl (ky 1, 1, .inr (.inl fo)))] w9)
  have hD := hD.perm (pm_sw wm [(out, .inl (ky 1, 1, .inr (.inl fo)))] w9)
  refine lv_aload_n hx hb dL_law_793 rfl (lv_at hl 2 rfl) ?_
  refine lv_aload_n hx hb dL_law_794 rfl (lv_at hl 4 rfl) ?_
  refine lv_iload hx hb dL_law_795 (lv_at hl 0 rfl) ?_
  refine lv_iconst (v := nI 1) hx hb dL_law_797 (by decide) ?_
  refine lv_iadd hx hb dL_law_798 ?_
  refine r_ti (nI (i + 1)) (nI_add _ _) ?_
  refine r_sld hx hb hX hbl hbA hS (i + 1) (by omega) (by omega) (xs (i + 1)) rfl dL_law_799 ?_
  refine lv_aload_n hx hb dL_law_800 rfl (lv_at hl 4 rfl) ?_
  refine lv_iload hx hb dL_law_801 (lv_at hl 0 rfl) ?_
  refine lv_iconst (v := nI 2) hx hb dL_law_803 (by decide) ?_
  refine lv_iadd hx hb dL_law_804 ?_
  refine r_ti (nI (i + 2)) (nI_add _ _) ?_
  refine r_sld hx hb hX hbl hbA hS (i + 2) (by omega) (by omega) (xs (i + 2)) rfl dL_law_805 ?_
  refine mi_way (rest := []) hx hb hml hown hts hK hA hcs hl (Nat.le_of_ble_eq_true rfl) (xs (i + 1)) (xs (i + 2)) hMI hP hD hS (fun r2 tm9 kz9 wm9 H locs hf2 hMI hP hD hS => ?_)
  have hP := hP.perm (pm_sw w9 [(out, .inl (ky 1, 1, .inr (.inl fo)))] wm9)
  have hD := hD.perm (pm_sw w9 [(out, .inl (ky 1, 1, .inr (.inl fo)))] wm9)
  refine lv_pop hx hb dL_law_809 rfl ?_
  subst hf hf2
  refine lv_goto (tgt := 1378) hx hb dL_law_810 (by decide) ?_
  refine W.widen (k := cells + 1) (n := slots + 6) (by omega) (by omega) ?_
  exact kx H locs ls ⟨_, y0, y1, kz9, w9, wm9, fo, hCI, hMI, hP, hD⟩ hS hl
set_option maxHeartbeats 4000000 in
set_option maxRecDepth 100000 in
theorem lc_wayAt {p : Program} {l : Launch} {e : Env} {s : State} {m : MethodId} {args : Array Value} {below : List Frame} {meth : Method} {c : Code} {Q : State → Prop} {dC : Nat → ClassId} {dI : Nat → Nat → Nat} {ky : Nat → ClassId} {A : Nat → Prop} {cells slots : Nat} {H : Heap} {locs : List Loc} {ls : Array Slot} {adK adV : Nat → Nat} {b L : Nat} {xs : Nat → Int32} {t o out : Nat} (hx : p.tables.exec = Jvm.exec) (hb : c.code = cL_law) (hml : c.maxLocals = 7) (hown : s.vm.findClass RL = some m.cls) (hts : ∀ w ∈ lw_tbl, w.before args s = true) (hK : Kk dC dI ky s) (hA : ∀ q, s.heap.size ≤ q → A q) (hE : SEnv adK adV A s s.heap) (hst : l.stackTraces = false) (hTh : ThE s s.heap) (hAn : ∀ a, a < s.heap.size → ¬ A a) (hX : va_X b L xs s s.heap) (hbl : b < s.heap.size) (hbA : ¬ A b) (hL : L ≤ 3072) (hcap : cells + 1 ≤ room_1.cells ∧ slots + 6 ≤ room_1.slots) {i : Nat} (hi : i + 6 ≤ L) (hLI : LI dC dI ky A t o out H) (hS : va_S A s.heap H locs) (hl : lv_has ls 7 [(4, .int (nI i)), (3, .ref out), (2, .ref o), (1, .ref t), (0, .ref b)]) (kx : ∀ (H : Heap) (locs : List Loc) (ls : Array Slot), LI dC dI ky A t o out H → va_S A s.heap H locs → lv_has ls 7 [(4, .int (nI i)), (3, .ref out), (2, .ref o), (1, .ref t), (0, .ref b)] → W p l e room_1 s m args below meth c H locs (cells + 1) (slots + 6) Q (F0 m 1378 ls [])) : W p l e room_1 s m args below meth c H locs cells slots Q (F0 m 813 ls []) := by
  obtain ⟨tl, z0, z1, kz, w, wm, fo, hCI, hMI, hP, hD⟩ := hLI
  have hcs : cells + 0 ≤ room_1.cells ∧ slots + 0 ≤ room_1.slots := ⟨by omega, by omega⟩
  refine lv_aload_n hx hb dL_law_813 rfl (lv_at hl 3 rfl) ?_
  refine lv_aload_n hx hb dL_law_814 rfl (lv_at hl 4 rfl) ?_
  refine lv_iload hx hb dL_law_815 (lv_at hl 0 rfl) ?_
  refine lv_iconst (v := nI 1) hx hb dL_law_817 (by decide) ?_
  refine lv_iadd hx hb dL_law_818 ?_
  refine r_ti (nI (i + 1)) (nI_add _ _) ?_
  refine r_sld hx hb hX hbl hbA hS (i + 1) (by omega) (by omega) (xs (i + 1)) rfl dL_law_819 ?_
  refine ci_wayAt (rest := []) hx hb hml hown hts hK hA hcs hl (Nat.le_of_ble_eq_true rfl) (xs (i + 1)) hCI hP hD hS (fun r tl9 y0 y1 w9 H locs hf hCI hP hD hS => ?_)
  refine lv_pop hx hb dL_law_823 rfl ?_
  have hP := hP.perm (pm_sw wm [(out, .inl (ky 1, 1, .inr (.inl fo)))] w9)
  have hD := hD.perm (pm_sw wm [(out, .inl (ky 1, 1, .inr (.inl fo)))] w9)
  refine lv_aload_n hx hb dL_law_824 rfl (lv_at hl 2 rfl) ?_
  refine lv_aload_n hx hb dL_law_825 rfl (lv_at hl 4 rfl) ?_
  refine lv_iload hx hb dL_law_826 (lv_at hl 0 rfl) ?_
  refine lv_iconst (v := nI 1) hx hb dL_law_828 (by decide) ?_
  refine lv_iadd hx hb dL_law_829 ?_
  refine r_ti (nI (i + 1)) (nI_add _ _) ?_
  refine r_sld hx hb hX hbl hbA hS (i + 1) (by omega) (by omega) (xs (i + 1)) rfl dL_law_830 ?_
  refine mi_wayAt (rest := []) hx hb hml hown hts hK hA hcs hl (Nat.le_of_ble_eq_true rfl) (xs (i + 1)) hMI hP hD hS (fun r2 tm9 kz9 wm9 H locs hf2 hMI hP hD hS => ?_)
  have hP := hP.perm (pm_sw w9 [(out, .inl (ky 1, 1, .inr (.inl fo)))] wm9)
  have hD := hD.perm (pm_sw w9 [(out, .inl (ky 1, 1, .inr (.inl fo)))] wm9)
  refine lv_pop hx hb dL_law_834 rfl ?_
  subst hf hf2
  refine lv_goto (tgt := 1378) hx hb dL_law_835 (by decide) ?_
  refine W.widen (k := cells + 1) (n := slots + 6) (by omega) (by omega) ?_
  exact kx H locs ls ⟨_, y0, y1, kz9, w9, wm9, fo, hCI, hMI, hP, hD⟩ hS hl
set_option maxHeartbeats 4000000 in
set_option maxRecDepth 100000 in
theorem lc_wayDays {p : Program} {l : Launch} {e : Env} {s : State} {m : MethodId} {args : Array Value} {below : List Frame} {meth : Method} {c : Code} {Q : State → Prop} {dC : Nat → ClassId} {dI : Nat → Nat → Nat} {ky : Nat → ClassId} {A : Nat → Prop} {cells slots : Nat} {H : Heap} {locs : List Loc} {ls : Array Slot} {adK adV : Nat → Nat} {b L : Nat} {xs : Nat → Int32} {t o out : Nat} (hx : p.tables.exec = Jvm.exec) (hb : c.code = cL_law) (hml : c.maxLocals = 7) (hown : s.vm.findClass RL = some m.cls) (hts : ∀ w ∈ lw_tbl, w.before args s = true) (hK : Kk dC dI ky s) (hA : ∀ q, s.heap.size ≤ q → A q) (hE : SEnv adK adV A s s.heap) (hst : l.stackTraces = false) (hTh : ThE s s.heap) (hAn : ∀ a, a < s.heap.size → ¬ A a) (hX : va_X b L xs s s.heap) (hbl : b < s.heap.size) (hbA : ¬ A b) (hL : L ≤ 3072) (hcap : cells + 1 ≤ room_1.cells ∧ slots + 6 ≤ room_1.slots) {i : Nat} (hi : i + 6 ≤ L) (hLI : LI dC dI ky A t o out H) (hS : va_S A s.heap H locs) (hl : lv_has ls 7 [(4, .int (nI i)), (3, .ref out), (2, .ref o), (1, .ref t), (0, .ref b)]) (kx : ∀ (H : Heap) (locs : List Loc) (ls : Array Slot), LI dC dI ky A t o out H → va_S A s.heap H locs → lv_has ls 7 [(4, .int (nI i)), (3, .ref out), (2, .ref o), (1, .ref t), (0, .ref b)] → W p l e room_1 s m args below meth c H locs (cells + 1) (slots + 6) Q (F0 m 1378 ls [])) : W p l e room_1 s m args below meth c H locs cells slots Q (F0 m 838 ls []) := by
  obtain ⟨tl, z0, z1, kz, w, wm, fo, hCI, hMI, hP, hD⟩ := hLI
  have hcs : cells + 0 ≤ room_1.cells ∧ slots + 0 ≤ room_1.slots := ⟨by omega, by omega⟩
  refine lv_aload_n hx hb dL_law_838 rfl (lv_at hl 3 rfl) ?_
  refine ci_wayDays (rest := []) hx hb hml hown hts hK hA hcs hl (Nat.le_of_ble_eq_true rfl)  hCI hP hD hS (fun r tl9 y0 y1 w9 H locs hf hCI hP hD hS => ?_)
  refine lv_pop hx hb dL_law_842 rfl ?_
  have hP := hP.perm (pm_sw wm [(out, .inl (ky 1, 1, .inr (.inl fo)))] w9)
  have hD := hD.perm (pm_sw wm [(out, .inl (ky 1, 1, .inr (.inl fo)))] w9)
  refine lv_aload_n hx hb dL_law_843 rfl (lv_at hl 2 rfl) ?_
  refine mi_wayDays (rest := []) hx hb hml hown hts hK hA hcs hl (Nat.le_of_ble_eq_true rfl)  hMI hP hD hS (fun r2 tm9 kz9 wm9 H locs hf2 hMI hP hD hS => ?_)
  have hP := hP.perm (pm_sw w9 [(out, .inl (ky 1, 1, .inr (.inl fo)))] wm9)
  have hD := hD.perm (pm_sw w9 [(out, .inl (ky 1, 1, .inr (.inl fo)))] wm9)
  refine lv_pop hx hb dL_law_847 rfl ?_
  subst hf hf2
  refine lv_goto (tgt := 1378) hx hb dL_law_848 (by decide) ?_
  refine W.widen (k := cells + 1) (n := slots + 6) (by omega) (by omega) ?_
  exact kx H locs ls ⟨_, y0, y1, kz9, w9, wm9, fo, hCI, hMI, hP, hD⟩ hS hl
set_option maxHeartbeats 4000000 in
set_option maxRecDepth 100000 in
theorem lc_meet {p : Program} {l : Launch} {e : Env} {s : State} {m : MethodId} {args : Array Value} {below : List Frame} {meth : Method} {c : Code} {Q : State → Prop} {dC : Nat → ClassId} {dI : Nat → Nat → Nat} {ky : Nat → ClassId} {A : Nat → Prop} {cells slots : Nat} {H : Heap} {locs : List Loc} {ls : Array Slot} {adK adV : Nat → Nat} {b L : Nat} {xs : Nat → Int32} {t o out : Nat} (hx : p.tables.exec = Jvm.exec) (hb : c.code = cL_law) (hml : c.maxLocals = 7) (hown : s.vm.findClass RL = some m.cls) (hts : ∀ w ∈ lw_tbl, w.before args s = true) (hK : Kk dC dI ky s) (hA : ∀ q, s.heap.size ≤ q → A q) (hE : SEnv adK adV A s s.heap) (hst : l.stackTraces = false) (hTh : ThE s s.heap) (hAn : ∀ a, a < s.heap.size → ¬ A a) (hX : va_X b L xs s s.heap) (hbl : b < s.heap.size) (hbA : ¬ A b) (hL : L ≤ 3072) (hcap : cells + 1 ≤ room_1.cells ∧ slots + 6 ≤ room_1.slots) {i : Nat} (hi : i + 6 ≤ L) (hLI : LI dC dI ky A t o out H) (hS : va_S A s.heap H locs) (hl : lv_has ls 7 [(4, .int (nI i)), (3, .ref out), (2, .ref o), (1, .ref t), (0, .ref b)]) (kx : ∀ (H : Heap) (locs : List Loc) (ls : Array Slot), LI dC dI ky A t o out H → va_S A s.heap H locs → lv_has ls 7 [(4, .int (nI i)), (3, .ref out), (2, .ref o), (1, .ref t), (0, .ref b)] → W p l e room_1 s m args below meth c H locs (cells + 1) (slots + 6) Q (F0 m 1378 ls [])) : W p l e room_1 s m args below meth c H locs cells slots Q (F0 m 851 ls []) := by
  obtain ⟨tl, z0, z1, kz, w, wm, fo, hCI, hMI, hP, hD⟩ := hLI
  have hcs : cells + 0 ≤ room_1.cells ∧ slots + 0 ≤ room_1.slots := ⟨by omega, by omega⟩
  refine lv_aload_n hx hb dL_law_851 rfl (lv_at hl 3 rfl) ?_
  refine lv_aload_n hx hb dL_law_852 rfl (lv_at hl 4 rfl) ?_
  refine lv_iload hx hb dL_law_853 (lv_at hl 0 rfl) ?_
  refine lv_iconst (v := nI 1) hx hb dL_law_855 (by decide) ?_
  refine lv_iadd hx hb dL_law_856 ?_
  refine r_ti (nI (i + 1)) (nI_add _ _) ?_
  refine r_sld hx hb hX hbl hbA hS (i + 1) (by omega) (by omega) (xs (i + 1)) rfl dL_law_857 ?_
  refine lv_aload_n hx hb dL_law_858 rfl (lv_at hl 4 rfl) ?_
  refine lv_iload hx hb dL_law_859 (lv_at hl 0 rfl) ?_
  refine lv_iconst (v := nI 2) hx hb dL_law_861 (by decide) ?_
  refine lv_iadd hx hb dL_law_862 ?_
  refine r_ti (nI (i + 2)) (nI_add _ _) ?_
  refine r_sld hx hb hX hbl hbA hS (i + 2) (by omega) (by omega) (xs (i + 2)) rfl dL_law_863 ?_
  refine ci_meet (rest := []) hx hb hml hown hts hK hA hcs hl (Nat.le_of_ble_eq_true rfl) (xs (i + 1)) (xs (i + 2)) hCI hP hD hS (fun r tl9 y0 y1 w9 H locs hf hCI hP hD hS => ?_)
  refine lv_pop hx hb dL_law_867 rfl ?_
  have hP := hP.perm (pm_sw wm [(out, .inl (ky 1, 1, .inr (.inl fo)))] w9)
  have hD := hD.perm (pm_sw wm [(out, .inl (ky 1, 1, .inr (.inl fo)))] w9)
  refine lv_aload_n hx hb dL_law_868 rfl (lv_at hl 2 rfl) ?_
  refine lv_aload_n hx hb dL_law_869 rfl (lv_at hl 4 rfl) ?_
  refine lv_iload hx hb dL_law_870 (lv_at hl 0 rfl) ?_
  refine lv_iconst (v := nI 1) hx hb dL_law_872 (by decide) ?_
  refine lv_iadd hx hb dL_law_873 ?_
  refine r_ti (nI (i + 1)) (nI_add _ _) ?_
  refine r_sld hx hb hX hbl hbA hS (i + 1) (by omega) (by omega) (xs (i + 1)) rfl dL_law_874 ?_
  refine lv_aload_n hx hb dL_law_875 rfl (lv_at hl 4 rfl) ?_
  refine lv_iload hx hb dL_law_876 (lv_at hl 0 rfl) ?_
  refine lv_iconst (v := nI 2) hx hb dL_law_878 (by decide) ?_
  refine lv_iadd hx hb dL_law_879 ?_
  refine r_ti (nI (i + 2)) (nI_add _ _) ?_
  refine r_sld hx hb hX hbl hbA hS (i + 2) (by omega) (by omega) (xs (i + 2)) rfl dL_law_880 ?_
  refine mi_meet (rest := []) hx hb hml hown hts hK hA hcs hl (Nat.le_of_ble_eq_true rfl) (xs (i + 1)) (xs (i + 2)) hMI hP hD hS (fun r2 tm9 kz9 wm9 H locs hf2 hMI hP hD hS => ?_)
  have hP := hP.perm (pm_sw w9 [(out, .inl (ky 1, 1, .inr (.inl fo)))] wm9)
  have hD := hD.perm (pm_sw w9 [(out, .inl (ky 1, 1, .inr (.inl fo)))] wm9)
  refine lv_pop hx hb dL_law_884 rfl ?_
  subst hf hf2
  refine lv_goto (tgt := 1378) hx hb dL_law_885 (by decide) ?_
  refine W.widen (k := cells + 1) (n := slots + 6) (by omega) (by omega) ?_
  exact kx H locs ls ⟨_, y0, y1, kz9, w9, wm9, fo, hCI, hMI, hP, hD⟩ hS hl
set_option maxHeartbeats 4000000 in
set_option maxRecDepth 100000 in
theorem lc_meetAt {p : Program} {l : Launch} {e : Env} {s : State} {m : MethodId} {args : Array Value} {below : List Frame} {meth : Method} {c : Code} {Q : State → Prop} {dC : Nat → ClassId} {dI : Nat → Nat → Nat} {ky : Nat → ClassId} {A : Nat → Prop} {cells slots : Nat} {H : Heap} {locs : List Loc} {ls : Array Slot} {adK adV : Nat → Nat} {b L : Nat} {xs : Nat → Int32} {t o out : Nat} (hx : p.tables.exec = Jvm.exec) (hb : c.code = cL_law) (hml : c.maxLocals = 7) (hown : s.vm.findClass RL = some m.cls) (hts : ∀ w ∈ lw_tbl, w.before args s = true) (hK : Kk dC dI ky s) (hA : ∀ q, s.heap.size ≤ q → A q) (hE : SEnv adK adV A s s.heap) (hst : l.stackTraces = false) (hTh : ThE s s.heap) (hAn : ∀ a, a < s.heap.size → ¬ A a) (hX : va_X b L xs s s.heap) (hbl : b < s.heap.size) (hbA : ¬ A b) (hL : L ≤ 3072) (hcap : cells + 1 ≤ room_1.cells ∧ slots + 6 ≤ room_1.slots) {i : Nat} (hi : i + 6 ≤ L) (hLI : LI dC dI ky A t o out H) (hS : va_S A s.heap H locs) (hl : lv_has ls 7 [(4, .int (nI i)), (3, .ref out), (2, .ref o), (1, .ref t), (0, .ref b)]) (kx : ∀ (H : Heap) (locs : List Loc) (ls : Array Slot), LI dC dI ky A t o out H → va_S A s.heap H locs → lv_has ls 7 [(4, .int (nI i)), (3, .ref out), (2, .ref o), (1, .ref t), (0, .ref b)] → W p l e room_1 s m args below meth c H locs (cells + 1) (slots + 6) Q (F0 m 1378 ls [])) : W p l e room_1 s m args below meth c H locs cells slots Q (F0 m 888 ls []) := by
  obtain ⟨tl, z0, z1, kz, w, wm, fo, hCI, hMI, hP, hD⟩ := hLI
  have hcs : cells + 0 ≤ room_1.cells ∧ slots + 0 ≤ room_1.slots := ⟨by omega, by omega⟩
  refine lv_aload_n hx hb dL_law_888 rfl (lv_at hl 3 rfl) ?_
  refine lv_aload_n hx hb dL_law_889 rfl (lv_at hl 4 rfl) ?_
  refine lv_iload hx hb dL_law_890 (lv_at hl 0 rfl) ?_
  refine lv_iconst (v := nI 1) hx hb dL_law_892 (by decide) ?_
  refine lv_iadd hx hb dL_law_893 ?_
  refine r_ti (nI (i + 1)) (nI_add _ _) ?_
  refine r_sld hx hb hX hbl hbA hS (i + 1) (by omega) (by omega) (xs (i + 1)) rfl dL_law_894 ?_
  refine lv_aload_n hx hb dL_law_895 rfl (lv_at hl 4 rfl) ?_
  refine lv_iload hx hb dL_law_896 (lv_at hl 0 rfl) ?_
  refine lv_iconst (v := nI 2) hx hb dL_law_898 (by decide) ?_
  refine lv_iadd hx hb dL_law_899 ?_
  refine r_ti (nI (i + 2)) (nI_add _ _) ?_
  refine r_sld hx hb hX hbl hbA hS (i + 2) (by omega) (by omega) (xs (i + 2)) rfl dL_law_900 ?_
  refine ci_meetAt (rest := []) hx hb hml hown hts hK hA hcs hl (Nat.le_of_ble_eq_true rfl) (xs (i + 1)) (xs (i + 2)) hCI hP hD hS (fun r tl9 y0 y1 w9 H locs hf hCI hP hD hS => ?_)
  refine lv_pop hx hb dL_law_904 rfl ?_
  have hP := hP.perm (pm_sw wm [(out, .inl (ky 1, 1, .inr (.inl fo)))] w9)
  have hD := hD.perm (pm_sw wm [(out, .inl (ky 1, 1, .inr (.inl fo)))] w9)
  refine lv_aload_n hx hb dL_law_905 rfl (lv_at hl 2 rfl) ?_
  refine lv_aload_n hx hb dL_law_906 rfl (lv_at hl 4 rfl) ?_
  refine lv_iload hx hb dL_law_907 (lv_at hl 0 rfl) ?_
  refine lv_iconst (v := nI 1) hx hb dL_law_909 (by decide) ?_
  refine lv_iadd hx hb dL_law_910 ?_
  refine r_ti (nI (i + 1)) (nI_add _ _) ?_
  refine r_sld hx hb hX hbl hbA hS (i + 1) (by omega) (by omega) (xs (i + 1)) rfl dL_law_911 ?_
  refine lv_aload_n hx hb dL_law_912 rfl (lv_at hl 4 rfl) ?_
  refine lv_iload hx hb dL_law_913 (lv_at hl 0 rfl) ?_
  refine lv_iconst (v := nI 2) hx hb dL_law_915 (by decide) ?_
  refine lv_iadd hx hb dL_law_916 ?_
  refine r_ti (nI (i + 2)) (nI_add _ _) ?_
  refine r_sld hx hb hX hbl hbA hS (i + 2) (by omega) (by omega) (xs (i + 2)) rfl dL_law_917 ?_
  refine mi_meetAt (rest := []) hx hb hml hown hts hK hA hcs hl (Nat.le_of_ble_eq_true rfl) (xs (i + 1)) (xs (i + 2)) hMI hP hD hS (fun r2 tm9 kz9 wm9 H locs hf2 hMI hP hD hS => ?_)
  have hP := hP.perm (pm_sw w9 [(out, .inl (ky 1, 1, .inr (.inl fo)))] wm9)
  have hD := hD.perm (pm_sw w9 [(out, .inl (ky 1, 1, .inr (.inl fo)))] wm9)
  refine lv_pop hx hb dL_law_921 rfl ?_
  subst hf hf2
  refine lv_goto (tgt := 1378) hx hb dL_law_922 (by decide) ?_
  refine W.widen (k := cells + 1) (n := slots + 6) (by omega) (by omega) ?_
  exact kx H locs ls ⟨_, y0, y1, kz9, w9, wm9, fo, hCI, hMI, hP, hD⟩ hS hl
set_option maxHeartbeats 4000000 in
set_option maxRecDepth 100000 in
theorem lc_sunk {p : Program} {l : Launch} {e : Env} {s : State} {m : MethodId} {args : Array Value} {below : List Frame} {meth : Method} {c : Code} {Q : State → Prop} {dC : Nat → ClassId} {dI : Nat → Nat → Nat} {ky : Nat → ClassId} {A : Nat → Prop} {cells slots : Nat} {H : Heap} {locs : List Loc} {ls : Array Slot} {adK adV : Nat → Nat} {b L : Nat} {xs : Nat → Int32} {t o out : Nat} (hx : p.tables.exec = Jvm.exec) (hb : c.code = cL_law) (hml : c.maxLocals = 7) (hown : s.vm.findClass RL = some m.cls) (hts : ∀ w ∈ lw_tbl, w.before args s = true) (hK : Kk dC dI ky s) (hA : ∀ q, s.heap.size ≤ q → A q) (hE : SEnv adK adV A s s.heap) (hst : l.stackTraces = false) (hTh : ThE s s.heap) (hAn : ∀ a, a < s.heap.size → ¬ A a) (hX : va_X b L xs s s.heap) (hbl : b < s.heap.size) (hbA : ¬ A b) (hL : L ≤ 3072) (hcap : cells + 1 ≤ room_1.cells ∧ slots + 6 ≤ room_1.slots) {i : Nat} (hi : i + 6 ≤ L) (hLI : LI dC dI ky A t o out H) (hS : va_S A s.heap H locs) (hl : lv_has ls 7 [(4, .int (nI i)), (3, .ref out), (2, .ref o), (1, .ref t), (0, .ref b)]) (kx : ∀ (H : Heap) (locs : List Loc) (ls : Array Slot), LI dC dI ky A t o out H → va_S A s.heap H locs → lv_has ls 7 [(4, .int (nI i)), (3, .ref out), (2, .ref o), (1, .ref t), (0, .ref b)] → W p l e room_1 s m args below meth c H locs (cells + 1) (slots + 6) Q (F0 m 1378 ls [])) : W p l e room_1 s m args below meth c H locs cells slots Q (F0 m 925 ls []) := by
  obtain ⟨tl, z0, z1, kz, w, wm, fo, hCI, hMI, hP, hD⟩ := hLI
  have hcs : cells + 0 ≤ room_1.cells ∧ slots + 0 ≤ room_1.slots := ⟨by omega, by omega⟩
  refine lv_aload_n hx hb dL_law_925 rfl (lv_at hl 3 rfl) ?_
  refine ci_sunk (rest := []) hx hb hml hown hts hK hA hcs hl (Nat.le_of_ble_eq_true rfl)  hCI hP hD hS (fun r tl9 y0 y1 w9 H locs hf hCI hP hD hS => ?_)
  refine lv_pop hx hb dL_law_929 rfl ?_
  have hP := hP.perm (pm_sw wm [(out, .inl (ky 1, 1, .inr (.inl fo)))] w9)
  have hD := hD.perm (pm_sw wm [(out, .inl (ky 1, 1, .inr (.inl fo)))] w9)
  refine lv_aload_n hx hb dL_law_930 rfl (lv_at hl 2 rfl) ?_
  refine mi_sunk (rest := []) hx hb hml hown hts hK hA hcs hl (Nat.le_of_ble_eq_true rfl)  hMI hP hD hS (fun r2 tm9 kz9 wm9 H locs hf2 hMI hP hD hS => ?_)
  have hP := hP.perm (pm_sw w9 [(out, .inl (ky 1, 1, .inr (.inl fo)))] wm9)
  have hD := hD.perm (pm_sw w9 [(out, .inl (ky 1, 1, .inr (.inl fo)))] wm9)
  refine lv_pop hx hb dL_law_934 rfl ?_
  obtain rfl : tm9 = tl9 := by
    omega
  refine lv_goto (tgt := 1378) hx hb dL_law_935 (by decide) ?_
  refine W.widen (k := cells + 1) (n := slots + 6) (by omega) (by omega) ?_
  exact kx H locs ls ⟨_, y0, y1, kz9, w9, wm9, fo, hCI, hMI, hP, hD⟩ hS hl
set_option maxHeartbeats 4000000 in
set_option maxRecDepth 100000 in
theorem lc_sunkAt {p : Program} {l : Launch} {e : Env} {s : State} {m : MethodId} {args : Array Value} {below : List Frame} {meth : Method} {c : Code} {Q : State → Prop} {dC : Nat → ClassId} {dI : Nat → Nat → Nat} {ky : Nat → ClassId} {A : Nat → Prop} {cells slots : Nat} {H : Heap} {locs : List Loc} {ls : Array Slot} {adK adV : Nat → Nat} {b L : Nat} {xs : Nat → Int32} {t o out : Nat} (hx : p.tables.exec = Jvm.exec) (hb : c.code = cL_law) (hml : c.maxLocals = 7) (hown : s.vm.findClass RL = some m.cls) (hts : ∀ w ∈ lw_tbl, w.before args s = true) (hK : Kk dC dI ky s) (hA : ∀ q, s.heap.size ≤ q → A q) (hE : SEnv adK adV A s s.heap) (hst : l.stackTraces = false) (hTh : ThE s s.heap) (hAn : ∀ a, a < s.heap.size → ¬ A a) (hX : va_X b L xs s s.heap) (hbl : b < s.heap.size) (hbA : ¬ A b) (hL : L ≤ 3072) (hcap : cells + 1 ≤ room_1.cells ∧ slots + 6 ≤ room_1.slots) {i : Nat} (hi : i + 6 ≤ L) (hLI : LI dC dI ky A t o out H) (hS : va_S A s.heap H locs) (hl : lv_has ls 7 [(4, .int (nI i)), (3, .ref out), (2, .ref o), (1, .ref t), (0, .ref b)]) (kx : ∀ (H : Heap) (locs : List Loc) (ls : Array Slot), LI dC dI ky A t o out H → va_S A s.heap H locs → lv_has ls 7 [(4, .int (nI i)), (3, .ref out), (2, .ref o), (1, .ref t), (0, .ref b)] → W p l e room_1 s m args below meth c H locs (cells + 1) (slots + 6) Q (F0 m 1378 ls [])) : W p l e room_1 s m args below meth c H locs cells slots Q (F0 m 938 ls []) := by
  obtain ⟨tl, z0, z1, kz, w, wm, fo, hCI, hMI, hP, hD⟩ := hLI
  have hcs : cells + 0 ≤ room_1.cells ∧ slots + 0 ≤ room_1.slots := ⟨by omega, by omega⟩
  refine lv_aload_n hx hb dL_law_938 rfl (lv_at hl 3 rfl) ?_
  refine lv_aload_n hx hb dL_law_939 rfl (lv_at hl 4 rfl) ?_
  refine lv_iload hx hb dL_law_940 (lv_at hl 0 rfl) ?_
  refine lv_iconst (v := nI 1) hx hb dL_law_942 (by decide) ?_
  refine lv_iadd hx hb dL_law_943 ?_
  refine r_ti (nI (i + 1)) (nI_add _ _) ?_
  refine r_sld hx hb hX hbl hbA hS (i + 1) (by omega) (by omega) (xs (i + 1)) rfl dL_law_944 ?_
  refine ci_sunkAt (rest := []) hx hb hml hown hts hK hA hcs hl (Nat.le_of_ble_eq_true rfl) (xs (i + 1)) hCI hP hD hS (fun r tl9 y0 y1 w9 H locs hf hCI hP hD hS => ?_)
  refine lv_pop hx hb dL_law_948 rfl ?_
  have hP := hP.perm (pm_sw wm [(out, .inl (ky 1, 1, .inr (.inl fo)))] w9)
  have hD := hD.perm (pm_sw wm [(out, .inl (ky 1, 1, .inr (.inl fo)))] w9)
  refine lv_aload_n hx hb dL_law_949 rfl (lv_at hl 2 rfl) ?_
  refine lv_aload_n hx hb dL_law_950 rfl (lv_at hl 4 rfl) ?_
  refine lv_iload hx hb dL_law_951 (lv_at hl 0 rfl) ?_
  refine lv_iconst (v := nI 1) hx hb dL_law_953 (by decide) ?_
  refine lv_iadd hx hb dL_law_954 ?_
  refine r_ti (nI (i + 1)) (nI_add _ _) ?_
  refine r_sld hx hb hX hbl hbA hS (i + 1) (by omega) (by omega) (xs (i + 1)) rfl dL_law_955 ?_
  refine mi_sunkAt (rest := []) hx hb hml hown hts hK hA hcs hl (Nat.le_of_ble_eq_true rfl) (xs (i + 1)) hMI hP hD hS (fun r2 tm9 kz9 wm9 H locs hf2 hMI hP hD hS => ?_)
  have hP := hP.perm (pm_sw w9 [(out, .inl (ky 1, 1, .inr (.inl fo)))] wm9)
  have hD := hD.perm (pm_sw w9 [(out, .inl (ky 1, 1, .inr (.inl fo)))] wm9)
  refine lv_pop hx hb dL_law_959 rfl ?_
  subst hf hf2
  refine lv_goto (tgt := 1378) hx hb dL_law_960 (by decide) ?_
  refine W.widen (k := cells + 1) (n := slots + 6) (by omega) (by omega) ?_
  exact kx H locs ls ⟨_, y0, y1, kz9, w9, wm9, fo, hCI, hMI, hP, hD⟩ hS hl
set_option maxHeartbeats 4000000 in
set_option maxRecDepth 100000 in
theorem lc_send {p : Program} {l : Launch} {e : Env} {s : State} {m : MethodId} {args : Array Value} {below : List Frame} {meth : Method} {c : Code} {Q : State → Prop} {dC : Nat → ClassId} {dI : Nat → Nat → Nat} {ky : Nat → ClassId} {A : Nat → Prop} {cells slots : Nat} {H : Heap} {locs : List Loc} {ls : Array Slot} {adK adV : Nat → Nat} {b L : Nat} {xs : Nat → Int32} {t o out : Nat} (hx : p.tables.exec = Jvm.exec) (hb : c.code = cL_law) (hml : c.maxLocals = 7) (hown : s.vm.findClass RL = some m.cls) (hts : ∀ w ∈ lw_tbl, w.before args s = true) (hK : Kk dC dI ky s) (hA : ∀ q, s.heap.size ≤ q → A q) (hE : SEnv adK adV A s s.heap) (hst : l.stackTraces = false) (hTh : ThE s s.heap) (hAn : ∀ a, a < s.heap.size → ¬ A a) (hX : va_X b L xs s s.heap) (hbl : b < s.heap.size) (hbA : ¬ A b) (hL : L ≤ 3072) (hcap : cells + 1 ≤ room_1.cells ∧ slots + 6 ≤ room_1.slots) {i : Nat} (hi : i + 6 ≤ L) (hLI : LI dC dI ky A t o out H) (hS : va_S A s.heap H locs) (hl : lv_has ls 7 [(4, .int (nI i)), (3, .ref out), (2, .ref o), (1, .ref t), (0, .ref b)]) (kx : ∀ (H : Heap) (locs : List Loc) (ls : Array Slot), LI dC dI ky A t o out H → va_S A s.heap H locs → lv_has ls 7 [(4, .int (nI i)), (3, .ref out), (2, .ref o), (1, .ref t), (0, .ref b)] → W p l e room_1 s m args below meth c H locs (cells + 1) (slots + 6) Q (F0 m 1378 ls [])) : W p l e room_1 s m args below meth c H locs cells slots Q (F0 m 963 ls []) := by
  obtain ⟨tl, z0, z1, kz, w, wm, fo, hCI, hMI, hP, hD⟩ := hLI
  have hcs : cells + 0 ≤ room_1.cells ∧ slots + 0 ≤ room_1.slots := ⟨by omega, by omega⟩
  refine lv_aload_n hx hb dL_law_963 rfl (lv_at hl 3 rfl) ?_
  refine ci_send (rest := []) hx hb hml hown hts hK hA hcs hl (Nat.le_of_ble_eq_true rfl)  hCI hP hD hS (fun r tl9 y0 y1 w9 H locs hf hCI hP hD hS => ?_)
  refine lv_pop hx hb dL_law_967 rfl ?_
  have hP := hP.perm (pm_sw wm [(out, .inl (ky 1, 1, .inr (.inl fo)))] w9)
  have hD := hD.perm (pm_sw wm [(out, .inl (ky 1, 1, .inr (.inl fo)))] w9)
  refine lv_aload_n hx hb dL_law_968 rfl (lv_at hl 2 rfl) ?_
  refine mi_send (rest := []) hx hb hml hown hts hK hA hcs hl (Nat.le_of_ble_eq_true rfl)  hMI hP hD hS (fun r2 tm9 kz9 wm9 H locs hf2 hMI hP hD hS => ?_)
  have hP := hP.perm (pm_sw w9 [(out, .inl (ky 1, 1, .inr (.inl fo)))] wm9)
  have hD := hD.perm (pm_sw w9 [(out, .inl (ky 1, 1, .inr (.inl fo)))] wm9)
  refine lv_pop hx hb dL_law_972 rfl ?_
  subst hf hf2
  refine lv_goto (tgt := 1378) hx hb dL_law_973 (by decide) ?_
  refine W.widen (k := cells + 1) (n := slots + 6) (by omega) (by omega) ?_
  exact kx H locs ls ⟨_, y0, y1, kz9, w9, wm9, fo, hCI, hMI, hP, hD⟩ hS hl
set_option maxHeartbeats 4000000 in
set_option maxRecDepth 100000 in
theorem lc_land {p : Program} {l : Launch} {e : Env} {s : State} {m : MethodId} {args : Array Value} {below : List Frame} {meth : Method} {c : Code} {Q : State → Prop} {dC : Nat → ClassId} {dI : Nat → Nat → Nat} {ky : Nat → ClassId} {A : Nat → Prop} {cells slots : Nat} {H : Heap} {locs : List Loc} {ls : Array Slot} {adK adV : Nat → Nat} {b L : Nat} {xs : Nat → Int32} {t o out : Nat} (hx : p.tables.exec = Jvm.exec) (hb : c.code = cL_law) (hml : c.maxLocals = 7) (hown : s.vm.findClass RL = some m.cls) (hts : ∀ w ∈ lw_tbl, w.before args s = true) (hK : Kk dC dI ky s) (hA : ∀ q, s.heap.size ≤ q → A q) (hE : SEnv adK adV A s s.heap) (hst : l.stackTraces = false) (hTh : ThE s s.heap) (hAn : ∀ a, a < s.heap.size → ¬ A a) (hX : va_X b L xs s s.heap) (hbl : b < s.heap.size) (hbA : ¬ A b) (hL : L ≤ 3072) (hcap : cells + 1 ≤ room_1.cells ∧ slots + 6 ≤ room_1.slots) {i : Nat} (hi : i + 6 ≤ L) (hLI : LI dC dI ky A t o out H) (hS : va_S A s.heap H locs) (hl : lv_has ls 7 [(4, .int (nI i)), (3, .ref out), (2, .ref o), (1, .ref t), (0, .ref b)]) (kx : ∀ (H : Heap) (locs : List Loc) (ls : Array Slot), LI dC dI ky A t o out H → va_S A s.heap H locs → lv_has ls 7 [(4, .int (nI i)), (3, .ref out), (2, .ref o), (1, .ref t), (0, .ref b)] → W p l e room_1 s m args below meth c H locs (cells + 1) (slots + 6) Q (F0 m 1378 ls [])) : W p l e room_1 s m args below meth c H locs cells slots Q (F0 m 976 ls []) := by
  obtain ⟨tl, z0, z1, kz, w, wm, fo, hCI, hMI, hP, hD⟩ := hLI
  have hcs : cells + 0 ≤ room_1.cells ∧ slots + 0 ≤ room_1.slots := ⟨by omega, by omega⟩
  refine lv_aload_n hx hb dL_law_976 rfl (lv_at hl 3 rfl) ?_
  refine lv_aload_n hx hb dL_law_977 rfl (lv_at hl 4 rfl) ?_
  refine lv_iload hx hb dL_law_978 (lv_at hl 0 rfl) ?_
  refine lv_iconst (v := nI 1) hx hb dL_law_980 (by decide) ?_
  refine lv_iadd hx hb dL_law_981 ?_
  refine r_ti (nI (i + 1)) (nI_add _ _) ?_
  refine r_sld hx hb hX hbl hbA hS (i + 1) (by omega) (by omega) (xs (i + 1)) rfl dL_law_982 ?_
  refine ci_land (rest := []) hx hb hml hown hts hK hA hcs hl (Nat.le_of_ble_eq_true rfl) (xs (i + 1)) hCI hP hD hS (fun r tl9 y0 y1 w9 H locs hf hCI hP hD hS => ?_)
  refine lv_pop hx hb dL_law_986 rfl ?_
  have hP := hP.perm (pm_sw wm [(out, .inl (ky 1, 1, .inr (.inl fo)))] w9)
  have hD := hD.perm (pm_sw wm [(out, .inl (ky 1, 1, .inr (.inl fo)))] w9)
  refine lv_aload_n hx hb dL_law_987 rfl (lv_at hl 2 rfl) ?_
  refine lv_aload_n hx hb dL_law_988 rfl (lv_at hl 4 rfl) ?_
  refine lv_iload hx hb dL_law_989 (lv_at hl 0 rfl) ?_
  refine lv_iconst (v := nI 1) hx hb dL_law_991 (by decide) ?_
  refine lv_iadd hx hb dL_law_992 ?_
  refine r_ti (nI (i + 1)) (nI_add _ _) ?_
  refine r_sld hx hb hX hbl hbA hS (i + 1) (by omega) (by omega) (xs (i + 1)) rfl dL_law_993 ?_
  refine mi_land (rest := []) hx hb hml hown hts hK hA hcs hl (Nat.le_of_ble_eq_true rfl) (xs (i + 1)) hMI hP hD hS (fun r2 tm9 kz9 wm9 H locs hf2 hMI hP hD hS => ?_)
  have hP := hP.perm (pm_sw w9 [(out, .inl (ky 1, 1, .inr (.inl fo)))] wm9)
  have hD := hD.perm (pm_sw w9 [(out, .inl (ky 1, 1, .inr (.inl fo)))] wm9)
  refine lv_pop hx hb dL_law_997 rfl ?_
  subst hf hf2
  refine lv_goto (tgt := 1378) hx hb dL_law_998 (by decide) ?_
  refine W.widen (k := cells + 1) (n := slots + 6) (by omega) (by omega) ?_
  exact kx H locs ls ⟨_, y0, y1, kz9, w9, wm9, fo, hCI, hMI, hP, hD⟩ hS hl
set_option maxHeartbeats 4000000 in
set_option maxRecDepth 100000 in
theorem lc_mean {p : Program} {l : Launch} {e : Env} {s : State} {m : MethodId} {args : Array Value} {below : List Frame} {meth : Method} {c : Code} {Q : State → Prop} {dC : Nat → ClassId} {dI : Nat → Nat → Nat} {ky : Nat → ClassId} {A : Nat → Prop} {cells slots : Nat} {H : Heap} {locs : List Loc} {ls : Array Slot} {adK adV : Nat → Nat} {b L : Nat} {xs : Nat → Int32} {t o out : Nat} (hx : p.tables.exec = Jvm.exec) (hb : c.code = cL_law) (hml : c.maxLocals = 7) (hown : s.vm.findClass RL = some m.cls) (hts : ∀ w ∈ lw_tbl, w.before args s = true) (hK : Kk dC dI ky s) (hA : ∀ q, s.heap.size ≤ q → A q) (hE : SEnv adK adV A s s.heap) (hst : l.stackTraces = false) (hTh : ThE s s.heap) (hAn : ∀ a, a < s.heap.size → ¬ A a) (hX : va_X b L xs s s.heap) (hbl : b < s.heap.size) (hbA : ¬ A b) (hL : L ≤ 3072) (hcap : cells + 1 ≤ room_1.cells ∧ slots + 6 ≤ room_1.slots) {i : Nat} (hi : i + 6 ≤ L) (hLI : LI dC dI ky A t o out H) (hS : va_S A s.heap H locs) (hl : lv_has ls 7 [(4, .int (nI i)), (3, .ref out), (2, .ref o), (1, .ref t), (0, .ref b)]) (kx : ∀ (H : Heap) (locs : List Loc) (ls : Array Slot), LI dC dI ky A t o out H → va_S A s.heap H locs → lv_has ls 7 [(4, .int (nI i)), (3, .ref out), (2, .ref o), (1, .ref t), (0, .ref b)] → W p l e room_1 s m args below meth c H locs (cells + 1) (slots + 6) Q (F0 m 1378 ls [])) : W p l e room_1 s m args below meth c H locs cells slots Q (F0 m 1001 ls []) := by
  obtain ⟨tl, z0, z1, kz, w, wm, fo, hCI, hMI, hP, hD⟩ := hLI
  have hcs : cells + 0 ≤ room_1.cells ∧ slots + 0 ≤ room_1.slots := ⟨by omega, by omega⟩
  refine lv_aload_n hx hb dL_law_1001 rfl (lv_at hl 3 rfl) ?_
  refine lv_aload_n hx hb dL_law_1002 rfl (lv_at hl 4 rfl) ?_
  refine lv_iload hx hb dL_law_1003 (lv_at hl 0 rfl) ?_
  refine lv_iconst (v := nI 1) hx hb dL_law_1005 (by decide) ?_
  refine lv_iadd hx hb dL_law_1006 ?_
  refine r_ti (nI (i + 1)) (nI_add _ _) ?_
  refine r_sld hx hb hX hbl hbA hS (i + 1) (by omega) (by omega) (xs (i + 1)) rfl dL_law_1007 ?_
  refine lv_aload_n hx hb dL_law_1008 rfl (lv_at hl 4 rfl) ?_
  refine lv_iload hx hb dL_law_1009 (lv_at hl 0 rfl) ?_
  refine lv_iconst (v := nI 2) hx hb dL_law_1011 (by decide) ?_
  refine lv_iadd hx hb dL_law_1012 ?_
  refine r_ti (nI (i + 2)) (nI_add _ _) ?_
  refine r_sld hx hb hX hbl hbA hS (i + 2) (by omega) (by omega) (xs (i + 2)) rfl dL_law_1013 ?_
  refine lv_aload_n hx hb dL_law_1014 rfl (lv_at hl 1 rfl) ?_
  refine ci_mean (rest := []) hx hb hml hown hts hK hA hcs hl (Nat.le_of_ble_eq_true rfl) hst hTh hAn hcap (xs (i + 1)) (xs (i + 2)) hCI hP hD hS (fun r w9 fo9 H locs hCI hP hD hS => ?_)
  refine lv_istore (lv' := [(5, .int r), (4, .int (nI i)), (3, .ref out), (2, .ref o), (1, .ref t), (0, .ref b)]) hx hb dL_law_1018 hl (by decide) rfl (fun ls hl => ?_)
  have hl : lv_has ls 7 [(4, .int (nI i)), (3, .ref out), (2, .ref o), (1, .ref t), (0, .ref b)] := lv_sub hl [1, 2, 3, 4, 5] rfl
  have hcs : (cells + 1) + 0 ≤ room_1.cells ∧ (slots + 6) + 0 ≤ room_1.slots := hcap
  have hP := hP.perm (pm_sw wm [(out, .inl (ky 1, 1, .inr (.inl fo9)))] w9)
  have hD := hD.perm (pm_sw wm [(out, .inl (ky 1, 1, .inr (.inl fo9)))] w9)
  refine lv_aload_n hx hb dL_law_1020 rfl (lv_at hl 2 rfl) ?_
  refine lv_aload_n hx hb dL_law_1021 rfl (lv_at hl 4 rfl) ?_
  refine lv_iload hx hb dL_law_1022 (lv_at hl 0 rfl) ?_
  refine lv_iconst (v := nI 1) hx hb dL_law_1024 (by decide) ?_
  refine lv_iadd hx hb dL_law_1025 ?_
  refine r_ti (nI (i + 1)) (nI_add _ _) ?_
  refine r_sld hx hb hX hbl hbA hS (i + 1) (by omega) (by omega) (xs (i + 1)) rfl dL_law_1026 ?_
  refine lv_aload_n hx hb dL_law_1027 rfl (lv_at hl 4 rfl) ?_
  refine lv_iload hx hb dL_law_1028 (lv_at hl 0 rfl) ?_
  refine lv_iconst (v := nI 2) hx hb dL_law_1030 (by decide) ?_
  refine lv_iadd hx hb dL_law_1031 ?_
  refine r_ti (nI (i + 2)) (nI_add _ _) ?_
  refine r_sld hx hb hX hbl hbA hS (i + 2) (by omega) (by omega) (xs (i + 2)) rfl dL_law_1032 ?_
  refine mi_mean (rest := []) hx hb hml hown hts hK hA hcs hl (Nat.le_of_ble_eq_true rfl) (xs (i + 1)) (xs (i + 2)) hMI hP hD hS (fun r2 tm9 kz9 wm9 H locs hf2 hMI hP hD hS => ?_)
  have hP := hP.perm (pm_sw w9 [(out, .inl (ky 1, 1, .inr (.inl fo9)))] wm9)
  have hD := hD.perm (pm_sw w9 [(out, .inl (ky 1, 1, .inr (.inl fo9)))] wm9)
  refine lv_istore (lv' := [(6, .int r2), (4, .int (nI i)), (3, .ref out), (2, .ref o), (1, .ref t), (0, .ref b)]) hx hb dL_law_1036 hl (by decide) rfl (fun ls hl => ?_)
  have hl : lv_has ls 7 [(4, .int (nI i)), (3, .ref out), (2, .ref o), (1, .ref t), (0, .ref b)] := lv_sub hl [1, 2, 3, 4, 5] rfl
  subst hf2
  refine lv_goto (tgt := 1378) hx hb dL_law_1038 (by decide) ?_
  exact kx H locs ls ⟨tl, z0, z1, kz9, w9, wm9, fo9, hCI, hMI, hP, hD⟩ hS hl
set_option maxHeartbeats 4000000 in
set_option maxRecDepth 100000 in
theorem lc_fleet {p : Program} {l : Launch} {e : Env} {s : State} {m : MethodId} {args : Array Value} {below : List Frame} {meth : Method} {c : Code} {Q : State → Prop} {dC : Nat → ClassId} {dI : Nat → Nat → Nat} {ky : Nat → ClassId} {A : Nat → Prop} {cells slots : Nat} {H : Heap} {locs : List Loc} {ls : Array Slot} {adK adV : Nat → Nat} {b L : Nat} {xs : Nat → Int32} {t o out : Nat} (hx : p.tables.exec = Jvm.exec) (hb : c.code = cL_law) (hml : c.maxLocals = 7) (hown : s.vm.findClass RL = some m.cls) (hts : ∀ w ∈ lw_tbl, w.before args s = true) (hK : Kk dC dI ky s) (hA : ∀ q, s.heap.size ≤ q → A q) (hE : SEnv adK adV A s s.heap) (hst : l.stackTraces = false) (hTh : ThE s s.heap) (hAn : ∀ a, a < s.heap.size → ¬ A a) (hX : va_X b L xs s s.heap) (hbl : b < s.heap.size) (hbA : ¬ A b) (hL : L ≤ 3072) (hcap : cells + 1 ≤ room_1.cells ∧ slots + 6 ≤ room_1.slots) {i : Nat} (hi : i + 6 ≤ L) (hLI : LI dC dI ky A t o out H) (hS : va_S A s.heap H locs) (hl : lv_has ls 7 [(4, .int (nI i)), (3, .ref out), (2, .ref o), (1, .ref t), (0, .ref b)]) (kx : ∀ (H : Heap) (locs : List Loc) (ls : Array Slot), LI dC dI ky A t o out H → va_S A s.heap H locs → lv_has ls 7 [(4, .int (nI i)), (3, .ref out), (2, .ref o), (1, .ref t), (0, .ref b)] → W p l e room_1 s m args below meth c H locs (cells + 1) (slots + 6) Q (F0 m 1378 ls [])) : W p l e room_1 s m args below meth c H locs cells slots Q (F0 m 1041 ls []) := by
  obtain ⟨tl, z0, z1, kz, w, wm, fo, hCI, hMI, hP, hD⟩ := hLI
  have hcs : cells + 0 ≤ room_1.cells ∧ slots + 0 ≤ room_1.slots := ⟨by omega, by omega⟩
  refine lv_aload_n hx hb dL_law_1041 rfl (lv_at hl 3 rfl) ?_
  refine lv_aload_n hx hb dL_law_1042 rfl (lv_at hl 4 rfl) ?_
  refine lv_iload hx hb dL_law_1043 (lv_at hl 0 rfl) ?_
  refine lv_iconst (v := nI 1) hx hb dL_law_1045 (by decide) ?_
  refine lv_iadd hx hb dL_law_1046 ?_
  refine r_ti (nI (i + 1)) (nI_add _ _) ?_
  refine r_sld hx hb hX hbl hbA hS (i + 1) (by omega) (by omega) (xs (i + 1)) rfl dL_law_1047 ?_
  refine ci_fleet (rest := []) hx hb hml hown hts hK hA hcs hl (Nat.le_of_ble_eq_true rfl) (xs (i + 1)) hCI hP hD hS (fun r tl9 y0 y1 w9 H locs hf hCI hP hD hS => ?_)
  refine lv_pop hx hb dL_law_1051 rfl ?_
  have hP := hP.perm (pm_sw wm [(out, .inl (ky 1, 1, .inr (.inl fo)))] w9)
  have hD := hD.perm (pm_sw wm [(out, .inl (ky 1, 1, .inr (.inl fo)))] w9)
  refine lv_aload_n hx hb dL_law_1052 rfl (lv_at hl 2 rfl) ?_
  refine lv_aload_n hx hb dL_law_1053 rfl (lv_at hl 4 rfl) ?_
  refine lv_iload hx hb dL_law_1054 (lv_at hl 0 rfl) ?_
  refine lv_iconst (v := nI 1) hx hb dL_law_1056 (by decide) ?_
  refine lv_iadd hx hb dL_law_1057 ?_
  refine r_ti (nI (i + 1)) (nI_add _ _) ?_
  refine r_sld hx hb hX hbl hbA hS (i + 1) (by omega) (by omega) (xs (i + 1)) rfl dL_law_1058 ?_
  refine mi_fleet (rest := []) hx hb hml hown hts hK hA hcs hl (Nat.le_of_ble_eq_true rfl) (xs (i + 1)) hMI hP hD hS (fun r2 tm9 kz9 wm9 H locs hf2 hMI hP hD hS => ?_)
  have hP := hP.perm (pm_sw w9 [(out, .inl (ky 1, 1, .inr (.inl fo)))] wm9)
  have hD := hD.perm (pm_sw w9 [(out, .inl (ky 1, 1, .inr (.inl fo)))] wm9)
  refine lv_pop hx hb dL_law_1062 rfl ?_
  subst hf hf2
  refine lv_goto (tgt := 1378) hx hb dL_law_1063 (by decide) ?_
  refine W.widen (k := cells + 1) (n := slots + 6) (by omega) (by omega) ?_
  exact kx H locs ls ⟨_, y0, y1, kz9, w9, wm9, fo, hCI, hMI, hP, hD⟩ hS hl
