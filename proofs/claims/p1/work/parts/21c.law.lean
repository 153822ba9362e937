theorem dL_law_804 : decode cL_law 804 = .ok (.aload_n 1, 1) := by decide +kernel
theorem dL_law_805 : decode cL_law 805 = .ok (.aload_n 0, 1) := by decide +kernel
theorem dL_law_806 : decode cL_law 806 = .ok (.iload 4, 2) := by decide +kernel
theorem dL_law_808 : decode cL_law 808 = .ok (.iconst 1, 1) := by decide +kernel
theorem dL_law_809 : decode cL_law 809 = .ok (.iadd, 1) := by decide +kernel
theorem dL_law_810 : decode cL_law 810 = .ok (.iaload, 1) := by decide +kernel
theorem dL_law_811 : decode cL_law 811 = .ok (.aload_n 0, 1) := by decide +kernel
theorem dL_law_812 : decode cL_law 812 = .ok (.iload 4, 2) := by decide +kernel
theorem dL_law_814 : decode cL_law 814 = .ok (.iconst 2, 1) := by decide +kernel
theorem dL_law_815 : decode cL_law 815 = .ok (.iadd, 1) := by decide +kernel
theorem dL_law_816 : decode cL_law 816 = .ok (.iaload, 1) := by decide +kernel
theorem dL_law_817 : decode cL_law 817 = .ok (.invokevirtual 100, 3) := by decide +kernel
theorem dL_law_820 : decode cL_law 820 = .ok (.aload_n 2, 1) := by decide +kernel
theorem dL_law_821 : decode cL_law 821 = .ok (.aload_n 0, 1) := by decide +kernel
theorem dL_law_822 : decode cL_law 822 = .ok (.iload 4, 2) := by decide +kernel
theorem dL_law_824 : decode cL_law 824 = .ok (.iconst 1, 1) := by decide +kernel
theorem dL_law_825 : decode cL_law 825 = .ok (.iadd, 1) := by decide +kernel
theorem dL_law_826 : decode cL_law 826 = .ok (.iaload, 1) := by decide +kernel
theorem dL_law_827 : decode cL_law 827 = .ok (.aload_n 0, 1) := by decide +kernel
theorem dL_law_828 : decode cL_law 828 = .ok (.iload 4, 2) := by decide +kernel
theorem dL_law_830 : decode cL_law 830 = .ok (.iconst 2, 1) := by decide +kernel
theorem dL_law_831 : decode cL_law 831 = .ok (.iadd, 1) := by decide +kernel
theorem dL_law_832 : decode cL_law 832 = .ok (.iaload, 1) := by decide +kernel
theorem dL_law_833 : decode cL_law 833 = .ok (.invokevirtual 103, 3) := by decide +kernel
theorem dL_law_836 : decode cL_law 836 = .ok (.if_icmp .eq 598, 3) := by decide +kernel
theorem dL_law_841 : decode cL_law 841 = .ok (.aload_n 1, 1) := by decide +kernel
theorem dL_law_842 : decode cL_law 842 = .ok (.aload_n 0, 1) := by decide +kernel
theorem dL_law_843 : decode cL_law 843 = .ok (.iload 4, 2) := by decide +kernel
theorem dL_law_845 : decode cL_law 845 = .ok (.iconst 1, 1) := by decide +kernel
theorem dL_law_846 : decode cL_law 846 = .ok (.iadd, 1) := by decide +kernel
theorem dL_law_847 : decode cL_law 847 = .ok (.iaload, 1) := by decide +kernel
theorem dL_law_848 : decode cL_law 848 = .ok (.invokevirtual 104, 3) := by decide +kernel
theorem dL_law_851 : decode cL_law 851 = .ok (.aload_n 2, 1) := by decide +kernel
theorem dL_law_852 : decode cL_law 852 = .ok (.aload_n 0, 1) := by decide +kernel
theorem dL_law_853 : decode cL_law 853 = .ok (.iload 4, 2) := by decide +kernel
theorem dL_law_855 : decode cL_law 855 = .ok (.iconst 1, 1) := by decide +kernel
theorem dL_law_856 : decode cL_law 856 = .ok (.iadd, 1) := by decide +kernel
theorem dL_law_857 : decode cL_law 857 = .ok (.iaload, 1) := by decide +kernel
theorem dL_law_858 : decode cL_law 858 = .ok (.invokevirtual 107, 3) := by decide +kernel
theorem dL_law_861 : decode cL_law 861 = .ok (.if_icmp .eq 573, 3) := by decide +kernel
theorem dL_law_866 : decode cL_law 866 = .ok (.aload_n 1, 1) := by decide +kernel
theorem dL_law_867 : decode cL_law 867 = .ok (.invokevirtual 108, 3) := by decide +kernel
theorem dL_law_870 : decode cL_law 870 = .ok (.aload_n 2, 1) := by decide +kernel
theorem dL_law_871 : decode cL_law 871 = .ok (.invokevirtual 111, 3) := by decide +kernel
theorem dL_law_874 : decode cL_law 874 = .ok (.if_icmp .eq 560, 3) := by decide +kernel
theorem dL_law_879 : decode cL_law 879 = .ok (.aload_n 1, 1) := by decide +kernel
theorem dL_law_880 : decode cL_law 880 = .ok (.aload_n 0, 1) := by decide +kernel
theorem dL_law_881 : decode cL_law 881 = .ok (.iload 4, 2) := by decide +kernel
theorem dL_law_883 : decode cL_law 883 = .ok (.iconst 1, 1) := by decide +kernel
theorem dL_law_884 : decode cL_law 884 = .ok (.iadd, 1) := by decide +kernel
theorem dL_law_885 : decode cL_law 885 = .ok (.iaload, 1) := by decide +kernel
theorem dL_law_886 : decode cL_law 886 = .ok (.aload_n 0, 1) := by decide +kernel
theorem dL_law_887 : decode cL_law 887 = .ok (.iload 4, 2) := by decide +kernel
theorem dL_law_889 : decode cL_law 889 = .ok (.iconst 2, 1) := by decide +kernel
theorem dL_law_890 : decode cL_law 890 = .ok (.iadd, 1) := by decide +kernel
theorem dL_law_891 : decode cL_law 891 = .ok (.iaload, 1) := by decide +kernel
theorem dL_law_892 : decode cL_law 892 = .ok (.invokevirtual 112, 3) := by decide +kernel
theorem dL_law_895 : decode cL_law 895 = .ok (.aload_n 2, 1) := by decide +kernel
theorem dL_law_896 : decode cL_law 896 = .ok (.aload_n 0, 1) := by decide +kernel
theorem dL_law_897 : decode cL_law 897 = .ok (.iload 4, 2) := by decide +kernel
theorem dL_law_899 : decode cL_law 899 = .ok (.iconst 1, 1) := by decide +kernel
theorem dL_law_900 : decode cL_law 900 = .ok (.iadd, 1) := by decide +kernel
theorem dL_law_901 : decode cL_law 901 = .ok (.iaload, 1) := by decide +kernel
theorem dL_law_902 : decode cL_law 902 = .ok (.aload_n 0, 1) := by decide +kernel
theorem dL_law_903 : decode cL_law 903 = .ok (.iload 4, 2) := by decide +kernel
theorem dL_law_905 : decode cL_law 905 = .ok (.iconst 2, 1) := by decide +kernel
theorem dL_law_906 : decode cL_law 906 = .ok (.iadd, 1) := by decide +kernel
theorem dL_law_907 : decode cL_law 907 = .ok (.iaload, 1) := by decide +kernel
theorem dL_law_908 : decode cL_law 908 = .ok (.invokevirtual 115, 3) := by decide +kernel
theorem dL_law_911 : decode cL_law 911 = .ok (.if_icmp .eq 523, 3) := by decide +kernel
theorem dL_law_916 : decode cL_law 916 = .ok (.aload_n 1, 1) := by decide +kernel
theorem dL_law_917 : decode cL_law 917 = .ok (.aload_n 0, 1) := by decide +kernel
theorem dL_law_918 : decode cL_law 918 = .ok (.iload 4, 2) := by decide +kernel
theorem dL_law_920 : decode cL_law 920 = .ok (.iconst 1, 1) := by decide +kernel
theorem dL_law_921 : decode cL_law 921 = .ok (.iadd, 1) := by decide +kernel
theorem dL_law_922 : decode cL_law 922 = .ok (.iaload, 1) := by decide +kernel
theorem dL_law_923 : decode cL_law 923 = .ok (.aload_n 0, 1) := by decide +kernel
theorem dL_law_924 : decode cL_law 924 = .ok (.iload 4, 2) := by decide +kernel
theorem dL_law_926 : decode cL_law 926 = .ok (.iconst 2, 1) := by decide +kernel
theorem dL_law_927 : decode cL_law 927 = .ok (.iadd, 1) := by decide +kernel
theorem dL_law_928 : decode cL_law 928 = .ok (.iaload, 1) := by decide +kernel
theorem dL_law_929 : decode cL_law 929 = .ok (.invokevirtual 116, 3) := by decide +kernel
theorem dL_law_932 : decode cL_law 932 = .ok (.aload_n 2, 1) := by decide +kernel
theorem dL_law_933 : decode cL_law 933 = .ok (.aload_n 0, 1) := by decide +kernel
theorem dL_law_934 : decode cL_law 934 = .ok (.iload 4, 2) := by decide +kernel
theorem dL_law_936 : decode cL_law 936 = .ok (.iconst 1, 1) := by decide +kernel
theorem dL_law_937 : decode cL_law 937 = .ok (.iadd, 1) := by decide +kernel
theorem dL_law_938 : decode cL_law 938 = .ok (.iaload, 1) := by decide +kernel
theorem dL_law_939 : decode cL_law 939 = .ok (.aload_n 0, 1) := by decide +kernel
theorem dL_law_940 : decode cL_law 940 = .ok (.iload 4, 2) := by decide +kernel
theorem dL_law_942 : decode cL_law 942 = .ok (.iconst 2, 1) := by decide +kernel
theorem dL_law_943 : decode cL_law 943 = .ok (.iadd, 1) := by decide +kernel
theorem dL_law_944 : decode cL_law 944 = .ok (.iaload, 1) := by decide +kernel
theorem dL_law_945 : decode cL_law 945 = .ok (.invokevirtual 119, 3) := by decide +kernel
theorem dL_law_948 : decode cL_law 948 = .ok (.if_icmp .eq 486, 3) := by decide +kernel
theorem dL_law_953 : decode cL_law 953 = .ok (.aload_n 1, 1) := by decide +kernel
theorem dL_law_954 : decode cL_law 954 = .ok (.invokevirtual 120, 3) := by decide +kernel
theorem dL_law_957 : decode cL_law 957 = .ok (.aload_n 2, 1) := by decide +kernel
theorem dL_law_958 : decode cL_law 958 = .ok (.invokevirtual 123, 3) := by decide +kernel
theorem dL_law_961 : decode cL_law 961 = .ok (.if_icmp .eq 473, 3) := by decide +kernel
theorem dL_law_966 : decode cL_law 966 = .ok (.aload_n 1, 1) := by decide +kernel
theorem dL_law_967 : decode cL_law 967 = .ok (.aload_n 0, 1) := by decide +kernel
theorem dL_law_968 : decode cL_law 968 = .ok (.iload 4, 2) := by decide +kernel
theorem dL_law_970 : decode cL_law 970 = .ok (.iconst 1, 1) := by decide +kernel
theorem dL_law_971 : decode cL_law 971 = .ok (.iadd, 1) := by decide +kernel
theorem dL_law_972 : decode cL_law 972 = .ok (.iaload, 1) := by decide +kernel
theorem dL_law_973 : decode cL_law 973 = .ok (.invokevirtual 124, 3) := by decide +kernel
theorem dL_law_976 : decode cL_law 976 = .ok (.aload_n 2, 1) := by decide +kernel
theorem dL_law_977 : decode cL_law 977 = .ok (.aload_n 0, 1) := by decide +kernel
theorem dL_law_978 : decode cL_law 978 = .ok (.iload 4, 2) := by decide +kernel
theorem dL_law_980 : decode cL_law 980 = .ok (.iconst 1, 1) := by decide +kernel
theorem dL_law_981 : decode cL_law 981 = .ok (.iadd, 1) := by decide +kernel
theorem dL_law_982 : decode cL_law 982 = .ok (.iaload, 1) := by decide +kernel
theorem dL_law_983 : decode cL_law 983 = .ok (.invokevirtual 127, 3) := by decide +kernel
theorem dL_law_986 : decode cL_law 986 = .ok (.if_icmp .eq 448, 3) := by decide +kernel
theorem dL_law_991 : decode cL_law 991 = .ok (.aload_n 1, 1) := by decide +kernel
theorem dL_law_992 : decode cL_law 992 = .ok (.invokevirtual 128, 3) := by decide +kernel
theorem dL_law_995 : decode cL_law 995 = .ok (.aload_n 2, 1) := by decide +kernel
theorem dL_law_996 : decode cL_law 996 = .ok (.invokevirtual 131, 3) := by decide +kernel
theorem dL_law_999 : decode cL_law 999 = .ok (.if_icmp .eq 435, 3) := by decide +kernel
theorem dL_law_1004 : decode cL_law 1004 = .ok (.aload_n 1, 1) := by decide +kernel
theorem dL_law_1005 : decode cL_law 1005 = .ok (.aload_n 0, 1) := by decide +kernel
theorem dL_law_1006 : decode cL_law 1006 = .ok (.iload 4, 2) := by decide +kernel
theorem dL_law_1008 : decode cL_law 1008 = .ok (.iconst 1, 1) := by decide +kernel
theorem dL_law_1009 : decode cL_law 1009 = .ok (.iadd, 1) := by decide +kernel
theorem dL_law_1010 : decode cL_law 1010 = .ok (.iaload, 1) := by decide +kernel
theorem dL_law_1011 : decode cL_law 1011 = .ok (.invokevirtual 132, 3) := by decide +kernel
theorem dL_law_1014 : decode cL_law 1014 = .ok (.aload_n 2, 1) := by decide +kernel
theorem dL_law_1015 : decode cL_law 1015 = .ok (.aload_n 0, 1) := by decide +kernel
theorem dL_law_1016 : decode cL_law 1016 = .ok (.iload 4, 2) := by decide +kernel
theorem dL_law_1018 : decode cL_law 1018 = .ok (.iconst 1, 1) := by decide +kernel
theorem dL_law_1019 : decode cL_law 1019 = .ok (.iadd, 1) := by decide +kernel
theorem dL_law_1020 : decode cL_law 1020 = .ok (.iaload, 1) := by decide +kernel
theorem dL_law_1021 : decode cL_law 1021 = .ok (.invokevirtual 135, 3) := by decide +kernel
theorem dL_law_1024 : decode cL_law 1024 = .ok (.if_icmp .eq 410, 3) := by decide +kernel
set_option maxHeartbeats 4000000 in
set_option maxRecDepth 100000 in
theorem law_17 {p : Program} {l : Launch} {e : Env} {s : State} {m : MethodId} {args : Array Value} {below : List Frame} {meth : Method} {c : Code} {Q : State → Prop} {dC : Nat → ClassId} {dI : Nat → Nat → Nat} {ky : Nat → ClassId} {A : Nat → Prop} {b : Nat} {xs : Nat → Int32} (hx : p.tables.exec = Jvm.exec) (hb : c.code = cL_law) (hml : c.maxLocals = 7) (hown : s.vm.findClass RL = some m.cls) (hts : ∀ w ∈ lw_tbl, w.before args s = true) (hK : Kk dC dI ky s) (hA : ∀ q, s.heap.size ≤ q → A q) (hX : va_X b 6 xs s s.heap) (hbl : b < s.heap.size) (hbA : ¬ A b) (reader : Nat) (sea : Nat) (spareSea : Nat) (seaText : Nat) (book : Nat) (sentence : Nat) (spareSentence : Nat) (route : Nat) (meeting : Nat) (sighting : Nat) (draws : Nat) (history : Nat) (images : Nat) (chartBytes : Nat) (farness : Nat) (sides : Nat) (thickness : Nat) (lumpNames : Nat) (lumpCells : Nat) (boatNames : Nat) (boatCells : Nat) (loads : Nat) (spoons : Nat) (spoonsLeft : Nat) (depths : Nat) (ktape : Nat) (know : Nat) (kread : Nat) (kkept : Nat) (ksnaps : Nat) (kaside : Nat) (kname : Nat) (kreadName : Nat) (kkeptName : Nat) (kisKept : Nat) (konces : Nat) (kpoured : Nat) (kfar : Nat) (ksides : Nat) (klines : Nat) (kmet : Nat) (ksunk : Nat) (ktrying : Nat) (ktext : Nat) (kline : Nat) (kwritten : Nat) (knode : Nat) (knowG : Nat → Int32) (t : Nat) (o : Nat) (out : Nat) (hN : NowOk knowG) (x1 x2 x3 x4 x5 : Int32) (hx1 : xs 1 = x1) (hx2 : xs 2 = x2) (hx3 : xs 3 = x3) (hx4 : xs 4 = x4) (hx5 : xs 5 = x5) (kx : ∀ (H : Heap) (locs : List Loc) (ls : Array Slot), va_S A s.heap H locs → W p l e room_1 s m args below meth c H locs 172 6147 Q (F0 m 1440 ls [])) : ∀ (H : Heap) (locs : List Loc) (ls : Array Slot), va_P (dC, dI) vwCl [(t, .inr (11, [.ref reader, .int (nI 0), .int (nI 0), .ref sea, .ref spareSea, .ref seaText, .ref book, .ref sentence, .ref spareSentence, .ref route, .ref meeting, .ref sighting, .ref draws, .ref history, .ref images, .ref chartBytes, .int (nI 0), .int (-1 : Int32)])), (sea, .inr (7, [.int (nI 4), .int (nI 4), .int (nI 10), .int (nI 1), .int (nI 3), .int (nI 0), .int (nI 0), .int (nI 0), .int (nI 0), .int (nI 0), .ref thickness, .ref lumpNames, .ref lumpCells, .ref boatNames, .ref boatCells, .ref loads, .ref spoons, .ref spoonsLeft, .ref depths])), (route, .inr (6, [.ref farness, .ref sides, .int (nI 0), .int (-1 : Int32)])), (o, .inr (12, [.int (nI 0), .ref ktape, .int (nI 0), .int (nI 0), .int (nI 0), .int (nI 0), .int (nI 0), .int (nI 0), .int (nI 0), .int (nI 0), .int (nI 0), .int (nI 0), .long 0, .int (nI 0), .ref know, .ref kread, .ref kkept, .ref ksnaps, .ref kaside, .ref kname, .ref kreadName, .ref kkeptName, .ref kisKept, .ref konces, .int (nI 0), .int (nI 0), .ref kpoured, .ref kfar, .ref ksides, .int (nI 0), .int (-1 : Int32), .int (nI 0), .ref klines, .ref kmet, .int (nI 0), .ref ksunk, .ref ktrying, .int (nI 0), .int (-1 : Int32), .int (-1 : Int32), .ref ktext, .int (nI 0), .int (nI 0), .ref kline, .ref kwritten, .int (nI 0), .int (nI 0), .ref knode, .int (nI 0), .int (nI 0), .int (nI 0), .int (nI 0)])), (know, .inl (ky 0, 373, .inl knowG))] H → va_D A [(t, .inr (11, [.ref reader, .int (nI 0), .int (nI 0), .ref sea, .ref spareSea, .ref seaText, .ref book, .ref sentence, .ref spareSentence, .ref route, .ref meeting, .ref sighting, .ref draws, .ref history, .ref images, .ref chartBytes, .int (nI 0), .int (-1 : Int32)])), (sea, .inr (7, [.int (nI 4), .int (nI 4), .int (nI 10), .int (nI 1), .int (nI 3), .int (nI 0), .int (nI 0), .int (nI 0), .int (nI 0), .int (nI 0), .ref thickness, .ref lumpNames, .ref lumpCells, .ref boatNames, .ref boatCells, .ref loads, .ref spoons, .ref spoonsLeft, .ref depths])), (route, .inr (6, [.ref farness, .ref sides, .int (nI 0), .int (-1 : Int32)])), (o, .inr (12, [.int (nI 0), .ref ktape, .int (nI 0), .int (nI 0), .int (nI 0), .int (nI 0), .int (nI 0), .int (nI 0), .int (nI 0), .int (nI 0), .int (nI 0), .int (nI 0), .long 0, .int (nI 0), .ref know, .ref kread, .ref kkept, .ref ksnaps, .ref kaside, .ref kname, .ref kreadName, .ref kkeptName, .ref kisKept, .ref konces, .int (nI 0), .int (nI 0), .ref kpoured, .ref kfar, .ref ksides, .int (nI 0), .int (-1 : Int32), .int (nI 0), .ref klines, .ref kmet, .int (nI 0), .ref ksunk, .ref ktrying, .int (nI 0), .int (-1 : Int32), .int (-1 : Int32), .ref ktext, .int (nI 0), .int (nI 0), .ref kline, .ref kwritten, .int (nI 0), .int (nI 0), .ref knode, .int (nI 0), .int (nI 0), .int (nI 0), .int (nI 0)])), (know, .inl (ky 0, 373, .inl knowG))] → va_S A s.heap H locs → lv_has ls 7 [(4, .int (nI 0)), (3, .ref out), (2, .ref o), (1, .ref t), (0, .ref b)] → W p l e room_1 s m args below meth c H locs 172 6147 Q (F0 m 804 ls []) := by
  intro H locs ls hP hD hS hl
  refine lv_aload_n hx hb dL_law_804 rfl (lv_at hl 3 rfl) ?_
  refine lv_aload_n hx hb dL_law_805 rfl (lv_at hl 4 rfl) ?_
  refine lv_iload hx hb dL_law_806 (lv_at hl 0 rfl) ?_
  refine lv_iconst (v := nI 1) hx hb dL_law_808 (by decide) ?_
  refine lv_iadd hx hb dL_law_809 ?_
  refine r_ti (nI 1) (by decide) ?_
  refine r_sld hx hb hX hbl hbA hS 1 (by decide) (by decide) x1 hx1 dL_law_810 ?_
  refine lv_aload_n hx hb dL_law_811 rfl (lv_at hl 4 rfl) ?_
  refine lv_iload hx hb dL_law_812 (lv_at hl 0 rfl) ?_
  refine lv_iconst (v := nI 2) hx hb dL_law_814 (by decide) ?_
  refine lv_iadd hx hb dL_law_815 ?_
  refine r_ti (nI 2) (by decide) ?_
  refine r_sld hx hb hX hbl hbA hS 2 (by decide) (by decide) x2 hx2 dL_law_816 ?_
  refine vp_callSi (W.runV (As := [.int x1, .int x2]) (rest := []) ⟨hx, hb, hml, hown, hts⟩ (c_way l dC dI ky t reader sea spareSea seaText book sentence spareSentence route meeting sighting draws history images chartBytes thickness lumpNames lumpCells boatNames boatCells loads spoons spoonsLeft depths farness sides x1 x2) (cwV 2 hts gl_X11_way rfl rfl rfl (by decide +kernel) ⟨(Nat.le_of_ble_eq_true rfl), (Nat.le_of_ble_eq_true rfl)⟩) (pre_PV hK hP [0, 1, 2] rfl (ci := 11) (q0 := 0) rfl rfl) rfl rfl hl.1 rfl (lv_room (Nat.le_of_ble_eq_true rfl)) dL_law_817 ⟨(Nat.le_of_ble_eq_true rfl), (Nat.le_of_ble_eq_true rfl)⟩) (fun r1 p2 => ?_)
  subst p2
  refine lv_aload_n hx hb dL_law_820 rfl (lv_at hl 2 rfl) ?_
  refine lv_aload_n hx hb dL_law_821 rfl (lv_at hl 4 rfl) ?_
  refine lv_iload hx hb dL_law_822 (lv_at hl 0 rfl) ?_
  refine lv_iconst (v := nI 1) hx hb dL_law_824 (by decide) ?_
  refine lv_iadd hx hb dL_law_825 ?_
  refine r_ti (nI 1) (by decide) ?_
  refine r_sld hx hb hX hbl hbA hS 1 (by decide) (by decide) x1 hx1 dL_law_826 ?_
  refine lv_aload_n hx hb dL_law_827 rfl (lv_at hl 4 rfl) ?_
  refine lv_iload hx hb dL_law_828 (lv_at hl 0 rfl) ?_
  refine lv_iconst (v := nI 2) hx hb dL_law_830 (by decide) ?_
  refine lv_iadd hx hb dL_law_831 ?_
  refine r_ti (nI 2) (by decide) ?_
  refine r_sld hx hb hX hbl hbA hS 2 (by decide) (by decide) x2 hx2 dL_law_832 ?_
  refine r_call_i (wr := [(t, .inr (11, [.ref reader, .int (nI 0), .int (nI 0), .ref sea, .ref spareSea, .ref seaText, .ref book, .ref sentence, .ref spareSentence, .ref route, .ref meeting, .ref sighting, .ref draws, .ref history, .ref images, .ref chartBytes, .int (nI 0), .int (-1 : Int32)])), (sea, .inr (7, [.int (nI 4), .int (nI 4), .int (nI 10), .int (nI 1), .int (nI 3), .int (nI 0), .int (nI 0), .int (nI 0), .int (nI 0), .int (nI 0), .ref thickness, .ref lumpNames, .ref lumpCells, .ref boatNames, .ref boatCells, .ref loads, .ref spoons, .ref spoonsLeft, .ref depths])), (route, .inr (6, [.ref farness, .ref sides, .int (nI 0), .int (-1 : Int32)]))]) (va_runV (As := [.int x1, .int x2]) (rest := [.int (-1 : Int32)]) ⟨hx, hb, hml, hown, hts⟩ (c_m_way l dC dI ky H.size o ktape know kread kkept ksnaps kaside kname kreadName kkeptName kisKept konces kpoured kfar ksides klines kmet ksunk ktrying ktext kline kwritten knode knowG x1 x2 hN) (cwV 2 hts gl_X12_way rfl rfl rfl (by decide +kernel) ⟨(Nat.le_of_ble_eq_true rfl), (Nat.le_of_ble_eq_true rfl)⟩) (pre_UV hK hP hD [3, 4] (by decide) rfl (ci := 12) (q0 := 3) rfl rfl) rfl rfl hl.1 rfl (lv_room (Nat.le_of_ble_eq_true rfl)) dL_law_833 ⟨(Nat.le_of_ble_eq_true rfl), (Nat.le_of_ble_eq_true rfl)⟩) hP hD hS hA [3, 4] [0, 1, 2] rfl rfl (by decide) (by decide) (fun r5 u3 H locs p4 hP hD hS => ?_)
  try dsimp only at p4
  have p6 := p4
  refine W.widen (k := 172) (n := 6147) (Nat.le_of_ble_eq_true rfl) (Nat.le_of_ble_eq_true rfl) ?_
  have hP : va_P (dC, dI) vwCl [(t, .inr (11, [.ref reader, .int (nI 0), .int (nI 0), .ref sea, .ref spareSea, .ref seaText, .ref book, .ref sentence, .ref spareSentence, .ref route, .ref meeting, .ref sighting, .ref draws, .ref history, .ref images, .ref chartBytes, .int (nI 0), .int (-1 : Int32)])), (sea, .inr (7, [.int (nI 4), .int (nI 4), .int (nI 10), .int (nI 1), .int (nI 3), .int (nI 0), .int (nI 0), .int (nI 0), .int (nI 0), .int (nI 0), .ref thickness, .ref lumpNames, .ref lumpCells, .ref boatNames, .ref boatCells, .ref loads, .ref spoons, .ref spoonsLeft, .ref depths])), (route, .inr (6, [.ref farness, .ref sides, .int (nI 0), .int (-1 : Int32)]))] H := hP
  have hD : va_D A [(t, .inr (11, [.ref reader, .int (nI 0), .int (nI 0), .ref sea, .ref spareSea, .ref seaText, .ref book, .ref sentence, .ref spareSentence, .ref route, .ref meeting, .ref sighting, .ref draws, .ref history, .ref images, .ref chartBytes, .int (nI 0), .int (-1 : Int32)])), (sea, .inr (7, [.int (nI 4), .int (nI 4), .int (nI 10), .int (nI 1), .int (nI 3), .int (nI 0), .int (nI 0), .int (nI 0), .int (nI 0), .int (nI 0), .ref thickness, .ref lumpNames, .ref lumpCells, .ref boatNames, .ref boatCells, .ref loads, .ref spoons, .ref spoonsLeft, .ref depths])), (route, .inr (6, [.ref farness, .ref sides, .int (nI 0), .int (-1 : Int32)]))] := hD
  subst p6
  refine lv_icmp_eq (tgt := 1434) hx hb dL_law_836 (by decide) (fun c7 => ?_) (fun c7 => absurd (by decide) c7)
  refine lv_iinc (v := nI 6) (lv' := [(4, .int (nI 6)), (3, .ref out), (2, .ref o), (1, .ref t), (0, .ref b)]) hx hb dL_law_1434 hl (k := 0) rfl (by decide) (by decide) rfl (fun ls hl => ?_)
  refine lv_goto (tgt := 23) hx hb dL_law_1437 (by decide) ?_
  refine lv_iload hx hb dL_law_23 (lv_at hl 0 rfl) ?_
  refine lv_aload_n hx hb dL_law_25 rfl (lv_at hl 4 rfl) ?_
  refine va_slen hx hb hX hbl hbA hS dL_law_26 ?_
  refine r_ti (nI 6) rfl ?_
  refine lv_bipush (v := nI 6) hx hb dL_law_27 (by decide) ?_
  refine lv_isub hx hb dL_law_29 ?_
  refine r_ti (nI 0) (by decide) ?_
  refine lv_icmp_gt (tgt := 1440) hx hb dL_law_30 (by decide) (fun c8 => ?_) (fun c8 => absurd (by decide) c8)
  exact kx H locs ls hS
set_option maxHeartbeats 4000000 in
set_option maxRecDepth 100000 in
theorem law_18 {p : Program} {l : Launch} {e : Env} {s : State} {m : MethodId} {args : Array Value} {below : List Frame} {meth : Method} {c : Code} {Q : State → Prop} {dC : Nat → ClassId} {dI : Nat → Nat → Nat} {ky : Nat → ClassId} {A : Nat → Prop} {b : Nat} {xs : Nat → Int32} (hx : p.tables.exec = Jvm.exec) (hb : c.code = cL_law) (hml : c.maxLocals = 7) (hown : s.vm.findClass RL = some m.cls) (hts : ∀ w ∈ lw_tbl, w.before args s = true) (hK : Kk dC dI ky s) (hA : ∀ q, s.heap.size ≤ q → A q) (hX : va_X b 6 xs s s.heap) (hbl : b < s.heap.size) (hbA : ¬ A b) (reader : Nat) (sea : Nat) (spareSea : Nat) (seaText : Nat) (book : Nat) (sentence : Nat) (spareSentence : Nat) (route : Nat) (meeting : Nat) (sighting : Nat) (draws : Nat) (history : Nat) (images : Nat) (chartBytes : Nat) (farness : Nat) (sides : Nat) (ktape : Nat) (know : Nat) (kread : Nat) (kkept : Nat) (ksnaps : Nat) (kaside : Nat) (kname : Nat) (kreadName : Nat) (kkeptName : Nat) (kisKept : Nat) (konces : Nat) (kpoured : Nat) (kfar : Nat) (ksides : Nat) (klines : Nat) (kmet : Nat) (ksunk : Nat) (ktrying : Nat) (ktext : Nat) (kline : Nat) (kwritten : Nat) (knode : Nat) (t : Nat) (o : Nat) (out : Nat)  (x1 x2 x3 x4 x5 : Int32) (hx1 : xs 1 = x1) (hx2 : xs 2 = x2) (hx3 : xs 3 = x3) (hx4 : xs 4 = x4) (hx5 : xs 5 = x5) (kx : ∀ (H : Heap) (locs : List Loc) (ls : Array Slot), va_S A s.heap H locs → W p l e room_1 s m args below meth c H locs 172 6147 Q (F0 m 1440 ls [])) : ∀ (H : Heap) (locs : List Loc) (ls : Array Slot), va_P (dC, dI) vwCl [(t, .inr (11, [.ref reader, .int (nI 0), .int (nI 0), .ref sea, .ref spareSea, .ref seaText, .ref book, .ref sentence, .ref spareSentence, .ref route, .ref meeting, .ref sighting, .ref draws, .ref history, .ref images, .ref chartBytes, .int (nI 0), .int (-1 : Int32)])), (route, .inr (6, [.ref farness, .ref sides, .int (nI 0), .int (-1 : Int32)])), (o, .inr (12, [.int (nI 0), .ref ktape, .int (nI 0), .int (nI 0), .int (nI 0), .int (nI 0), .int (nI 0), .int (nI 0), .int (nI 0), .int (nI 0), .int (nI 0), .int (nI 0), .long 0, .int (nI 0), .ref know, .ref kread, .ref kkept, .ref ksnaps, .ref kaside, .ref kname, .ref kreadName, .ref kkeptName, .ref kisKept, .ref konces, .int (nI 0), .int (nI 0), .ref kpoured, .ref kfar, .ref ksides, .int (nI 0), .int (-1 : Int32), .int (nI 0), .ref klines, .ref kmet, .int (nI 0), .ref ksunk, .ref ktrying, .int (nI 0), .int (-1 : Int32), .int (-1 : Int32), .ref ktext, .int (nI 0), .int (nI 0), .ref kline, .ref kwritten, .int (nI 0), .int (nI 0), .ref knode, .int (nI 0), .int (nI 0), .int (nI 0), .int (nI 0)]))] H → va_D A [(t, .inr (11, [.ref reader, .int (nI 0), .int (nI 0), .ref sea, .ref spareSea, .ref seaText, .ref book, .ref sentence, .ref spareSentence, .ref route, .ref meeting, .ref sighting, .ref draws, .ref history, .ref images, .ref chartBytes, .int (nI 0), .int (-1 : Int32)])), (route, .inr (6, [.ref farness, .ref sides, .int (nI 0), .int (-1 : Int32)])), (o, .inr (12, [.int (nI 0), .ref ktape, .int (nI 0), .int (nI 0), .int (nI 0), .int (nI 0), .int (nI 0), .int (nI 0), .int (nI 0), .int (nI 0), .int (nI 0), .int (nI 0), .long 0, .int (nI 0), .ref know, .ref kread, .ref kkept, .ref ksnaps, .ref kaside, .ref kname, .ref kreadName, .ref kkeptName, .ref kisKept, .ref konces, .int (nI 0), .int (nI 0), .ref kpoured, .ref kfar, .ref ksides, .int (nI 0), .int (-1 : Int32), .int (nI 0), .ref klines, .ref kmet, .int (nI 0), .ref ksunk, .ref ktrying, .int (nI 0), .int (-1 : Int32), .int (-1 : Int32), .ref ktext, .int (nI 0), .int (nI 0), .ref kline, .ref kwritten, .int (nI 0), .int (nI 0), .ref knode, .int (nI 0), .int (nI 0), .int (nI 0), .int (nI 0)]))] → va_S A s.heap H locs → lv_has ls 7 [(4, .int (nI 0)), (3, .ref out), (2, .ref o), (1, .ref t), (0, .ref b)] → W p l e room_1 s m args below meth c H locs 172 6147 Q (F0 m 841 ls []) := by
  intro H locs ls hP hD hS hl
  refine lv_aload_n hx hb dL_law_841 rfl (lv_at hl 3 rfl) ?_
  refine lv_aload_n hx hb dL_law_842 rfl (lv_at hl 4 rfl) ?_
  refine lv_iload hx hb dL_law_843 (lv_at hl 0 rfl) ?_
  refine lv_iconst (v := nI 1) hx hb dL_law_845 (by decide) ?_
  refine lv_iadd hx hb dL_law_846 ?_
  refine r_ti (nI 1) (by decide) ?_
  refine r_sld hx hb hX hbl hbA hS 1 (by decide) (by decide) x1 hx1 dL_law_847 ?_
  refine vp_callSi (W.runV (As := [.int x1]) (rest := []) ⟨hx, hb, hml, hown, hts⟩ (c_wayAt l dC dI ky t reader sea spareSea seaText book sentence spareSentence route meeting sighting draws history images chartBytes farness sides x1) (cwV 1 hts gl_X11_wayAt rfl rfl rfl (by decide +kernel) ⟨(Nat.le_of_ble_eq_true rfl), (Nat.le_of_ble_eq_true rfl)⟩) (pre_PV hK hP [0, 1] rfl (ci := 11) (q0 := 0) rfl rfl) rfl rfl hl.1 rfl (lv_room (Nat.le_of_ble_eq_true rfl)) dL_law_848 ⟨(Nat.le_of_ble_eq_true rfl), (Nat.le_of_ble_eq_true rfl)⟩) (fun r1 p2 => ?_)
  subst p2
  refine lv_aload_n hx hb dL_law_851 rfl (lv_at hl 2 rfl) ?_
  refine lv_aload_n hx hb dL_law_852 rfl (lv_at hl 4 rfl) ?_
  refine lv_iload hx hb dL_law_853 (lv_at hl 0 rfl) ?_
  refine lv_iconst (v := nI 1) hx hb dL_law_855 (by decide) ?_
  refine lv_iadd hx hb dL_law_856 ?_
  refine r_ti (nI 1) (by decide) ?_
  refine r_sld hx hb hX hbl hbA hS 1 (by decide) (by decide) x1 hx1 dL_law_857 ?_
  refine r_call_i (wr := [(t, .inr (11, [.ref reader, .int (nI 0), .int (nI 0), .ref sea, .ref spareSea, .ref seaText, .ref book, .ref sentence, .ref spareSentence, .ref route, .ref meeting, .ref sighting, .ref draws, .ref history, .ref images, .ref chartBytes, .int (nI 0), .int (-1 : Int32)])), (route, .inr (6, [.ref farness, .ref sides, .int (nI 0), .int (-1 : Int32)]))]) (va_runV (As := [.int x1]) (rest := [.int (-1 : Int32)]) ⟨hx, hb, hml, hown, hts⟩ (c_m_wayAt l dC dI ky H.size o ktape know kread kkept ksnaps kaside kname kreadName kkeptName kisKept konces kpoured kfar ksides klines kmet ksunk ktrying ktext kline kwritten knode x1) (cwV 1 hts gl_X12_wayAt rfl rfl rfl (by decide +kernel) ⟨(Nat.le_of_ble_eq_true rfl), (Nat.le_of_ble_eq_true rfl)⟩) (pre_UV hK hP hD [2] (by decide) rfl (ci := 12) (q0 := 2) rfl rfl) rfl rfl hl.1 rfl (lv_room (Nat.le_of_ble_eq_true rfl)) dL_law_858 ⟨(Nat.le_of_ble_eq_true rfl), (Nat.le_of_ble_eq_true rfl)⟩) hP hD hS hA [2] [0, 1] rfl rfl (by decide) (by decide) (fun r5 u3 H locs p4 hP hD hS => ?_)
  try dsimp only at p4
  have p6 := p4
  refine W.widen (k := 172) (n := 6147) (Nat.le_of_ble_eq_true rfl) (Nat.le_of_ble_eq_true rfl) ?_
  have hP : va_P (dC, dI) vwCl [(t, .inr (11, [.ref reader, .int (nI 0), .int (nI 0), .ref sea, .ref spareSea, .ref seaText, .ref book, .ref sentence, .ref spareSentence, .ref route, .ref meeting, .ref sighting, .ref draws, .ref history, .ref images, .ref chartBytes, .int (nI 0), .int (-1 : Int32)])), (route, .inr (6, [.ref farness, .ref sides, .int (nI 0), .int (-1 : Int32)]))] H := hP
  have hD : va_D A [(t, .inr (11, [.ref reader, .int (nI 0), .int (nI 0), .ref sea, .ref spareSea, .ref seaText, .ref book, .ref sentence, .ref spareSentence, .ref route, .ref meeting, .ref sighting, .ref draws, .ref history, .ref images, .ref chartBytes, .int (nI 0), .int (-1 : Int32)])), (route, .inr (6, [.ref farness, .ref sides, .int (nI 0), .int (-1 : Int32)]))] := hD
  subst p6
  refine lv_icmp_eq (tgt := 1434) hx hb dL_law_861 (by decide) (fun c7 => ?_) (fun c7 => absurd (by decide) c7)
  refine lv_iinc (v := nI 6) (lv' := [(4, .int (nI 6)), (3, .ref out), (2, .ref o), (1, .ref t), (0, .ref b)]) hx hb dL_law_1434 hl (k := 0) rfl (by decide) (by decide) rfl (fun ls hl => ?_)
  refine lv_goto (tgt := 23) hx hb dL_law_1437 (by decide) ?_
  refine lv_iload hx hb dL_law_23 (lv_at hl 0 rfl) ?_
  refine lv_aload_n hx hb dL_law_25 rfl (lv_at hl 4 rfl) ?_
  refine va_slen hx hb hX hbl hbA hS dL_law_26 ?_
  refine r_ti (nI 6) rfl ?_
  refine lv_bipush (v := nI 6) hx hb dL_law_27 (by decide) ?_
  refine lv_isub hx hb dL_law_29 ?_
  refine r_ti (nI 0) (by decide) ?_
  refine lv_icmp_gt (tgt := 1440) hx hb dL_law_30 (by decide) (fun c8 => ?_) (fun c8 => absurd (by decide) c8)
  exact kx H locs ls hS
set_option maxHeartbeats 4000000 in
set_option maxRecDepth 100000 in
theorem law_19 {p : Program} {l : Launch} {e : Env} {s : State} {m : MethodId} {args : Array Value} {below : List Frame} {meth : Method} {c : Code} {Q : State → Prop} {dC : Nat → ClassId} {dI : Nat → Nat → Nat} {ky : Nat → ClassId} {A : Nat → Prop} {b : Nat} {xs : Nat → Int32} (hx : p.tables.exec = Jvm.exec) (hb : c.code = cL_law) (hml : c.maxLocals = 7) (hown : s.vm.findClass RL = some m.cls) (hts : ∀ w ∈ lw_tbl, w.before args s = true) (hK : Kk dC dI ky s) (hA : ∀ q, s.heap.size ≤ q → A q) (hX : va_X b 6 xs s s.heap) (hbl : b < s.heap.size) (hbA : ¬ A b) (reader : Nat) (sea : Nat) (spareSea : Nat) (seaText : Nat) (book : Nat) (sentence : Nat) (spareSentence : Nat) (route : Nat) (meeting : Nat) (sighting : Nat) (draws : Nat) (history : Nat) (images : Nat) (chartBytes : Nat) (farness : Nat) (sides : Nat) (ktape : Nat) (know : Nat) (kread : Nat) (kkept : Nat) (ksnaps : Nat) (kaside : Nat) (kname : Nat) (kreadName : Nat) (kkeptName : Nat) (kisKept : Nat) (konces : Nat) (kpoured : Nat) (kfar : Nat) (ksides : Nat) (klines : Nat) (kmet : Nat) (ksunk : Nat) (ktrying : Nat) (ktext : Nat) (kline : Nat) (kwritten : Nat) (knode : Nat) (t : Nat) (o : Nat) (out : Nat)  (x1 x2 x3 x4 x5 : Int32) (hx1 : xs 1 = x1) (hx2 : xs 2 = x2) (hx3 : xs 3 = x3) (hx4 : xs 4 = x4) (hx5 : xs 5 = x5) (kx : ∀ (H : Heap) (locs : List Loc) (ls : Array Slot), va_S A s.heap H locs → W p l e room_1 s m args below meth c H locs 172 6147 Q (F0 m 1440 ls [])) : ∀ (H : Heap) (locs : List Loc) (ls : Array Slot), va_P (dC, dI) vwCl [(t, .inr (11, [.ref reader, .int (nI 0), .int (nI 0), .ref sea, .ref spareSea, .ref seaText, .ref book, .ref sentence, .ref spareSentence, .ref route, .ref meeting, .ref sighting, .ref draws, .ref history, .ref images, .ref chartBytes, .int (nI 0), .int (-1 : Int32)])), (route, .inr (6, [.ref farness, .ref sides, .int (nI 0), .int (-1 : Int32)])), (o, .inr (12, [.int (nI 0), .ref ktape, .int (nI 0), .int (nI 0), .int (nI 0), .int (nI 0), .int (nI 0), .int (nI 0), .int (nI 0), .int (nI 0), .int (nI 0), .int (nI 0), .long 0, .int (nI 0), .ref know, .ref kread, .ref kkept, .ref ksnaps, .ref kaside, .ref kname, .ref kreadName, .ref kkeptName, .ref kisKept, .ref konces, .int (nI 0), .int (nI 0), .ref kpoured, .ref kfar, .ref ksides, .int (nI 0), .int (-1 : Int32), .int (nI 0), .ref klines, .ref kmet, .int (nI 0), .ref ksunk, .ref ktrying, .int (nI 0), .int (-1 : Int32), .int (-1 : Int32), .ref ktext, .int (nI 0), .int (nI 0), .ref kline, .ref kwritten, .int (nI 0), .int (nI 0), .ref knode, .int (nI 0), .int (nI 0), .int (nI 0), .int (nI 0)]))] H → va_D A [(t, .inr (11, [.ref reader, .int (nI 0), .int (nI 0), .ref sea, .ref spareSea, .ref seaText, .ref book, .ref sentence, .ref spareSentence, .ref route, .ref meeting, .ref sighting, .ref draws, .ref history, .ref images, .ref chartBytes, .int (nI 0), .int (-1 : Int32)])), (route, .inr (6, [.ref farness, .ref sides, .int (nI 0), .int (-1 : Int32)])), (o, .inr (12, [.int (nI 0), .ref ktape, .int (nI 0), .int (nI 0), .int (nI 0), .int (nI 0), .int (nI 0), .int (nI 0), .int (nI 0), .int (nI 0), .int (nI 0), .int (nI 0), .long 0, .int (nI 0), .ref know, .ref kread, .ref kkept, .ref ksnaps, .ref kaside, .ref kname, .ref kreadName, .ref kkeptName, .ref kisKept, .ref konces, .int (nI 0), .int (nI 0), .ref kpoured, .ref kfar, .ref ksides, .int (nI 0), .int (-1 : Int32), .int (nI 0), .ref klines, .ref kmet, .int (nI 0), .ref ksunk, .ref ktrying, .int (nI 0), .int (-1 : Int32), .int (-1 : Int32), .ref ktext, .int (nI 0), .int (nI 0), .ref kline, .ref kwritten, .int (nI 0), .int (nI 0), .ref knode, .int (nI 0), .int (nI 0), .int (nI 0), .int (nI 0)]))] → va_S A s.heap H locs → lv_has ls 7 [(4, .int (nI 0)), (3, .ref out), (2, .ref o), (1, .ref t), (0, .ref b)] → W p l e room_1 s m args below meth c H locs 172 6147 Q (F0 m 866 ls []) := by
  intro H locs ls hP hD hS hl
  refine lv_aload_n hx hb dL_law_866 rfl (lv_at hl 3 rfl) ?_
  refine vp_callSi (W.runV (As := []) (rest := []) ⟨hx, hb, hml, hown, hts⟩ (c_wayDays l dC dI ky t reader sea spareSea seaText book sentence spareSentence route meeting sighting draws history images chartBytes farness sides) (cwV 0 hts gl_X11_wayDays rfl rfl rfl (by decide +kernel) ⟨(Nat.le_of_ble_eq_true rfl), (Nat.le_of_ble_eq_true rfl)⟩) (pre_PV hK hP [0, 1] rfl (ci := 11) (q0 := 0) rfl rfl) rfl rfl hl.1 rfl (lv_room (Nat.le_of_ble_eq_true rfl)) dL_law_867 ⟨(Nat.le_of_ble_eq_true rfl), (Nat.le_of_ble_eq_true rfl)⟩) (fun r1 p2 => ?_)
  subst p2
  refine lv_aload_n hx hb dL_law_870 rfl (lv_at hl 2 rfl) ?_
  refine r_call_i (wr := [(t, .inr (11, [.ref reader, .int (nI 0), .int (nI 0), .ref sea, .ref spareSea, .ref seaText, .ref book, .ref sentence, .ref spareSentence, .ref route, .ref meeting, .ref sighting, .ref draws, .ref history, .ref images, .ref chartBytes, .int (nI 0), .int (-1 : Int32)])), (route, .inr (6, [.ref farness, .ref sides, .int (nI 0), .int (-1 : Int32)]))]) (va_runV (As := []) (rest := [.int (-1 : Int32)]) ⟨hx, hb, hml, hown, hts⟩ (c_m_wayDays l dC dI ky H.size o ktape know kread kkept ksnaps kaside kname kreadName kkeptName kisKept konces kpoured kfar ksides klines kmet ksunk ktrying ktext kline kwritten knode) (cwV 0 hts gl_X12_wayDays rfl rfl rfl (by decide +kernel) ⟨(Nat.le_of_ble_eq_true rfl), (Nat.le_of_ble_eq_true rfl)⟩) (pre_UV hK hP hD [2] (by decide) rfl (ci := 12) (q0 := 2) rfl rfl) rfl rfl hl.1 rfl (lv_room (Nat.le_of_ble_eq_true rfl)) dL_law_871 ⟨(Nat.le_of_ble_eq_true rfl), (Nat.le_of_ble_eq_true rfl)⟩) hP hD hS hA [2] [0, 1] rfl rfl (by decide) (by decide) (fun r5 u3 H locs p4 hP hD hS => ?_)
  try dsimp only at p4
  have p6 := p4
  refine W.widen (k := 172) (n := 6147) (Nat.le_of_ble_eq_true rfl) (Nat.le_of_ble_eq_true rfl) ?_
  have hP : va_P (dC, dI) vwCl [(t, .inr (11, [.ref reader, .int (nI 0), .int (nI 0), .ref sea, .ref spareSea, .ref seaText, .ref book, .ref sentence, .ref spareSentence, .ref route, .ref meeting, .ref sighting, .ref draws, .ref history, .ref images, .ref chartBytes, .int (nI 0), .int (-1 : Int32)])), (route, .inr (6, [.ref farness, .ref sides, .int (nI 0), .int (-1 : Int32)]))] H := hP
  have hD : va_D A [(t, .inr (11, [.ref reader, .int (nI 0), .int (nI 0), .ref sea, .ref spareSea, .ref seaText, .ref book, .ref sentence, .ref spareSentence, .ref route, .ref meeting, .ref sighting, .ref draws, .ref history, .ref images, .ref chartBytes, .int (nI 0), .int (-1 : Int32)])), (route, .inr (6, [.ref farness, .ref sides, .int (nI 0), .int (-1 : Int32)]))] := hD
  subst p6
  refine lv_icmp_eq (tgt := 1434) hx hb dL_law_874 (by decide) (fun c7 => ?_) (fun c7 => absurd (by decide) c7)
  refine lv_iinc (v := nI 6) (lv' := [(4, .int (nI 6)), (3, .ref out), (2, .ref o), (1, .ref t), (0, .ref b)]) hx hb dL_law_1434 hl (k := 0) rfl (by decide) (by decide) rfl (fun ls hl => ?_)
  refine lv_goto (tgt := 23) hx hb dL_law_1437 (by decide) ?_
  refine lv_iload hx hb dL_law_23 (lv_at hl 0 rfl) ?_
  refine lv_aload_n hx hb dL_law_25 rfl (lv_at hl 4 rfl) ?_
  refine va_slen hx hb hX hbl hbA hS dL_law_26 ?_
  refine r_ti (nI 6) rfl ?_
  refine lv_bipush (v := nI 6) hx hb dL_law_27 (by decide) ?_
  refine lv_isub hx hb dL_law_29 ?_
  refine r_ti (nI 0) (by decide) ?_
  refine lv_icmp_gt (tgt := 1440) hx hb dL_law_30 (by decide) (fun c8 => ?_) (fun c8 => absurd (by decide) c8)
  exact kx H locs ls hS
set_option maxHeartbeats 4000000 in
set_option maxRecDepth 100000 in
theorem law_20 {p : Program} {l : Launch} {e : Env} {s : State} {m : MethodId} {args : Array Value} {below : List Frame} {meth : Method} {c : Code} {Q : State → Prop} {dC : Nat → ClassId} {dI : Nat → Nat → Nat} {ky : Nat → ClassId} {A : Nat → Prop} {b : Nat} {xs : Nat → Int32} (hx : p.tables.exec = Jvm.exec) (hb : c.code = cL_law) (hml : c.maxLocals = 7) (hown : s.vm.findClass RL = some m.cls) (hts : ∀ w ∈ lw_tbl, w.before args s = true) (hK : Kk dC dI ky s) (hA : ∀ q, s.heap.size ≤ q → A q) (hX : va_X b 6 xs s s.heap) (hbl : b < s.heap.size) (hbA : ¬ A b) (reader : Nat) (sea : Nat) (spareSea : Nat) (seaText : Nat) (book : Nat) (sentence : Nat) (spareSentence : Nat) (route : Nat) (meeting : Nat) (sighting : Nat) (draws : Nat) (history : Nat) (images : Nat) (chartBytes : Nat) (tried : Nat) (found : Nat) (thickness : Nat) (lumpNames : Nat) (lumpCells : Nat) (boatNames : Nat) (boatCells : Nat) (loads : Nat) (spoons : Nat) (spoonsLeft : Nat) (depths : Nat) (ktape : Nat) (know : Nat) (kread : Nat) (kkept : Nat) (ksnaps : Nat) (kaside : Nat) (kname : Nat) (kreadName : Nat) (kkeptName : Nat) (kisKept : Nat) (konces : Nat) (kpoured : Nat) (kfar : Nat) (ksides : Nat) (klines : Nat) (kmet : Nat) (ksunk : Nat) (ktrying : Nat) (ktext : Nat) (kline : Nat) (kwritten : Nat) (knode : Nat) (knowG : Nat → Int32) (t : Nat) (o : Nat) (out : Nat) (hN : NowOk knowG) (x1 x2 x3 x4 x5 : Int32) (hx1 : xs 1 = x1) (hx2 : xs 2 = x2) (hx3 : xs 3 = x3) (hx4 : xs 4 = x4) (hx5 : xs 5 = x5) (kx : ∀ (H : Heap) (locs : List Loc) (ls : Array Slot), va_S A s.heap H locs → W p l e room_1 s m args below meth c H locs 172 6147 Q (F0 m 1440 ls [])) : ∀ (H : Heap) (locs : List Loc) (ls : Array Slot), va_P (dC, dI) vwCl [(t, .inr (11, [.ref reader, .int (nI 0), .int (nI 0), .ref sea, .ref spareSea, .ref seaText, .ref book, .ref sentence, .ref spareSentence, .ref route, .ref meeting, .ref sighting, .ref draws, .ref history, .ref images, .ref chartBytes, .int (nI 0), .int (-1 : Int32)])), (sea, .inr (7, [.int (nI 4), .int (nI 4), .int (nI 10), .int (nI 1), .int (nI 3), .int (nI 0), .int (nI 0), .int (nI 0), .int (nI 0), .int (nI 0), .ref thickness, .ref lumpNames, .ref lumpCells, .ref boatNames, .ref boatCells, .ref loads, .ref spoons, .ref spoonsLeft, .ref depths])), (meeting, .inr (4, [.ref tried, .ref found, .int (nI 0)])), (o, .inr (12, [.int (nI 0), .ref ktape, .int (nI 0), .int (nI 0), .int (nI 0), .int (nI 0), .int (nI 0), .int (nI 0), .int (nI 0), .int (nI 0), .int (nI 0), .int (nI 0), .long 0, .int (nI 0), .ref know, .ref kread, .ref kkept, .ref ksnaps, .ref kaside, .ref kname, .ref kreadName, .ref kkeptName, .ref kisKept, .ref konces, .int (nI 0), .int (nI 0), .ref kpoured, .ref kfar, .ref ksides, .int (nI 0), .int (-1 : Int32), .int (nI 0), .ref klines, .ref kmet, .int (nI 0), .ref ksunk, .ref ktrying, .int (nI 0), .int (-1 : Int32), .int (-1 : Int32), .ref ktext, .int (nI 0), .int (nI 0), .ref kline, .ref kwritten, .int (nI 0), .int (nI 0), .ref knode, .int (nI 0), .int (nI 0), .int (nI 0), .int (nI 0)])), (know, .inl (ky 0, 373, .inl knowG))] H → va_D A [(t, .inr (11, [.ref reader, .int (nI 0), .int (nI 0), .ref sea, .ref spareSea, .ref seaText, .ref book, .ref sentence, .ref spareSentence, .ref route, .ref meeting, .ref sighting, .ref draws, .ref history, .ref images, .ref chartBytes, .int (nI 0), .int (-1 : Int32)])), (sea, .inr (7, [.int (nI 4), .int (nI 4), .int (nI 10), .int (nI 1), .int (nI 3), .int (nI 0), .int (nI 0), .int (nI 0), .int (nI 0), .int (nI 0), .ref thickness, .ref lumpNames, .ref lumpCells, .ref boatNames, .ref boatCells, .ref loads, .ref spoons, .ref spoonsLeft, .ref depths])), (meeting, .inr (4, [.ref tried, .ref found, .int (nI 0)])), (o, .inr (12, [.int (nI 0), .ref ktape, .int (nI 0), .int (nI 0), .int (nI 0), .int (nI 0), .int (nI 0), .int (nI 0), .int (nI 0), .int (nI 0), .int (nI 0), .int (nI 0), .long 0, .int (nI 0), .ref know, .ref kread, .ref kkept, .ref ksnaps, .ref kaside, .ref kname, .ref kreadName, .ref kkeptName, .ref kisKept, .ref konces, .int (nI 0), .int (nI 0), .ref kpoured, .ref kfar, .ref ksides, .int (nI 0), .int (-1 : Int32), .int (nI 0), .ref klines, .ref kmet, .int (nI 0), .ref ksunk, .ref ktrying, .int (nI 0), .int (-1 : Int32), .int (-1 : Int32), .ref ktext, .int (nI 0), .int (nI 0), .ref kline, .ref kwritten, .int (nI 0), .int (nI 0), .ref knode, .int (nI 0), .int (nI 0), .int (nI 0), .int (nI 0)])), (know, .inl (ky 0, 373, .inl knowG))] → va_S A s.heap H locs → lv_has ls 7 [(4, .int (nI 0)), (3, .ref out), (2, .ref o), (1, .ref t), (0, .ref b)] → W p l e room_1 s m args below meth c H locs 172 6147 Q (F0 m 879 ls []) := by
  intro H locs ls hP hD hS hl
  refine lv_aload_n hx hb dL_law_879 rfl (lv_at hl 3 rfl) ?_
  refine lv_aload_n hx hb dL_law_880 rfl (lv_at hl 4 rfl) ?_
  refine lv_iload hx hb dL_law_881 (lv_at hl 0 rfl) ?_
  refine lv_iconst (v := nI 1) hx hb dL_law_883 (by decide) ?_
  refine lv_iadd hx hb dL_law_884 ?_
  refine r_ti (nI 1) (by decide) ?_
  refine r_sld hx hb hX hbl hbA hS 1 (by decide) (by decide) x1 hx1 dL_law_885 ?_
  refine lv_aload_n hx hb dL_law_886 rfl (lv_at hl 4 rfl) ?_
  refine lv_iload hx hb dL_law_887 (lv_at hl 0 rfl) ?_
  refine lv_iconst (v := nI 2) hx hb dL_law_889 (by decide) ?_
  refine lv_iadd hx hb dL_law_890 ?_
  refine r_ti (nI 2) (by decide) ?_
  refine r_sld hx hb hX hbl hbA hS 2 (by decide) (by decide) x2 hx2 dL_law_891 ?_
  refine vp_callSi (W.runV (As := [.int x1, .int x2]) (rest := []) ⟨hx, hb, hml, hown, hts⟩ (c_meet l dC dI ky t reader sea spareSea seaText book sentence spareSentence route meeting sighting draws history images chartBytes thickness lumpNames lumpCells boatNames boatCells loads spoons spoonsLeft depths tried found x1 x2) (cwV 2 hts gl_X11_meet rfl rfl rfl (by decide +kernel) ⟨(Nat.le_of_ble_eq_true rfl), (Nat.le_of_ble_eq_true rfl)⟩) (pre_PV hK hP [0, 1, 2] rfl (ci := 11) (q0 := 0) rfl rfl) rfl rfl hl.1 rfl (lv_room (Nat.le_of_ble_eq_true rfl)) dL_law_892 ⟨(Nat.le_of_ble_eq_true rfl), (Nat.le_of_ble_eq_true rfl)⟩) (fun r1 p2 => ?_)
  subst p2
  refine lv_aload_n hx hb dL_law_895 rfl (lv_at hl 2 rfl) ?_
  refine lv_aload_n hx hb dL_law_896 rfl (lv_at hl 4 rfl) ?_
  refine lv_iload hx hb dL_law_897 (lv_at hl 0 rfl) ?_
  refine lv_iconst (v := nI 1) hx hb dL_law_899 (by decide) ?_
  refine lv_iadd hx hb dL_law_900 ?_
  refine r_ti (nI 1) (by decide) ?_
  refine r_sld hx hb hX hbl hbA hS 1 (by decide) (by decide) x1 hx1 dL_law_901 ?_
  refine lv_aload_n hx hb dL_law_902 rfl (lv_at hl 4 rfl) ?_
  refine lv_iload hx hb dL_law_903 (lv_at hl 0 rfl) ?_
  refine lv_iconst (v := nI 2) hx hb dL_law_905 (by decide) ?_
  refine lv_iadd hx hb dL_law_906 ?_
  refine r_ti (nI 2) (by decide) ?_
  refine r_sld hx hb hX hbl hbA hS 2 (by decide) (by decide) x2 hx2 dL_law_907 ?_
  refine r_call_i (wr := [(t, .inr (11, [.ref reader, .int (nI 0), .int (nI 0), .ref sea, .ref spareSea, .ref seaText, .ref book, .ref sentence, .ref spareSentence, .ref route, .ref meeting, .ref sighting, .ref draws, .ref history, .ref images, .ref chartBytes, .int (nI 0), .int (-1 : Int32)])), (sea, .inr (7, [.int (nI 4), .int (nI 4), .int (nI 10), .int (nI 1), .int (nI 3), .int (nI 0), .int (nI 0), .int (nI 0), .int (nI 0), .int (nI 0), .ref thickness, .ref lumpNames, .ref lumpCells, .ref boatNames, .ref boatCells, .ref loads, .ref spoons, .ref spoonsLeft, .ref depths])), (meeting, .inr (4, [.ref tried, .ref found, .int (nI 0)]))]) (va_runV (As := [.int x1, .int x2]) (rest := [.int (-1 : Int32)]) ⟨hx, hb, hml, hown, hts⟩ (c_m_meet l dC dI ky H.size o ktape know kread kkept ksnaps kaside kname kreadName kkeptName kisKept konces kpoured kfar ksides klines kmet ksunk ktrying ktext kline kwritten knode knowG x1 x2 hN) (cwV 2 hts gl_X12_meet rfl rfl rfl (by decide +kernel) ⟨(Nat.le_of_ble_eq_true rfl), (Nat.le_of_ble_eq_true rfl)⟩) (pre_UV hK hP hD [3, 4] (by decide) rfl (ci := 12) (q0 := 3) rfl rfl) rfl rfl hl.1 rfl (lv_room (Nat.le_of_ble_eq_true rfl)) dL_law_908 ⟨(Nat.le_of_ble_eq_true rfl), (Nat.le_of_ble_eq_true rfl)⟩) hP hD hS hA [3, 4] [0, 1, 2] rfl rfl (by decide) (by decide) (fun r5 u3 H locs p4 hP hD hS => ?_)
  try dsimp only at p4
  have p6 := p4
  refine W.widen (k := 172) (n := 6147) (Nat.le_of_ble_eq_true rfl) (Nat.le_of_ble_eq_true rfl) ?_
  have hP : va_P (dC, dI) vwCl [(t, .inr (11, [.ref reader, .int (nI 0), .int (nI 0), .ref sea, .ref spareSea, .ref seaText, .ref book, .ref sentence, .ref spareSentence, .ref route, .ref meeting, .ref sighting, .ref draws, .ref history, .ref images, .ref chartBytes, .int (nI 0), .int (-1 : Int32)])), (sea, .inr (7, [.int (nI 4), .int (nI 4), .int (nI 10), .int (nI 1), .int (nI 3), .int (nI 0), .int (nI 0), .int (nI 0), .int (nI 0), .int (nI 0), .ref thickness, .ref lumpNames, .ref lumpCells, .ref boatNames, .ref boatCells, .ref loads, .ref spoons, .ref spoonsLeft, .ref depths])), (meeting, .inr (4, [.ref tried, .ref found, .int (nI 0)]))] H := hP
  have hD : va_D A [(t, .inr (11, [.ref reader, .int (nI 0), .int (nI 0), .ref sea, .ref spareSea, .ref seaText, .ref book, .ref sentence, .ref spareSentence, .ref route, .ref meeting, .ref sighting, .ref draws, .ref history, .ref images, .ref chartBytes, .int (nI 0), .int (-1 : Int32)])), (sea, .inr (7, [.int (nI 4), .int (nI 4), .int (nI 10), .int (nI 1), .int (nI 3), .int (nI 0), .int (nI 0), .int (nI 0), .int (nI 0), .int (nI 0), .ref thickness, .ref lumpNames, .ref lumpCells, .ref boatNames, .ref boatCells, .ref loads, .ref spoons, .ref spoonsLeft, .ref depths])), (meeting, .inr (4, [.ref tried, .ref found, .int (nI 0)]))] := hD
  subst p6
  refine lv_icmp_eq (tgt := 1434) hx hb dL_law_911 (by decide) (fun c7 => ?_) (fun c7 => absurd (by decide) c7)
  refine lv_iinc (v := nI 6) (lv' := [(4, .int (nI 6)), (3, .ref out), (2, .ref o), (1, .ref t), (0, .ref b)]) hx hb dL_law_1434 hl (k := 0) rfl (by decide) (by decide) rfl (fun ls hl => ?_)
  refine lv_goto (tgt := 23) hx hb dL_law_1437 (by decide) ?_
  refine lv_iload hx hb dL_law_23 (lv_at hl 0 rfl) ?_
  refine lv_aload_n hx hb dL_law_25 rfl (lv_at hl 4 rfl) ?_
  refine va_slen hx hb hX hbl hbA hS dL_law_26 ?_
  refine r_ti (nI 6) rfl ?_
  refine lv_bipush (v := nI 6) hx hb dL_law_27 (by decide) ?_
  refine lv_isub hx hb dL_law_29 ?_
  refine r_ti (nI 0) (by decide) ?_
  refine lv_icmp_gt (tgt := 1440) hx hb dL_law_30 (by decide) (fun c8 => ?_) (fun c8 => absurd (by decide) c8)
  exact kx H locs ls hS
set_option maxHeartbeats 4000000 in
set_option maxRecDepth 100000 in
theorem law_21 {p : Program} {l : Launch} {e : Env} {s : State} {m : MethodId} {args : Array Value} {below : List Frame} {meth : Method} {c : Code} {Q : State → Prop} {dC : Nat → ClassId} {dI : Nat → Nat → Nat} {ky : Nat → ClassId} {A : Nat → Prop} {b : Nat} {xs : Nat → Int32} (hx : p.tables.exec = Jvm.exec) (hb : c.code = cL_law) (hml : c.maxLocals = 7) (hown : s.vm.findClass RL = some m.cls) (hts : ∀ w ∈ lw_tbl, w.before args s = true) (hK : Kk dC dI ky s) (hA : ∀ q, s.heap.size ≤ q → A q) (hX : va_X b 6 xs s s.heap) (hbl : b < s.heap.size) (hbA : ¬ A b) (reader : Nat) (sea : Nat) (spareSea : Nat) (seaText : Nat) (book : Nat) (sentence : Nat) (spareSentence : Nat) (route : Nat) (meeting : Nat) (sighting : Nat) (draws : Nat) (history : Nat) (images : Nat) (chartBytes : Nat) (tried : Nat) (found : Nat) (ktape : Nat) (know : Nat) (kread : Nat) (kkept : Nat) (ksnaps : Nat) (kaside : Nat) (kname : Nat) (kreadName : Nat) (kkeptName : Nat) (kisKept : Nat) (konces : Nat) (kpoured : Nat) (kfar : Nat) (ksides : Nat) (klines : Nat) (kmet : Nat) (ksunk : Nat) (ktrying : Nat) (ktext : Nat) (kline : Nat) (kwritten : Nat) (knode : Nat) (t : Nat) (o : Nat) (out : Nat)  (x1 x2 x3 x4 x5 : Int32) (hx1 : xs 1 = x1) (hx2 : xs 2 = x2) (hx3 : xs 3 = x3) (hx4 : xs 4 = x4) (hx5 : xs 5 = x5) (kx : ∀ (H : Heap) (locs : List Loc) (ls : Array Slot), va_S A s.heap H locs → W p l e room_1 s m args below meth c H locs 172 6147 Q (F0 m 1440 ls [])) : ∀ (H : Heap) (locs : List Loc) (ls : Array Slot), va_P (dC, dI) vwCl [(t, .inr (11, [.ref reader, .int (nI 0), .int (nI 0), .ref sea, .ref spareSea, .ref seaText, .ref book, .ref sentence, .ref spareSentence, .ref route, .ref meeting, .ref sighting, .ref draws, .ref history, .ref images, .ref chartBytes, .int (nI 0), .int (-1 : Int32)])), (meeting, .inr (4, [.ref tried, .ref found, .int (nI 0)])), (o, .inr (12, [.int (nI 0), .ref ktape, .int (nI 0), .int (nI 0), .int (nI 0), .int (nI 0), .int (nI 0), .int (nI 0), .int (nI 0), .int (nI 0), .int (nI 0), .int (nI 0), .long 0, .int (nI 0), .ref know, .ref kread, .ref kkept, .ref ksnaps, .ref kaside, .ref kname, .ref kreadName, .ref kkeptName, .ref kisKept, .ref konces, .int (nI 0), .int (nI 0), .ref kpoured, .ref kfar, .ref ksides, .int (nI 0), .int (-1 : Int32), .int (nI 0), .ref klines, .ref kmet, .int (nI 0), .ref ksunk, .ref ktrying, .int (nI 0), .int (-1 : Int32), .int (-1 : Int32), .ref ktext, .int (nI 0), .int (nI 0), .ref kline, .ref kwritten, .int (nI 0), .int (nI 0), .ref knode, .int (nI 0), .int (nI 0), .int (nI 0), .int (nI 0)]))] H → va_D A [(t, .inr (11, [.ref reader, .int (nI 0), .int (nI 0), .ref sea, .ref spareSea, .ref seaText, .ref book, .ref sentence, .ref spareSentence, .ref route, .ref meeting, .ref sighting, .ref draws, .ref history, .ref images, .ref chartBytes, .int (nI 0), .int (-1 : Int32)])), (meeting, .inr (4, [.ref tried, .ref found, .int (nI 0)])), (o, .inr (12, [.int (nI 0), .ref ktape, .int (nI 0), .int (nI 0), .int (nI 0), .int (nI 0), .int (nI 0), .int (nI 0), .int (nI 0), .int (nI 0), .int (nI 0), .int (nI 0), .long 0, .int (nI 0), .ref know, .ref kread, .ref kkept, .ref ksnaps, .ref kaside, .ref kname, .ref kreadName, .ref kkeptName, .ref kisKept, .ref konces, .int (nI 0), .int (nI 0), .ref kpoured, .ref kfar, .ref ksides, .int (nI 0), .int (-1 : Int32), .int (nI 0), .ref klines, .ref kmet, .int (nI 0), .ref ksunk, .ref ktrying, .int (nI 0), .int (-1 : Int32), .int (-1 : Int32), .ref ktext, .int (nI 0), .int (nI 0), .ref kline, .ref kwritten, .int (nI 0), .int (nI 0), .ref knode, .int (nI 0), .int (nI 0), .int (nI 0), .int (nI 0)]))] → va_S A s.heap H locs → lv_has ls 7 [(4, .int (nI 0)), (3, .ref out), (2, .ref o), (1, .ref t), (0, .ref b)] → W p l e room_1 s m args below meth c H locs 172 6147 Q (F0 m 916 ls []) := by
  intro H locs ls hP hD hS hl
  refine lv_aload_n hx hb dL_law_916 rfl (lv_at hl 3 rfl) ?_
  refine lv_aload_n hx hb dL_law_917 rfl (lv_at hl 4 rfl) ?_
  refine lv_iload hx hb dL_law_918 (lv_at hl 0 rfl) ?_
  refine lv_iconst (v := nI 1) hx hb dL_law_920 (by decide) ?_
  refine lv_iadd hx hb dL_law_921 ?_
  refine r_ti (nI 1) (by decide) ?_
  refine r_sld hx hb hX hbl hbA hS 1 (by decide) (by decide) x1 hx1 dL_law_922 ?_
  refine lv_aload_n hx hb dL_law_923 rfl (lv_at hl 4 rfl) ?_
  refine lv_iload hx hb dL_law_924 (lv_at hl 0 rfl) ?_
  refine lv_iconst (v := nI 2) hx hb dL_law_926 (by decide) ?_
  refine lv_iadd hx hb dL_law_927 ?_
  refine r_ti (nI 2) (by decide) ?_
  refine r_sld hx hb hX hbl hbA hS 2 (by decide) (by decide) x2 hx2 dL_law_928 ?_
  refine vp_callSi (W.runV (As := [.int x1, .int x2]) (rest := []) ⟨hx, hb, hml, hown, hts⟩ (c_meetAt l dC dI ky t reader sea spareSea seaText book sentence spareSentence route meeting sighting draws history images chartBytes tried found x1 x2) (cwV 2 hts gl_X11_meetAt rfl rfl rfl (by decide +kernel) ⟨(Nat.le_of_ble_eq_true rfl), (Nat.le_of_ble_eq_true rfl)⟩) (pre_PV hK hP [0, 1] rfl (ci := 11) (q0 := 0) rfl rfl) rfl rfl hl.1 rfl (lv_room (Nat.le_of_ble_eq_true rfl)) dL_law_929 ⟨(Nat.le_of_ble_eq_true rfl), (Nat.le_of_ble_eq_true rfl)⟩) (fun r1 p2 => ?_)
  subst p2
  refine lv_aload_n hx hb dL_law_932 rfl (lv_at hl 2 rfl) ?_
  refine lv_aload_n hx hb dL_law_933 rfl (lv_at hl 4 rfl) ?_
  refine lv_iload hx hb dL_law_934 (lv_at hl 0 rfl) ?_
  refine lv_iconst (v := nI 1) hx hb dL_law_936 (by decide) ?_
  refine lv_iadd hx hb dL_law_937 ?_
  refine r_ti (nI 1) (by decide) ?_
  refine r_sld hx hb hX hbl hbA hS 1 (by decide) (by decide) x1 hx1 dL_law_938 ?_
  refine lv_aload_n hx hb dL_law_939 rfl (lv_at hl 4 rfl) ?_
  refine lv_iload hx hb dL_law_940 (lv_at hl 0 rfl) ?_
  refine lv_iconst (v := nI 2) hx hb dL_law_942 (by decide) ?_
  refine lv_iadd hx hb dL_law_943 ?_
  refine r_ti (nI 2) (by decide) ?_
  refine r_sld hx hb hX hbl hbA hS 2 (by decide) (by decide) x2 hx2 dL_law_944 ?_
  refine r_call_i (wr := [(t, .inr (11, [.ref reader, .int (nI 0), .int (nI 0), .ref sea, .ref spareSea, .ref seaText, .ref book, .ref sentence, .ref spareSentence, .ref route, .ref meeting, .ref sighting, .ref draws, .ref history, .ref images, .ref chartBytes, .int (nI 0), .int (-1 : Int32)])), (meeting, .inr (4, [.ref tried, .ref found, .int (nI 0)]))]) (va_runV (As := [.int x1, .int x2]) (rest := [.int (-1 : Int32)]) ⟨hx, hb, hml, hown, hts⟩ (c_m_meetAt l dC dI ky H.size o ktape know kread kkept ksnaps kaside kname kreadName kkeptName kisKept konces kpoured kfar ksides klines kmet ksunk ktrying ktext kline kwritten knode x1 x2) (cwV 2 hts gl_X12_meetAt rfl rfl rfl (by decide +kernel) ⟨(Nat.le_of_ble_eq_true rfl), (Nat.le_of_ble_eq_true rfl)⟩) (pre_UV hK hP hD [2] (by decide) rfl (ci := 12) (q0 := 2) rfl rfl) rfl rfl hl.1 rfl (lv_room (Nat.le_of_ble_eq_true rfl)) dL_law_945 ⟨(Nat.le_of_ble_eq_true rfl), (Nat.le_of_ble_eq_true rfl)⟩) hP hD hS hA [2] [0, 1] rfl rfl (by decide) (by decide) (fun r5 u3 H locs p4 hP hD hS => ?_)
  try dsimp only at p4
  have p6 := p4
  refine W.widen (k := 172) (n := 6147) (Nat.le_of_ble_eq_true rfl) (Nat.le_of_ble_eq_true rfl) ?_
  have hP : va_P (dC, dI) vwCl [(t, .inr (11, [.ref reader, .int (nI 0), .int (nI 0), .ref sea, .ref spareSea, .ref seaText, .ref book, .ref sentence, .ref spareSentence, .ref route, .ref meeting, .ref sighting, .ref draws, .ref history, .ref images, .ref chartBytes, .int (nI 0), .int (-1 : Int32)])), (meeting, .inr (4, [.ref tried, .ref found, .int (nI 0)]))] H := hP
  have hD : va_D A [(t, .inr (11, [.ref reader, .int (nI 0), .int (nI 0), .ref sea, .ref spareSea, .ref seaText, .ref book, .ref sentence, .ref spareSentence, .ref route, .ref meeting, .ref sighting, .ref draws, .ref history, .ref images, .ref chartBytes, .int (nI 0), .int (-1 : Int32)])), (meeting, .inr (4, [.ref tried, .ref found, .int (nI 0)]))] := hD
  subst p6
  refine lv_icmp_eq (tgt := 1434) hx hb dL_law_948 (by decide) (fun c7 => ?_) (fun c7 => absurd (by decide) c7)
  refine lv_iinc (v := nI 6) (lv' := [(4, .int (nI 6)), (3, .ref out), (2, .ref o), (1, .ref t), (0, .ref b)]) hx hb dL_law_1434 hl (k := 0) rfl (by decide) (by decide) rfl (fun ls hl => ?_)
  refine lv_goto (tgt := 23) hx hb dL_law_1437 (by decide) ?_
  refine lv_iload hx hb dL_law_23 (lv_at hl 0 rfl) ?_
  refine lv_aload_n hx hb dL_law_25 rfl (lv_at hl 4 rfl) ?_
  refine va_slen hx hb hX hbl hbA hS dL_law_26 ?_
  refine r_ti (nI 6) rfl ?_
  refine lv_bipush (v := nI 6) hx hb dL_law_27 (by decide) ?_
  refine lv_isub hx hb dL_law_29 ?_
  refine r_ti (nI 0) (by decide) ?_
  refine lv_icmp_gt (tgt := 1440) hx hb dL_law_30 (by decide) (fun c8 => ?_) (fun c8 => absurd (by decide) c8)
  exact kx H locs ls hS
set_option maxHeartbeats 4000000 in
set_option maxRecDepth 100000 in
theorem law_22 {p : Program} {l : Launch} {e : Env} {s : State} {m : MethodId} {args : Array Value} {below : List Frame} {meth : Method} {c : Code} {Q : State → Prop} {dC : Nat → ClassId} {dI : Nat → Nat → Nat} {ky : Nat → ClassId} {A : Nat → Prop} {b : Nat} {xs : Nat → Int32} (hx : p.tables.exec = Jvm.exec) (hb : c.code = cL_law) (hml : c.maxLocals = 7) (hown : s.vm.findClass RL = some m.cls) (hts : ∀ w ∈ lw_tbl, w.before args s = true) (hK : Kk dC dI ky s) (hA : ∀ q, s.heap.size ≤ q → A q) (hX : va_X b 6 xs s s.heap) (hbl : b < s.heap.size) (hbA : ¬ A b) (reader : Nat) (sea : Nat) (spareSea : Nat) (seaText : Nat) (book : Nat) (sentence : Nat) (spareSentence : Nat) (route : Nat) (meeting : Nat) (sighting : Nat) (draws : Nat) (history : Nat) (images : Nat) (chartBytes : Nat) (tape : Nat) (ktape : Nat) (know : Nat) (kread : Nat) (kkept : Nat) (ksnaps : Nat) (kaside : Nat) (kname : Nat) (kreadName : Nat) (kkeptName : Nat) (kisKept : Nat) (konces : Nat) (kpoured : Nat) (kfar : Nat) (ksides : Nat) (klines : Nat) (kmet : Nat) (ksunk : Nat) (ktrying : Nat) (ktext : Nat) (kline : Nat) (kwritten : Nat) (knode : Nat) (t : Nat) (o : Nat) (out : Nat)  (x1 x2 x3 x4 x5 : Int32) (hx1 : xs 1 = x1) (hx2 : xs 2 = x2) (hx3 : xs 3 = x3) (hx4 : xs 4 = x4) (hx5 : xs 5 = x5) (kx : ∀ (H : Heap) (locs : List Loc) (ls : Array Slot), va_S A s.heap H locs → W p l e room_1 s m args below meth c H locs 172 6147 Q (F0 m 1440 ls [])) : ∀ (H : Heap) (locs : List Loc) (ls : Array Slot), va_P (dC, dI) vwCl [(t, .inr (11, [.ref reader, .int (nI 0), .int (nI 0), .ref sea, .ref spareSea, .ref seaText, .ref book, .ref sentence, .ref spareSentence, .ref route, .ref meeting, .ref sighting, .ref draws, .ref history, .ref images, .ref chartBytes, .int (nI 0), .int (-1 : Int32)])), (reader, .inr (5, [.ref tape, .int (nI 0), .int (nI 0), .int (nI 0), .int (nI 0), .int (nI 0), .int (nI 0), .int (nI 0), .long 0, .int (nI 0), .int (nI 0)])), (sighting, .inr (10, [.long 0, .int (-1 : Int32)])), (o, .inr (12, [.int (nI 0), .ref ktape, .int (nI 0), .int (nI 0), .int (nI 0), .int (nI 0), .int (nI 0), .int (nI 0), .int (nI 0), .int (nI 0), .int (nI 0), .int (nI 0), .long 0, .int (nI 0), .ref know, .ref kread, .ref kkept, .ref ksnaps, .ref kaside, .ref kname, .ref kreadName, .ref kkeptName, .ref kisKept, .ref konces, .int (nI 0), .int (nI 0), .ref kpoured, .ref kfar, .ref ksides, .int (nI 0), .int (-1 : Int32), .int (nI 0), .ref klines, .ref kmet, .int (nI 0), .ref ksunk, .ref ktrying, .int (nI 0), .int (-1 : Int32), .int (-1 : Int32), .ref ktext, .int (nI 0), .int (nI 0), .ref kline, .ref kwritten, .int (nI 0), .int (nI 0), .ref knode, .int (nI 0), .int (nI 0), .int (nI 0), .int (nI 0)]))] H → va_D A [(t, .inr (11, [.ref reader, .int (nI 0), .int (nI 0), .ref sea, .ref spareSea, .ref seaText, .ref book, .ref sentence, .ref spareSentence, .ref route, .ref meeting, .ref sighting, .ref draws, .ref history, .ref images, .ref chartBytes, .int (nI 0), .int (-1 : Int32)])), (reader, .inr (5, [.ref tape, .int (nI 0), .int (nI 0), .int (nI 0), .int (nI 0), .int (nI 0), .int (nI 0), .int (nI 0), .long 0, .int (nI 0), .int (nI 0)])), (sighting, .inr (10, [.long 0, .int (-1 : Int32)])), (o, .inr (12, [.int (nI 0), .ref ktape, .int (nI 0), .int (nI 0), .int (nI 0), .int (nI 0), .int (nI 0), .int (nI 0), .int (nI 0), .int (nI 0), .int (nI 0), .int (nI 0), .long 0, .int (nI 0), .ref know, .ref kread, .ref kkept, .ref ksnaps, .ref kaside, .ref kname, .ref kreadName, .ref kkeptName, .ref kisKept, .ref konces, .int (nI 0), .int (nI 0), .ref kpoured, .ref kfar, .ref ksides, .int (nI 0), .int (-1 : Int32), .int (nI 0), .ref klines, .ref kmet, .int (nI 0), .ref ksunk, .ref ktrying, .int (nI 0), .int (-1 : Int32), .int (-1 : Int32), .ref ktext, .int (nI 0), .int (nI 0), .ref kline, .ref kwritten, .int (nI 0), .int (nI 0), .ref knode, .int (nI 0), .int (nI 0), .int (nI 0), .int (nI 0)]))] → va_S A s.heap H locs → lv_has ls 7 [(4, .int (nI 0)), (3, .ref out), (2, .ref o), (1, .ref t), (0, .ref b)] → W p l e room_1 s m args below meth c H locs 172 6147 Q (F0 m 953 ls []) := by
  intro H locs ls hP hD hS hl
  refine lv_aload_n hx hb dL_law_953 rfl (lv_at hl 3 rfl) ?_
  refine r_call_i (wr := [(o, .inr (12, [.int (nI 0), .ref ktape, .int (nI 0), .int (nI 0), .int (nI 0), .int (nI 0), .int (nI 0), .int (nI 0), .int (nI 0), .int (nI 0), .int (nI 0), .int (nI 0), .long 0, .int (nI 0), .ref know, .ref kread, .ref kkept, .ref ksnaps, .ref kaside, .ref kname, .ref kreadName, .ref kkeptName, .ref kisKept, .ref konces, .int (nI 0), .int (nI 0), .ref kpoured, .ref kfar, .ref ksides, .int (nI 0), .int (-1 : Int32), .int (nI 0), .ref klines, .ref kmet, .int (nI 0), .ref ksunk, .ref ktrying, .int (nI 0), .int (-1 : Int32), .int (-1 : Int32), .ref ktext, .int (nI 0), .int (nI 0), .ref kline, .ref kwritten, .int (nI 0), .int (nI 0), .ref knode, .int (nI 0), .int (nI 0), .int (nI 0), .int (nI 0)]))]) (va_runV (As := []) (rest := []) ⟨hx, hb, hml, hown, hts⟩ (c_sunk l dC dI ky H.size t reader sea spareSea seaText book sentence spareSentence route meeting sighting draws history images chartBytes (nI 0) (nI 0) (nI 0) (nI 0) (nI 0) (nI 0) (nI 0) 0 (nI 0) (nI 0) tape) (cwV 0 hts gl_X11_sunk rfl rfl rfl (by decide +kernel) ⟨(Nat.le_of_ble_eq_true rfl), (Nat.le_of_ble_eq_true rfl)⟩) (pre_UV hK hP hD [0, 1, 2] (by decide) rfl (ci := 11) (q0 := 0) rfl rfl) rfl rfl hl.1 rfl (lv_room (Nat.le_of_ble_eq_true rfl)) dL_law_954 ⟨(Nat.le_of_ble_eq_true rfl), (Nat.le_of_ble_eq_true rfl)⟩) hP hD hS hA [0, 1, 2] [3] rfl rfl (by decide) (by decide) (fun r3 u1 H locs p2 hP hD hS => ?_)
  try dsimp only at p2
  have p4 := p2
  refine W.widen (k := 172) (n := 6147) (Nat.le_of_ble_eq_true rfl) (Nat.le_of_ble_eq_true rfl) ?_
  have hP : va_P (dC, dI) vwCl [(o, .inr (12, [.int (nI 0), .ref ktape, .int (nI 0), .int (nI 0), .int (nI 0), .int (nI 0), .int (nI 0), .int (nI 0), .int (nI 0), .int (nI 0), .int (nI 0), .int (nI 0), .long 0, .int (nI 0), .ref know, .ref kread, .ref kkept, .ref ksnaps, .ref kaside, .ref kname, .ref kreadName, .ref kkeptName, .ref kisKept, .ref konces, .int (nI 0), .int (nI 0), .ref kpoured, .ref kfar, .ref ksides, .int (nI 0), .int (-1 : Int32), .int (nI 0), .ref klines, .ref kmet, .int (nI 0), .ref ksunk, .ref ktrying, .int (nI 0), .int (-1 : Int32), .int (-1 : Int32), .ref ktext, .int (nI 0), .int (nI 0), .ref kline, .ref kwritten, .int (nI 0), .int (nI 0), .ref knode, .int (nI 0), .int (nI 0), .int (nI 0), .int (nI 0)]))] H := hP
  have hD : va_D A [(o, .inr (12, [.int (nI 0), .ref ktape, .int (nI 0), .int (nI 0), .int (nI 0), .int (nI 0), .int (nI 0), .int (nI 0), .int (nI 0), .int (nI 0), .int (nI 0), .int (nI 0), .long 0, .int (nI 0), .ref know, .ref kread, .ref kkept, .ref ksnaps, .ref kaside, .ref kname, .ref kreadName, .ref kkeptName, .ref kisKept, .ref konces, .int (nI 0), .int (nI 0), .ref kpoured, .ref kfar, .ref ksides, .int (nI 0), .int (-1 : Int32), .int (nI 0), .ref klines, .ref kmet, .int (nI 0), .ref ksunk, .ref ktrying, .int (nI 0), .int (-1 : Int32), .int (-1 : Int32), .ref ktext, .int (nI 0), .int (nI 0), .ref kline, .ref kwritten, .int (nI 0), .int (nI 0), .ref knode, .int (nI 0), .int (nI 0), .int (nI 0), .int (nI 0)]))] := hD
  subst p4
  refine lv_aload_n hx hb dL_law_957 rfl (lv_at hl 2 rfl) ?_
  refine r_call_i (wr := []) (va_runV (As := []) (rest := [.int (-1 : Int32)]) ⟨hx, hb, hml, hown, hts⟩ (c_m_sunk l dC dI ky H.size o ktape know kread kkept ksnaps kaside kname kreadName kkeptName kisKept konces kpoured kfar ksides klines kmet ksunk ktrying ktext kline kwritten knode) (cwV 0 hts gl_X12_sunk rfl rfl rfl (by decide +kernel) ⟨(Nat.le_of_ble_eq_true rfl), (Nat.le_of_ble_eq_true rfl)⟩) (pre_UV hK hP hD [0] (by decide) rfl (ci := 12) (q0 := 0) rfl rfl) rfl rfl hl.1 rfl (lv_room (Nat.le_of_ble_eq_true rfl)) dL_law_958 ⟨(Nat.le_of_ble_eq_true rfl), (Nat.le_of_ble_eq_true rfl)⟩) hP hD hS hA [0] [] rfl rfl (by decide) (by decide) (fun r7 u5 H locs p6 hP hD hS => ?_)
  try dsimp only at p6
  have p8 := p6
  refine W.widen (k := 172) (n := 6147) (Nat.le_of_ble_eq_true rfl) (Nat.le_of_ble_eq_true rfl) ?_
  have hP : va_P (dC, dI) vwCl [] H := hP
  have hD : va_D A [] := hD
  subst p8
  refine lv_icmp_eq (tgt := 1434) hx hb dL_law_961 (by decide) (fun c9 => ?_) (fun c9 => absurd (by decide) c9)
  refine lv_iinc (v := nI 6) (lv' := [(4, .int (nI 6)), (3, .ref out), (2, .ref o), (1, .ref t), (0, .ref b)]) hx hb dL_law_1434 hl (k := 0) rfl (by decide) (by decide) rfl (fun ls hl => ?_)
  refine lv_goto (tgt := 23) hx hb dL_law_1437 (by decide) ?_
  refine lv_iload hx hb dL_law_23 (lv_at hl 0 rfl) ?_
  refine lv_aload_n hx hb dL_law_25 rfl (lv_at hl 4 rfl) ?_
  refine va_slen hx hb hX hbl hbA hS dL_law_26 ?_
  refine r_ti (nI 6) rfl ?_
  refine lv_bipush (v := nI 6) hx hb dL_law_27 (by decide) ?_
  refine lv_isub hx hb dL_law_29 ?_
  refine r_ti (nI 0) (by decide) ?_
  refine lv_icmp_gt (tgt := 1440) hx hb dL_law_30 (by decide) (fun c10 => ?_) (fun c10 => absurd (by decide) c10)
  exact kx H locs ls hS
set_option maxHeartbeats 4000000 in
set_option maxRecDepth 100000 in
theorem law_23 {p : Program} {l : Launch} {e : Env} {s : State} {m : MethodId} {args : Array Value} {below : List Frame} {meth : Method} {c : Code} {Q : State → Prop} {dC : Nat → ClassId} {dI : Nat → Nat → Nat} {ky : Nat → ClassId} {A : Nat → Prop} {b : Nat} {xs : Nat → Int32} (hx : p.tables.exec = Jvm.exec) (hb : c.code = cL_law) (hml : c.maxLocals = 7) (hown : s.vm.findClass RL = some m.cls) (hts : ∀ w ∈ lw_tbl, w.before args s = true) (hK : Kk dC dI ky s) (hA : ∀ q, s.heap.size ≤ q → A q) (hX : va_X b 6 xs s s.heap) (hbl : b < s.heap.size) (hbA : ¬ A b) (reader : Nat) (sea : Nat) (spareSea : Nat) (seaText : Nat) (book : Nat) (sentence : Nat) (spareSentence : Nat) (route : Nat) (meeting : Nat) (sighting : Nat) (draws : Nat) (history : Nat) (images : Nat) (chartBytes : Nat) (ktape : Nat) (know : Nat) (kread : Nat) (kkept : Nat) (ksnaps : Nat) (kaside : Nat) (kname : Nat) (kreadName : Nat) (kkeptName : Nat) (kisKept : Nat) (konces : Nat) (kpoured : Nat) (kfar : Nat) (ksides : Nat) (klines : Nat) (kmet : Nat) (ksunk : Nat) (ktrying : Nat) (ktext : Nat) (kline : Nat) (kwritten : Nat) (knode : Nat) (t : Nat) (o : Nat) (out : Nat)  (x1 x2 x3 x4 x5 : Int32) (hx1 : xs 1 = x1) (hx2 : xs 2 = x2) (hx3 : xs 3 = x3) (hx4 : xs 4 = x4) (hx5 : xs 5 = x5) (kx : ∀ (H : Heap) (locs : List Loc) (ls : Array Slot), va_S A s.heap H locs → W p l e room_1 s m args below meth c H locs 172 6147 Q (F0 m 1440 ls [])) : ∀ (H : Heap) (locs : List Loc) (ls : Array Slot), va_P (dC, dI) vwCl [(t, .inr (11, [.ref reader, .int (nI 0), .int (nI 0), .ref sea, .ref spareSea, .ref seaText, .ref book, .ref sentence, .ref spareSentence, .ref route, .ref meeting, .ref sighting, .ref draws, .ref history, .ref images, .ref chartBytes, .int (nI 0), .int (-1 : Int32)])), (sighting, .inr (10, [.long 0, .int (-1 : Int32)])), (o, .inr (12, [.int (nI 0), .ref ktape, .int (nI 0), .int (nI 0), .int (nI 0), .int (nI 0), .int (nI 0), .int (nI 0), .int (nI 0), .int (nI 0), .int (nI 0), .int (nI 0), .long 0, .int (nI 0), .ref know, .ref kread, .ref kkept, .ref ksnaps, .ref kaside, .ref kname, .ref kreadName, .ref kkeptName, .ref kisKept, .ref konces, .int (nI 0), .int (nI 0), .ref kpoured, .ref kfar, .ref ksides, .int (nI 0), .int (-1 : Int32), .int (nI 0), .ref klines, .ref kmet, .int (nI 0), .ref ksunk, .ref ktrying, .int (nI 0), .int (-1 : Int32), .int (-1 : Int32), .ref ktext, .int (nI 0), .int (nI 0), .ref kline, .ref kwritten, .int (nI 0), .int (nI 0), .ref knode, .int (nI 0), .int (nI 0), .int (nI 0), .int (nI 0)]))] H → va_D A [(t, .inr (11, [.ref reader, .int (nI 0), .int (nI 0), .ref sea, .ref spareSea, .ref seaText, .ref book, .ref sentence, .ref spareSentence, .ref route, .ref meeting, .ref sighting, .ref draws, .ref history, .ref images, .ref chartBytes, .int (nI 0), .int (-1 : Int32)])), (sighting, .inr (10, [.long 0, .int (-1 : Int32)])), (o, .inr (12, [.int (nI 0), .ref ktape, .int (nI 0), .int (nI 0), .int (nI 0), .int (nI 0), .int (nI 0), .int (nI 0), .int (nI 0), .int (nI 0), .int (nI 0), .int (nI 0), .long 0, .int (nI 0), .ref know, .ref kread, .ref kkept, .ref ksnaps, .ref kaside, .ref kname, .ref kreadName, .ref kkeptName, .ref kisKept, .ref konces, .int (nI 0), .int (nI 0), .ref kpoured, .ref kfar, .ref ksides, .int (nI 0), .int (-1 : Int32), .int (nI 0), .ref klines, .ref kmet, .int (nI 0), .ref ksunk, .ref ktrying, .int (nI 0), .int (-1 : Int32), .int (-1 : Int32), .ref ktext, .int (nI 0), .int (nI 0), .ref kline, .ref kwritten, .int (nI 0), .int (nI 0), .ref knode, .int (nI 0), .int (nI 0), .int (nI 0), .int (nI 0)]))] → va_S A s.heap H locs → lv_has ls 7 [(4, .int (nI 0)), (3, .ref out), (2, .ref o), (1, .ref t), (0, .ref b)] → W p l e room_1 s m args below meth c H locs 172 6147 Q (F0 m 966 ls []) := by
  intro H locs ls hP hD hS hl
  refine lv_aload_n hx hb dL_law_966 rfl (lv_at hl 3 rfl) ?_
  refine lv_aload_n hx hb dL_law_967 rfl (lv_at hl 4 rfl) ?_
  refine lv_iload hx hb dL_law_968 (lv_at hl 0 rfl) ?_
  refine lv_iconst (v := nI 1) hx hb dL_law_970 (by decide) ?_
  refine lv_iadd hx hb dL_law_971 ?_
  refine r_ti (nI 1) (by decide) ?_
  refine r_sld hx hb hX hbl hbA hS 1 (by decide) (by decide) x1 hx1 dL_law_972 ?_
  refine vp_callSi (W.runV (As := [.int x1]) (rest := []) ⟨hx, hb, hml, hown, hts⟩ (c_sunkAt l dC dI ky t reader sea spareSea seaText book sentence spareSentence route meeting sighting draws history images chartBytes x1) (cwV 1 hts gl_X11_sunkAt rfl rfl rfl (by decide +kernel) ⟨(Nat.le_of_ble_eq_true rfl), (Nat.le_of_ble_eq_true rfl)⟩) (pre_PV hK hP [0, 1] rfl (ci := 11) (q0 := 0) rfl rfl) rfl rfl hl.1 rfl (lv_room (Nat.le_of_ble_eq_true rfl)) dL_law_973 ⟨(Nat.le_of_ble_eq_true rfl), (Nat.le_of_ble_eq_true rfl)⟩) (fun r1 p2 => ?_)
  subst p2
  refine lv_aload_n hx hb dL_law_976 rfl (lv_at hl 2 rfl) ?_
  refine lv_aload_n hx hb dL_law_977 rfl (lv_at hl 4 rfl) ?_
  refine lv_iload hx hb dL_law_978 (lv_at hl 0 rfl) ?_
  refine lv_iconst (v := nI 1) hx hb dL_law_980 (by decide) ?_
  refine lv_iadd hx hb dL_law_981 ?_
  refine r_ti (nI 1) (by decide) ?_
  refine r_sld hx hb hX hbl hbA hS 1 (by decide) (by decide) x1 hx1 dL_law_982 ?_
  refine r_call_i (wr := [(t, .inr (11, [.ref reader, .int (nI 0), .int (nI 0), .ref sea, .ref spareSea, .ref seaText, .ref book, .ref sentence, .ref spareSentence, .ref route, .ref meeting, .ref sighting, .ref draws, .ref history, .ref images, .ref chartBytes, .int (nI 0), .int (-1 : Int32)])), (sighting, .inr (10, [.long 0, .int (-1 : Int32)]))]) (va_runV (As := [.int x1]) (rest := [.int (-1 : Int32)]) ⟨hx, hb, hml, hown, hts⟩ (c_m_sunkAt l dC dI ky H.size o ktape know kread kkept ksnaps kaside kname kreadName kkeptName kisKept konces kpoured kfar ksides klines kmet ksunk ktrying ktext kline kwritten knode x1) (cwV 1 hts gl_X12_sunkAt rfl rfl rfl (by decide +kernel) ⟨(Nat.le_of_ble_eq_true rfl), (Nat.le_of_ble_eq_true rfl)⟩) (pre_UV hK hP hD [2] (by decide) rfl (ci := 12) (q0 := 2) rfl rfl) rfl rfl hl.1 rfl (lv_room (Nat.le_of_ble_eq_true rfl)) dL_law_983 ⟨(Nat.le_of_ble_eq_true rfl), (Nat.le_of_ble_eq_true rfl)⟩) hP hD hS hA [2] [0, 1] rfl rfl (by decide) (by decide) (fun r5 u3 H locs p4 hP hD hS => ?_)
  try dsimp only at p4
  have p6 := p4
  refine W.widen (k := 172) (n := 6147) (Nat.le_of_ble_eq_true rfl) (Nat.le_of_ble_eq_true rfl) ?_
  have hP : va_P (dC, dI) vwCl [(t, .inr (11, [.ref reader, .int (nI 0), .int (nI 0), .ref sea, .ref spareSea, .ref seaText, .ref book, .ref sentence, .ref spareSentence, .ref route, .ref meeting, .ref sighting, .ref draws, .ref history, .ref images, .ref chartBytes, .int (nI 0), .int (-1 : Int32)])), (sighting, .inr (10, [.long 0, .int (-1 : Int32)]))] H := hP
  have hD : va_D A [(t, .inr (11, [.ref reader, .int (nI 0), .int (nI 0), .ref sea, .ref spareSea, .ref seaText, .ref book, .ref sentence, .ref spareSentence, .ref route, .ref meeting, .ref sighting, .ref draws, .ref history, .ref images, .ref chartBytes, .int (nI 0), .int (-1 : Int32)])), (sighting, .inr (10, [.long 0, .int (-1 : Int32)]))] := hD
  subst p6
  refine lv_icmp_eq (tgt := 1434) hx hb dL_law_986 (by decide) (fun c7 => ?_) (fun c7 => absurd (by decide) c7)
  refine lv_iinc (v := nI 6) (lv' := [(4, .int (nI 6)), (3, .ref out), (2, .ref o), (1, .ref t), (0, .ref b)]) hx hb dL_law_1434 hl (k := 0) rfl (by decide) (by decide) rfl (fun ls hl => ?_)
  refine lv_goto (tgt := 23) hx hb dL_law_1437 (by decide) ?_
  refine lv_iload hx hb dL_law_23 (lv_at hl 0 rfl) ?_
  refine lv_aload_n hx hb dL_law_25 rfl (lv_at hl 4 rfl) ?_
  refine va_slen hx hb hX hbl hbA hS dL_law_26 ?_
  refine r_ti (nI 6) rfl ?_
  refine lv_bipush (v := nI 6) hx hb dL_law_27 (by decide) ?_
  refine lv_isub hx hb dL_law_29 ?_
  refine r_ti (nI 0) (by decide) ?_
  refine lv_icmp_gt (tgt := 1440) hx hb dL_law_30 (by decide) (fun c8 => ?_) (fun c8 => absurd (by decide) c8)
  exact kx H locs ls hS
set_option maxHeartbeats 4000000 in
set_option maxRecDepth 100000 in
theorem law_24 {p : Program} {l : Launch} {e : Env} {s : State} {m : MethodId} {args : Array Value} {below : List Frame} {meth : Method} {c : Code} {Q : State → Prop} {dC : Nat → ClassId} {dI : Nat → Nat → Nat} {ky : Nat → ClassId} {A : Nat → Prop} {b : Nat} {xs : Nat → Int32} (hx : p.tables.exec = Jvm.exec) (hb : c.code = cL_law) (hml : c.maxLocals = 7) (hown : s.vm.findClass RL = some m.cls) (hts : ∀ w ∈ lw_tbl, w.before args s = true) (hK : Kk dC dI ky s) (hA : ∀ q, s.heap.size ≤ q → A q) (hX : va_X b 6 xs s s.heap) (hbl : b < s.heap.size) (hbA : ¬ A b) (reader : Nat) (sea : Nat) (spareSea : Nat) (seaText : Nat) (book : Nat) (sentence : Nat) (spareSentence : Nat) (route : Nat) (meeting : Nat) (sighting : Nat) (draws : Nat) (history : Nat) (images : Nat) (chartBytes : Nat) (ktape : Nat) (know : Nat) (kread : Nat) (kkept : Nat) (ksnaps : Nat) (kaside : Nat) (kname : Nat) (kreadName : Nat) (kkeptName : Nat) (kisKept : Nat) (konces : Nat) (kpoured : Nat) (kfar : Nat) (ksides : Nat) (klines : Nat) (kmet : Nat) (ksunk : Nat) (ktrying : Nat) (ktext : Nat) (kline : Nat) (kwritten : Nat) (knode : Nat) (t : Nat) (o : Nat) (out : Nat)  (x1 x2 x3 x4 x5 : Int32) (hx1 : xs 1 = x1) (hx2 : xs 2 = x2) (hx3 : xs 3 = x3) (hx4 : xs 4 = x4) (hx5 : xs 5 = x5) (kx : ∀ (H : Heap) (locs : List Loc) (ls : Array Slot), va_S A s.heap H locs → W p l e room_1 s m args below meth c H locs 172 6147 Q (F0 m 1440 ls [])) : ∀ (H : Heap) (locs : List Loc) (ls : Array Slot), va_P (dC, dI) vwCl [(t, .inr (11, [.ref reader, .int (nI 0), .int (nI 0), .ref sea, .ref spareSea, .ref seaText, .ref book, .ref sentence, .ref spareSentence, .ref route, .ref meeting, .ref sighting, .ref draws, .ref history, .ref images, .ref chartBytes, .int (nI 0), .int (-1 : Int32)])), (sighting, .inr (10, [.long 0, .int (-1 : Int32)])), (o, .inr (12, [.int (nI 0), .ref ktape, .int (nI 0), .int (nI 0), .int (nI 0), .int (nI 0), .int (nI 0), .int (nI 0), .int (nI 0), .int (nI 0), .int (nI 0), .int (nI 0), .long 0, .int (nI 0), .ref know, .ref kread, .ref kkept, .ref ksnaps, .ref kaside, .ref kname, .ref kreadName, .ref kkeptName, .ref kisKept, .ref konces, .int (nI 0), .int (nI 0), .ref kpoured, .ref kfar, .ref ksides, .int (nI 0), .int (-1 : Int32), .int (nI 0), .ref klines, .ref kmet, .int (nI 0), .ref ksunk, .ref ktrying, .int (nI 0), .int (-1 : Int32), .int (-1 : Int32), .ref ktext, .int (nI 0), .int (nI 0), .ref kline, .ref kwritten, .int (nI 0), .int (nI 0), .ref knode, .int (nI 0), .int (nI 0), .int (nI 0), .int (nI 0)]))] H → va_D A [(t, .inr (11, [.ref reader, .int (nI 0), .int (nI 0), .ref sea, .ref spareSea, .ref seaText, .ref book, .ref sentence, .ref spareSentence, .ref route, .ref meeting, .ref sighting, .ref draws, .ref history, .ref images, .ref chartBytes, .int (nI 0), .int (-1 : Int32)])), (sighting, .inr (10, [.long 0, .int (-1 : Int32)])), (o, .inr (12, [.int (nI 0), .ref ktape, .int (nI 0), .int (nI 0), .int (nI 0), .int (nI 0), .int (nI 0), .int (nI 0), .int (nI 0), .int (nI 0), .int (nI 0), .int (nI 0), .long 0, .int (nI 0), .ref know, .ref kread, .ref kkept, .ref ksnaps, .ref kaside, .ref kname, .ref kreadName, .ref kkeptName, .ref kisKept, .ref konces, .int (nI 0), .int (nI 0), .ref kpoured, .ref kfar, .ref ksides, .int (nI 0), .int (-1 : Int32), .int (nI 0), .ref klines, .ref kmet, .int (nI 0), .ref ksunk, .ref ktrying, .int (nI 0), .int (-1 : Int32), .int (-1 : Int32), .ref ktext, .int (nI 0), .int (nI 0), .ref kline, .ref kwritten, .int (nI 0), .int (nI 0), .ref knode, .int (nI 0), .int (nI 0), .int (nI 0), .int (nI 0)]))] → va_S A s.heap H locs → lv_has ls 7 [(4, .int (nI 0)), (3, .ref out), (2, .ref o), (1, .ref t), (0, .ref b)] → W p l e room_1 s m args below meth c H locs 172 6147 Q (F0 m 991 ls []) := by
  intro H locs ls hP hD hS hl
  refine lv_aload_n hx hb dL_law_991 rfl (lv_at hl 3 rfl) ?_
  refine vp_callSi (W.runV (As := []) (rest := []) ⟨hx, hb, hml, hown, hts⟩ (c_send l dC dI ky t reader sea spareSea seaText book sentence spareSentence route meeting sighting draws history images chartBytes) (cwV 0 hts gl_X11_send rfl rfl rfl (by decide +kernel) ⟨(Nat.le_of_ble_eq_true rfl), (Nat.le_of_ble_eq_true rfl)⟩) (pre_PV hK hP [0, 1] rfl (ci := 11) (q0 := 0) rfl rfl) rfl rfl hl.1 rfl (lv_room (Nat.le_of_ble_eq_true rfl)) dL_law_992 ⟨(Nat.le_of_ble_eq_true rfl), (Nat.le_of_ble_eq_true rfl)⟩) (fun r1 p2 => ?_)
  subst p2
  refine lv_aload_n hx hb dL_law_995 rfl (lv_at hl 2 rfl) ?_
  refine r_call_i (wr := [(t, .inr (11, [.ref reader, .int (nI 0), .int (nI 0), .ref sea, .ref spareSea, .ref seaText, .ref book, .ref sentence, .ref spareSentence, .ref route, .ref meeting, .ref sighting, .ref draws, .ref history, .ref images, .ref chartBytes, .int (nI 0), .int (-1 : Int32)])), (sighting, .inr (10, [.long 0, .int (-1 : Int32)]))]) (va_runV (As := []) (rest := [.int (-1 : Int32)]) ⟨hx, hb, hml, hown, hts⟩ (c_m_send l dC dI ky H.size o ktape know kread kkept ksnaps kaside kname kreadName kkeptName kisKept konces kpoured kfar ksides klines kmet ksunk ktrying ktext kline kwritten knode) (cwV 0 hts gl_X12_send rfl rfl rfl (by decide +kernel) ⟨(Nat.le_of_ble_eq_true rfl), (Nat.le_of_ble_eq_true rfl)⟩) (pre_UV hK hP hD [2] (by decide) rfl (ci := 12) (q0 := 2) rfl rfl) rfl rfl hl.1 rfl (lv_room (Nat.le_of_ble_eq_true rfl)) dL_law_996 ⟨(Nat.le_of_ble_eq_true rfl), (Nat.le_of_ble_eq_true rfl)⟩) hP hD hS hA [2] [0, 1] rfl rfl (by decide) (by decide) (fun r5 u3 H locs p4 hP hD hS => ?_)
  try dsimp only at p4
  have p6 := p4
  refine W.widen (k := 172) (n := 6147) (Nat.le_of_ble_eq_true rfl) (Nat.le_of_ble_eq_true rfl) ?_
  have hP : va_P (dC, dI) vwCl [(t, .inr (11, [.ref reader, .int (nI 0), .int (nI 0), .ref sea, .ref spareSea, .ref seaText, .ref book, .ref sentence, .ref spareSentence, .ref route, .ref meeting, .ref sighting, .ref draws, .ref history, .ref images, .ref chartBytes, .int (nI 0), .int (-1 : Int32)])), (sighting, .inr (10, [.long 0, .int (-1 : Int32)]))] H := hP
  have hD : va_D A [(t, .inr (11, [.ref reader, .int (nI 0), .int (nI 0), .ref sea, .ref spareSea, .ref seaText, .ref book, .ref sentence, .ref spareSentence, .ref route, .ref meeting, .ref sighting, .ref draws, .ref history, .ref images, .ref chartBytes, .int (nI 0), .int (-1 : Int32)])), (sighting, .inr (10, [.long 0, .int (-1 : Int32)]))] := hD
  subst p6
  refine lv_icmp_eq (tgt := 1434) hx hb dL_law_999 (by decide) (fun c7 => ?_) (fun c7 => absurd (by decide) c7)
  refine lv_iinc (v := nI 6) (lv' := [(4, .int (nI 6)), (3, .ref out), (2, .ref o), (1, .ref t), (0, .ref b)]) hx hb dL_law_1434 hl (k := 0) rfl (by decide) (by decide) rfl (fun ls hl => ?_)
  refine lv_goto (tgt := 23) hx hb dL_law_1437 (by decide) ?_
  refine lv_iload hx hb dL_law_23 (lv_at hl 0 rfl) ?_
  refine lv_aload_n hx hb dL_law_25 rfl (lv_at hl 4 rfl) ?_
  refine va_slen hx hb hX hbl hbA hS dL_law_26 ?_
  refine r_ti (nI 6) rfl ?_
  refine lv_bipush (v := nI 6) hx hb dL_law_27 (by decide) ?_
  refine lv_isub hx hb dL_law_29 ?_
  refine r_ti (nI 0) (by decide) ?_
  refine lv_icmp_gt (tgt := 1440) hx hb dL_law_30 (by decide) (fun c8 => ?_) (fun c8 => absurd (by decide) c8)
  exact kx H locs ls hS
set_option maxHeartbeats 4000000 in
set_option maxRecDepth 100000 in
theorem law_25 {p : Program} {l : Launch} {e : Env} {s : State} {m : MethodId} {args : Array Value} {below : List Frame} {meth : Method} {c : Code} {Q : State → Prop} {dC : Nat → ClassId} {dI : Nat → Nat → Nat} {ky : Nat → ClassId} {A : Nat → Prop} {b : Nat} {xs : Nat → Int32} (hx : p.tables.exec = Jvm.exec) (hb : c.code = cL_law) (hml : c.maxLocals = 7) (hown : s.vm.findClass RL = some m.cls) (hts : ∀ w ∈ lw_tbl, w.before args s = true) (hK : Kk dC dI ky s) (hA : ∀ q, s.heap.size ≤ q → A q) (hX : va_X b 6 xs s s.heap) (hbl : b < s.heap.size) (hbA : ¬ A b) (reader : Nat) (sea : Nat) (spareSea : Nat) (seaText : Nat) (book : Nat) (sentence : Nat) (spareSentence : Nat) (route : Nat) (meeting : Nat) (sighting : Nat) (draws : Nat) (history : Nat) (images : Nat) (chartBytes : Nat) (thickness : Nat) (lumpNames : Nat) (lumpCells : Nat) (boatNames : Nat) (boatCells : Nat) (loads : Nat) (spoons : Nat) (spoonsLeft : Nat) (depths : Nat) (ktape : Nat) (know : Nat) (kread : Nat) (kkept : Nat) (ksnaps : Nat) (kaside : Nat) (kname : Nat) (kreadName : Nat) (kkeptName : Nat) (kisKept : Nat) (konces : Nat) (kpoured : Nat) (kfar : Nat) (ksides : Nat) (klines : Nat) (kmet : Nat) (ksunk : Nat) (ktrying : Nat) (ktext : Nat) (kline : Nat) (kwritten : Nat) (knode : Nat) (knowG : Nat → Int32) (t : Nat) (o : Nat) (out : Nat) (hN : NowOk knowG) (x1 x2 x3 x4 x5 : Int32) (hx1 : xs 1 = x1) (hx2 : xs 2 = x2) (hx3 : xs 3 = x3) (hx4 : xs 4 = x4) (hx5 : xs 5 = x5) (kx : ∀ (H : Heap) (locs : List Loc) (ls : Array Slot), va_S A s.heap H locs → W p l e room_1 s m args below meth c H locs 172 6147 Q (F0 m 1440 ls [])) : ∀ (H : Heap) (locs : List Loc) (ls : Array Slot), va_P (dC, dI) vwCl [(t, .inr (11, [.ref reader, .int (nI 0), .int (nI 0), .ref sea, .ref spareSea, .ref seaText, .ref book, .ref sentence, .ref spareSentence, .ref route, .ref meeting, .ref sighting, .ref draws, .ref history, .ref images, .ref chartBytes, .int (nI 0), .int (-1 : Int32)])), (sea, .inr (7, [.int (nI 4), .int (nI 4), .int (nI 10), .int (nI 1), .int (nI 3), .int (nI 0), .int (nI 0), .int (nI 0), .int (nI 0), .int (nI 0), .ref thickness, .ref lumpNames, .ref lumpCells, .ref boatNames, .ref boatCells, .ref loads, .ref spoons, .ref spoonsLeft, .ref depths])), (o, .inr (12, [.int (nI 0), .ref ktape, .int (nI 0), .int (nI 0), .int (nI 0), .int (nI 0), .int (nI 0), .int (nI 0), .int (nI 0), .int (nI 0), .int (nI 0), .int (nI 0), .long 0, .int (nI 0), .ref know, .ref kread, .ref kkept, .ref ksnaps, .ref kaside, .ref kname, .ref kreadName, .ref kkeptName, .ref kisKept, .ref konces, .int (nI 0), .int (nI 0), .ref kpoured, .ref kfar, .ref ksides, .int (nI 0), .int (-1 : Int32), .int (nI 0), .ref klines, .ref kmet, .int (nI 0), .ref ksunk, .ref ktrying, .int (nI 0), .int (-1 : Int32), .int (-1 : Int32), .ref ktext, .int (nI 0), .int (nI 0), .ref kline, .ref kwritten, .int (nI 0), .int (nI 0), .ref knode, .int (nI 0), .int (nI 0), .int (nI 0), .int (nI 0)])), (know, .inl (ky 0, 373, .inl knowG))] H → va_D A [(t, .inr (11, [.ref reader, .int (nI 0), .int (nI 0), .ref sea, .ref spareSea, .ref seaText, .ref book, .ref sentence, .ref spareSentence, .ref route, .ref meeting, .ref sighting, .ref draws, .ref history, .ref images, .ref chartBytes, .int (nI 0), .int (-1 : Int32)])), (sea, .inr (7, [.int (nI 4), .int (nI 4), .int (nI 10), .int (nI 1), .int (nI 3), .int (nI 0), .int (nI 0), .int (nI 0), .int (nI 0), .int (nI 0), .ref thickness, .ref lumpNames, .ref lumpCells, .ref boatNames, .ref boatCells, .ref loads, .ref spoons, .ref spoonsLeft, .ref depths])), (o, .inr (12, [.int (nI 0), .ref ktape, .int (nI 0), .int (nI 0), .int (nI 0), .int (nI 0), .int (nI 0), .int (nI 0), .int (nI 0), .int (nI 0), .int (nI 0), .int (nI 0), .long 0, .int (nI 0), .ref know, .ref kread, .ref kkept, .ref ksnaps, .ref kaside, .ref kname, .ref kreadName, .ref kkeptName, .ref kisKept, .ref konces, .int (nI 0), .int (nI 0), .ref kpoured, .ref kfar, .ref ksides, .int (nI 0), .int (-1 : Int32), .int (nI 0), .ref klines, .ref kmet, .int (nI 0), .ref ksunk, .ref ktrying, .int (nI 0), .int (-1 : Int32), .int (-1 : Int32), .ref ktext, .int (nI 0), .int (nI 0), .ref kline, .ref kwritten, .int (nI 0), .int (nI 0), .ref knode, .int (nI 0), .int (nI 0), .int (nI 0), .int (nI 0)])), (know, .inl (ky 0, 373, .inl knowG))] → va_S A s.heap H locs → lv_has ls 7 [(4, .int (nI 0)), (3, .ref out), (2, .ref o), (1, .ref t), (0, .ref b)] → W p l e room_1 s m args below meth c H locs 172 6147 Q (F0 m 1004 ls []) := by
  intro H locs ls hP hD hS hl
  refine lv_aload_n hx hb dL_law_1004 rfl (lv_at hl 3 rfl) ?_
  refine lv_aload_n hx hb dL_law_1005 rfl (lv_at hl 4 rfl) ?_
  refine lv_iload hx hb dL_law_1006 (lv_at hl 0 rfl) ?_
  refine lv_iconst (v := nI 1) hx hb dL_law_1008 (by decide) ?_
  refine lv_iadd hx hb dL_law_1009 ?_
  refine r_ti (nI 1) (by decide) ?_
  refine r_sld hx hb hX hbl hbA hS 1 (by decide) (by decide) x1 hx1 dL_law_1010 ?_
  refine vp_callSi (W.runV (As := [.int x1]) (rest := []) ⟨hx, hb, hml, hown, hts⟩ (c_land l dC dI ky t reader sea spareSea seaText book sentence spareSentence route meeting sighting draws history images chartBytes thickness lumpNames lumpCells boatNames boatCells loads spoons spoonsLeft depths x1) (cwV 1 hts gl_X11_land rfl rfl rfl (by decide +kernel) ⟨(Nat.le_of_ble_eq_true rfl), (Nat.le_of_ble_eq_true rfl)⟩) (pre_PV hK hP [0, 1] rfl (ci := 11) (q0 := 0) rfl rfl) rfl rfl hl.1 rfl (lv_room (Nat.le_of_ble_eq_true rfl)) dL_law_1011 ⟨(Nat.le_of_ble_eq_true rfl), (Nat.le_of_ble_eq_true rfl)⟩) (fun r1 p2 => ?_)
  subst p2
  refine lv_aload_n hx hb dL_law_1014 rfl (lv_at hl 2 rfl) ?_
  refine lv_aload_n hx hb dL_law_1015 rfl (lv_at hl 4 rfl) ?_
  refine lv_iload hx hb dL_law_1016 (lv_at hl 0 rfl) ?_
  refine lv_iconst (v := nI 1) hx hb dL_law_1018 (by decide) ?_
  refine lv_iadd hx hb dL_law_1019 ?_
  refine r_ti (nI 1) (by decide) ?_
  refine r_sld hx hb hX hbl hbA hS 1 (by decide) (by decide) x1 hx1 dL_law_1020 ?_
  refine r_call_i (wr := [(t, .inr (11, [.ref reader, .int (nI 0), .int (nI 0), .ref sea, .ref spareSea, .ref seaText, .ref book, .ref sentence, .ref spareSentence, .ref route, .ref meeting, .ref sighting, .ref draws, .ref history, .ref images, .ref chartBytes, .int (nI 0), .int (-1 : Int32)])), (sea, .inr (7, [.int (nI 4), .int (nI 4), .int (nI 10), .int (nI 1), .int (nI 3), .int (nI 0), .int (nI 0), .int (nI 0), .int (nI 0), .int (nI 0), .ref thickness, .ref lumpNames, .ref lumpCells, .ref boatNames, .ref boatCells, .ref loads, .ref spoons, .ref spoonsLeft, .ref depths]))]) (va_runV (As := [.int x1]) (rest := [.int (-1 : Int32)]) ⟨hx, hb, hml, hown, hts⟩ (c_m_land l dC dI ky H.size o ktape know kread kkept ksnaps kaside kname kreadName kkeptName kisKept konces kpoured kfar ksides klines kmet ksunk ktrying ktext kline kwritten knode knowG x1 hN) (cwV 1 hts gl_X12_land rfl rfl rfl (by decide +kernel) ⟨(Nat.le_of_ble_eq_true rfl), (Nat.le_of_ble_eq_true rfl)⟩) (pre_UV hK hP hD [2, 3] (by decide) rfl (ci := 12) (q0 := 2) rfl rfl) rfl rfl hl.1 rfl (lv_room (Nat.le_of_ble_eq_true rfl)) dL_law_1021 ⟨(Nat.le_of_ble_eq_true rfl), (Nat.le_of_ble_eq_true rfl)⟩) hP hD hS hA [2, 3] [0, 1] rfl rfl (by decide) (by decide) (fun r5 u3 H locs p4 hP hD hS => ?_)
  try dsimp only at p4
  have p6 := p4
  refine W.widen (k := 172) (n := 6147) (Nat.le_of_ble_eq_true rfl) (Nat.le_of_ble_eq_true rfl) ?_
  have hP : va_P (dC, dI) vwCl [(t, .inr (11, [.ref reader, .int (nI 0), .int (nI 0), .ref sea, .ref spareSea, .ref seaText, .ref book, .ref sentence, .ref spareSentence, .ref route, .ref meeting, .ref sighting, .ref draws, .ref history, .ref images, .ref chartBytes, .int (nI 0), .int (-1 : Int32)])), (sea, .inr (7, [.int (nI 4), .int (nI 4), .int (nI 10), .int (nI 1), .int (nI 3), .int (nI 0), .int (nI 0), .int (nI 0), .int (nI 0), .int (nI 0), .ref thickness, .ref lumpNames, .ref lumpCells, .ref boatNames, .ref boatCells, .ref loads, .ref spoons, .ref spoonsLeft, .ref depths]))] H := hP
  have hD : va_D A [(t, .inr (11, [.ref reader, .int (nI 0), .int (nI 0), .ref sea, .ref spareSea, .ref seaText, .ref book, .ref sentence, .ref spareSentence, .ref route, .ref meeting, .ref sighting, .ref draws, .ref history, .ref images, .ref chartBytes, .int (nI 0), .int (-1 : Int32)])), (sea, .inr (7, [.int (nI 4), .int (nI 4), .int (nI 10), .int (nI 1), .int (nI 3), .int (nI 0), .int (nI 0), .int (nI 0), .int (nI 0), .int (nI 0), .ref thickness, .ref lumpNames, .ref lumpCells, .ref boatNames, .ref boatCells, .ref loads, .ref spoons, .ref spoonsLeft, .ref depths]))] := hD
  subst p6
  refine lv_icmp_eq (tgt := 1434) hx hb dL_law_1024 (by decide) (fun c7 => ?_) (fun c7 => absurd (by decide) c7)
  refine lv_iinc (v := nI 6) (lv' := [(4, .int (nI 6)), (3, .ref out), (2, .ref o), (1, .ref t), (0, .ref b)]) hx hb dL_law_1434 hl (k := 0) rfl (by decide) (by decide) rfl (fun ls hl => ?_)
  refine lv_goto (tgt := 23) hx hb dL_law_1437 (by decide) ?_
  refine lv_iload hx hb dL_law_23 (lv_at hl 0 rfl) ?_
  refine lv_aload_n hx hb dL_law_25 rfl (lv_at hl 4 rfl) ?_
  refine va_slen hx hb hX hbl hbA hS dL_law_26 ?_
  refine r_ti (nI 6) rfl ?_
  refine lv_bipush (v := nI 6) hx hb dL_law_27 (by decide) ?_
  refine lv_isub hx hb dL_law_29 ?_
  refine r_ti (nI 0) (by decide) ?_
  refine lv_icmp_gt (tgt := 1440) hx hb dL_law_30 (by decide) (fun c8 => ?_) (fun c8 => absurd (by decide) c8)
  exact kx H locs ls hS
