theorem dd_La_829 : decode code 829 = .ok (.aload_n 1, 1) := by decide +kernel
theorem dd_La_830 : decode code 830 = .ok (.aload_n 0, 1) := by decide +kernel
theorem dd_La_831 : decode code 831 = .ok (.iload_n 3, 1) := by decide +kernel
theorem dd_La_832 : decode code 832 = .ok (.iconst 1, 1) := by decide +kernel
theorem dd_La_833 : decode code 833 = .ok (.iadd, 1) := by decide +kernel
theorem dd_La_834 : decode code 834 = .ok (.iaload, 1) := by decide +kernel
theorem dd_La_835 : decode code 835 = .ok (.invokevirtual 102, 3) := by decide +kernel
theorem dd_La_838 : decode code 838 = .ok (.aload_n 2, 1) := by decide +kernel
theorem dd_La_839 : decode code 839 = .ok (.aload_n 0, 1) := by decide +kernel
theorem dd_La_840 : decode code 840 = .ok (.iload_n 3, 1) := by decide +kernel
theorem dd_La_841 : decode code 841 = .ok (.iconst 1, 1) := by decide +kernel
theorem dd_La_842 : decode code 842 = .ok (.iadd, 1) := by decide +kernel
theorem dd_La_843 : decode code 843 = .ok (.iaload, 1) := by decide +kernel
theorem dd_La_844 : decode code 844 = .ok (.invokevirtual 105, 3) := by decide +kernel
theorem dd_La_847 : decode code 847 = .ok (.if_icmp .eq 508, 3) := by decide +kernel
theorem dd_La_852 : decode code 852 = .ok (.aload_n 1, 1) := by decide +kernel
theorem dd_La_853 : decode code 853 = .ok (.aload_n 0, 1) := by decide +kernel
theorem dd_La_854 : decode code 854 = .ok (.iload_n 3, 1) := by decide +kernel
theorem dd_La_855 : decode code 855 = .ok (.iconst 1, 1) := by decide +kernel
theorem dd_La_856 : decode code 856 = .ok (.iadd, 1) := by decide +kernel
theorem dd_La_857 : decode code 857 = .ok (.iaload, 1) := by decide +kernel
theorem dd_La_858 : decode code 858 = .ok (.invokevirtual 106, 3) := by decide +kernel
theorem dd_La_861 : decode code 861 = .ok (.aload_n 2, 1) := by decide +kernel
theorem dd_La_862 : decode code 862 = .ok (.aload_n 0, 1) := by decide +kernel
theorem dd_La_863 : decode code 863 = .ok (.iload_n 3, 1) := by decide +kernel
theorem dd_La_864 : decode code 864 = .ok (.iconst 1, 1) := by decide +kernel
theorem dd_La_865 : decode code 865 = .ok (.iadd, 1) := by decide +kernel
theorem dd_La_866 : decode code 866 = .ok (.iaload, 1) := by decide +kernel
theorem dd_La_867 : decode code 867 = .ok (.invokevirtual 109, 3) := by decide +kernel
theorem dd_La_870 : decode code 870 = .ok (.if_icmp .eq 485, 3) := by decide +kernel
theorem dd_La_875 : decode code 875 = .ok (.aload_n 1, 1) := by decide +kernel
theorem dd_La_876 : decode code 876 = .ok (.invokevirtual 110, 3) := by decide +kernel
theorem dd_La_879 : decode code 879 = .ok (.aload_n 2, 1) := by decide +kernel
theorem dd_La_880 : decode code 880 = .ok (.invokevirtual 113, 3) := by decide +kernel
theorem dd_La_883 : decode code 883 = .ok (.if_icmp .eq 472, 3) := by decide +kernel
theorem dd_La_888 : decode code 888 = .ok (.aload_n 1, 1) := by decide +kernel
theorem dd_La_889 : decode code 889 = .ok (.invokevirtual 114, 3) := by decide +kernel
theorem dd_La_892 : decode code 892 = .ok (.aload_n 2, 1) := by decide +kernel
theorem dd_La_893 : decode code 893 = .ok (.invokevirtual 117, 3) := by decide +kernel
theorem dd_La_896 : decode code 896 = .ok (.if_icmp .eq 459, 3) := by decide +kernel
theorem dd_La_901 : decode code 901 = .ok (.aload_n 1, 1) := by decide +kernel
theorem dd_La_902 : decode code 902 = .ok (.aload_n 0, 1) := by decide +kernel
theorem dd_La_903 : decode code 903 = .ok (.iload_n 3, 1) := by decide +kernel
theorem dd_La_904 : decode code 904 = .ok (.iconst 1, 1) := by decide +kernel
theorem dd_La_905 : decode code 905 = .ok (.iadd, 1) := by decide +kernel
theorem dd_La_906 : decode code 906 = .ok (.iaload, 1) := by decide +kernel
theorem dd_La_907 : decode code 907 = .ok (.aload_n 0, 1) := by decide +kernel
theorem dd_La_908 : decode code 908 = .ok (.iload_n 3, 1) := by decide +kernel
theorem dd_La_909 : decode code 909 = .ok (.iconst 2, 1) := by decide +kernel
theorem dd_La_910 : decode code 910 = .ok (.iadd, 1) := by decide +kernel
theorem dd_La_911 : decode code 911 = .ok (.iaload, 1) := by decide +kernel
theorem dd_La_912 : decode code 912 = .ok (.invokevirtual 118, 3) := by decide +kernel
theorem dd_La_915 : decode code 915 = .ok (.aload_n 2, 1) := by decide +kernel
theorem dd_La_916 : decode code 916 = .ok (.aload_n 0, 1) := by decide +kernel
theorem dd_La_917 : decode code 917 = .ok (.iload_n 3, 1) := by decide +kernel
theorem dd_La_918 : decode code 918 = .ok (.iconst 1, 1) := by decide +kernel
theorem dd_La_919 : decode code 919 = .ok (.iadd, 1) := by decide +kernel
theorem dd_La_920 : decode code 920 = .ok (.iaload, 1) := by decide +kernel
theorem dd_La_921 : decode code 921 = .ok (.aload_n 0, 1) := by decide +kernel
theorem dd_La_922 : decode code 922 = .ok (.iload_n 3, 1) := by decide +kernel
theorem dd_La_923 : decode code 923 = .ok (.iconst 2, 1) := by decide +kernel
theorem dd_La_924 : decode code 924 = .ok (.iadd, 1) := by decide +kernel
theorem dd_La_925 : decode code 925 = .ok (.iaload, 1) := by decide +kernel
theorem dd_La_926 : decode code 926 = .ok (.invokevirtual 121, 3) := by decide +kernel
theorem dd_La_929 : decode code 929 = .ok (.if_icmp .eq 426, 3) := by decide +kernel
theorem dd_La_934 : decode code 934 = .ok (.aload_n 1, 1) := by decide +kernel
theorem dd_La_935 : decode code 935 = .ok (.aload_n 0, 1) := by decide +kernel
theorem dd_La_936 : decode code 936 = .ok (.iload_n 3, 1) := by decide +kernel
theorem dd_La_937 : decode code 937 = .ok (.iconst 1, 1) := by decide +kernel
theorem dd_La_938 : decode code 938 = .ok (.iadd, 1) := by decide +kernel
theorem dd_La_939 : decode code 939 = .ok (.iaload, 1) := by decide +kernel
theorem dd_La_940 : decode code 940 = .ok (.aload_n 0, 1) := by decide +kernel
theorem dd_La_941 : decode code 941 = .ok (.iload_n 3, 1) := by decide +kernel
theorem dd_La_942 : decode code 942 = .ok (.iconst 2, 1) := by decide +kernel
theorem dd_La_943 : decode code 943 = .ok (.iadd, 1) := by decide +kernel
theorem dd_La_944 : decode code 944 = .ok (.iaload, 1) := by decide +kernel
theorem dd_La_945 : decode code 945 = .ok (.invokevirtual 122, 3) := by decide +kernel
theorem dd_La_948 : decode code 948 = .ok (.aload_n 2, 1) := by decide +kernel
theorem dd_La_949 : decode code 949 = .ok (.aload_n 0, 1) := by decide +kernel
theorem dd_La_950 : decode code 950 = .ok (.iload_n 3, 1) := by decide +kernel
theorem dd_La_951 : decode code 951 = .ok (.iconst 1, 1) := by decide +kernel
theorem dd_La_952 : decode code 952 = .ok (.iadd, 1) := by decide +kernel
theorem dd_La_953 : decode code 953 = .ok (.iaload, 1) := by decide +kernel
theorem dd_La_954 : decode code 954 = .ok (.aload_n 0, 1) := by decide +kernel
theorem dd_La_955 : decode code 955 = .ok (.iload_n 3, 1) := by decide +kernel
theorem dd_La_956 : decode code 956 = .ok (.iconst 2, 1) := by decide +kernel
theorem dd_La_957 : decode code 957 = .ok (.iadd, 1) := by decide +kernel
theorem dd_La_958 : decode code 958 = .ok (.iaload, 1) := by decide +kernel
theorem dd_La_959 : decode code 959 = .ok (.invokevirtual 125, 3) := by decide +kernel
theorem dd_La_962 : decode code 962 = .ok (.if_icmp .eq 393, 3) := by decide +kernel
theorem dd_La_967 : decode code 967 = .ok (.aload_n 1, 1) := by decide +kernel
theorem dd_La_968 : decode code 968 = .ok (.aload_n 0, 1) := by decide +kernel
theorem dd_La_969 : decode code 969 = .ok (.iload_n 3, 1) := by decide +kernel
theorem dd_La_970 : decode code 970 = .ok (.iconst 1, 1) := by decide +kernel
theorem dd_La_971 : decode code 971 = .ok (.iadd, 1) := by decide +kernel
theorem dd_La_972 : decode code 972 = .ok (.iaload, 1) := by decide +kernel
theorem dd_La_973 : decode code 973 = .ok (.aload_n 0, 1) := by decide +kernel
theorem dd_La_974 : decode code 974 = .ok (.iload_n 3, 1) := by decide +kernel
theorem dd_La_975 : decode code 975 = .ok (.iconst 2, 1) := by decide +kernel
theorem dd_La_976 : decode code 976 = .ok (.iadd, 1) := by decide +kernel
theorem dd_La_977 : decode code 977 = .ok (.iaload, 1) := by decide +kernel
theorem dd_La_978 : decode code 978 = .ok (.aload_n 0, 1) := by decide +kernel
theorem dd_La_979 : decode code 979 = .ok (.iload_n 3, 1) := by decide +kernel
theorem dd_La_980 : decode code 980 = .ok (.iconst 3, 1) := by decide +kernel
theorem dd_La_981 : decode code 981 = .ok (.iadd, 1) := by decide +kernel
theorem dd_La_982 : decode code 982 = .ok (.iaload, 1) := by decide +kernel
theorem dd_La_983 : decode code 983 = .ok (.invokevirtual 126, 3) := by decide +kernel
theorem dd_La_986 : decode code 986 = .ok (.aload_n 2, 1) := by decide +kernel
theorem dd_La_987 : decode code 987 = .ok (.aload_n 0, 1) := by decide +kernel
theorem dd_La_988 : decode code 988 = .ok (.iload_n 3, 1) := by decide +kernel
theorem dd_La_989 : decode code 989 = .ok (.iconst 1, 1) := by decide +kernel
theorem dd_La_990 : decode code 990 = .ok (.iadd, 1) := by decide +kernel
theorem dd_La_991 : decode code 991 = .ok (.iaload, 1) := by decide +kernel
theorem dd_La_992 : decode code 992 = .ok (.aload_n 0, 1) := by decide +kernel
theorem dd_La_993 : decode code 993 = .ok (.iload_n 3, 1) := by decide +kernel
theorem dd_La_994 : decode code 994 = .ok (.iconst 2, 1) := by decide +kernel
theorem dd_La_995 : decode code 995 = .ok (.iadd, 1) := by decide +kernel
theorem dd_La_996 : decode code 996 = .ok (.iaload, 1) := by decide +kernel
theorem dd_La_997 : decode code 997 = .ok (.aload_n 0, 1) := by decide +kernel
theorem dd_La_998 : decode code 998 = .ok (.iload_n 3, 1) := by decide +kernel
theorem dd_La_999 : decode code 999 = .ok (.iconst 3, 1) := by decide +kernel
theorem dd_La_1000 : decode code 1000 = .ok (.iadd, 1) := by decide +kernel
theorem dd_La_1001 : decode code 1001 = .ok (.iaload, 1) := by decide +kernel
theorem dd_La_1002 : decode code 1002 = .ok (.invokevirtual 129, 3) := by decide +kernel
theorem dd_La_1005 : decode code 1005 = .ok (.if_icmp .eq 350, 3) := by decide +kernel
set_option maxRecDepth 100000 in
set_option maxHeartbeats 4000000 in
theorem la_swaps {X : gf_X} {E : gf_E} {Q : State → Prop} {b L : Nat} {xs : Nat → Int32} (C : gf_C X E code 4 "GuardFiguresLaw" room_1) (S : la_S X E b L xs) {μ : gf_M} {i : Int} (hI : gf_I μ) (hi : 0 ≤ i ∧ i + 6 ≤ (L : Int)) (kk : ∀ μ' : gf_M, gf_I μ' → gf_G X E Q 4 la_φ μ' 1355 (la_lv E b i) []) : gf_G X E Q 4 la_φ μ 829 (la_lv E b i) [] := by
  show gf_G X E Q 4 la_φ μ 829 [(3, .int (gf_i i)), (2, .ref (gf_ad E 65)), (1, .ref (gf_ad E 0)), (0, .ref b)] []
  refine gf_aload_n C dd_La_829 2 rfl ?_
  refine gf_aload_n C dd_La_830 3 rfl ?_
  refine gf_iload_n C dd_La_831 0 rfl ?_
  refine gf_iconst C dd_La_832 ?_
  refine gf_iadd C dd_La_833 ?_
  refine gf_sld C S dd_La_834 (by omega) ?_
  refine gf_callVi2 (st := []) (As := [.int (gf_i (gf_sx xs (i + 1)))]) C wk_La_102 gf_cl6 (show gf_is 81 0 0 6 17 by decide) (ct_Fi_swaps (gf_xl X) E (gf_sx xs (i + 1)) μ (gf_sx_R _ _) hI.c7 hI.G hI.s hI.F) rfl ⟨rfl, rfl, Nat.le_of_ble_eq_true rfl, Nat.le_of_ble_eq_true rfl⟩ (Nat.le_of_ble_eq_true rfl) rfl dd_La_835 (fun q1 μ1 hR1 hp1 => ?_)
  refine gf_aload_n C dd_La_838 1 rfl ?_
  refine gf_aload_n C dd_La_839 3 rfl ?_
  refine gf_iload_n C dd_La_840 0 rfl ?_
  refine gf_iconst C dd_La_841 ?_
  refine gf_iadd C dd_La_842 ?_
  refine gf_sld C S dd_La_843 (by omega) ?_
  have v := vw_swaps (i := gf_sx xs (i + 1)) hI hp1
  refine gf_callVi2 (st := [.int (gf_i q1)]) (As := [.int (gf_i (gf_sx xs (i + 1)))]) C wk_La_105 gf_cl7 (show gf_is 81 65 0 7 26 by decide) (ct_Mo_swaps (gf_xl X) E (gf_sx xs (i + 1)) μ1 (gf_sx_R _ _) (hI.ok v)) rfl ⟨rfl, rfl, Nat.le_of_ble_eq_true rfl, Nat.le_of_ble_eq_true rfl⟩ (Nat.le_of_ble_eq_true rfl) rfl dd_La_844 (fun q2 μ2 hR2 hp2 => ?_)
  have hst := st_swaps (i := gf_sx xs (i + 1)) hI hp1 hp2
  exact gf_icmp_eq 1355 C dd_La_847 (by decide) hR1 hR2 (fun _ => kk μ2 hst.2) (fun h => absurd hst.1 h)
set_option maxRecDepth 100000 in
set_option maxHeartbeats 4000000 in
theorem la_jumps {X : gf_X} {E : gf_E} {Q : State → Prop} {b L : Nat} {xs : Nat → Int32} (C : gf_C X E code 4 "GuardFiguresLaw" room_1) (S : la_S X E b L xs) {μ : gf_M} {i : Int} (hI : gf_I μ) (hi : 0 ≤ i ∧ i + 6 ≤ (L : Int)) (kk : ∀ μ' : gf_M, gf_I μ' → gf_G X E Q 4 la_φ μ' 1355 (la_lv E b i) []) : gf_G X E Q 4 la_φ μ 852 (la_lv E b i) [] := by
  show gf_G X E Q 4 la_φ μ 852 [(3, .int (gf_i i)), (2, .ref (gf_ad E 65)), (1, .ref (gf_ad E 0)), (0, .ref b)] []
  refine gf_aload_n C dd_La_852 2 rfl ?_
  refine gf_aload_n C dd_La_853 3 rfl ?_
  refine gf_iload_n C dd_La_854 0 rfl ?_
  refine gf_iconst C dd_La_855 ?_
  refine gf_iadd C dd_La_856 ?_
  refine gf_sld C S dd_La_857 (by omega) ?_
  refine gf_callVi2 (st := []) (As := [.int (gf_i (gf_sx xs (i + 1)))]) C wk_La_106 gf_cl6 (show gf_is 81 0 0 6 17 by decide) (ct_Fi_jumps (gf_xl X) E (gf_sx xs (i + 1)) μ (gf_sx_R _ _) hI.c7 hI.G hI.s hI.F) rfl ⟨rfl, rfl, Nat.le_of_ble_eq_true rfl, Nat.le_of_ble_eq_true rfl⟩ (Nat.le_of_ble_eq_true rfl) rfl dd_La_858 (fun q1 μ1 hR1 hp1 => ?_)
  refine gf_aload_n C dd_La_861 1 rfl ?_
  refine gf_aload_n C dd_La_862 3 rfl ?_
  refine gf_iload_n C dd_La_863 0 rfl ?_
  refine gf_iconst C dd_La_864 ?_
  refine gf_iadd C dd_La_865 ?_
  refine gf_sld C S dd_La_866 (by omega) ?_
  have v := vw_jumps (i := gf_sx xs (i + 1)) hI hp1
  refine gf_callVi2 (st := [.int (gf_i q1)]) (As := [.int (gf_i (gf_sx xs (i + 1)))]) C wk_La_109 gf_cl7 (show gf_is 81 65 0 7 26 by decide) (ct_Mo_jumps (gf_xl X) E (gf_sx xs (i + 1)) μ1 (gf_sx_R _ _) (hI.ok v)) rfl ⟨rfl, rfl, Nat.le_of_ble_eq_true rfl, Nat.le_of_ble_eq_true rfl⟩ (Nat.le_of_ble_eq_true rfl) rfl dd_La_867 (fun q2 μ2 hR2 hp2 => ?_)
  have hst := st_jumps (i := gf_sx xs (i + 1)) hI hp1 hp2
  exact gf_icmp_eq 1355 C dd_La_870 (by decide) hR1 hR2 (fun _ => kk μ2 hst.2) (fun h => absurd hst.1 h)
set_option maxRecDepth 100000 in
set_option maxHeartbeats 4000000 in
theorem la_best {X : gf_X} {E : gf_E} {Q : State → Prop} {b L : Nat} {xs : Nat → Int32} (C : gf_C X E code 4 "GuardFiguresLaw" room_1) (S : la_S X E b L xs) {μ : gf_M} {i : Int} (hI : gf_I μ) (hi : 0 ≤ i ∧ i + 6 ≤ (L : Int)) (kk : ∀ μ' : gf_M, gf_I μ' → gf_G X E Q 4 la_φ μ' 1355 (la_lv E b i) []) : gf_G X E Q 4 la_φ μ 875 (la_lv E b i) [] := by
  show gf_G X E Q 4 la_φ μ 875 [(3, .int (gf_i i)), (2, .ref (gf_ad E 65)), (1, .ref (gf_ad E 0)), (0, .ref b)] []
  refine gf_aload_n C dd_La_875 2 rfl ?_
  refine gf_callVi2 (st := []) (As := []) C wk_La_110 gf_cl6 (show gf_is 81 0 0 6 17 by decide) (ct_Fi_best (gf_xl X) E μ hI.c7 hI.G hI.s hI.F) rfl ⟨rfl, rfl, Nat.le_of_ble_eq_true rfl, Nat.le_of_ble_eq_true rfl⟩ (Nat.le_of_ble_eq_true rfl) rfl dd_La_876 (fun q1 μ1 hR1 hp1 => ?_)
  refine gf_aload_n C dd_La_879 1 rfl ?_
  have v := vw_best  hI hp1
  refine gf_callVi2 (st := [.int (gf_i q1)]) (As := []) C wk_La_113 gf_cl7 (show gf_is 81 65 0 7 26 by decide) (ct_Mo_best (gf_xl X) E μ1 (hI.ok v)) rfl ⟨rfl, rfl, Nat.le_of_ble_eq_true rfl, Nat.le_of_ble_eq_true rfl⟩ (Nat.le_of_ble_eq_true rfl) rfl dd_La_880 (fun q2 μ2 hR2 hp2 => ?_)
  have hst := st_best  hI hp1 hp2
  exact gf_icmp_eq 1355 C dd_La_883 (by decide) hR1 hR2 (fun _ => kk μ2 hst.2) (fun h => absurd hst.1 h)
set_option maxRecDepth 100000 in
set_option maxHeartbeats 4000000 in
theorem la_cover {X : gf_X} {E : gf_E} {Q : State → Prop} {b L : Nat} {xs : Nat → Int32} (C : gf_C X E code 4 "GuardFiguresLaw" room_1) (S : la_S X E b L xs) {μ : gf_M} {i : Int} (hI : gf_I μ) (hi : 0 ≤ i ∧ i + 6 ≤ (L : Int)) (kk : ∀ μ' : gf_M, gf_I μ' → gf_G X E Q 4 la_φ μ' 1355 (la_lv E b i) []) : gf_G X E Q 4 la_φ μ 888 (la_lv E b i) [] := by
  show gf_G X E Q 4 la_φ μ 888 [(3, .int (gf_i i)), (2, .ref (gf_ad E 65)), (1, .ref (gf_ad E 0)), (0, .ref b)] []
  refine gf_aload_n C dd_La_888 2 rfl ?_
  refine gf_callVi2 (st := []) (As := []) C wk_La_114 gf_cl6 (show gf_is 81 0 0 6 17 by decide) (ct_Fi_cover (gf_xl X) E μ hI.c7 hI.G hI.s hI.F) rfl ⟨rfl, rfl, Nat.le_of_ble_eq_true rfl, Nat.le_of_ble_eq_true rfl⟩ (Nat.le_of_ble_eq_true rfl) rfl dd_La_889 (fun q1 μ1 hR1 hp1 => ?_)
  refine gf_aload_n C dd_La_892 1 rfl ?_
  have v := vw_cover  hI hp1
  refine gf_callVi2 (st := [.int (gf_i q1)]) (As := []) C wk_La_117 gf_cl7 (show gf_is 81 65 0 7 26 by decide) (ct_Mo_cover (gf_xl X) E μ1 (hI.ok v)) rfl ⟨rfl, rfl, Nat.le_of_ble_eq_true rfl, Nat.le_of_ble_eq_true rfl⟩ (Nat.le_of_ble_eq_true rfl) rfl dd_La_893 (fun q2 μ2 hR2 hp2 => ?_)
  have hst := st_cover  hI hp1 hp2
  exact gf_icmp_eq 1355 C dd_La_896 (by decide) hR1 hR2 (fun _ => kk μ2 hst.2) (fun h => absurd hst.1 h)
set_option maxRecDepth 100000 in
set_option maxHeartbeats 4000000 in
theorem la_next {X : gf_X} {E : gf_E} {Q : State → Prop} {b L : Nat} {xs : Nat → Int32} (C : gf_C X E code 4 "GuardFiguresLaw" room_1) (S : la_S X E b L xs) {μ : gf_M} {i : Int} (hI : gf_I μ) (hi : 0 ≤ i ∧ i + 6 ≤ (L : Int)) (kk : ∀ μ' : gf_M, gf_I μ' → gf_G X E Q 4 la_φ μ' 1355 (la_lv E b i) []) : gf_G X E Q 4 la_φ μ 901 (la_lv E b i) [] := by
  show gf_G X E Q 4 la_φ μ 901 [(3, .int (gf_i i)), (2, .ref (gf_ad E 65)), (1, .ref (gf_ad E 0)), (0, .ref b)] []
  refine gf_aload_n C dd_La_901 2 rfl ?_
  refine gf_aload_n C dd_La_902 3 rfl ?_
  refine gf_iload_n C dd_La_903 0 rfl ?_
  refine gf_iconst C dd_La_904 ?_
  refine gf_iadd C dd_La_905 ?_
  refine gf_sld C S dd_La_906 (by omega) ?_
  refine gf_aload_n C dd_La_907 3 rfl ?_
  refine gf_iload_n C dd_La_908 0 rfl ?_
  refine gf_iconst C dd_La_909 ?_
  refine gf_iadd C dd_La_910 ?_
  refine gf_sld C S dd_La_911 (by omega) ?_
  refine gf_callVi2 (st := []) (As := [.int (gf_i (gf_sx xs (i + 1))), .int (gf_i (gf_sx xs (i + 2)))]) C wk_La_118 gf_cl6 (show gf_is 81 0 0 6 17 by decide) (ct_Fi_next (gf_xl X) E (gf_sx xs (i + 1)) (gf_sx xs (i + 2)) μ (gf_sx_R _ _) (gf_sx_R _ _) hI.c7 hI.G hI.s hI.F) rfl ⟨rfl, rfl, Nat.le_of_ble_eq_true rfl, Nat.le_of_ble_eq_true rfl⟩ (Nat.le_of_ble_eq_true rfl) rfl dd_La_912 (fun q1 μ1 hR1 hp1 => ?_)
  refine gf_aload_n C dd_La_915 1 rfl ?_
  refine gf_aload_n C dd_La_916 3 rfl ?_
  refine gf_iload_n C dd_La_917 0 rfl ?_
  refine gf_iconst C dd_La_918 ?_
  refine gf_iadd C dd_La_919 ?_
  refine gf_sld C S dd_La_920 (by omega) ?_
  refine gf_aload_n C dd_La_921 3 rfl ?_
  refine gf_iload_n C dd_La_922 0 rfl ?_
  refine gf_iconst C dd_La_923 ?_
  refine gf_iadd C dd_La_924 ?_
  refine gf_sld C S dd_La_925 (by omega) ?_
  have v := vw_next (i := gf_sx xs (i + 1)) (c := gf_sx xs (i + 2)) hI hp1
  refine gf_callVi2 (st := [.int (gf_i q1)]) (As := [.int (gf_i (gf_sx xs (i + 1))), .int (gf_i (gf_sx xs (i + 2)))]) C wk_La_121 gf_cl7 (show gf_is 81 65 0 7 26 by decide) (ct_Mo_next (gf_xl X) E (gf_sx xs (i + 1)) (gf_sx xs (i + 2)) μ1 (gf_sx_R _ _) (gf_sx_R _ _) (hI.ok v)) rfl ⟨rfl, rfl, Nat.le_of_ble_eq_true rfl, Nat.le_of_ble_eq_true rfl⟩ (Nat.le_of_ble_eq_true rfl) rfl dd_La_926 (fun q2 μ2 hR2 hp2 => ?_)
  have hst := st_next (i := gf_sx xs (i + 1)) (c := gf_sx xs (i + 2)) hI hp1 hp2
  exact gf_icmp_eq 1355 C dd_La_929 (by decide) hR1 hR2 (fun _ => kk μ2 hst.2) (fun h => absurd hst.1 h)
set_option maxRecDepth 100000 in
set_option maxHeartbeats 4000000 in
theorem la_near {X : gf_X} {E : gf_E} {Q : State → Prop} {b L : Nat} {xs : Nat → Int32} (C : gf_C X E code 4 "GuardFiguresLaw" room_1) (S : la_S X E b L xs) {μ : gf_M} {i : Int} (hI : gf_I μ) (hi : 0 ≤ i ∧ i + 6 ≤ (L : Int)) (kk : ∀ μ' : gf_M, gf_I μ' → gf_G X E Q 4 la_φ μ' 1355 (la_lv E b i) []) : gf_G X E Q 4 la_φ μ 934 (la_lv E b i) [] := by
  show gf_G X E Q 4 la_φ μ 934 [(3, .int (gf_i i)), (2, .ref (gf_ad E 65)), (1, .ref (gf_ad E 0)), (0, .ref b)] []
  refine gf_aload_n C dd_La_934 2 rfl ?_
  refine gf_aload_n C dd_La_935 3 rfl ?_
  refine gf_iload_n C dd_La_936 0 rfl ?_
  refine gf_iconst C dd_La_937 ?_
  refine gf_iadd C dd_La_938 ?_
  refine gf_sld C S dd_La_939 (by omega) ?_
  refine gf_aload_n C dd_La_940 3 rfl ?_
  refine gf_iload_n C dd_La_941 0 rfl ?_
  refine gf_iconst C dd_La_942 ?_
  refine gf_iadd C dd_La_943 ?_
  refine gf_sld C S dd_La_944 (by omega) ?_
  refine gf_callVi2 (st := []) (As := [.int (gf_i (gf_sx xs (i + 1))), .int (gf_i (gf_sx xs (i + 2)))]) C wk_La_122 gf_cl6 (show gf_is 81 0 0 6 17 by decide) (ct_Fi_near (gf_xl X) E (gf_sx xs (i + 1)) (gf_sx xs (i + 2)) μ (gf_sx_R _ _) (gf_sx_R _ _) hI.c7 hI.G hI.s hI.F) rfl ⟨rfl, rfl, Nat.le_of_ble_eq_true rfl, Nat.le_of_ble_eq_true rfl⟩ (Nat.le_of_ble_eq_true rfl) rfl dd_La_945 (fun q1 μ1 hR1 hp1 => ?_)
  refine gf_aload_n C dd_La_948 1 rfl ?_
  refine gf_aload_n C dd_La_949 3 rfl ?_
  refine gf_iload_n C dd_La_950 0 rfl ?_
  refine gf_iconst C dd_La_951 ?_
  refine gf_iadd C dd_La_952 ?_
  refine gf_sld C S dd_La_953 (by omega) ?_
  refine gf_aload_n C dd_La_954 3 rfl ?_
  refine gf_iload_n C dd_La_955 0 rfl ?_
  refine gf_iconst C dd_La_956 ?_
  refine gf_iadd C dd_La_957 ?_
  refine gf_sld C S dd_La_958 (by omega) ?_
  have v := vw_near (i := gf_sx xs (i + 1)) (c := gf_sx xs (i + 2)) hI hp1
  refine gf_callVi2 (st := [.int (gf_i q1)]) (As := [.int (gf_i (gf_sx xs (i + 1))), .int (gf_i (gf_sx xs (i + 2)))]) C wk_La_125 gf_cl7 (show gf_is 81 65 0 7 26 by decide) (ct_Mo_near (gf_xl X) E (gf_sx xs (i + 1)) (gf_sx xs (i + 2)) μ1 (gf_sx_R _ _) (gf_sx_R _ _) (hI.ok v)) rfl ⟨rfl, rfl, Nat.le_of_ble_eq_true rfl, Nat.le_of_ble_eq_true rfl⟩ (Nat.le_of_ble_eq_true rfl) rfl dd_La_959 (fun q2 μ2 hR2 hp2 => ?_)
  have hst := st_near (i := gf_sx xs (i + 1)) (c := gf_sx xs (i + 2)) hI hp1 hp2
  exact gf_icmp_eq 1355 C dd_La_962 (by decide) hR1 hR2 (fun _ => kk μ2 hst.2) (fun h => absurd hst.1 h)
set_option maxRecDepth 100000 in
set_option maxHeartbeats 4000000 in
theorem la_fills {X : gf_X} {E : gf_E} {Q : State → Prop} {b L : Nat} {xs : Nat → Int32} (C : gf_C X E code 4 "GuardFiguresLaw" room_1) (S : la_S X E b L xs) {μ : gf_M} {i : Int} (hI : gf_I μ) (hi : 0 ≤ i ∧ i + 6 ≤ (L : Int)) (kk : ∀ μ' : gf_M, gf_I μ' → gf_G X E Q 4 la_φ μ' 1355 (la_lv E b i) []) : gf_G X E Q 4 la_φ μ 967 (la_lv E b i) [] := by
  show gf_G X E Q 4 la_φ μ 967 [(3, .int (gf_i i)), (2, .ref (gf_ad E 65)), (1, .ref (gf_ad E 0)), (0, .ref b)] []
  refine gf_aload_n C dd_La_967 2 rfl ?_
  refine gf_aload_n C dd_La_968 3 rfl ?_
  refine gf_iload_n C dd_La_969 0 rfl ?_
  refine gf_iconst C dd_La_970 ?_
  refine gf_iadd C dd_La_971 ?_
  refine gf_sld C S dd_La_972 (by omega) ?_
  refine gf_aload_n C dd_La_973 3 rfl ?_
  refine gf_iload_n C dd_La_974 0 rfl ?_
  refine gf_iconst C dd_La_975 ?_
  refine gf_iadd C dd_La_976 ?_
  refine gf_sld C S dd_La_977 (by omega) ?_
  refine gf_aload_n C dd_La_978 3 rfl ?_
  refine gf_iload_n C dd_La_979 0 rfl ?_
  refine gf_iconst C dd_La_980 ?_
  refine gf_iadd C dd_La_981 ?_
  refine gf_sld C S dd_La_982 (by omega) ?_
  refine gf_callVi2 (st := []) (As := [.int (gf_i (gf_sx xs (i + 1))), .int (gf_i (gf_sx xs (i + 2))), .int (gf_i (gf_sx xs (i + 3)))]) C wk_La_126 gf_cl6 (show gf_is 81 0 0 6 17 by decide) (ct_Fi_fills (gf_xl X) E (gf_sx xs (i + 1)) (gf_sx xs (i + 2)) (gf_sx xs (i + 3)) μ (gf_sx_R _ _) (gf_sx_R _ _) (gf_sx_R _ _) hI.c7 hI.G hI.s hI.F hI.rw) rfl ⟨rfl, rfl, Nat.le_of_ble_eq_true rfl, Nat.le_of_ble_eq_true rfl⟩ (Nat.le_of_ble_eq_true rfl) rfl dd_La_983 (fun q1 μ1 hR1 hp1 => ?_)
  refine gf_aload_n C dd_La_986 1 rfl ?_
  refine gf_aload_n C dd_La_987 3 rfl ?_
  refine gf_iload_n C dd_La_988 0 rfl ?_
  refine gf_iconst C dd_La_989 ?_
  refine gf_iadd C dd_La_990 ?_
  refine gf_sld C S dd_La_991 (by omega) ?_
  refine gf_aload_n C dd_La_992 3 rfl ?_
  refine gf_iload_n C dd_La_993 0 rfl ?_
  refine gf_iconst C dd_La_994 ?_
  refine gf_iadd C dd_La_995 ?_
  refine gf_sld C S dd_La_996 (by omega) ?_
  refine gf_aload_n C dd_La_997 3 rfl ?_
  refine gf_iload_n C dd_La_998 0 rfl ?_
  refine gf_iconst C dd_La_999 ?_
  refine gf_iadd C dd_La_1000 ?_
  refine gf_sld C S dd_La_1001 (by omega) ?_
  have v := vw_fills (i := gf_sx xs (i + 1)) (c := gf_sx xs (i + 2)) (r := gf_sx xs (i + 3)) hI hp1
  refine gf_callVi2 (st := [.int (gf_i q1)]) (As := [.int (gf_i (gf_sx xs (i + 1))), .int (gf_i (gf_sx xs (i + 2))), .int (gf_i (gf_sx xs (i + 3)))]) C wk_La_129 gf_cl7 (show gf_is 81 65 0 7 26 by decide) (ct_Mo_fills (gf_xl X) E (gf_sx xs (i + 1)) (gf_sx xs (i + 2)) (gf_sx xs (i + 3)) μ1 (gf_sx_R _ _) (gf_sx_R _ _) (gf_sx_R _ _) (hI.ok v) (hI.rs v)) rfl ⟨rfl, rfl, Nat.le_of_ble_eq_true rfl, Nat.le_of_ble_eq_true rfl⟩ (Nat.le_of_ble_eq_true rfl) rfl dd_La_1002 (fun q2 μ2 hR2 hp2 => ?_)
  have hst := st_fills (i := gf_sx xs (i + 1)) (c := gf_sx xs (i + 2)) (r := gf_sx xs (i + 3)) hI hp1 hp2
  exact gf_icmp_eq 1355 C dd_La_1005 (by decide) hR1 hR2 (fun _ => kk μ2 hst.2) (fun h => absurd hst.1 h)
