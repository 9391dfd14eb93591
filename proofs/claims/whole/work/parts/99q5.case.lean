theorem dW_law_816 : decode code 816 = .ok (.aload_n 1, 1) := by decide +kernel
theorem dW_law_817 : decode code 817 = .ok (.aload_n 0, 1) := by decide +kernel
theorem dW_law_818 : decode code 818 = .ok (.iload 4, 2) := by decide +kernel
theorem dW_law_820 : decode code 820 = .ok (.iconst 1, 1) := by decide +kernel
theorem dW_law_821 : decode code 821 = .ok (.iadd, 1) := by decide +kernel
theorem dW_law_822 : decode code 822 = .ok (.iaload, 1) := by decide +kernel
theorem dW_law_823 : decode code 823 = .ok (.aload_n 0, 1) := by decide +kernel
theorem dW_law_824 : decode code 824 = .ok (.iload 4, 2) := by decide +kernel
theorem dW_law_826 : decode code 826 = .ok (.iconst 2, 1) := by decide +kernel
theorem dW_law_827 : decode code 827 = .ok (.iadd, 1) := by decide +kernel
theorem dW_law_828 : decode code 828 = .ok (.iaload, 1) := by decide +kernel
theorem dW_law_829 : decode code 829 = .ok (.invokevirtual 118, 3) := by decide +kernel
theorem dW_law_832 : decode code 832 = .ok (.aload_n 2, 1) := by decide +kernel
theorem dW_law_833 : decode code 833 = .ok (.aload_n 0, 1) := by decide +kernel
theorem dW_law_834 : decode code 834 = .ok (.iload 4, 2) := by decide +kernel
theorem dW_law_836 : decode code 836 = .ok (.iconst 1, 1) := by decide +kernel
theorem dW_law_837 : decode code 837 = .ok (.iadd, 1) := by decide +kernel
theorem dW_law_838 : decode code 838 = .ok (.iaload, 1) := by decide +kernel
theorem dW_law_839 : decode code 839 = .ok (.aload_n 0, 1) := by decide +kernel
theorem dW_law_840 : decode code 840 = .ok (.iload 4, 2) := by decide +kernel
theorem dW_law_842 : decode code 842 = .ok (.iconst 2, 1) := by decide +kernel
theorem dW_law_843 : decode code 843 = .ok (.iadd, 1) := by decide +kernel
theorem dW_law_844 : decode code 844 = .ok (.iaload, 1) := by decide +kernel
theorem dW_law_845 : decode code 845 = .ok (.invokevirtual 121, 3) := by decide +kernel
theorem dW_law_848 : decode code 848 = .ok (.if_icmp .eq 804, 3) := by decide +kernel
theorem dW_law_851 : decode code 851 = .ok (.iconst 0, 1) := by decide +kernel
theorem dW_law_852 : decode code 852 = .ok (.ireturn, 1) := by decide +kernel
theorem dW_law_853 : decode code 853 = .ok (.aload_n 1, 1) := by decide +kernel
theorem dW_law_854 : decode code 854 = .ok (.aload_n 0, 1) := by decide +kernel
theorem dW_law_855 : decode code 855 = .ok (.iload 4, 2) := by decide +kernel
theorem dW_law_857 : decode code 857 = .ok (.iconst 1, 1) := by decide +kernel
theorem dW_law_858 : decode code 858 = .ok (.iadd, 1) := by decide +kernel
theorem dW_law_859 : decode code 859 = .ok (.iaload, 1) := by decide +kernel
theorem dW_law_860 : decode code 860 = .ok (.aload_n 0, 1) := by decide +kernel
theorem dW_law_861 : decode code 861 = .ok (.iload 4, 2) := by decide +kernel
theorem dW_law_863 : decode code 863 = .ok (.iconst 2, 1) := by decide +kernel
theorem dW_law_864 : decode code 864 = .ok (.iadd, 1) := by decide +kernel
theorem dW_law_865 : decode code 865 = .ok (.iaload, 1) := by decide +kernel
theorem dW_law_866 : decode code 866 = .ok (.aload_n 0, 1) := by decide +kernel
theorem dW_law_867 : decode code 867 = .ok (.iload 4, 2) := by decide +kernel
theorem dW_law_869 : decode code 869 = .ok (.iconst 3, 1) := by decide +kernel
theorem dW_law_870 : decode code 870 = .ok (.iadd, 1) := by decide +kernel
theorem dW_law_871 : decode code 871 = .ok (.iaload, 1) := by decide +kernel
theorem dW_law_872 : decode code 872 = .ok (.invokevirtual 122, 3) := by decide +kernel
theorem dW_law_875 : decode code 875 = .ok (.aload_n 2, 1) := by decide +kernel
theorem dW_law_876 : decode code 876 = .ok (.aload_n 0, 1) := by decide +kernel
theorem dW_law_877 : decode code 877 = .ok (.iload 4, 2) := by decide +kernel
theorem dW_law_879 : decode code 879 = .ok (.iconst 1, 1) := by decide +kernel
theorem dW_law_880 : decode code 880 = .ok (.iadd, 1) := by decide +kernel
theorem dW_law_881 : decode code 881 = .ok (.iaload, 1) := by decide +kernel
theorem dW_law_882 : decode code 882 = .ok (.aload_n 0, 1) := by decide +kernel
theorem dW_law_883 : decode code 883 = .ok (.iload 4, 2) := by decide +kernel
theorem dW_law_885 : decode code 885 = .ok (.iconst 2, 1) := by decide +kernel
theorem dW_law_886 : decode code 886 = .ok (.iadd, 1) := by decide +kernel
theorem dW_law_887 : decode code 887 = .ok (.iaload, 1) := by decide +kernel
theorem dW_law_888 : decode code 888 = .ok (.aload_n 0, 1) := by decide +kernel
theorem dW_law_889 : decode code 889 = .ok (.iload 4, 2) := by decide +kernel
theorem dW_law_891 : decode code 891 = .ok (.iconst 3, 1) := by decide +kernel
theorem dW_law_892 : decode code 892 = .ok (.iadd, 1) := by decide +kernel
theorem dW_law_893 : decode code 893 = .ok (.iaload, 1) := by decide +kernel
theorem dW_law_894 : decode code 894 = .ok (.invokevirtual 126, 3) := by decide +kernel
theorem dW_law_897 : decode code 897 = .ok (.if_icmp .eq 755, 3) := by decide +kernel
theorem dW_law_900 : decode code 900 = .ok (.iconst 0, 1) := by decide +kernel
theorem dW_law_901 : decode code 901 = .ok (.ireturn, 1) := by decide +kernel
theorem dW_law_902 : decode code 902 = .ok (.aload_n 1, 1) := by decide +kernel
theorem dW_law_903 : decode code 903 = .ok (.aload_n 0, 1) := by decide +kernel
theorem dW_law_904 : decode code 904 = .ok (.iload 4, 2) := by decide +kernel
theorem dW_law_906 : decode code 906 = .ok (.iconst 1, 1) := by decide +kernel
theorem dW_law_907 : decode code 907 = .ok (.iadd, 1) := by decide +kernel
theorem dW_law_908 : decode code 908 = .ok (.iaload, 1) := by decide +kernel
theorem dW_law_909 : decode code 909 = .ok (.aload_n 0, 1) := by decide +kernel
theorem dW_law_910 : decode code 910 = .ok (.iload 4, 2) := by decide +kernel
theorem dW_law_912 : decode code 912 = .ok (.iconst 2, 1) := by decide +kernel
theorem dW_law_913 : decode code 913 = .ok (.iadd, 1) := by decide +kernel
theorem dW_law_914 : decode code 914 = .ok (.iaload, 1) := by decide +kernel
theorem dW_law_915 : decode code 915 = .ok (.aload_n 0, 1) := by decide +kernel
theorem dW_law_916 : decode code 916 = .ok (.iload 4, 2) := by decide +kernel
theorem dW_law_918 : decode code 918 = .ok (.iconst 3, 1) := by decide +kernel
theorem dW_law_919 : decode code 919 = .ok (.iadd, 1) := by decide +kernel
theorem dW_law_920 : decode code 920 = .ok (.iaload, 1) := by decide +kernel
theorem dW_law_921 : decode code 921 = .ok (.invokevirtual 127, 3) := by decide +kernel
theorem dW_law_924 : decode code 924 = .ok (.aload_n 2, 1) := by decide +kernel
theorem dW_law_925 : decode code 925 = .ok (.aload_n 0, 1) := by decide +kernel
theorem dW_law_926 : decode code 926 = .ok (.iload 4, 2) := by decide +kernel
theorem dW_law_928 : decode code 928 = .ok (.iconst 1, 1) := by decide +kernel
theorem dW_law_929 : decode code 929 = .ok (.iadd, 1) := by decide +kernel
theorem dW_law_930 : decode code 930 = .ok (.iaload, 1) := by decide +kernel
theorem dW_law_931 : decode code 931 = .ok (.aload_n 0, 1) := by decide +kernel
theorem dW_law_932 : decode code 932 = .ok (.iload 4, 2) := by decide +kernel
theorem dW_law_934 : decode code 934 = .ok (.iconst 2, 1) := by decide +kernel
theorem dW_law_935 : decode code 935 = .ok (.iadd, 1) := by decide +kernel
theorem dW_law_936 : decode code 936 = .ok (.iaload, 1) := by decide +kernel
theorem dW_law_937 : decode code 937 = .ok (.aload_n 0, 1) := by decide +kernel
theorem dW_law_938 : decode code 938 = .ok (.iload 4, 2) := by decide +kernel
theorem dW_law_940 : decode code 940 = .ok (.iconst 3, 1) := by decide +kernel
theorem dW_law_941 : decode code 941 = .ok (.iadd, 1) := by decide +kernel
theorem dW_law_942 : decode code 942 = .ok (.iaload, 1) := by decide +kernel
theorem dW_law_943 : decode code 943 = .ok (.invokevirtual 130, 3) := by decide +kernel
theorem dW_law_946 : decode code 946 = .ok (.if_icmp .eq 706, 3) := by decide +kernel
theorem dW_law_949 : decode code 949 = .ok (.iconst 0, 1) := by decide +kernel
theorem dW_law_950 : decode code 950 = .ok (.ireturn, 1) := by decide +kernel
theorem dW_law_951 : decode code 951 = .ok (.aload_n 1, 1) := by decide +kernel
theorem dW_law_952 : decode code 952 = .ok (.aload_n 0, 1) := by decide +kernel
theorem dW_law_953 : decode code 953 = .ok (.iload 4, 2) := by decide +kernel
theorem dW_law_955 : decode code 955 = .ok (.iconst 1, 1) := by decide +kernel
theorem dW_law_956 : decode code 956 = .ok (.iadd, 1) := by decide +kernel
theorem dW_law_957 : decode code 957 = .ok (.iaload, 1) := by decide +kernel
theorem dW_law_958 : decode code 958 = .ok (.aload_n 0, 1) := by decide +kernel
theorem dW_law_959 : decode code 959 = .ok (.iload 4, 2) := by decide +kernel
theorem dW_law_961 : decode code 961 = .ok (.iconst 2, 1) := by decide +kernel
theorem dW_law_962 : decode code 962 = .ok (.iadd, 1) := by decide +kernel
theorem dW_law_963 : decode code 963 = .ok (.iaload, 1) := by decide +kernel
theorem dW_law_964 : decode code 964 = .ok (.ifCond .eq 7, 3) := by decide +kernel
theorem dW_law_967 : decode code 967 = .ok (.iconst 1, 1) := by decide +kernel
theorem dW_law_968 : decode code 968 = .ok (.goto 4, 3) := by decide +kernel
theorem dW_law_971 : decode code 971 = .ok (.iconst 0, 1) := by decide +kernel
theorem dW_law_972 : decode code 972 = .ok (.aload_n 0, 1) := by decide +kernel
theorem dW_law_973 : decode code 973 = .ok (.iload 4, 2) := by decide +kernel
theorem dW_law_975 : decode code 975 = .ok (.iconst 3, 1) := by decide +kernel
theorem dW_law_976 : decode code 976 = .ok (.iadd, 1) := by decide +kernel
theorem dW_law_977 : decode code 977 = .ok (.iaload, 1) := by decide +kernel
theorem dW_law_978 : decode code 978 = .ok (.ifCond .eq 7, 3) := by decide +kernel
theorem dW_law_981 : decode code 981 = .ok (.iconst 1, 1) := by decide +kernel
theorem dW_law_982 : decode code 982 = .ok (.goto 4, 3) := by decide +kernel
theorem dW_law_985 : decode code 985 = .ok (.iconst 0, 1) := by decide +kernel
theorem dW_law_986 : decode code 986 = .ok (.aload_n 0, 1) := by decide +kernel
theorem dW_law_987 : decode code 987 = .ok (.iload 4, 2) := by decide +kernel
theorem dW_law_989 : decode code 989 = .ok (.iconst 4, 1) := by decide +kernel
theorem dW_law_990 : decode code 990 = .ok (.iadd, 1) := by decide +kernel
theorem dW_law_991 : decode code 991 = .ok (.iaload, 1) := by decide +kernel
theorem dW_law_992 : decode code 992 = .ok (.ifCond .eq 7, 3) := by decide +kernel
theorem dW_law_995 : decode code 995 = .ok (.iconst 1, 1) := by decide +kernel
theorem dW_law_996 : decode code 996 = .ok (.goto 4, 3) := by decide +kernel
theorem dW_law_999 : decode code 999 = .ok (.iconst 0, 1) := by decide +kernel
theorem dW_law_1000 : decode code 1000 = .ok (.invokevirtual 131, 3) := by decide +kernel
theorem dW_law_1003 : decode code 1003 = .ok (.aload_n 2, 1) := by decide +kernel
theorem dW_law_1004 : decode code 1004 = .ok (.aload_n 0, 1) := by decide +kernel
theorem dW_law_1005 : decode code 1005 = .ok (.iload 4, 2) := by decide +kernel
theorem dW_law_1007 : decode code 1007 = .ok (.iconst 1, 1) := by decide +kernel
theorem dW_law_1008 : decode code 1008 = .ok (.iadd, 1) := by decide +kernel
theorem dW_law_1009 : decode code 1009 = .ok (.iaload, 1) := by decide +kernel
theorem dW_law_1010 : decode code 1010 = .ok (.aload_n 0, 1) := by decide +kernel
theorem dW_law_1011 : decode code 1011 = .ok (.iload 4, 2) := by decide +kernel
theorem dW_law_1013 : decode code 1013 = .ok (.iconst 2, 1) := by decide +kernel
theorem dW_law_1014 : decode code 1014 = .ok (.iadd, 1) := by decide +kernel
theorem dW_law_1015 : decode code 1015 = .ok (.iaload, 1) := by decide +kernel
theorem dW_law_1016 : decode code 1016 = .ok (.ifCond .eq 7, 3) := by decide +kernel
theorem dW_law_1019 : decode code 1019 = .ok (.iconst 1, 1) := by decide +kernel
theorem dW_law_1020 : decode code 1020 = .ok (.goto 4, 3) := by decide +kernel
theorem dW_law_1023 : decode code 1023 = .ok (.iconst 0, 1) := by decide +kernel
theorem dW_law_1024 : decode code 1024 = .ok (.aload_n 0, 1) := by decide +kernel
theorem dW_law_1025 : decode code 1025 = .ok (.iload 4, 2) := by decide +kernel
theorem dW_law_1027 : decode code 1027 = .ok (.iconst 3, 1) := by decide +kernel
theorem dW_law_1028 : decode code 1028 = .ok (.iadd, 1) := by decide +kernel
theorem dW_law_1029 : decode code 1029 = .ok (.iaload, 1) := by decide +kernel
theorem dW_law_1030 : decode code 1030 = .ok (.ifCond .eq 7, 3) := by decide +kernel
theorem dW_law_1033 : decode code 1033 = .ok (.iconst 1, 1) := by decide +kernel
theorem dW_law_1034 : decode code 1034 = .ok (.goto 4, 3) := by decide +kernel
theorem dW_law_1037 : decode code 1037 = .ok (.iconst 0, 1) := by decide +kernel
theorem dW_law_1038 : decode code 1038 = .ok (.aload_n 0, 1) := by decide +kernel
theorem dW_law_1039 : decode code 1039 = .ok (.iload 4, 2) := by decide +kernel
theorem dW_law_1041 : decode code 1041 = .ok (.iconst 4, 1) := by decide +kernel
theorem dW_law_1042 : decode code 1042 = .ok (.iadd, 1) := by decide +kernel
theorem dW_law_1043 : decode code 1043 = .ok (.iaload, 1) := by decide +kernel
theorem dW_law_1044 : decode code 1044 = .ok (.ifCond .eq 7, 3) := by decide +kernel
theorem dW_law_1047 : decode code 1047 = .ok (.iconst 1, 1) := by decide +kernel
theorem dW_law_1048 : decode code 1048 = .ok (.goto 4, 3) := by decide +kernel
theorem dW_law_1051 : decode code 1051 = .ok (.iconst 0, 1) := by decide +kernel
theorem dW_law_1052 : decode code 1052 = .ok (.invokevirtual 135, 3) := by decide +kernel
theorem dW_law_1055 : decode code 1055 = .ok (.if_icmp .eq 597, 3) := by decide +kernel
theorem dW_law_1058 : decode code 1058 = .ok (.iconst 0, 1) := by decide +kernel
theorem dW_law_1059 : decode code 1059 = .ok (.ireturn, 1) := by decide +kernel
section Casev
variable {X : CT} {b L : Nat} {xs : Nat → Int32} {V : Nat → Nat → Int} {σ : Shp} {ow : Nat → Nat} {y : Dy} {l : Nat} {S : PS} {kn : Bool} {k n c : Nat} {i : Int}
theorem ca_nails {nm : String} (hX : CX X nm b L xs) (hP : PX V σ ow y l S kn k n c i L) (nx : NX X i c) : AW X 816 [some (vR (BG + 39)), some (vR 1), some (vR 53), some (vR 64), some (vI i), none, none] [] (V, σ) k n := by
  obtain ⟨F, hm, HS, hA, hL⟩ := hX
  obtain ⟨h, hk, hn, hc, h0, hi⟩ := hP
  have hBG : BG = 1000000000 := rfl
  have hcr : crd kn ≤ 95000 := crd_le kn
  have h1 := h.o1
  refine aw_sz hA (fun hz => ?_)
  have hz : sX σ ≤ k + 1 := hz
  refine aw_aload_1 (q := 817) F dW_law_816 rfl ?_
  refine aw_aload_0 (q := 818) F dW_law_817 rfl ?_
  refine aw_iload_4 (q := 820) F dW_law_818 rfl ?_
  refine aw_iconst (q := 821) F dW_law_820 rfl (by decide) ?_
  refine aw_iadd (q := 822) F dW_law_821 rfl (by constructor <;> omega) ?_
  refine aw_sld (q := 823) F HS dW_law_822 rfl (by omega) (by omega) ?_
  refine aw_aload_0 (q := 824) F dW_law_823 rfl ?_
  refine aw_iload_4 (q := 826) F dW_law_824 rfl ?_
  refine aw_iconst (q := 827) F dW_law_826 rfl (by decide) ?_
  refine aw_iadd (q := 828) F dW_law_827 rfl (by constructor <;> omega) ?_
  refine aw_sld (q := 829) F HS dW_law_828 rfl (by omega) (by omega) ?_
  refine av_callV2 (q := 832) (ci := 7) F hm mL_nails_i mL_nails_n lW_118 dW_law_829 rfl rfl rfl (by first | exact h1 | exact hM.mo.o) (by decide) (by omega) (by omega) (Nat.le_of_ble_eq_true rfl) (wL_nails (by omega) h.cw (fun v829 sg829 w829 y829 d829 f829 => ?_))
  have hM := h.m1 f829
  refine aw_aload_2 (q := 833) F dW_law_832 rfl ?_
  refine aw_aload_0 (q := 834) F dW_law_833 rfl ?_
  refine aw_iload_4 (q := 836) F dW_law_834 rfl ?_
  refine aw_iconst (q := 837) F dW_law_836 rfl (by decide) ?_
  refine aw_iadd (q := 838) F dW_law_837 rfl (by constructor <;> omega) ?_
  refine aw_sld (q := 839) F HS dW_law_838 rfl (by omega) (by omega) ?_
  refine aw_aload_0 (q := 840) F dW_law_839 rfl ?_
  refine aw_iload_4 (q := 842) F dW_law_840 rfl ?_
  refine aw_iconst (q := 843) F dW_law_842 rfl (by decide) ?_
  refine aw_iadd (q := 844) F dW_law_843 rfl (by constructor <;> omega) ?_
  refine aw_sld (q := 845) F HS dW_law_844 rfl (by omega) (by omega) ?_
  refine av_callV2 (q := 848) (ci := 9) F hm mM_nails_i mM_nails_n lW_121 dW_law_845 rfl rfl rfl (by first | exact h1 | exact hM.mo.o) (by decide) (by omega) (by omega) (Nat.le_of_ble_eq_true rfl) (wM_nails hM (fun v845 m845 r845 => ?_))
  refine aw_icmp_eq (q := 851) (t := 1652) F dW_law_848 rfl (by decide) (fun c848 => ?_) (fun c848 => by exact absurd rfl c848)
  exact nx _ _ _ _ _ _ _ _ _ (h.st d829 f829 m845 r845) (by omega) (by omega)
theorem ca_gets {nm : String} (hX : CX X nm b L xs) (hP : PX V σ ow y l S kn k n c i L) (nx : NX X i c) : AW X 853 [some (vR (BG + 39)), some (vR 1), some (vR 53), some (vR 64), some (vI i), none, none] [] (V, σ) k n := by
  obtain ⟨F, hm, HS, hA, hL⟩ := hX
  obtain ⟨h, hk, hn, hc, h0, hi⟩ := hP
  have hBG : BG = 1000000000 := rfl
  have hcr : crd kn ≤ 95000 := crd_le kn
  have h1 := h.o1
  refine aw_sz hA (fun hz => ?_)
  have hz : sX σ ≤ k + 1 := hz
  refine aw_aload_1 (q := 854) F dW_law_853 rfl ?_
  refine aw_aload_0 (q := 855) F dW_law_854 rfl ?_
  refine aw_iload_4 (q := 857) F dW_law_855 rfl ?_
  refine aw_iconst (q := 858) F dW_law_857 rfl (by decide) ?_
  refine aw_iadd (q := 859) F dW_law_858 rfl (by constructor <;> omega) ?_
  refine aw_sld (q := 860) F HS dW_law_859 rfl (by omega) (by omega) ?_
  refine aw_aload_0 (q := 861) F dW_law_860 rfl ?_
  refine aw_iload_4 (q := 863) F dW_law_861 rfl ?_
  refine aw_iconst (q := 864) F dW_law_863 rfl (by decide) ?_
  refine aw_iadd (q := 865) F dW_law_864 rfl (by constructor <;> omega) ?_
  refine aw_sld (q := 866) F HS dW_law_865 rfl (by omega) (by omega) ?_
  refine aw_aload_0 (q := 867) F dW_law_866 rfl ?_
  refine aw_iload_4 (q := 869) F dW_law_867 rfl ?_
  refine aw_iconst (q := 870) F dW_law_869 rfl (by decide) ?_
  refine aw_iadd (q := 871) F dW_law_870 rfl (by constructor <;> omega) ?_
  refine aw_sld (q := 872) F HS dW_law_871 rfl (by omega) (by omega) ?_
  refine av_callV3 (q := 875) (ci := 7) F hm mL_gets_i mL_gets_n lW_122 dW_law_872 rfl rfl rfl (by first | exact h1 | exact hM.mo.o) (by decide) (by omega) (by omega) (Nat.le_of_ble_eq_true rfl) (wL_gets h.cw (fun v872 sg872 w872 y872 d872 f872 => ?_))
  have hM := h.m1 f872
  refine aw_aload_2 (q := 876) F dW_law_875 rfl ?_
  refine aw_aload_0 (q := 877) F dW_law_876 rfl ?_
  refine aw_iload_4 (q := 879) F dW_law_877 rfl ?_
  refine aw_iconst (q := 880) F dW_law_879 rfl (by decide) ?_
  refine aw_iadd (q := 881) F dW_law_880 rfl (by constructor <;> omega) ?_
  refine aw_sld (q := 882) F HS dW_law_881 rfl (by omega) (by omega) ?_
  refine aw_aload_0 (q := 883) F dW_law_882 rfl ?_
  refine aw_iload_4 (q := 885) F dW_law_883 rfl ?_
  refine aw_iconst (q := 886) F dW_law_885 rfl (by decide) ?_
  refine aw_iadd (q := 887) F dW_law_886 rfl (by constructor <;> omega) ?_
  refine aw_sld (q := 888) F HS dW_law_887 rfl (by omega) (by omega) ?_
  refine aw_aload_0 (q := 889) F dW_law_888 rfl ?_
  refine aw_iload_4 (q := 891) F dW_law_889 rfl ?_
  refine aw_iconst (q := 892) F dW_law_891 rfl (by decide) ?_
  refine aw_iadd (q := 893) F dW_law_892 rfl (by constructor <;> omega) ?_
  refine aw_sld (q := 894) F HS dW_law_893 rfl (by omega) (by omega) ?_
  refine av_callV3 (q := 897) (ci := 9) F hm mM_gets_i mM_gets_n lW_126 dW_law_894 rfl rfl rfl (by first | exact h1 | exact hM.mo.o) (by decide) (by omega) (by omega) (Nat.le_of_ble_eq_true rfl) (wM_gets hM (fun v894 m894 r894 => ?_))
  refine aw_icmp_eq (q := 900) (t := 1652) F dW_law_897 rfl (by decide) (fun c897 => ?_) (fun c897 => by exact absurd rfl c897)
  exact nx _ _ _ _ _ _ _ _ _ (h.st d872 f872 m894 r894) (by omega) (by omega)
theorem ca_opensWith {nm : String} (hX : CX X nm b L xs) (hP : PX V σ ow y l S kn k n c i L) (nx : NX X i c) : AW X 902 [some (vR (BG + 39)), some (vR 1), some (vR 53), some (vR 64), some (vI i), none, none] [] (V, σ) k n := by
  obtain ⟨F, hm, HS, hA, hL⟩ := hX
  obtain ⟨h, hk, hn, hc, h0, hi⟩ := hP
  have hBG : BG = 1000000000 := rfl
  have hcr : crd kn ≤ 95000 := crd_le kn
  have h1 := h.o1
  refine aw_sz hA (fun hz => ?_)
  have hz : sX σ ≤ k + 1 := hz
  refine aw_aload_1 (q := 903) F dW_law_902 rfl ?_
  refine aw_aload_0 (q := 904) F dW_law_903 rfl ?_
  refine aw_iload_4 (q := 906) F dW_law_904 rfl ?_
  refine aw_iconst (q := 907) F dW_law_906 rfl (by decide) ?_
  refine aw_iadd (q := 908) F dW_law_907 rfl (by constructor <;> omega) ?_
  refine aw_sld (q := 909) F HS dW_law_908 rfl (by omega) (by omega) ?_
  refine aw_aload_0 (q := 910) F dW_law_909 rfl ?_
  refine aw_iload_4 (q := 912) F dW_law_910 rfl ?_
  refine aw_iconst (q := 913) F dW_law_912 rfl (by decide) ?_
  refine aw_iadd (q := 914) F dW_law_913 rfl (by constructor <;> omega) ?_
  refine aw_sld (q := 915) F HS dW_law_914 rfl (by omega) (by omega) ?_
  refine aw_aload_0 (q := 916) F dW_law_915 rfl ?_
  refine aw_iload_4 (q := 918) F dW_law_916 rfl ?_
  refine aw_iconst (q := 919) F dW_law_918 rfl (by decide) ?_
  refine aw_iadd (q := 920) F dW_law_919 rfl (by constructor <;> omega) ?_
  refine aw_sld (q := 921) F HS dW_law_920 rfl (by omega) (by omega) ?_
  refine av_callV3 (q := 924) (ci := 7) F hm mL_opensWith_i mL_opensWith_n lW_127 dW_law_921 rfl rfl rfl (by first | exact h1 | exact hM.mo.o) (by decide) (by omega) (by omega) (Nat.le_of_ble_eq_true rfl) (wL_opensWith h.cw (fun v921 sg921 w921 y921 d921 f921 => ?_))
  have hM := h.m1 f921
  refine aw_aload_2 (q := 925) F dW_law_924 rfl ?_
  refine aw_aload_0 (q := 926) F dW_law_925 rfl ?_
  refine aw_iload_4 (q := 928) F dW_law_926 rfl ?_
  refine aw_iconst (q := 929) F dW_law_928 rfl (by decide) ?_
  refine aw_iadd (q := 930) F dW_law_929 rfl (by constructor <;> omega) ?_
  refine aw_sld (q := 931) F HS dW_law_930 rfl (by omega) (by omega) ?_
  refine aw_aload_0 (q := 932) F dW_law_931 rfl ?_
  refine aw_iload_4 (q := 934) F dW_law_932 rfl ?_
  refine aw_iconst (q := 935) F dW_law_934 rfl (by decide) ?_
  refine aw_iadd (q := 936) F dW_law_935 rfl (by constructor <;> omega) ?_
  refine aw_sld (q := 937) F HS dW_law_936 rfl (by omega) (by omega) ?_
  refine aw_aload_0 (q := 938) F dW_law_937 rfl ?_
  refine aw_iload_4 (q := 940) F dW_law_938 rfl ?_
  refine aw_iconst (q := 941) F dW_law_940 rfl (by decide) ?_
  refine aw_iadd (q := 942) F dW_law_941 rfl (by constructor <;> omega) ?_
  refine aw_sld (q := 943) F HS dW_law_942 rfl (by omega) (by omega) ?_
  refine av_callV3 (q := 946) (ci := 9) F hm mM_opensWith_i mM_opensWith_n lW_130 dW_law_943 rfl rfl rfl (by first | exact h1 | exact hM.mo.o) (by decide) (by omega) (by omega) (Nat.le_of_ble_eq_true rfl) (wM_opensWith hM (fun v943 m943 r943 => ?_))
  refine aw_icmp_eq (q := 949) (t := 1652) F dW_law_946 rfl (by decide) (fun c946 => ?_) (fun c946 => by exact absurd rfl c946)
  exact nx _ _ _ _ _ _ _ _ _ (h.st d921 f921 m943 r943) (by omega) (by omega)
theorem ca_slams {nm : String} (hX : CX X nm b L xs) (hP : PX V σ ow y l S kn k n c i L) (nx : NX X i c) : AW X 951 [some (vR (BG + 39)), some (vR 1), some (vR 53), some (vR 64), some (vI i), none, none] [] (V, σ) k n := by
  obtain ⟨F, hm, HS, hA, hL⟩ := hX
  obtain ⟨h, hk, hn, hc, h0, hi⟩ := hP
  have hBG : BG = 1000000000 := rfl
  have hcr : crd kn ≤ 95000 := crd_le kn
  have h1 := h.o1
  refine aw_sz hA (fun hz => ?_)
  have hz : sX σ ≤ k + 1 := hz
  refine aw_aload_1 (q := 952) F dW_law_951 rfl ?_
  refine aw_aload_0 (q := 953) F dW_law_952 rfl ?_
  refine aw_iload_4 (q := 955) F dW_law_953 rfl ?_
  refine aw_iconst (q := 956) F dW_law_955 rfl (by decide) ?_
  refine aw_iadd (q := 957) F dW_law_956 rfl (by constructor <;> omega) ?_
  refine aw_sld (q := 958) F HS dW_law_957 rfl (by omega) (by omega) ?_
  refine aw_aload_0 (q := 959) F dW_law_958 rfl ?_
  refine aw_iload_4 (q := 961) F dW_law_959 rfl ?_
  refine aw_iconst (q := 962) F dW_law_961 rfl (by decide) ?_
  refine aw_iadd (q := 963) F dW_law_962 rfl (by constructor <;> omega) ?_
  refine aw_sld (q := 964) F HS dW_law_963 rfl (by omega) (by omega) ?_
  refine aw_bz (q := 972) F dW_law_964 dW_law_967 dW_law_968 dW_law_971 rfl ?_
  refine aw_aload_0 (q := 973) F dW_law_972 rfl ?_
  refine aw_iload_4 (q := 975) F dW_law_973 rfl ?_
  refine aw_iconst (q := 976) F dW_law_975 rfl (by decide) ?_
  refine aw_iadd (q := 977) F dW_law_976 rfl (by constructor <;> omega) ?_
  refine aw_sld (q := 978) F HS dW_law_977 rfl (by omega) (by omega) ?_
  refine aw_bz (q := 986) F dW_law_978 dW_law_981 dW_law_982 dW_law_985 rfl ?_
  refine aw_aload_0 (q := 987) F dW_law_986 rfl ?_
  refine aw_iload_4 (q := 989) F dW_law_987 rfl ?_
  refine aw_iconst (q := 990) F dW_law_989 rfl (by decide) ?_
  refine aw_iadd (q := 991) F dW_law_990 rfl (by constructor <;> omega) ?_
  refine aw_sld (q := 992) F HS dW_law_991 rfl (by omega) (by omega) ?_
  refine aw_bz (q := 1000) F dW_law_992 dW_law_995 dW_law_996 dW_law_999 rfl ?_
  refine av_callV4 (q := 1003) (ci := 7) F hm mL_slams_i mL_slams_n lW_131 dW_law_1000 rfl rfl rfl (by first | exact h1 | exact hM.mo.o) (by decide) (by omega) (by omega) (Nat.le_of_ble_eq_true rfl) (wL_slams (bz_01 _) h.cw (fun v1000 sg1000 w1000 y1000 d1000 f1000 => ?_))
  have hM := h.m1 f1000
  refine aw_aload_2 (q := 1004) F dW_law_1003 rfl ?_
  refine aw_aload_0 (q := 1005) F dW_law_1004 rfl ?_
  refine aw_iload_4 (q := 1007) F dW_law_1005 rfl ?_
  refine aw_iconst (q := 1008) F dW_law_1007 rfl (by decide) ?_
  refine aw_iadd (q := 1009) F dW_law_1008 rfl (by constructor <;> omega) ?_
  refine aw_sld (q := 1010) F HS dW_law_1009 rfl (by omega) (by omega) ?_
  refine aw_aload_0 (q := 1011) F dW_law_1010 rfl ?_
  refine aw_iload_4 (q := 1013) F dW_law_1011 rfl ?_
  refine aw_iconst (q := 1014) F dW_law_1013 rfl (by decide) ?_
  refine aw_iadd (q := 1015) F dW_law_1014 rfl (by constructor <;> omega) ?_
  refine aw_sld (q := 1016) F HS dW_law_1015 rfl (by omega) (by omega) ?_
  refine aw_bz (q := 1024) F dW_law_1016 dW_law_1019 dW_law_1020 dW_law_1023 rfl ?_
  refine aw_aload_0 (q := 1025) F dW_law_1024 rfl ?_
  refine aw_iload_4 (q := 1027) F dW_law_1025 rfl ?_
  refine aw_iconst (q := 1028) F dW_law_1027 rfl (by decide) ?_
  refine aw_iadd (q := 1029) F dW_law_1028 rfl (by constructor <;> omega) ?_
  refine aw_sld (q := 1030) F HS dW_law_1029 rfl (by omega) (by omega) ?_
  refine aw_bz (q := 1038) F dW_law_1030 dW_law_1033 dW_law_1034 dW_law_1037 rfl ?_
  refine aw_aload_0 (q := 1039) F dW_law_1038 rfl ?_
  refine aw_iload_4 (q := 1041) F dW_law_1039 rfl ?_
  refine aw_iconst (q := 1042) F dW_law_1041 rfl (by decide) ?_
  refine aw_iadd (q := 1043) F dW_law_1042 rfl (by constructor <;> omega) ?_
  refine aw_sld (q := 1044) F HS dW_law_1043 rfl (by omega) (by omega) ?_
  refine aw_bz (q := 1052) F dW_law_1044 dW_law_1047 dW_law_1048 dW_law_1051 rfl ?_
  refine av_callV4 (q := 1055) (ci := 9) F hm mM_slams_i mM_slams_n lW_135 dW_law_1052 rfl rfl rfl (by first | exact h1 | exact hM.mo.o) (by decide) (by omega) (by omega) (Nat.le_of_ble_eq_true rfl) (wM_slams (bz_01 _) hM (fun v1052 m1052 r1052 => ?_))
  refine aw_icmp_eq (q := 1058) (t := 1652) F dW_law_1055 rfl (by decide) (fun c1055 => ?_) (fun c1055 => by exact absurd rfl c1055)
  exact nx _ _ _ _ _ _ _ _ _ (h.st d1000 f1000 m1052 r1052) (by omega) (by omega)
end Casev
