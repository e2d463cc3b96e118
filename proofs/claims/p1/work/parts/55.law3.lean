theorem dL_law_904 : decode cL_law 904 = .ok (.aload_n 1, 1) := by decide +kernel
theorem dL_law_905 : decode cL_law 905 = .ok (.aload_n 0, 1) := by decide +kernel
theorem dL_law_906 : decode cL_law 906 = .ok (.iload 4, 2) := by decide +kernel
theorem dL_law_908 : decode cL_law 908 = .ok (.iconst 1, 1) := by decide +kernel
theorem dL_law_909 : decode cL_law 909 = .ok (.iadd, 1) := by decide +kernel
theorem dL_law_910 : decode cL_law 910 = .ok (.iaload, 1) := by decide +kernel
theorem dL_law_911 : decode cL_law 911 = .ok (.aload_n 0, 1) := by decide +kernel
theorem dL_law_912 : decode cL_law 912 = .ok (.iload 4, 2) := by decide +kernel
theorem dL_law_914 : decode cL_law 914 = .ok (.iconst 2, 1) := by decide +kernel
theorem dL_law_915 : decode cL_law 915 = .ok (.iadd, 1) := by decide +kernel
theorem dL_law_916 : decode cL_law 916 = .ok (.iaload, 1) := by decide +kernel
theorem k_8_0 : Jvm.Cond.code ({ cls := "FinderHouse", name := "runs", desc := "(II)I" } : Jvm.MethodName) prog_1_method_38_code (3 : Nat) (Option.some Jvm.ClassFile.FieldType.int) ∈ tb := tb8 0 (by decide +kernel) (by decide +kernel)
theorem k_7_237 : Jvm.Cond.methodLink "FinderHouseLaw" (146 : Nat) ({ cls := "FinderHouse", name := "runs", desc := "(II)I" } : Jvm.MethodName) ∈ tb := tb7 237 (by decide +kernel) (by decide +kernel)
theorem k_7_238 : Jvm.Cond.instanceMethod ({ cls := "FinderHouse", name := "runs", desc := "(II)I" } : Jvm.MethodName) ∈ tb := tb7 238 (by decide +kernel) (by decide +kernel)
theorem k_7_239 : Jvm.Cond.selects "FinderHouse" ({ cls := "FinderHouse", name := "runs", desc := "(II)I" } : Jvm.MethodName) ({ cls := "FinderHouse", name := "runs", desc := "(II)I" } : Jvm.MethodName) ∈ tb := tb7 239 (by decide +kernel) (by decide +kernel)
theorem dL_law_917 : decode cL_law 917 = .ok (.invokevirtual 146, 3) := by decide +kernel
theorem dL_law_920 : decode cL_law 920 = .ok (.aload_n 2, 1) := by decide +kernel
theorem dL_law_921 : decode cL_law 921 = .ok (.aload_n 0, 1) := by decide +kernel
theorem dL_law_922 : decode cL_law 922 = .ok (.iload 4, 2) := by decide +kernel
theorem dL_law_924 : decode cL_law 924 = .ok (.iconst 1, 1) := by decide +kernel
theorem dL_law_925 : decode cL_law 925 = .ok (.iadd, 1) := by decide +kernel
theorem dL_law_926 : decode cL_law 926 = .ok (.iaload, 1) := by decide +kernel
theorem dL_law_927 : decode cL_law 927 = .ok (.aload_n 0, 1) := by decide +kernel
theorem dL_law_928 : decode cL_law 928 = .ok (.iload 4, 2) := by decide +kernel
theorem dL_law_930 : decode cL_law 930 = .ok (.iconst 2, 1) := by decide +kernel
theorem dL_law_931 : decode cL_law 931 = .ok (.iadd, 1) := by decide +kernel
theorem dL_law_932 : decode cL_law 932 = .ok (.iaload, 1) := by decide +kernel
theorem k_15_105 : Jvm.Cond.code ({ cls := "FinderHouseModel", name := "runs", desc := "(II)I" } : Jvm.MethodName) prog_14_method_149_code (3 : Nat) (Option.some Jvm.ClassFile.FieldType.int) ∈ tb := tb15 105 (by decide +kernel) (by decide +kernel)
theorem k_15_102 : Jvm.Cond.methodLink "FinderHouseLaw" (149 : Nat) ({ cls := "FinderHouseModel", name := "runs", desc := "(II)I" } : Jvm.MethodName) ∈ tb := tb15 102 (by decide +kernel) (by decide +kernel)
theorem k_15_103 : Jvm.Cond.instanceMethod ({ cls := "FinderHouseModel", name := "runs", desc := "(II)I" } : Jvm.MethodName) ∈ tb := tb15 103 (by decide +kernel) (by decide +kernel)
theorem k_15_104 : Jvm.Cond.selects "FinderHouseModel" ({ cls := "FinderHouseModel", name := "runs", desc := "(II)I" } : Jvm.MethodName) ({ cls := "FinderHouseModel", name := "runs", desc := "(II)I" } : Jvm.MethodName) ∈ tb := tb15 104 (by decide +kernel) (by decide +kernel)
theorem dL_law_933 : decode cL_law 933 = .ok (.invokevirtual 149, 3) := by decide +kernel
theorem dL_law_936 : decode cL_law 936 = .ok (.if_icmp .eq 661, 3) := by decide +kernel
theorem dL_law_941 : decode cL_law 941 = .ok (.aload_n 1, 1) := by decide +kernel
theorem dL_law_942 : decode cL_law 942 = .ok (.aload_n 0, 1) := by decide +kernel
theorem dL_law_943 : decode cL_law 943 = .ok (.iload 4, 2) := by decide +kernel
theorem dL_law_945 : decode cL_law 945 = .ok (.iconst 1, 1) := by decide +kernel
theorem dL_law_946 : decode cL_law 946 = .ok (.iadd, 1) := by decide +kernel
theorem dL_law_947 : decode cL_law 947 = .ok (.iaload, 1) := by decide +kernel
theorem dL_law_948 : decode cL_law 948 = .ok (.aload_n 0, 1) := by decide +kernel
theorem dL_law_949 : decode cL_law 949 = .ok (.iload 4, 2) := by decide +kernel
theorem dL_law_951 : decode cL_law 951 = .ok (.iconst 2, 1) := by decide +kernel
theorem dL_law_952 : decode cL_law 952 = .ok (.iadd, 1) := by decide +kernel
theorem dL_law_953 : decode cL_law 953 = .ok (.iaload, 1) := by decide +kernel
theorem k_8_8 : Jvm.Cond.code ({ cls := "FinderHouse", name := "span", desc := "(II)I" } : Jvm.MethodName) prog_1_method_39_code (3 : Nat) (Option.some Jvm.ClassFile.FieldType.int) ∈ tb := tb8 8 (by decide +kernel) (by decide +kernel)
theorem k_8_5 : Jvm.Cond.methodLink "FinderHouseLaw" (150 : Nat) ({ cls := "FinderHouse", name := "span", desc := "(II)I" } : Jvm.MethodName) ∈ tb := tb8 5 (by decide +kernel) (by decide +kernel)
theorem k_8_6 : Jvm.Cond.instanceMethod ({ cls := "FinderHouse", name := "span", desc := "(II)I" } : Jvm.MethodName) ∈ tb := tb8 6 (by decide +kernel) (by decide +kernel)
theorem k_8_7 : Jvm.Cond.selects "FinderHouse" ({ cls := "FinderHouse", name := "span", desc := "(II)I" } : Jvm.MethodName) ({ cls := "FinderHouse", name := "span", desc := "(II)I" } : Jvm.MethodName) ∈ tb := tb8 7 (by decide +kernel) (by decide +kernel)
theorem dL_law_954 : decode cL_law 954 = .ok (.invokevirtual 150, 3) := by decide +kernel
theorem dL_law_957 : decode cL_law 957 = .ok (.aload_n 2, 1) := by decide +kernel
theorem dL_law_958 : decode cL_law 958 = .ok (.aload_n 0, 1) := by decide +kernel
theorem dL_law_959 : decode cL_law 959 = .ok (.iload 4, 2) := by decide +kernel
theorem dL_law_961 : decode cL_law 961 = .ok (.iconst 1, 1) := by decide +kernel
theorem dL_law_962 : decode cL_law 962 = .ok (.iadd, 1) := by decide +kernel
theorem dL_law_963 : decode cL_law 963 = .ok (.iaload, 1) := by decide +kernel
theorem dL_law_964 : decode cL_law 964 = .ok (.aload_n 0, 1) := by decide +kernel
theorem dL_law_965 : decode cL_law 965 = .ok (.iload 4, 2) := by decide +kernel
theorem dL_law_967 : decode cL_law 967 = .ok (.iconst 2, 1) := by decide +kernel
theorem dL_law_968 : decode cL_law 968 = .ok (.iadd, 1) := by decide +kernel
theorem dL_law_969 : decode cL_law 969 = .ok (.iaload, 1) := by decide +kernel
theorem k_15_109 : Jvm.Cond.code ({ cls := "FinderHouseModel", name := "span", desc := "(II)I" } : Jvm.MethodName) prog_14_method_150_code (4 : Nat) (Option.some Jvm.ClassFile.FieldType.int) ∈ tb := tb15 109 (by decide +kernel) (by decide +kernel)
theorem k_15_106 : Jvm.Cond.methodLink "FinderHouseLaw" (153 : Nat) ({ cls := "FinderHouseModel", name := "span", desc := "(II)I" } : Jvm.MethodName) ∈ tb := tb15 106 (by decide +kernel) (by decide +kernel)
theorem k_15_107 : Jvm.Cond.instanceMethod ({ cls := "FinderHouseModel", name := "span", desc := "(II)I" } : Jvm.MethodName) ∈ tb := tb15 107 (by decide +kernel) (by decide +kernel)
theorem k_15_108 : Jvm.Cond.selects "FinderHouseModel" ({ cls := "FinderHouseModel", name := "span", desc := "(II)I" } : Jvm.MethodName) ({ cls := "FinderHouseModel", name := "span", desc := "(II)I" } : Jvm.MethodName) ∈ tb := tb15 108 (by decide +kernel) (by decide +kernel)
theorem dL_law_970 : decode cL_law 970 = .ok (.invokevirtual 153, 3) := by decide +kernel
theorem dL_law_973 : decode cL_law 973 = .ok (.if_icmp .eq 624, 3) := by decide +kernel
theorem dL_law_978 : decode cL_law 978 = .ok (.aload_n 1, 1) := by decide +kernel
theorem k_8_16 : Jvm.Cond.code ({ cls := "FinderHouse", name := "keeps", desc := "()I" } : Jvm.MethodName) prog_1_method_40_code (1 : Nat) (Option.some Jvm.ClassFile.FieldType.int) ∈ tb := tb8 16 (by decide +kernel) (by decide +kernel)
theorem k_8_13 : Jvm.Cond.methodLink "FinderHouseLaw" (154 : Nat) ({ cls := "FinderHouse", name := "keeps", desc := "()I" } : Jvm.MethodName) ∈ tb := tb8 13 (by decide +kernel) (by decide +kernel)
theorem k_8_14 : Jvm.Cond.instanceMethod ({ cls := "FinderHouse", name := "keeps", desc := "()I" } : Jvm.MethodName) ∈ tb := tb8 14 (by decide +kernel) (by decide +kernel)
theorem k_8_15 : Jvm.Cond.selects "FinderHouse" ({ cls := "FinderHouse", name := "keeps", desc := "()I" } : Jvm.MethodName) ({ cls := "FinderHouse", name := "keeps", desc := "()I" } : Jvm.MethodName) ∈ tb := tb8 15 (by decide +kernel) (by decide +kernel)
theorem dL_law_979 : decode cL_law 979 = .ok (.invokevirtual 154, 3) := by decide +kernel
theorem dL_law_982 : decode cL_law 982 = .ok (.aload_n 2, 1) := by decide +kernel
theorem k_15_113 : Jvm.Cond.codeWith ({ cls := "FinderHouseModel", name := "keeps", desc := "()I" } : Jvm.MethodName) prog_14_method_151_code (3 : Nat) (Option.some Jvm.ClassFile.FieldType.int) [((14 : Nat), (100 : Nat), (103 : Nat), (89 : Nat))] ∈ tb := tb15 113 (by decide +kernel) (by decide +kernel)
theorem k_15_110 : Jvm.Cond.methodLink "FinderHouseLaw" (157 : Nat) ({ cls := "FinderHouseModel", name := "keeps", desc := "()I" } : Jvm.MethodName) ∈ tb := tb15 110 (by decide +kernel) (by decide +kernel)
theorem k_15_111 : Jvm.Cond.instanceMethod ({ cls := "FinderHouseModel", name := "keeps", desc := "()I" } : Jvm.MethodName) ∈ tb := tb15 111 (by decide +kernel) (by decide +kernel)
theorem k_15_112 : Jvm.Cond.selects "FinderHouseModel" ({ cls := "FinderHouseModel", name := "keeps", desc := "()I" } : Jvm.MethodName) ({ cls := "FinderHouseModel", name := "keeps", desc := "()I" } : Jvm.MethodName) ∈ tb := tb15 112 (by decide +kernel) (by decide +kernel)
theorem dL_law_983 : decode cL_law 983 = .ok (.invokevirtual 157, 3) := by decide +kernel
theorem dL_law_986 : decode cL_law 986 = .ok (.if_icmp .eq 611, 3) := by decide +kernel
theorem dL_law_991 : decode cL_law 991 = .ok (.aload_n 1, 1) := by decide +kernel
theorem dL_law_992 : decode cL_law 992 = .ok (.aload_n 0, 1) := by decide +kernel
theorem dL_law_993 : decode cL_law 993 = .ok (.iload 4, 2) := by decide +kernel
theorem dL_law_995 : decode cL_law 995 = .ok (.iconst 1, 1) := by decide +kernel
theorem dL_law_996 : decode cL_law 996 = .ok (.iadd, 1) := by decide +kernel
theorem dL_law_997 : decode cL_law 997 = .ok (.iaload, 1) := by decide +kernel
theorem k_8_24 : Jvm.Cond.code ({ cls := "FinderHouse", name := "example", desc := "(I)I" } : Jvm.MethodName) prog_1_method_41_code (3 : Nat) (Option.some Jvm.ClassFile.FieldType.int) ∈ tb := tb8 24 (by decide +kernel) (by decide +kernel)
theorem k_8_21 : Jvm.Cond.methodLink "FinderHouseLaw" (158 : Nat) ({ cls := "FinderHouse", name := "example", desc := "(I)I" } : Jvm.MethodName) ∈ tb := tb8 21 (by decide +kernel) (by decide +kernel)
theorem k_8_22 : Jvm.Cond.instanceMethod ({ cls := "FinderHouse", name := "example", desc := "(I)I" } : Jvm.MethodName) ∈ tb := tb8 22 (by decide +kernel) (by decide +kernel)
theorem k_8_23 : Jvm.Cond.selects "FinderHouse" ({ cls := "FinderHouse", name := "example", desc := "(I)I" } : Jvm.MethodName) ({ cls := "FinderHouse", name := "example", desc := "(I)I" } : Jvm.MethodName) ∈ tb := tb8 23 (by decide +kernel) (by decide +kernel)
theorem dL_law_998 : decode cL_law 998 = .ok (.invokevirtual 158, 3) := by decide +kernel
theorem dL_law_1001 : decode cL_law 1001 = .ok (.aload_n 2, 1) := by decide +kernel
theorem dL_law_1002 : decode cL_law 1002 = .ok (.aload_n 0, 1) := by decide +kernel
theorem dL_law_1003 : decode cL_law 1003 = .ok (.iload 4, 2) := by decide +kernel
theorem dL_law_1005 : decode cL_law 1005 = .ok (.iconst 1, 1) := by decide +kernel
theorem dL_law_1006 : decode cL_law 1006 = .ok (.iadd, 1) := by decide +kernel
theorem dL_law_1007 : decode cL_law 1007 = .ok (.iaload, 1) := by decide +kernel
theorem k_15_117 : Jvm.Cond.code ({ cls := "FinderHouseModel", name := "example", desc := "(I)I" } : Jvm.MethodName) prog_14_method_166_code (2 : Nat) (Option.some Jvm.ClassFile.FieldType.int) ∈ tb := tb15 117 (by decide +kernel) (by decide +kernel)
theorem k_15_114 : Jvm.Cond.methodLink "FinderHouseLaw" (161 : Nat) ({ cls := "FinderHouseModel", name := "example", desc := "(I)I" } : Jvm.MethodName) ∈ tb := tb15 114 (by decide +kernel) (by decide +kernel)
theorem k_15_115 : Jvm.Cond.instanceMethod ({ cls := "FinderHouseModel", name := "example", desc := "(I)I" } : Jvm.MethodName) ∈ tb := tb15 115 (by decide +kernel) (by decide +kernel)
theorem k_15_116 : Jvm.Cond.selects "FinderHouseModel" ({ cls := "FinderHouseModel", name := "example", desc := "(I)I" } : Jvm.MethodName) ({ cls := "FinderHouseModel", name := "example", desc := "(I)I" } : Jvm.MethodName) ∈ tb := tb15 116 (by decide +kernel) (by decide +kernel)
theorem dL_law_1008 : decode cL_law 1008 = .ok (.invokevirtual 161, 3) := by decide +kernel
theorem dL_law_1011 : decode cL_law 1011 = .ok (.if_icmp .eq 586, 3) := by decide +kernel
theorem dL_law_1016 : decode cL_law 1016 = .ok (.aload_n 1, 1) := by decide +kernel
theorem k_8_45 : Jvm.Cond.code ({ cls := "FinderHouse", name := "clear", desc := "()I" } : Jvm.MethodName) prog_1_method_44_code (2 : Nat) (Option.some Jvm.ClassFile.FieldType.int) ∈ tb := tb8 45 (by decide +kernel) (by decide +kernel)
theorem k_8_42 : Jvm.Cond.methodLink "FinderHouseLaw" (162 : Nat) ({ cls := "FinderHouse", name := "clear", desc := "()I" } : Jvm.MethodName) ∈ tb := tb8 42 (by decide +kernel) (by decide +kernel)
theorem k_8_43 : Jvm.Cond.instanceMethod ({ cls := "FinderHouse", name := "clear", desc := "()I" } : Jvm.MethodName) ∈ tb := tb8 43 (by decide +kernel) (by decide +kernel)
theorem k_8_44 : Jvm.Cond.selects "FinderHouse" ({ cls := "FinderHouse", name := "clear", desc := "()I" } : Jvm.MethodName) ({ cls := "FinderHouse", name := "clear", desc := "()I" } : Jvm.MethodName) ∈ tb := tb8 44 (by decide +kernel) (by decide +kernel)
theorem dL_law_1017 : decode cL_law 1017 = .ok (.invokevirtual 162, 3) := by decide +kernel
theorem dL_law_1020 : decode cL_law 1020 = .ok (.aload_n 2, 1) := by decide +kernel
theorem k_15_130 : Jvm.Cond.code ({ cls := "FinderHouseModel", name := "clear", desc := "()I" } : Jvm.MethodName) prog_14_method_168_code (2 : Nat) (Option.some Jvm.ClassFile.FieldType.int) ∈ tb := tb15 130 (by decide +kernel) (by decide +kernel)
theorem k_15_127 : Jvm.Cond.methodLink "FinderHouseLaw" (165 : Nat) ({ cls := "FinderHouseModel", name := "clear", desc := "()I" } : Jvm.MethodName) ∈ tb := tb15 127 (by decide +kernel) (by decide +kernel)
theorem k_15_128 : Jvm.Cond.instanceMethod ({ cls := "FinderHouseModel", name := "clear", desc := "()I" } : Jvm.MethodName) ∈ tb := tb15 128 (by decide +kernel) (by decide +kernel)
theorem k_15_129 : Jvm.Cond.selects "FinderHouseModel" ({ cls := "FinderHouseModel", name := "clear", desc := "()I" } : Jvm.MethodName) ({ cls := "FinderHouseModel", name := "clear", desc := "()I" } : Jvm.MethodName) ∈ tb := tb15 129 (by decide +kernel) (by decide +kernel)
theorem dL_law_1021 : decode cL_law 1021 = .ok (.invokevirtual 165, 3) := by decide +kernel
theorem dL_law_1024 : decode cL_law 1024 = .ok (.if_icmp .eq 573, 3) := by decide +kernel
theorem dL_law_1029 : decode cL_law 1029 = .ok (.aload_n 1, 1) := by decide +kernel
theorem k_8_53 : Jvm.Cond.code ({ cls := "FinderHouse", name := "fit", desc := "()I" } : Jvm.MethodName) prog_1_method_45_code (1 : Nat) (Option.some Jvm.ClassFile.FieldType.int) ∈ tb := tb8 53 (by decide +kernel) (by decide +kernel)
theorem k_8_50 : Jvm.Cond.methodLink "FinderHouseLaw" (166 : Nat) ({ cls := "FinderHouse", name := "fit", desc := "()I" } : Jvm.MethodName) ∈ tb := tb8 50 (by decide +kernel) (by decide +kernel)
theorem k_8_51 : Jvm.Cond.instanceMethod ({ cls := "FinderHouse", name := "fit", desc := "()I" } : Jvm.MethodName) ∈ tb := tb8 51 (by decide +kernel) (by decide +kernel)
theorem k_8_52 : Jvm.Cond.selects "FinderHouse" ({ cls := "FinderHouse", name := "fit", desc := "()I" } : Jvm.MethodName) ({ cls := "FinderHouse", name := "fit", desc := "()I" } : Jvm.MethodName) ∈ tb := tb8 52 (by decide +kernel) (by decide +kernel)
theorem dL_law_1030 : decode cL_law 1030 = .ok (.invokevirtual 166, 3) := by decide +kernel
theorem dL_law_1033 : decode cL_law 1033 = .ok (.aload_n 2, 1) := by decide +kernel
theorem k_15_134 : Jvm.Cond.code ({ cls := "FinderHouseModel", name := "fit", desc := "()I" } : Jvm.MethodName) prog_14_method_169_code (5 : Nat) (Option.some Jvm.ClassFile.FieldType.int) ∈ tb := tb15 134 (by decide +kernel) (by decide +kernel)
theorem k_15_131 : Jvm.Cond.methodLink "FinderHouseLaw" (169 : Nat) ({ cls := "FinderHouseModel", name := "fit", desc := "()I" } : Jvm.MethodName) ∈ tb := tb15 131 (by decide +kernel) (by decide +kernel)
theorem k_15_132 : Jvm.Cond.instanceMethod ({ cls := "FinderHouseModel", name := "fit", desc := "()I" } : Jvm.MethodName) ∈ tb := tb15 132 (by decide +kernel) (by decide +kernel)
theorem k_15_133 : Jvm.Cond.selects "FinderHouseModel" ({ cls := "FinderHouseModel", name := "fit", desc := "()I" } : Jvm.MethodName) ({ cls := "FinderHouseModel", name := "fit", desc := "()I" } : Jvm.MethodName) ∈ tb := tb15 133 (by decide +kernel) (by decide +kernel)
theorem dL_law_1034 : decode cL_law 1034 = .ok (.invokevirtual 169, 3) := by decide +kernel
theorem dL_law_1037 : decode cL_law 1037 = .ok (.if_icmp .eq 560, 3) := by decide +kernel
theorem dL_law_1042 : decode cL_law 1042 = .ok (.aload_n 1, 1) := by decide +kernel
theorem dL_law_1043 : decode cL_law 1043 = .ok (.aload_n 0, 1) := by decide +kernel
theorem dL_law_1044 : decode cL_law 1044 = .ok (.iload 4, 2) := by decide +kernel
theorem dL_law_1046 : decode cL_law 1046 = .ok (.iconst 1, 1) := by decide +kernel
theorem dL_law_1047 : decode cL_law 1047 = .ok (.iadd, 1) := by decide +kernel
theorem dL_law_1048 : decode cL_law 1048 = .ok (.iaload, 1) := by decide +kernel
theorem k_8_125 : Jvm.Cond.code ({ cls := "FinderHouse", name := "fitting", desc := "(I)J" } : Jvm.MethodName) prog_1_method_46_code (2 : Nat) (Option.some Jvm.ClassFile.FieldType.long) ∈ tb := tb8 125 (by decide +kernel) (by decide +kernel)
theorem k_8_122 : Jvm.Cond.methodLink "FinderHouseLaw" (170 : Nat) ({ cls := "FinderHouse", name := "fitting", desc := "(I)J" } : Jvm.MethodName) ∈ tb := tb8 122 (by decide +kernel) (by decide +kernel)
theorem k_8_123 : Jvm.Cond.instanceMethod ({ cls := "FinderHouse", name := "fitting", desc := "(I)J" } : Jvm.MethodName) ∈ tb := tb8 123 (by decide +kernel) (by decide +kernel)
theorem k_8_124 : Jvm.Cond.selects "FinderHouse" ({ cls := "FinderHouse", name := "fitting", desc := "(I)J" } : Jvm.MethodName) ({ cls := "FinderHouse", name := "fitting", desc := "(I)J" } : Jvm.MethodName) ∈ tb := tb8 124 (by decide +kernel) (by decide +kernel)
theorem dL_law_1049 : decode cL_law 1049 = .ok (.invokevirtual 170, 3) := by decide +kernel
theorem dL_law_1052 : decode cL_law 1052 = .ok (.aload_n 2, 1) := by decide +kernel
theorem dL_law_1053 : decode cL_law 1053 = .ok (.aload_n 0, 1) := by decide +kernel
theorem dL_law_1054 : decode cL_law 1054 = .ok (.iload 4, 2) := by decide +kernel
theorem dL_law_1056 : decode cL_law 1056 = .ok (.iconst 1, 1) := by decide +kernel
theorem dL_law_1057 : decode cL_law 1057 = .ok (.iadd, 1) := by decide +kernel
theorem dL_law_1058 : decode cL_law 1058 = .ok (.iaload, 1) := by decide +kernel
theorem k_15_194 : Jvm.Cond.code ({ cls := "FinderHouseModel", name := "fitting", desc := "(I)J" } : Jvm.MethodName) prog_14_method_171_code (2 : Nat) (Option.some Jvm.ClassFile.FieldType.long) ∈ tb := tb15 194 (by decide +kernel) (by decide +kernel)
theorem k_15_191 : Jvm.Cond.methodLink "FinderHouseLaw" (173 : Nat) ({ cls := "FinderHouseModel", name := "fitting", desc := "(I)J" } : Jvm.MethodName) ∈ tb := tb15 191 (by decide +kernel) (by decide +kernel)
theorem k_15_192 : Jvm.Cond.instanceMethod ({ cls := "FinderHouseModel", name := "fitting", desc := "(I)J" } : Jvm.MethodName) ∈ tb := tb15 192 (by decide +kernel) (by decide +kernel)
theorem k_15_193 : Jvm.Cond.selects "FinderHouseModel" ({ cls := "FinderHouseModel", name := "fitting", desc := "(I)J" } : Jvm.MethodName) ({ cls := "FinderHouseModel", name := "fitting", desc := "(I)J" } : Jvm.MethodName) ∈ tb := tb15 193 (by decide +kernel) (by decide +kernel)
theorem dL_law_1059 : decode cL_law 1059 = .ok (.invokevirtual 173, 3) := by decide +kernel
theorem dL_law_1062 : decode cL_law 1062 = .ok (.lcmp, 1) := by decide +kernel
theorem dL_law_1063 : decode cL_law 1063 = .ok (.ifCond .eq 534, 3) := by decide +kernel
theorem dL_law_1068 : decode cL_law 1068 = .ok (.aload_n 1, 1) := by decide +kernel
theorem dL_law_1069 : decode cL_law 1069 = .ok (.aload_n 0, 1) := by decide +kernel
theorem dL_law_1070 : decode cL_law 1070 = .ok (.iload 4, 2) := by decide +kernel
theorem dL_law_1072 : decode cL_law 1072 = .ok (.iconst 1, 1) := by decide +kernel
theorem dL_law_1073 : decode cL_law 1073 = .ok (.iadd, 1) := by decide +kernel
theorem dL_law_1074 : decode cL_law 1074 = .ok (.iaload, 1) := by decide +kernel
theorem dL_law_1075 : decode cL_law 1075 = .ok (.aload_n 0, 1) := by decide +kernel
theorem dL_law_1076 : decode cL_law 1076 = .ok (.iload 4, 2) := by decide +kernel
theorem dL_law_1078 : decode cL_law 1078 = .ok (.iconst 2, 1) := by decide +kernel
theorem dL_law_1079 : decode cL_law 1079 = .ok (.iadd, 1) := by decide +kernel
theorem dL_law_1080 : decode cL_law 1080 = .ok (.iaload, 1) := by decide +kernel
theorem k_8_137 : Jvm.Cond.code ({ cls := "FinderHouse", name := "part", desc := "(II)I" } : Jvm.MethodName) prog_1_method_47_code (3 : Nat) (Option.some Jvm.ClassFile.FieldType.int) ∈ tb := tb8 137 (by decide +kernel) (by decide +kernel)
theorem k_8_134 : Jvm.Cond.methodLink "FinderHouseLaw" (174 : Nat) ({ cls := "FinderHouse", name := "part", desc := "(II)I" } : Jvm.MethodName) ∈ tb := tb8 134 (by decide +kernel) (by decide +kernel)
theorem k_8_135 : Jvm.Cond.instanceMethod ({ cls := "FinderHouse", name := "part", desc := "(II)I" } : Jvm.MethodName) ∈ tb := tb8 135 (by decide +kernel) (by decide +kernel)
theorem k_8_136 : Jvm.Cond.selects "FinderHouse" ({ cls := "FinderHouse", name := "part", desc := "(II)I" } : Jvm.MethodName) ({ cls := "FinderHouse", name := "part", desc := "(II)I" } : Jvm.MethodName) ∈ tb := tb8 136 (by decide +kernel) (by decide +kernel)
theorem dL_law_1081 : decode cL_law 1081 = .ok (.invokevirtual 174, 3) := by decide +kernel
theorem dL_law_1084 : decode cL_law 1084 = .ok (.aload_n 2, 1) := by decide +kernel
theorem dL_law_1085 : decode cL_law 1085 = .ok (.aload_n 0, 1) := by decide +kernel
theorem dL_law_1086 : decode cL_law 1086 = .ok (.iload 4, 2) := by decide +kernel
theorem dL_law_1088 : decode cL_law 1088 = .ok (.iconst 1, 1) := by decide +kernel
theorem dL_law_1089 : decode cL_law 1089 = .ok (.iadd, 1) := by decide +kernel
theorem dL_law_1090 : decode cL_law 1090 = .ok (.iaload, 1) := by decide +kernel
theorem dL_law_1091 : decode cL_law 1091 = .ok (.aload_n 0, 1) := by decide +kernel
theorem dL_law_1092 : decode cL_law 1092 = .ok (.iload 4, 2) := by decide +kernel
theorem dL_law_1094 : decode cL_law 1094 = .ok (.iconst 2, 1) := by decide +kernel
theorem dL_law_1095 : decode cL_law 1095 = .ok (.iadd, 1) := by decide +kernel
theorem dL_law_1096 : decode cL_law 1096 = .ok (.iaload, 1) := by decide +kernel
theorem k_15_200 : Jvm.Cond.code ({ cls := "FinderHouseModel", name := "part", desc := "(II)I" } : Jvm.MethodName) prog_14_method_172_code (4 : Nat) (Option.some Jvm.ClassFile.FieldType.int) ∈ tb := tb15 200 (by decide +kernel) (by decide +kernel)
theorem k_15_197 : Jvm.Cond.methodLink "FinderHouseLaw" (177 : Nat) ({ cls := "FinderHouseModel", name := "part", desc := "(II)I" } : Jvm.MethodName) ∈ tb := tb15 197 (by decide +kernel) (by decide +kernel)
theorem k_15_198 : Jvm.Cond.instanceMethod ({ cls := "FinderHouseModel", name := "part", desc := "(II)I" } : Jvm.MethodName) ∈ tb := tb15 198 (by decide +kernel) (by decide +kernel)
theorem k_15_199 : Jvm.Cond.selects "FinderHouseModel" ({ cls := "FinderHouseModel", name := "part", desc := "(II)I" } : Jvm.MethodName) ({ cls := "FinderHouseModel", name := "part", desc := "(II)I" } : Jvm.MethodName) ∈ tb := tb15 199 (by decide +kernel) (by decide +kernel)
theorem dL_law_1097 : decode cL_law 1097 = .ok (.invokevirtual 177, 3) := by decide +kernel
theorem dL_law_1100 : decode cL_law 1100 = .ok (.if_icmp .eq 497, 3) := by decide +kernel
theorem dL_law_1105 : decode cL_law 1105 = .ok (.aload_n 1, 1) := by decide +kernel
theorem k_8_145 : Jvm.Cond.code ({ cls := "FinderHouse", name := "apply", desc := "()I" } : Jvm.MethodName) prog_1_method_48_code (3 : Nat) (Option.some Jvm.ClassFile.FieldType.int) ∈ tb := tb8 145 (by decide +kernel) (by decide +kernel)
theorem k_8_142 : Jvm.Cond.methodLink "FinderHouseLaw" (178 : Nat) ({ cls := "FinderHouse", name := "apply", desc := "()I" } : Jvm.MethodName) ∈ tb := tb8 142 (by decide +kernel) (by decide +kernel)
theorem k_8_143 : Jvm.Cond.instanceMethod ({ cls := "FinderHouse", name := "apply", desc := "()I" } : Jvm.MethodName) ∈ tb := tb8 143 (by decide +kernel) (by decide +kernel)
theorem k_8_144 : Jvm.Cond.selects "FinderHouse" ({ cls := "FinderHouse", name := "apply", desc := "()I" } : Jvm.MethodName) ({ cls := "FinderHouse", name := "apply", desc := "()I" } : Jvm.MethodName) ∈ tb := tb8 144 (by decide +kernel) (by decide +kernel)
theorem dL_law_1106 : decode cL_law 1106 = .ok (.invokevirtual 178, 3) := by decide +kernel
theorem dL_law_1109 : decode cL_law 1109 = .ok (.aload_n 2, 1) := by decide +kernel
theorem k_15_204 : Jvm.Cond.code ({ cls := "FinderHouseModel", name := "apply", desc := "()I" } : Jvm.MethodName) prog_14_method_173_code (5 : Nat) (Option.some Jvm.ClassFile.FieldType.int) ∈ tb := tb15 204 (by decide +kernel) (by decide +kernel)
theorem k_15_201 : Jvm.Cond.methodLink "FinderHouseLaw" (181 : Nat) ({ cls := "FinderHouseModel", name := "apply", desc := "()I" } : Jvm.MethodName) ∈ tb := tb15 201 (by decide +kernel) (by decide +kernel)
theorem k_15_202 : Jvm.Cond.instanceMethod ({ cls := "FinderHouseModel", name := "apply", desc := "()I" } : Jvm.MethodName) ∈ tb := tb15 202 (by decide +kernel) (by decide +kernel)
theorem k_15_203 : Jvm.Cond.selects "FinderHouseModel" ({ cls := "FinderHouseModel", name := "apply", desc := "()I" } : Jvm.MethodName) ({ cls := "FinderHouseModel", name := "apply", desc := "()I" } : Jvm.MethodName) ∈ tb := tb15 203 (by decide +kernel) (by decide +kernel)
theorem dL_law_1110 : decode cL_law 1110 = .ok (.invokevirtual 181, 3) := by decide +kernel
theorem dL_law_1113 : decode cL_law 1113 = .ok (.if_icmp .eq 484, 3) := by decide +kernel
theorem dL_law_1118 : decode cL_law 1118 = .ok (.aload_n 1, 1) := by decide +kernel
theorem dL_law_1119 : decode cL_law 1119 = .ok (.aload_n 0, 1) := by decide +kernel
theorem dL_law_1120 : decode cL_law 1120 = .ok (.iload 4, 2) := by decide +kernel
theorem dL_law_1122 : decode cL_law 1122 = .ok (.iconst 1, 1) := by decide +kernel
theorem dL_law_1123 : decode cL_law 1123 = .ok (.iadd, 1) := by decide +kernel
theorem dL_law_1124 : decode cL_law 1124 = .ok (.iaload, 1) := by decide +kernel
theorem dL_law_1125 : decode cL_law 1125 = .ok (.ifCond .eq 7, 3) := by decide +kernel
theorem dL_law_1132 : decode cL_law 1132 = .ok (.iconst 0, 1) := by decide +kernel
theorem k_8_157 : Jvm.Cond.code ({ cls := "FinderHouse", name := "word", desc := "(Z)I" } : Jvm.MethodName) prog_1_method_49_code (2 : Nat) (Option.some Jvm.ClassFile.FieldType.int) ∈ tb := tb8 157 (by decide +kernel) (by decide +kernel)
theorem k_8_154 : Jvm.Cond.methodLink "FinderHouseLaw" (182 : Nat) ({ cls := "FinderHouse", name := "word", desc := "(Z)I" } : Jvm.MethodName) ∈ tb := tb8 154 (by decide +kernel) (by decide +kernel)
theorem k_8_155 : Jvm.Cond.instanceMethod ({ cls := "FinderHouse", name := "word", desc := "(Z)I" } : Jvm.MethodName) ∈ tb := tb8 155 (by decide +kernel) (by decide +kernel)
theorem k_8_156 : Jvm.Cond.selects "FinderHouse" ({ cls := "FinderHouse", name := "word", desc := "(Z)I" } : Jvm.MethodName) ({ cls := "FinderHouse", name := "word", desc := "(Z)I" } : Jvm.MethodName) ∈ tb := tb8 156 (by decide +kernel) (by decide +kernel)
theorem dL_law_1133 : decode cL_law 1133 = .ok (.invokevirtual 182, 3) := by decide +kernel
theorem dL_law_1136 : decode cL_law 1136 = .ok (.aload_n 2, 1) := by decide +kernel
theorem dL_law_1137 : decode cL_law 1137 = .ok (.aload_n 0, 1) := by decide +kernel
theorem dL_law_1138 : decode cL_law 1138 = .ok (.iload 4, 2) := by decide +kernel
theorem dL_law_1140 : decode cL_law 1140 = .ok (.iconst 1, 1) := by decide +kernel
theorem dL_law_1141 : decode cL_law 1141 = .ok (.iadd, 1) := by decide +kernel
theorem dL_law_1142 : decode cL_law 1142 = .ok (.iaload, 1) := by decide +kernel
theorem dL_law_1143 : decode cL_law 1143 = .ok (.ifCond .eq 7, 3) := by decide +kernel
theorem dL_law_1150 : decode cL_law 1150 = .ok (.iconst 0, 1) := by decide +kernel
theorem k_15_208 : Jvm.Cond.code ({ cls := "FinderHouseModel", name := "word", desc := "(Z)I" } : Jvm.MethodName) prog_14_method_174_code (2 : Nat) (Option.some Jvm.ClassFile.FieldType.int) ∈ tb := tb15 208 (by decide +kernel) (by decide +kernel)
theorem k_15_205 : Jvm.Cond.methodLink "FinderHouseLaw" (186 : Nat) ({ cls := "FinderHouseModel", name := "word", desc := "(Z)I" } : Jvm.MethodName) ∈ tb := tb15 205 (by decide +kernel) (by decide +kernel)
theorem k_15_206 : Jvm.Cond.instanceMethod ({ cls := "FinderHouseModel", name := "word", desc := "(Z)I" } : Jvm.MethodName) ∈ tb := tb15 206 (by decide +kernel) (by decide +kernel)
theorem k_15_207 : Jvm.Cond.selects "FinderHouseModel" ({ cls := "FinderHouseModel", name := "word", desc := "(Z)I" } : Jvm.MethodName) ({ cls := "FinderHouseModel", name := "word", desc := "(Z)I" } : Jvm.MethodName) ∈ tb := tb15 207 (by decide +kernel) (by decide +kernel)
theorem dL_law_1151 : decode cL_law 1151 = .ok (.invokevirtual 186, 3) := by decide +kernel
theorem dL_law_1154 : decode cL_law 1154 = .ok (.if_icmp .eq 443, 3) := by decide +kernel
theorem dL_law_1128 : decode cL_law 1128 = .ok (.iconst 1, 1) := by decide +kernel
theorem dL_law_1129 : decode cL_law 1129 = .ok (.goto 4, 3) := by decide +kernel
theorem dL_law_1146 : decode cL_law 1146 = .ok (.iconst 1, 1) := by decide +kernel
theorem dL_law_1147 : decode cL_law 1147 = .ok (.goto 4, 3) := by decide +kernel
set_option maxHeartbeats 4000000 in
set_option maxRecDepth 100000 in
theorem lw_c25 {p : Program} {e : Env} {s : State} {m : MethodId} {below : List Frame} {meth : Method} {c : Code} (l : Launch) {b : Nat} {xs : Nat → Int32} (C0 : lw_At p s m meth c b 6 xs) (dC : Nat → ClassId) (dI : Nat → Nat → Nat) {A : Nat → Prop} (hA : ∀ q : Nat, s.heap.size ≤ q → A q) (hA2 : ∀ q : Nat, A q → s.heap.size ≤ q) (xq : Nat) (xfs1 : List Value) (xlp : Nat) (xgl : List Value) (mq : Nat) (mfs1 : List Value) (ou : Nat) {H : Heap} {locs : List Loc} {ls : Array Slot} (hK : va_K (dC, dI) cls [] s) (hP : va_P (dC, dI) cls [(xq, .inr (11, xfs1)), (xlp, .inr (4, xgl)), (mq, .inr (15, mfs1))] H) (hD : va_D A [(xq, .inr (11, xfs1)), (xlp, .inr (4, xgl)), (mq, .inr (15, mfs1))]) (hS : va_S A s.heap H locs) (hl : lv_has ls 7 [(4, .int 0), (3, .ref ou), (2, .ref mq), (1, .ref xq), (0, .ref b)]) (L_xfs1 : xfs1.length = 18) (K2_xfs1 : xfs1[2]? = some (.int 0)) (K14_xfs1 : xfs1[14]? = some (.ref xlp)) (L_xgl : xgl.length = 18) (K1_xgl : xgl[1]? = some (.int 0)) (L_mfs1 : mfs1.length = 163) (K54_mfs1 : mfs1[54]? = some (.int 0)) (K92_mfs1 : mfs1[92]? = some (.null)) : W p l e room_1 s m #[Value.ref b] below meth c H locs 951 1458901 (lw_Z below #[Value.ref b] s) (F0 m 904 ls []) := by
  obtain ⟨hx, hb, hr, hml, hown, hts, hX, hbl, hlocks, hgv⟩ := id C0
  have hown : s.vm.findClass RL = some m.cls := hown
  have ht : ∀ w ∈ tb, w.before #[Value.ref b] s = true := fun w hw => hts w (List.mem_filter.mp hw).1
  have hbA : ¬ A b := fun h => absurd (hA2 _ h) (Nat.not_le.mpr hbl)
  refine lv_aload_n hx hb dL_law_904 rfl (lv_at hl 3 rfl) ?_
  refine lv_aload_n hx hb dL_law_905 rfl (lv_at hl 4 rfl) ?_
  refine lv_iload hx hb dL_law_906 (lv_at hl 0 rfl) ?_
  refine lv_iconst (v := 1) hx hb dL_law_908 (by decide) ?_
  refine lv_iadd hx hb dL_law_909 ?_
  refine tk_i (y := 1) (by decide) ?_
  refine va_sld hx hb hX hbl hbA hS (by unfold vp_in; decide) dL_law_910 ?_
  refine tk_i (y := (xs 1)) rfl ?_
  refine lv_aload_n hx hb dL_law_911 rfl (lv_at hl 4 rfl) ?_
  refine lv_iload hx hb dL_law_912 (lv_at hl 0 rfl) ?_
  refine lv_iconst (v := 2) hx hb dL_law_914 (by decide) ?_
  refine lv_iadd hx hb dL_law_915 ?_
  refine tk_i (y := 2) (by decide) ?_
  refine va_sld hx hb hX hbl hbA hS (by unfold vp_in; decide) dL_law_916 ?_
  refine tk_i (y := (xs 2)) rfl ?_
  refine ca_i (wr := [(mq, .inr (15, mfs1))]) (va_runV (As := [.int (xs 1), .int (xs 2)]) (rest := []) ⟨hx, hb, hml, hown, ht⟩ (x_runs l dC dI H.size xq xfs1 xlp xgl (xs 1) (xs 2) L_xfs1 K2_xfs1 K14_xfs1 L_xgl K1_xgl ) (cwV 2 ht (gdV k_8_0 k_7_237 k_7_238 k_7_239 k_1_1) rfl rfl rfl (by decide +kernel) ⟨Nat.le_of_ble_eq_true rfl, Nat.le_of_ble_eq_true rfl⟩) ⟨pcw_blind, va_recv hK hP (ci := 11) (q0 := 0) rfl rfl, pcw_at hP hD hK [0, 1] [] (by decide) rfl rfl rfl⟩ rfl rfl hl.1 rfl (lv_room (Nat.le_of_ble_eq_true rfl)) dL_law_917 ⟨Nat.le_of_ble_eq_true rfl, Nat.le_of_ble_eq_true rfl⟩) hP hD hK hS hA [0, 1] [2] rfl rfl (by decide) (by decide) (fun r_1 u H locs w_2 hK hP hD hS => ?_)
  have hK : va_K (dC, dI) cls [] s := hK
  have hP : va_P (dC, dI) cls [(mq, .inr (15, mfs1))] H := hP
  have hD : va_D A [(mq, .inr (15, mfs1))] := hD
  obtain rfl : r_1 = (-2) := w_2
  refine lv_aload_n hx hb dL_law_920 rfl (lv_at hl 2 rfl) ?_
  refine lv_aload_n hx hb dL_law_921 rfl (lv_at hl 4 rfl) ?_
  refine lv_iload hx hb dL_law_922 (lv_at hl 0 rfl) ?_
  refine lv_iconst (v := 1) hx hb dL_law_924 (by decide) ?_
  refine lv_iadd hx hb dL_law_925 ?_
  refine tk_i (y := 1) (by decide) ?_
  refine va_sld hx hb hX hbl hbA hS (by unfold vp_in; decide) dL_law_926 ?_
  refine tk_i (y := (xs 1)) rfl ?_
  refine lv_aload_n hx hb dL_law_927 rfl (lv_at hl 4 rfl) ?_
  refine lv_iload hx hb dL_law_928 (lv_at hl 0 rfl) ?_
  refine lv_iconst (v := 2) hx hb dL_law_930 (by decide) ?_
  refine lv_iadd hx hb dL_law_931 ?_
  refine tk_i (y := 2) (by decide) ?_
  refine va_sld hx hb hX hbl hbA hS (by unfold vp_in; decide) dL_law_932 ?_
  refine tk_i (y := (xs 2)) rfl ?_
  refine ca_i (wr := []) (va_runV (As := [.int (xs 1), .int (xs 2)]) (rest := [.int (-2)]) ⟨hx, hb, hml, hown, ht⟩ (r_runs l dC dI H.size mq mfs1 (xs 1) (xs 2) L_mfs1 K54_mfs1 K92_mfs1 ) (cwV 2 ht (gdV k_15_105 k_15_102 k_15_103 k_15_104 k_1_17) rfl rfl rfl (by decide +kernel) ⟨Nat.le_of_ble_eq_true rfl, Nat.le_of_ble_eq_true rfl⟩) ⟨pcw_blind, va_recv hK hP (ci := 15) (q0 := 0) rfl rfl, pcw_at hP hD hK [0] [] (by decide) rfl rfl rfl⟩ rfl rfl hl.1 rfl (lv_room (Nat.le_of_ble_eq_true rfl)) dL_law_933 ⟨Nat.le_of_ble_eq_true rfl, Nat.le_of_ble_eq_true rfl⟩) hP hD hK hS hA [0] [] rfl rfl (by decide) (by decide) (fun r_3 u H locs w_4 hK hP hD hS => ?_)
  have hK : va_K (dC, dI) cls [] s := hK
  have hP : va_P (dC, dI) cls [] H := hP
  have hD : va_D A [] := hD
  obtain rfl : r_3 = (-2) := w_4
  refine lv_icmp_eq (tgt := 1597) hx hb dL_law_936 (by decide) (fun _ => ?_) (fun c0 => absurd c0 (by decide))
  exact lw_tail l C0 hA2 hS (lv_sub hl [0, 4] rfl) (Nat.le_of_ble_eq_true rfl) (Nat.le_of_ble_eq_true rfl)
set_option maxHeartbeats 4000000 in
set_option maxRecDepth 100000 in
theorem lw_c26 {p : Program} {e : Env} {s : State} {m : MethodId} {below : List Frame} {meth : Method} {c : Code} (l : Launch) {b : Nat} {xs : Nat → Int32} (C0 : lw_At p s m meth c b 6 xs) (dC : Nat → ClassId) (dI : Nat → Nat → Nat) {A : Nat → Prop} (hA : ∀ q : Nat, s.heap.size ≤ q → A q) (hA2 : ∀ q : Nat, A q → s.heap.size ≤ q) (xq : Nat) (xfs1 : List Value) (xlp : Nat) (xgl : List Value) (mq : Nat) (mfs1 : List Value) (ou : Nat) {H : Heap} {locs : List Loc} {ls : Array Slot} (hK : va_K (dC, dI) cls [] s) (hP : va_P (dC, dI) cls [(xq, .inr (11, xfs1)), (xlp, .inr (4, xgl)), (mq, .inr (15, mfs1))] H) (hD : va_D A [(xq, .inr (11, xfs1)), (xlp, .inr (4, xgl)), (mq, .inr (15, mfs1))]) (hS : va_S A s.heap H locs) (hl : lv_has ls 7 [(4, .int 0), (3, .ref ou), (2, .ref mq), (1, .ref xq), (0, .ref b)]) (L_xfs1 : xfs1.length = 18) (K2_xfs1 : xfs1[2]? = some (.int 0)) (K14_xfs1 : xfs1[14]? = some (.ref xlp)) (L_xgl : xgl.length = 18) (K1_xgl : xgl[1]? = some (.int 0)) (L_mfs1 : mfs1.length = 163) (K54_mfs1 : mfs1[54]? = some (.int 0)) (K92_mfs1 : mfs1[92]? = some (.null)) : W p l e room_1 s m #[Value.ref b] below meth c H locs 951 1458901 (lw_Z below #[Value.ref b] s) (F0 m 941 ls []) := by
  obtain ⟨hx, hb, hr, hml, hown, hts, hX, hbl, hlocks, hgv⟩ := id C0
  have hown : s.vm.findClass RL = some m.cls := hown
  have ht : ∀ w ∈ tb, w.before #[Value.ref b] s = true := fun w hw => hts w (List.mem_filter.mp hw).1
  have hbA : ¬ A b := fun h => absurd (hA2 _ h) (Nat.not_le.mpr hbl)
  refine lv_aload_n hx hb dL_law_941 rfl (lv_at hl 3 rfl) ?_
  refine lv_aload_n hx hb dL_law_942 rfl (lv_at hl 4 rfl) ?_
  refine lv_iload hx hb dL_law_943 (lv_at hl 0 rfl) ?_
  refine lv_iconst (v := 1) hx hb dL_law_945 (by decide) ?_
  refine lv_iadd hx hb dL_law_946 ?_
  refine tk_i (y := 1) (by decide) ?_
  refine va_sld hx hb hX hbl hbA hS (by unfold vp_in; decide) dL_law_947 ?_
  refine tk_i (y := (xs 1)) rfl ?_
  refine lv_aload_n hx hb dL_law_948 rfl (lv_at hl 4 rfl) ?_
  refine lv_iload hx hb dL_law_949 (lv_at hl 0 rfl) ?_
  refine lv_iconst (v := 2) hx hb dL_law_951 (by decide) ?_
  refine lv_iadd hx hb dL_law_952 ?_
  refine tk_i (y := 2) (by decide) ?_
  refine va_sld hx hb hX hbl hbA hS (by unfold vp_in; decide) dL_law_953 ?_
  refine tk_i (y := (xs 2)) rfl ?_
  refine ca_i (wr := [(mq, .inr (15, mfs1))]) (va_runV (As := [.int (xs 1), .int (xs 2)]) (rest := []) ⟨hx, hb, hml, hown, ht⟩ (x_span l dC dI H.size xq xfs1 xlp xgl (xs 1) (xs 2) L_xfs1 K2_xfs1 K14_xfs1 L_xgl K1_xgl ) (cwV 2 ht (gdV k_8_8 k_8_5 k_8_6 k_8_7 k_1_1) rfl rfl rfl (by decide +kernel) ⟨Nat.le_of_ble_eq_true rfl, Nat.le_of_ble_eq_true rfl⟩) ⟨pcw_blind, va_recv hK hP (ci := 11) (q0 := 0) rfl rfl, pcw_at hP hD hK [0, 1] [] (by decide) rfl rfl rfl⟩ rfl rfl hl.1 rfl (lv_room (Nat.le_of_ble_eq_true rfl)) dL_law_954 ⟨Nat.le_of_ble_eq_true rfl, Nat.le_of_ble_eq_true rfl⟩) hP hD hK hS hA [0, 1] [2] rfl rfl (by decide) (by decide) (fun r_1 u H locs w_2 hK hP hD hS => ?_)
  have hK : va_K (dC, dI) cls [] s := hK
  have hP : va_P (dC, dI) cls [(mq, .inr (15, mfs1))] H := hP
  have hD : va_D A [(mq, .inr (15, mfs1))] := hD
  obtain rfl : r_1 = (-2) := w_2
  refine lv_aload_n hx hb dL_law_957 rfl (lv_at hl 2 rfl) ?_
  refine lv_aload_n hx hb dL_law_958 rfl (lv_at hl 4 rfl) ?_
  refine lv_iload hx hb dL_law_959 (lv_at hl 0 rfl) ?_
  refine lv_iconst (v := 1) hx hb dL_law_961 (by decide) ?_
  refine lv_iadd hx hb dL_law_962 ?_
  refine tk_i (y := 1) (by decide) ?_
  refine va_sld hx hb hX hbl hbA hS (by unfold vp_in; decide) dL_law_963 ?_
  refine tk_i (y := (xs 1)) rfl ?_
  refine lv_aload_n hx hb dL_law_964 rfl (lv_at hl 4 rfl) ?_
  refine lv_iload hx hb dL_law_965 (lv_at hl 0 rfl) ?_
  refine lv_iconst (v := 2) hx hb dL_law_967 (by decide) ?_
  refine lv_iadd hx hb dL_law_968 ?_
  refine tk_i (y := 2) (by decide) ?_
  refine va_sld hx hb hX hbl hbA hS (by unfold vp_in; decide) dL_law_969 ?_
  refine tk_i (y := (xs 2)) rfl ?_
  refine ca_i (wr := []) (va_runV (As := [.int (xs 1), .int (xs 2)]) (rest := [.int (-2)]) ⟨hx, hb, hml, hown, ht⟩ (r_span l dC dI H.size mq mfs1 (xs 1) (xs 2) L_mfs1 K54_mfs1 K92_mfs1 ) (cwV 2 ht (gdV k_15_109 k_15_106 k_15_107 k_15_108 k_1_17) rfl rfl rfl (by decide +kernel) ⟨Nat.le_of_ble_eq_true rfl, Nat.le_of_ble_eq_true rfl⟩) ⟨pcw_blind, va_recv hK hP (ci := 15) (q0 := 0) rfl rfl, pcw_at hP hD hK [0] [] (by decide) rfl rfl rfl⟩ rfl rfl hl.1 rfl (lv_room (Nat.le_of_ble_eq_true rfl)) dL_law_970 ⟨Nat.le_of_ble_eq_true rfl, Nat.le_of_ble_eq_true rfl⟩) hP hD hK hS hA [0] [] rfl rfl (by decide) (by decide) (fun r_3 u H locs w_4 hK hP hD hS => ?_)
  have hK : va_K (dC, dI) cls [] s := hK
  have hP : va_P (dC, dI) cls [] H := hP
  have hD : va_D A [] := hD
  obtain rfl : r_3 = (-2) := w_4
  refine lv_icmp_eq (tgt := 1597) hx hb dL_law_973 (by decide) (fun _ => ?_) (fun c0 => absurd c0 (by decide))
  exact lw_tail l C0 hA2 hS (lv_sub hl [0, 4] rfl) (Nat.le_of_ble_eq_true rfl) (Nat.le_of_ble_eq_true rfl)
set_option maxHeartbeats 4000000 in
set_option maxRecDepth 100000 in
theorem lw_c27 {p : Program} {e : Env} {s : State} {m : MethodId} {below : List Frame} {meth : Method} {c : Code} (l : Launch) {b : Nat} {xs : Nat → Int32} (C0 : lw_At p s m meth c b 6 xs) (dC : Nat → ClassId) (dI : Nat → Nat → Nat) {A : Nat → Prop} (hA : ∀ q : Nat, s.heap.size ≤ q → A q) (hA2 : ∀ q : Nat, A q → s.heap.size ≤ q) (xq : Nat) (xfs1 : List Value) (xtp : Nat) (xcT : ClassId) (xft : Nat → Int32) (xrd : Nat) (xgr : List Value) (xnd : Nat) (xgn : List Value) (xas : Nat) (xsp : Nat) (xlp : Nat) (xgl : List Value) (xvk : Nat) (xwr : Nat) (xma : Nat) (xdk : Nat) (mq : Nat) (mfs1 : List Value) (mbd : Nat) (mgb : List Value) (ou : Nat) (st0 : Nat) (st1 : Nat) (st2 : Nat) (st3 : Nat) (st4 : Nat) (st5 : Nat) (st6 : Nat) (st7 : Nat) (sv0 : Nat) (sv1 : Nat) (sv2 : Nat) (hE : xf_all A s s.heap [.inr (.inl ("FinderHouse$Acts", 47, "add sub mul div rem min max and or xor less same not both any if pick cat len take drop rev head like code sign ", st0)), .inr (.inl ("FinderHouse$Acts", 63, "nnn nnn nnn nnn nnn nnn nnn nnn nnn nnn nnt nnt tt ttt ttt tnnn tsss sss sn sns sns ss ss sst sn ns ", st1)), .inl ("java/lang/String", "COMPACT_STRINGS", "Z", .int 1), .inr (.inr (.inr (.inr (.inl ("jdk/internal/util/Preconditions", "SIOOBE_FORMATTER", "Ljava/util/function/BiFunction;"))))), .inr (.inr (.inr (.inl "FinderHouse$Term"))), .inr (.inr (.inr (.inr (.inr (.inr ()))))), .inr (.inl ("FinderHouseModel", 313, "add nnn sub nnn mul nnn div nnn rem nnn min nnn max nnn and nnn or nnn xor nnn less nnt same nnt not tt both ttt any ttt if tnnn pick tsss cat sss len sn take sns drop sns rev ss head ss like sst code sn sign ns ", st2)), .inr (.inr (.inr (.inr (.inr (.inl .int))))), .inr (.inr (.inr (.inr (.inr (.inl .long))))), .inr (.inr (.inr (.inr (.inl ("java/lang/Throwable", "UNASSIGNED_STACK", "[Ljava/lang/StackTraceElement;"))))), .inr (.inr (.inr (.inr (.inl ("java/lang/Throwable", "SUPPRESSED_SENTINEL", "Ljava/util/List;"))))), .inr (.inr (.inl (st0, sv0, bsN))), .inr (.inr (.inl (st1, sv1, bsK))), .inr (.inr (.inl (st2, sv2, bsB))), .inr (.inl ("FinderHouse$Reader", 209, "find", st3)), .inr (.inl ("FinderHouse$Reader", 271, "act", st4)), .inr (.inl ("FinderHouse$Reader", 291, "loop", st5)), .inl ("FinderHouseModel", "TRUE", "J", .long 407354), .inl ("FinderHouseModel", "FALSE", "J", .long 3217595), .inl ("FinderHouseModel", "FIND", "J", .long 125041), .inl ("FinderHouseModel", "ACT", "J", .long 830), .inl ("FinderHouseModel", "LOOP", "J", .long 247552), .inr (.inl ("FinderHouse", 104, "the tape has not so many bytes", st6)), .inr (.inl ("FinderHouse", 534, "no such byte on the disk", st7))]) {H : Heap} {locs : List Loc} {ls : Array Slot} (hK : va_K (dC, dI) cls [(xcT, .byte)] s) (hP : va_P (dC, dI) cls [(xq, .inr (11, xfs1)), (xtp, .inl (xcT, 2000, .inl xft)), (xrd, .inr (6, xgr)), (xnd, .inr (9, xgn)), (xlp, .inr (4, xgl)), (mq, .inr (15, mfs1)), (mbd, .inr (13, mgb))] H) (hD : va_D A [(xq, .inr (11, xfs1)), (xtp, .inl (xcT, 2000, .inl xft)), (xrd, .inr (6, xgr)), (xnd, .inr (9, xgn)), (xlp, .inr (4, xgl)), (mq, .inr (15, mfs1)), (mbd, .inr (13, mgb))]) (hS : va_S A s.heap H locs) (hl : lv_has ls 7 [(4, .int 0), (3, .ref ou), (2, .ref mq), (1, .ref xq), (0, .ref b)]) (L_xfs1 : xfs1.length = 18) (K0_xfs1 : xfs1[0]? = some (.ref xtp)) (K1_xfs1 : xfs1[1]? = some (.int 0)) (K2_xfs1 : xfs1[2]? = some (.int 0)) (K8_xfs1 : xfs1[8]? = some (.ref xrd)) (K9_xfs1 : xfs1[9]? = some (.ref xas)) (K10_xfs1 : xfs1[10]? = some (.ref xsp)) (K11_xfs1 : xfs1[11]? = some (.int 0)) (K14_xfs1 : xfs1[14]? = some (.ref xlp)) (K15_xfs1 : xfs1[15]? = some (.ref xwr)) (K16_xfs1 : xfs1[16]? = some (.ref xma)) (K17_xfs1 : xfs1[17]? = some (.ref xdk)) (L_xgr : xgr.length = 20) (K11_xgr : xgr[11]? = some (.ref xnd)) (L_xgn : xgn.length = 4) (L_xgl : xgl.length = 18) (K1_xgl : xgl[1]? = some (.int 0)) (K3_xgl : xgl[3]? = some (.ref xvk)) (L_mfs1 : mfs1.length = 163) (K53_mfs1 : mfs1[53]? = some (.int 0)) (K54_mfs1 : mfs1[54]? = some (.int 0)) (K23_mfs1 : mfs1[23]? = some (.ref mbd)) (L_mgb : mgb.length = 8) : W p l e room_1 s m #[Value.ref b] below meth c H locs 951 1458901 (lw_Z below #[Value.ref b] s) (F0 m 978 ls []) := by
  obtain ⟨hx, hb, hr, hml, hown, hts, hX, hbl, hlocks, hgv⟩ := id C0
  have hown : s.vm.findClass RL = some m.cls := hown
  have ht : ∀ w ∈ tb, w.before #[Value.ref b] s = true := fun w hw => hts w (List.mem_filter.mp hw).1
  have hbA : ¬ A b := fun h => absurd (hA2 _ h) (Nat.not_le.mpr hbl)
  refine lv_aload_n hx hb dL_law_978 rfl (lv_at hl 3 rfl) ?_
  refine ca_i (wr := [(mq, .inr (15, mfs1)), (mbd, .inr (13, mgb))]) (va_runV (As := []) (rest := []) ⟨hx, hb, hml, hown, ht⟩ (x_keeps l dC dI H.size xq xfs1 xtp xrd xas xsp xlp xwr xma xdk xgr xnd xgn xcT xft xgl xvk L_xfs1 K0_xfs1 K1_xfs1 K2_xfs1 K8_xfs1 K9_xfs1 K10_xfs1 K11_xfs1 K14_xfs1 K15_xfs1 K16_xfs1 K17_xfs1 L_xgr K11_xgr L_xgn L_xgl K1_xgl K3_xgl ) (cwV 0 ht (gdV k_8_16 k_8_13 k_8_14 k_8_15 k_1_1) rfl rfl rfl (by decide +kernel) ⟨Nat.le_of_ble_eq_true rfl, Nat.le_of_ble_eq_true rfl⟩) ⟨pcw_blind, va_recv hK hP (ci := 11) (q0 := 0) rfl rfl, pcw_at hP hD hK [0, 2, 3, 1, 4] [0] (by decide) rfl rfl rfl⟩ rfl rfl hl.1 rfl (lv_room (Nat.le_of_ble_eq_true rfl)) dL_law_979 ⟨Nat.le_of_ble_eq_true rfl, Nat.le_of_ble_eq_true rfl⟩) hP hD hK hS hA [0, 2, 3, 1, 4] [5, 6] rfl rfl (by decide) (by decide) (fun r_1 u H locs w_2 hK hP hD hS => ?_)
  have hK : va_K (dC, dI) cls [(xcT, .byte)] s := hK
  have hP : va_P (dC, dI) cls [(mq, .inr (15, mfs1)), (mbd, .inr (13, mgb))] H := hP
  have hD : va_D A [(mq, .inr (15, mfs1)), (mbd, .inr (13, mgb))] := hD
  obtain rfl : r_1 = (-11) := w_2
  refine lv_aload_n hx hb dL_law_982 rfl (lv_at hl 2 rfl) ?_
  refine ca_i (wr := []) (vx_runVW (As := []) (rest := [.int (-11)]) ⟨hx, hb, hml, hown, ht⟩ (r_keeps l dC dI H.size mq mfs1 mbd mgb 407354 3217595 L_mfs1 K23_mfs1 K53_mfs1 K54_mfs1 L_mgb ) (vx_cwVW 0 ht (gdV k_15_113 k_15_110 k_15_111 k_15_112 k_1_17) rfl rfl rfl (by decide +kernel) ⟨Nat.le_of_ble_eq_true rfl, Nat.le_of_ble_eq_true rfl⟩) ⟨pcx_blind, va_recv hK hP (ci := 15) (q0 := 0) rfl rfl, pcx_at hP hD hK hS hA hE [0, 1] [] [17, 18, 5] (by decide) rfl rfl rfl rfl⟩ rfl rfl hl.1 rfl (lv_room (Nat.le_of_ble_eq_true rfl)) dL_law_983 ⟨Nat.le_of_ble_eq_true rfl, Nat.le_of_ble_eq_true rfl⟩) hP hD hK hS hA [0, 1] [] rfl rfl (by decide) (by decide) (fun r_3 u H locs w_4 hK hP hD hS => ?_)
  have hK : va_K (dC, dI) cls [(xcT, .byte)] s := hK
  have hP : va_P (dC, dI) cls [] H := hP
  have hD : va_D A [] := hD
  obtain rfl : r_3 = (-11) := w_4
  refine lv_icmp_eq (tgt := 1597) hx hb dL_law_986 (by decide) (fun _ => ?_) (fun c0 => absurd c0 (by decide))
  exact lw_tail l C0 hA2 hS (lv_sub hl [0, 4] rfl) (Nat.le_of_ble_eq_true rfl) (Nat.le_of_ble_eq_true rfl)
set_option maxHeartbeats 4000000 in
set_option maxRecDepth 100000 in
theorem lw_c28 {p : Program} {e : Env} {s : State} {m : MethodId} {below : List Frame} {meth : Method} {c : Code} (l : Launch) {b : Nat} {xs : Nat → Int32} (C0 : lw_At p s m meth c b 6 xs) (dC : Nat → ClassId) (dI : Nat → Nat → Nat) {A : Nat → Prop} (hA : ∀ q : Nat, s.heap.size ≤ q → A q) (hA2 : ∀ q : Nat, A q → s.heap.size ≤ q) (xq : Nat) (xfs1 : List Value) (xtp : Nat) (xrd : Nat) (xas : Nat) (xsp : Nat) (xlp : Nat) (xwr : Nat) (xma : Nat) (xdk : Nat) (mq : Nat) (mfs1 : List Value) (ou : Nat) {H : Heap} {locs : List Loc} {ls : Array Slot} (hK : va_K (dC, dI) cls [] s) (hP : va_P (dC, dI) cls [(xq, .inr (11, xfs1)), (mq, .inr (15, mfs1))] H) (hD : va_D A [(xq, .inr (11, xfs1)), (mq, .inr (15, mfs1))]) (hS : va_S A s.heap H locs) (hl : lv_has ls 7 [(4, .int 0), (3, .ref ou), (2, .ref mq), (1, .ref xq), (0, .ref b)]) (L_xfs1 : xfs1.length = 18) (K0_xfs1 : xfs1[0]? = some (.ref xtp)) (K1_xfs1 : xfs1[1]? = some (.int 0)) (K2_xfs1 : xfs1[2]? = some (.int 0)) (K8_xfs1 : xfs1[8]? = some (.ref xrd)) (K9_xfs1 : xfs1[9]? = some (.ref xas)) (K10_xfs1 : xfs1[10]? = some (.ref xsp)) (K11_xfs1 : xfs1[11]? = some (.int 0)) (K14_xfs1 : xfs1[14]? = some (.ref xlp)) (K15_xfs1 : xfs1[15]? = some (.ref xwr)) (K16_xfs1 : xfs1[16]? = some (.ref xma)) (K17_xfs1 : xfs1[17]? = some (.ref xdk)) (L_mfs1 : mfs1.length = 163) (K53_mfs1 : mfs1[53]? = some (.int 0)) (K54_mfs1 : mfs1[54]? = some (.int 0)) : W p l e room_1 s m #[Value.ref b] below meth c H locs 951 1458901 (lw_Z below #[Value.ref b] s) (F0 m 991 ls []) := by
  obtain ⟨hx, hb, hr, hml, hown, hts, hX, hbl, hlocks, hgv⟩ := id C0
  have hown : s.vm.findClass RL = some m.cls := hown
  have ht : ∀ w ∈ tb, w.before #[Value.ref b] s = true := fun w hw => hts w (List.mem_filter.mp hw).1
  have hbA : ¬ A b := fun h => absurd (hA2 _ h) (Nat.not_le.mpr hbl)
  refine lv_aload_n hx hb dL_law_991 rfl (lv_at hl 3 rfl) ?_
  refine lv_aload_n hx hb dL_law_992 rfl (lv_at hl 4 rfl) ?_
  refine lv_iload hx hb dL_law_993 (lv_at hl 0 rfl) ?_
  refine lv_iconst (v := 1) hx hb dL_law_995 (by decide) ?_
  refine lv_iadd hx hb dL_law_996 ?_
  refine tk_i (y := 1) (by decide) ?_
  refine va_sld hx hb hX hbl hbA hS (by unfold vp_in; decide) dL_law_997 ?_
  refine tk_i (y := (xs 1)) rfl ?_
  refine ca_i (wr := [(mq, .inr (15, mfs1))]) (va_runV (As := [.int (xs 1)]) (rest := []) ⟨hx, hb, hml, hown, ht⟩ (x_example l dC dI H.size xq xfs1 xtp xrd xas xsp xlp xwr xma xdk (xs 1) L_xfs1 K0_xfs1 K1_xfs1 K2_xfs1 K8_xfs1 K9_xfs1 K10_xfs1 K11_xfs1 K14_xfs1 K15_xfs1 K16_xfs1 K17_xfs1 ) (cwV 1 ht (gdV k_8_24 k_8_21 k_8_22 k_8_23 k_1_1) rfl rfl rfl (by decide +kernel) ⟨Nat.le_of_ble_eq_true rfl, Nat.le_of_ble_eq_true rfl⟩) ⟨pcw_blind, va_recv hK hP (ci := 11) (q0 := 0) rfl rfl, pcw_at hP hD hK [0] [] (by decide) rfl rfl rfl⟩ rfl rfl hl.1 rfl (lv_room (Nat.le_of_ble_eq_true rfl)) dL_law_998 ⟨Nat.le_of_ble_eq_true rfl, Nat.le_of_ble_eq_true rfl⟩) hP hD hK hS hA [0] [1] rfl rfl (by decide) (by decide) (fun r_1 u H locs w_2 hK hP hD hS => ?_)
  have hK : va_K (dC, dI) cls [] s := hK
  have hP : va_P (dC, dI) cls [(mq, .inr (15, mfs1))] H := hP
  have hD : va_D A [(mq, .inr (15, mfs1))] := hD
  obtain rfl : r_1 = (-1) := w_2
  refine lv_aload_n hx hb dL_law_1001 rfl (lv_at hl 2 rfl) ?_
  refine lv_aload_n hx hb dL_law_1002 rfl (lv_at hl 4 rfl) ?_
  refine lv_iload hx hb dL_law_1003 (lv_at hl 0 rfl) ?_
  refine lv_iconst (v := 1) hx hb dL_law_1005 (by decide) ?_
  refine lv_iadd hx hb dL_law_1006 ?_
  refine tk_i (y := 1) (by decide) ?_
  refine va_sld hx hb hX hbl hbA hS (by unfold vp_in; decide) dL_law_1007 ?_
  refine tk_i (y := (xs 1)) rfl ?_
  refine ca_i (wr := []) (va_runV (As := [.int (xs 1)]) (rest := [.int (-1)]) ⟨hx, hb, hml, hown, ht⟩ (r_example l dC dI H.size mq mfs1 (xs 1) L_mfs1 K53_mfs1 K54_mfs1 ) (cwV 1 ht (gdV k_15_117 k_15_114 k_15_115 k_15_116 k_1_17) rfl rfl rfl (by decide +kernel) ⟨Nat.le_of_ble_eq_true rfl, Nat.le_of_ble_eq_true rfl⟩) ⟨pcw_blind, va_recv hK hP (ci := 15) (q0 := 0) rfl rfl, pcw_at hP hD hK [0] [] (by decide) rfl rfl rfl⟩ rfl rfl hl.1 rfl (lv_room (Nat.le_of_ble_eq_true rfl)) dL_law_1008 ⟨Nat.le_of_ble_eq_true rfl, Nat.le_of_ble_eq_true rfl⟩) hP hD hK hS hA [0] [] rfl rfl (by decide) (by decide) (fun r_3 u H locs w_4 hK hP hD hS => ?_)
  have hK : va_K (dC, dI) cls [] s := hK
  have hP : va_P (dC, dI) cls [] H := hP
  have hD : va_D A [] := hD
  obtain rfl : r_3 = (-1) := w_4
  refine lv_icmp_eq (tgt := 1597) hx hb dL_law_1011 (by decide) (fun _ => ?_) (fun c0 => absurd c0 (by decide))
  exact lw_tail l C0 hA2 hS (lv_sub hl [0, 4] rfl) (Nat.le_of_ble_eq_true rfl) (Nat.le_of_ble_eq_true rfl)
set_option maxHeartbeats 4000000 in
set_option maxRecDepth 100000 in
theorem lw_c29 {p : Program} {e : Env} {s : State} {m : MethodId} {below : List Frame} {meth : Method} {c : Code} (l : Launch) {b : Nat} {xs : Nat → Int32} (C0 : lw_At p s m meth c b 6 xs) (dC : Nat → ClassId) (dI : Nat → Nat → Nat) {A : Nat → Prop} (hA : ∀ q : Nat, s.heap.size ≤ q → A q) (hA2 : ∀ q : Nat, A q → s.heap.size ≤ q) (xq : Nat) (xfs1 : List Value) (xwr : Nat) (xgw : List Value) (mq : Nat) (mfs1 : List Value) (ou : Nat) {H : Heap} {locs : List Loc} {ls : Array Slot} (hK : va_K (dC, dI) cls [] s) (hP : va_P (dC, dI) cls [(xq, .inr (11, xfs1)), (xwr, .inr (10, xgw)), (mq, .inr (15, mfs1))] H) (hD : va_D A [(xq, .inr (11, xfs1)), (xwr, .inr (10, xgw)), (mq, .inr (15, mfs1))]) (hS : va_S A s.heap H locs) (hl : lv_has ls 7 [(4, .int 0), (3, .ref ou), (2, .ref mq), (1, .ref xq), (0, .ref b)]) (L_xfs1 : xfs1.length = 18) (K2_xfs1 : xfs1[2]? = some (.int 0)) (K15_xfs1 : xfs1[15]? = some (.ref xwr)) (L_xgw : xgw.length = 21) (K0_xgw : xgw[0]? = some (.int 0)) (L_mfs1 : mfs1.length = 163) (K54_mfs1 : mfs1[54]? = some (.int 0)) (K109_mfs1 : mfs1[109]? = some (.int 0)) : W p l e room_1 s m #[Value.ref b] below meth c H locs 951 1458901 (lw_Z below #[Value.ref b] s) (F0 m 1016 ls []) := by
  obtain ⟨hx, hb, hr, hml, hown, hts, hX, hbl, hlocks, hgv⟩ := id C0
  have hown : s.vm.findClass RL = some m.cls := hown
  have ht : ∀ w ∈ tb, w.before #[Value.ref b] s = true := fun w hw => hts w (List.mem_filter.mp hw).1
  have hbA : ¬ A b := fun h => absurd (hA2 _ h) (Nat.not_le.mpr hbl)
  refine lv_aload_n hx hb dL_law_1016 rfl (lv_at hl 3 rfl) ?_
  refine ca_i (wr := [(mq, .inr (15, mfs1))]) (va_runV (As := []) (rest := []) ⟨hx, hb, hml, hown, ht⟩ (x_clear l dC dI H.size xq xfs1 xwr xgw L_xfs1 K2_xfs1 K15_xfs1 L_xgw K0_xgw ) (cwV 0 ht (gdV k_8_45 k_8_42 k_8_43 k_8_44 k_1_1) rfl rfl rfl (by decide +kernel) ⟨Nat.le_of_ble_eq_true rfl, Nat.le_of_ble_eq_true rfl⟩) ⟨pcw_blind, va_recv hK hP (ci := 11) (q0 := 0) rfl rfl, pcw_at hP hD hK [0, 1] [] (by decide) rfl rfl rfl⟩ rfl rfl hl.1 rfl (lv_room (Nat.le_of_ble_eq_true rfl)) dL_law_1017 ⟨Nat.le_of_ble_eq_true rfl, Nat.le_of_ble_eq_true rfl⟩) hP hD hK hS hA [0, 1] [2] rfl rfl (by decide) (by decide) (fun r_1 u H locs w_2 hK hP hD hS => ?_)
  have hK : va_K (dC, dI) cls [] s := hK
  have hP : va_P (dC, dI) cls [(mq, .inr (15, mfs1))] H := hP
  have hD : va_D A [(mq, .inr (15, mfs1))] := hD
  obtain rfl : r_1 = 0 := w_2
  refine lv_aload_n hx hb dL_law_1020 rfl (lv_at hl 2 rfl) ?_
  refine ca_i (wr := []) (va_runV (As := []) (rest := [.int 0]) ⟨hx, hb, hml, hown, ht⟩ (r_clear l dC dI H.size mq mfs1 L_mfs1 K54_mfs1 K109_mfs1 ) (cwV 0 ht (gdV k_15_130 k_15_127 k_15_128 k_15_129 k_1_17) rfl rfl rfl (by decide +kernel) ⟨Nat.le_of_ble_eq_true rfl, Nat.le_of_ble_eq_true rfl⟩) ⟨pcw_blind, va_recv hK hP (ci := 15) (q0 := 0) rfl rfl, pcw_at hP hD hK [0] [] (by decide) rfl rfl rfl⟩ rfl rfl hl.1 rfl (lv_room (Nat.le_of_ble_eq_true rfl)) dL_law_1021 ⟨Nat.le_of_ble_eq_true rfl, Nat.le_of_ble_eq_true rfl⟩) hP hD hK hS hA [0] [] rfl rfl (by decide) (by decide) (fun r_3 u H locs w_4 hK hP hD hS => ?_)
  have hK : va_K (dC, dI) cls [] s := hK
  have hP : va_P (dC, dI) cls [] H := hP
  have hD : va_D A [] := hD
  obtain rfl : r_3 = 0 := w_4
  refine lv_icmp_eq (tgt := 1597) hx hb dL_law_1024 (by decide) (fun _ => ?_) (fun c0 => absurd c0 (by decide))
  exact lw_tail l C0 hA2 hS (lv_sub hl [0, 4] rfl) (Nat.le_of_ble_eq_true rfl) (Nat.le_of_ble_eq_true rfl)
set_option maxHeartbeats 4000000 in
set_option maxRecDepth 100000 in
theorem lw_c30 {p : Program} {e : Env} {s : State} {m : MethodId} {below : List Frame} {meth : Method} {c : Code} (l : Launch) {b : Nat} {xs : Nat → Int32} (C0 : lw_At p s m meth c b 6 xs) (dC : Nat → ClassId) (dI : Nat → Nat → Nat) {A : Nat → Prop} (hA : ∀ q : Nat, s.heap.size ≤ q → A q) (hA2 : ∀ q : Nat, A q → s.heap.size ≤ q) (xq : Nat) (xfs1 : List Value) (xwr : Nat) (xgw : List Value) (mq : Nat) (mfs1 : List Value) (ou : Nat) {H : Heap} {locs : List Loc} {ls : Array Slot} (hK : va_K (dC, dI) cls [] s) (hP : va_P (dC, dI) cls [(xq, .inr (11, xfs1)), (xwr, .inr (10, xgw)), (mq, .inr (15, mfs1))] H) (hD : va_D A [(xq, .inr (11, xfs1)), (xwr, .inr (10, xgw)), (mq, .inr (15, mfs1))]) (hS : va_S A s.heap H locs) (hl : lv_has ls 7 [(4, .int 0), (3, .ref ou), (2, .ref mq), (1, .ref xq), (0, .ref b)]) (L_xfs1 : xfs1.length = 18) (K2_xfs1 : xfs1[2]? = some (.int 0)) (K15_xfs1 : xfs1[15]? = some (.ref xwr)) (L_xgw : xgw.length = 21) (K0_xgw : xgw[0]? = some (.int 0)) (L_mfs1 : mfs1.length = 163) (K54_mfs1 : mfs1[54]? = some (.int 0)) (K109_mfs1 : mfs1[109]? = some (.int 0)) : W p l e room_1 s m #[Value.ref b] below meth c H locs 951 1458901 (lw_Z below #[Value.ref b] s) (F0 m 1029 ls []) := by
  obtain ⟨hx, hb, hr, hml, hown, hts, hX, hbl, hlocks, hgv⟩ := id C0
  have hown : s.vm.findClass RL = some m.cls := hown
  have ht : ∀ w ∈ tb, w.before #[Value.ref b] s = true := fun w hw => hts w (List.mem_filter.mp hw).1
  have hbA : ¬ A b := fun h => absurd (hA2 _ h) (Nat.not_le.mpr hbl)
  refine lv_aload_n hx hb dL_law_1029 rfl (lv_at hl 3 rfl) ?_
  refine ca_i (wr := [(mq, .inr (15, mfs1))]) (va_runV (As := []) (rest := []) ⟨hx, hb, hml, hown, ht⟩ (x_fit l dC dI H.size xq xfs1 xwr xgw L_xfs1 K2_xfs1 K15_xfs1 L_xgw K0_xgw ) (cwV 0 ht (gdV k_8_53 k_8_50 k_8_51 k_8_52 k_1_1) rfl rfl rfl (by decide +kernel) ⟨Nat.le_of_ble_eq_true rfl, Nat.le_of_ble_eq_true rfl⟩) ⟨pcw_blind, va_recv hK hP (ci := 11) (q0 := 0) rfl rfl, pcw_at hP hD hK [0, 1] [] (by decide) rfl rfl rfl⟩ rfl rfl hl.1 rfl (lv_room (Nat.le_of_ble_eq_true rfl)) dL_law_1030 ⟨Nat.le_of_ble_eq_true rfl, Nat.le_of_ble_eq_true rfl⟩) hP hD hK hS hA [0, 1] [2] rfl rfl (by decide) (by decide) (fun r_1 u H locs w_2 hK hP hD hS => ?_)
  have hK : va_K (dC, dI) cls [] s := hK
  have hP : va_P (dC, dI) cls [(mq, .inr (15, mfs1))] H := hP
  have hD : va_D A [(mq, .inr (15, mfs1))] := hD
  obtain rfl : r_1 = (-2) := w_2
  refine lv_aload_n hx hb dL_law_1033 rfl (lv_at hl 2 rfl) ?_
  refine ca_i (wr := []) (va_runV (As := []) (rest := [.int (-2)]) ⟨hx, hb, hml, hown, ht⟩ (r_fit l dC dI H.size mq mfs1 L_mfs1 K54_mfs1 K109_mfs1 ) (cwV 0 ht (gdV k_15_134 k_15_131 k_15_132 k_15_133 k_1_17) rfl rfl rfl (by decide +kernel) ⟨Nat.le_of_ble_eq_true rfl, Nat.le_of_ble_eq_true rfl⟩) ⟨pcw_blind, va_recv hK hP (ci := 15) (q0 := 0) rfl rfl, pcw_at hP hD hK [0] [] (by decide) rfl rfl rfl⟩ rfl rfl hl.1 rfl (lv_room (Nat.le_of_ble_eq_true rfl)) dL_law_1034 ⟨Nat.le_of_ble_eq_true rfl, Nat.le_of_ble_eq_true rfl⟩) hP hD hK hS hA [0] [] rfl rfl (by decide) (by decide) (fun r_3 u H locs w_4 hK hP hD hS => ?_)
  have hK : va_K (dC, dI) cls [] s := hK
  have hP : va_P (dC, dI) cls [] H := hP
  have hD : va_D A [] := hD
  obtain rfl : r_3 = (-2) := w_4
  refine lv_icmp_eq (tgt := 1597) hx hb dL_law_1037 (by decide) (fun _ => ?_) (fun c0 => absurd c0 (by decide))
  exact lw_tail l C0 hA2 hS (lv_sub hl [0, 4] rfl) (Nat.le_of_ble_eq_true rfl) (Nat.le_of_ble_eq_true rfl)
set_option maxHeartbeats 4000000 in
set_option maxRecDepth 100000 in
theorem lw_c31 {p : Program} {e : Env} {s : State} {m : MethodId} {below : List Frame} {meth : Method} {c : Code} (l : Launch) {b : Nat} {xs : Nat → Int32} (C0 : lw_At p s m meth c b 6 xs) (dC : Nat → ClassId) (dI : Nat → Nat → Nat) {A : Nat → Prop} (hA : ∀ q : Nat, s.heap.size ≤ q → A q) (hA2 : ∀ q : Nat, A q → s.heap.size ≤ q) (xq : Nat) (xfs1 : List Value) (xwr : Nat) (xgw : List Value) (mq : Nat) (mfs1 : List Value) (ou : Nat) {H : Heap} {locs : List Loc} {ls : Array Slot} (hK : va_K (dC, dI) cls [] s) (hP : va_P (dC, dI) cls [(xq, .inr (11, xfs1)), (xwr, .inr (10, xgw)), (mq, .inr (15, mfs1))] H) (hD : va_D A [(xq, .inr (11, xfs1)), (xwr, .inr (10, xgw)), (mq, .inr (15, mfs1))]) (hS : va_S A s.heap H locs) (hl : lv_has ls 7 [(4, .int 0), (3, .ref ou), (2, .ref mq), (1, .ref xq), (0, .ref b)]) (L_xfs1 : xfs1.length = 18) (K2_xfs1 : xfs1[2]? = some (.int 0)) (K15_xfs1 : xfs1[15]? = some (.ref xwr)) (L_xgw : xgw.length = 21) (K0_xgw : xgw[0]? = some (.int 0)) (L_mfs1 : mfs1.length = 163) (K54_mfs1 : mfs1[54]? = some (.int 0)) (K109_mfs1 : mfs1[109]? = some (.int 0)) : W p l e room_1 s m #[Value.ref b] below meth c H locs 951 1458901 (lw_Z below #[Value.ref b] s) (F0 m 1042 ls []) := by
  obtain ⟨hx, hb, hr, hml, hown, hts, hX, hbl, hlocks, hgv⟩ := id C0
  have hown : s.vm.findClass RL = some m.cls := hown
  have ht : ∀ w ∈ tb, w.before #[Value.ref b] s = true := fun w hw => hts w (List.mem_filter.mp hw).1
  have hbA : ¬ A b := fun h => absurd (hA2 _ h) (Nat.not_le.mpr hbl)
  refine lv_aload_n hx hb dL_law_1042 rfl (lv_at hl 3 rfl) ?_
  refine lv_aload_n hx hb dL_law_1043 rfl (lv_at hl 4 rfl) ?_
  refine lv_iload hx hb dL_law_1044 (lv_at hl 0 rfl) ?_
  refine lv_iconst (v := 1) hx hb dL_law_1046 (by decide) ?_
  refine lv_iadd hx hb dL_law_1047 ?_
  refine tk_i (y := 1) (by decide) ?_
  refine va_sld hx hb hX hbl hbA hS (by unfold vp_in; decide) dL_law_1048 ?_
  refine tk_i (y := (xs 1)) rfl ?_
  refine ca_l (wr := [(mq, .inr (15, mfs1))]) (va_runV (As := [.int (xs 1)]) (rest := []) ⟨hx, hb, hml, hown, ht⟩ (x_fitting l dC dI H.size xq xfs1 xwr xgw (xs 1) L_xfs1 K2_xfs1 K15_xfs1 L_xgw K0_xgw ) (cwV 1 ht (gdV k_8_125 k_8_122 k_8_123 k_8_124 k_1_1) rfl rfl rfl (by decide +kernel) ⟨Nat.le_of_ble_eq_true rfl, Nat.le_of_ble_eq_true rfl⟩) ⟨pcw_blind, va_recv hK hP (ci := 11) (q0 := 0) rfl rfl, pcw_at hP hD hK [0, 1] [] (by decide) rfl rfl rfl⟩ rfl rfl hl.1 rfl (lv_room (Nat.le_of_ble_eq_true rfl)) dL_law_1049 ⟨Nat.le_of_ble_eq_true rfl, Nat.le_of_ble_eq_true rfl⟩) hP hD hK hS hA [0, 1] [2] rfl rfl (by decide) (by decide) (fun r_1 u H locs w_2 hK hP hD hS => ?_)
  have hK : va_K (dC, dI) cls [] s := hK
  have hP : va_P (dC, dI) cls [(mq, .inr (15, mfs1))] H := hP
  have hD : va_D A [(mq, .inr (15, mfs1))] := hD
  refine lv_aload_n hx hb dL_law_1052 rfl (lv_at hl 2 rfl) ?_
  refine lv_aload_n hx hb dL_law_1053 rfl (lv_at hl 4 rfl) ?_
  refine lv_iload hx hb dL_law_1054 (lv_at hl 0 rfl) ?_
  refine lv_iconst (v := 1) hx hb dL_law_1056 (by decide) ?_
  refine lv_iadd hx hb dL_law_1057 ?_
  refine tk_i (y := 1) (by decide) ?_
  refine va_sld hx hb hX hbl hbA hS (by unfold vp_in; decide) dL_law_1058 ?_
  refine tk_i (y := (xs 1)) rfl ?_
  refine ca_l (wr := []) (va_runV (As := [.int (xs 1)]) (rest := [.long r_1]) ⟨hx, hb, hml, hown, ht⟩ (r_fitting l dC dI H.size mq mfs1 (xs 1) L_mfs1 K54_mfs1 K109_mfs1 ) (cwV 1 ht (gdV k_15_194 k_15_191 k_15_192 k_15_193 k_1_17) rfl rfl rfl (by decide +kernel) ⟨Nat.le_of_ble_eq_true rfl, Nat.le_of_ble_eq_true rfl⟩) ⟨pcw_blind, va_recv hK hP (ci := 15) (q0 := 0) rfl rfl, pcw_at hP hD hK [0] [] (by decide) rfl rfl rfl⟩ rfl rfl hl.1 rfl (lv_room (Nat.le_of_ble_eq_true rfl)) dL_law_1059 ⟨Nat.le_of_ble_eq_true rfl, Nat.le_of_ble_eq_true rfl⟩) hP hD hK hS hA [0] [] rfl rfl (by decide) (by decide) (fun r_3 u H locs w_4 hK hP hD hS => ?_)
  have hK : va_K (dC, dI) cls [] s := hK
  have hP : va_P (dC, dI) cls [] H := hP
  have hD : va_D A [] := hD
  refine W.lcmp hx hb dL_law_1062 ?_
  refine lv_if_eq (tgt := 1597) hx hb dL_law_1063 (by decide) (fun _ => ?_) (fun c0 => absurd ((lg_cmp_eq _ _).mpr (w_2.trans w_4.symm)) c0)
  exact lw_tail l C0 hA2 hS (lv_sub hl [0, 4] rfl) (Nat.le_of_ble_eq_true rfl) (Nat.le_of_ble_eq_true rfl)
set_option maxHeartbeats 4000000 in
set_option maxRecDepth 100000 in
theorem lw_c32 {p : Program} {e : Env} {s : State} {m : MethodId} {below : List Frame} {meth : Method} {c : Code} (l : Launch) {b : Nat} {xs : Nat → Int32} (C0 : lw_At p s m meth c b 6 xs) (dC : Nat → ClassId) (dI : Nat → Nat → Nat) {A : Nat → Prop} (hA : ∀ q : Nat, s.heap.size ≤ q → A q) (hA2 : ∀ q : Nat, A q → s.heap.size ≤ q) (xq : Nat) (xfs1 : List Value) (xwr : Nat) (xgw : List Value) (mq : Nat) (mfs1 : List Value) (ou : Nat) {H : Heap} {locs : List Loc} {ls : Array Slot} (hK : va_K (dC, dI) cls [] s) (hP : va_P (dC, dI) cls [(xq, .inr (11, xfs1)), (xwr, .inr (10, xgw)), (mq, .inr (15, mfs1))] H) (hD : va_D A [(xq, .inr (11, xfs1)), (xwr, .inr (10, xgw)), (mq, .inr (15, mfs1))]) (hS : va_S A s.heap H locs) (hl : lv_has ls 7 [(4, .int 0), (3, .ref ou), (2, .ref mq), (1, .ref xq), (0, .ref b)]) (L_xfs1 : xfs1.length = 18) (K15_xfs1 : xfs1[15]? = some (.ref xwr)) (L_xgw : xgw.length = 21) (K18_xgw : xgw[18]? = some (.int 0)) (L_mfs1 : mfs1.length = 163) (K54_mfs1 : mfs1[54]? = some (.int 0)) (K125_mfs1 : mfs1[125]? = some (.int 0)) : W p l e room_1 s m #[Value.ref b] below meth c H locs 951 1458901 (lw_Z below #[Value.ref b] s) (F0 m 1068 ls []) := by
  obtain ⟨hx, hb, hr, hml, hown, hts, hX, hbl, hlocks, hgv⟩ := id C0
  have hown : s.vm.findClass RL = some m.cls := hown
  have ht : ∀ w ∈ tb, w.before #[Value.ref b] s = true := fun w hw => hts w (List.mem_filter.mp hw).1
  have hbA : ¬ A b := fun h => absurd (hA2 _ h) (Nat.not_le.mpr hbl)
  refine lv_aload_n hx hb dL_law_1068 rfl (lv_at hl 3 rfl) ?_
  refine lv_aload_n hx hb dL_law_1069 rfl (lv_at hl 4 rfl) ?_
  refine lv_iload hx hb dL_law_1070 (lv_at hl 0 rfl) ?_
  refine lv_iconst (v := 1) hx hb dL_law_1072 (by decide) ?_
  refine lv_iadd hx hb dL_law_1073 ?_
  refine tk_i (y := 1) (by decide) ?_
  refine va_sld hx hb hX hbl hbA hS (by unfold vp_in; decide) dL_law_1074 ?_
  refine tk_i (y := (xs 1)) rfl ?_
  refine lv_aload_n hx hb dL_law_1075 rfl (lv_at hl 4 rfl) ?_
  refine lv_iload hx hb dL_law_1076 (lv_at hl 0 rfl) ?_
  refine lv_iconst (v := 2) hx hb dL_law_1078 (by decide) ?_
  refine lv_iadd hx hb dL_law_1079 ?_
  refine tk_i (y := 2) (by decide) ?_
  refine va_sld hx hb hX hbl hbA hS (by unfold vp_in; decide) dL_law_1080 ?_
  refine tk_i (y := (xs 2)) rfl ?_
  refine ca_i (wr := [(mq, .inr (15, mfs1))]) (va_runV (As := [.int (xs 1), .int (xs 2)]) (rest := []) ⟨hx, hb, hml, hown, ht⟩ (x_part l dC dI H.size xq xfs1 xwr xgw (xs 1) (xs 2) L_xfs1 K15_xfs1 L_xgw K18_xgw ) (cwV 2 ht (gdV k_8_137 k_8_134 k_8_135 k_8_136 k_1_1) rfl rfl rfl (by decide +kernel) ⟨Nat.le_of_ble_eq_true rfl, Nat.le_of_ble_eq_true rfl⟩) ⟨pcw_blind, va_recv hK hP (ci := 11) (q0 := 0) rfl rfl, pcw_at hP hD hK [0, 1] [] (by decide) rfl rfl rfl⟩ rfl rfl hl.1 rfl (lv_room (Nat.le_of_ble_eq_true rfl)) dL_law_1081 ⟨Nat.le_of_ble_eq_true rfl, Nat.le_of_ble_eq_true rfl⟩) hP hD hK hS hA [0, 1] [2] rfl rfl (by decide) (by decide) (fun r_1 u H locs w_2 hK hP hD hS => ?_)
  have hK : va_K (dC, dI) cls [] s := hK
  have hP : va_P (dC, dI) cls [(mq, .inr (15, mfs1))] H := hP
  have hD : va_D A [(mq, .inr (15, mfs1))] := hD
  obtain rfl : r_1 = (-1) := w_2
  refine lv_aload_n hx hb dL_law_1084 rfl (lv_at hl 2 rfl) ?_
  refine lv_aload_n hx hb dL_law_1085 rfl (lv_at hl 4 rfl) ?_
  refine lv_iload hx hb dL_law_1086 (lv_at hl 0 rfl) ?_
  refine lv_iconst (v := 1) hx hb dL_law_1088 (by decide) ?_
  refine lv_iadd hx hb dL_law_1089 ?_
  refine tk_i (y := 1) (by decide) ?_
  refine va_sld hx hb hX hbl hbA hS (by unfold vp_in; decide) dL_law_1090 ?_
  refine tk_i (y := (xs 1)) rfl ?_
  refine lv_aload_n hx hb dL_law_1091 rfl (lv_at hl 4 rfl) ?_
  refine lv_iload hx hb dL_law_1092 (lv_at hl 0 rfl) ?_
  refine lv_iconst (v := 2) hx hb dL_law_1094 (by decide) ?_
  refine lv_iadd hx hb dL_law_1095 ?_
  refine tk_i (y := 2) (by decide) ?_
  refine va_sld hx hb hX hbl hbA hS (by unfold vp_in; decide) dL_law_1096 ?_
  refine tk_i (y := (xs 2)) rfl ?_
  refine ca_i (wr := []) (va_runV (As := [.int (xs 1), .int (xs 2)]) (rest := [.int (-1)]) ⟨hx, hb, hml, hown, ht⟩ (r_part l dC dI H.size mq mfs1 (xs 1) (xs 2) L_mfs1 K54_mfs1 K125_mfs1 ) (cwV 2 ht (gdV k_15_200 k_15_197 k_15_198 k_15_199 k_1_17) rfl rfl rfl (by decide +kernel) ⟨Nat.le_of_ble_eq_true rfl, Nat.le_of_ble_eq_true rfl⟩) ⟨pcw_blind, va_recv hK hP (ci := 15) (q0 := 0) rfl rfl, pcw_at hP hD hK [0] [] (by decide) rfl rfl rfl⟩ rfl rfl hl.1 rfl (lv_room (Nat.le_of_ble_eq_true rfl)) dL_law_1097 ⟨Nat.le_of_ble_eq_true rfl, Nat.le_of_ble_eq_true rfl⟩) hP hD hK hS hA [0] [] rfl rfl (by decide) (by decide) (fun r_3 u H locs w_4 hK hP hD hS => ?_)
  have hK : va_K (dC, dI) cls [] s := hK
  have hP : va_P (dC, dI) cls [] H := hP
  have hD : va_D A [] := hD
  obtain rfl : r_3 = (-1) := w_4
  refine lv_icmp_eq (tgt := 1597) hx hb dL_law_1100 (by decide) (fun _ => ?_) (fun c0 => absurd c0 (by decide))
  exact lw_tail l C0 hA2 hS (lv_sub hl [0, 4] rfl) (Nat.le_of_ble_eq_true rfl) (Nat.le_of_ble_eq_true rfl)
set_option maxHeartbeats 4000000 in
set_option maxRecDepth 100000 in
theorem lw_c33 {p : Program} {e : Env} {s : State} {m : MethodId} {below : List Frame} {meth : Method} {c : Code} (l : Launch) {b : Nat} {xs : Nat → Int32} (C0 : lw_At p s m meth c b 6 xs) (dC : Nat → ClassId) (dI : Nat → Nat → Nat) {A : Nat → Prop} (hA : ∀ q : Nat, s.heap.size ≤ q → A q) (hA2 : ∀ q : Nat, A q → s.heap.size ≤ q) (xq : Nat) (xfs1 : List Value) (xtp : Nat) (xcT : ClassId) (xft : Nat → Int32) (xrd : Nat) (xas : Nat) (xsp : Nat) (xlp : Nat) (xwr : Nat) (xgw : List Value) (xma : Nat) (xdk : Nat) (mq : Nat) (mfs1 : List Value) (ou : Nat) {H : Heap} {locs : List Loc} {ls : Array Slot} (hK : va_K (dC, dI) cls [(xcT, .byte)] s) (hP : va_P (dC, dI) cls [(xq, .inr (11, xfs1)), (xtp, .inl (xcT, 2000, .inl xft)), (xwr, .inr (10, xgw)), (mq, .inr (15, mfs1))] H) (hD : va_D A [(xq, .inr (11, xfs1)), (xtp, .inl (xcT, 2000, .inl xft)), (xwr, .inr (10, xgw)), (mq, .inr (15, mfs1))]) (hS : va_S A s.heap H locs) (hl : lv_has ls 7 [(4, .int 0), (3, .ref ou), (2, .ref mq), (1, .ref xq), (0, .ref b)]) (L_xfs1 : xfs1.length = 18) (K0_xfs1 : xfs1[0]? = some (.ref xtp)) (K1_xfs1 : xfs1[1]? = some (.int 0)) (K2_xfs1 : xfs1[2]? = some (.int 0)) (K8_xfs1 : xfs1[8]? = some (.ref xrd)) (K9_xfs1 : xfs1[9]? = some (.ref xas)) (K10_xfs1 : xfs1[10]? = some (.ref xsp)) (K11_xfs1 : xfs1[11]? = some (.int 0)) (K14_xfs1 : xfs1[14]? = some (.ref xlp)) (K15_xfs1 : xfs1[15]? = some (.ref xwr)) (K16_xfs1 : xfs1[16]? = some (.ref xma)) (K17_xfs1 : xfs1[17]? = some (.ref xdk)) (L_xgw : xgw.length = 21) (K18_xgw : xgw[18]? = some (.int 0)) (L_mfs1 : mfs1.length = 163) (K53_mfs1 : mfs1[53]? = some (.int 0)) (K54_mfs1 : mfs1[54]? = some (.int 0)) (K125_mfs1 : mfs1[125]? = some (.int 0)) : W p l e room_1 s m #[Value.ref b] below meth c H locs 951 1458901 (lw_Z below #[Value.ref b] s) (F0 m 1105 ls []) := by
  obtain ⟨hx, hb, hr, hml, hown, hts, hX, hbl, hlocks, hgv⟩ := id C0
  have hown : s.vm.findClass RL = some m.cls := hown
  have ht : ∀ w ∈ tb, w.before #[Value.ref b] s = true := fun w hw => hts w (List.mem_filter.mp hw).1
  have hbA : ¬ A b := fun h => absurd (hA2 _ h) (Nat.not_le.mpr hbl)
  refine lv_aload_n hx hb dL_law_1105 rfl (lv_at hl 3 rfl) ?_
  refine ca_i (wr := [(mq, .inr (15, mfs1))]) (va_runV (As := []) (rest := []) ⟨hx, hb, hml, hown, ht⟩ (x_apply l dC dI H.size xq xfs1 xtp xrd xas xsp xlp xwr xma xdk xcT xft xgw L_xfs1 K0_xfs1 K1_xfs1 K2_xfs1 K8_xfs1 K9_xfs1 K10_xfs1 K11_xfs1 K14_xfs1 K15_xfs1 K16_xfs1 K17_xfs1 L_xgw K18_xgw ) (cwV 0 ht (gdV k_8_145 k_8_142 k_8_143 k_8_144 k_1_1) rfl rfl rfl (by decide +kernel) ⟨Nat.le_of_ble_eq_true rfl, Nat.le_of_ble_eq_true rfl⟩) ⟨pcw_blind, va_recv hK hP (ci := 11) (q0 := 0) rfl rfl, pcw_at hP hD hK [0, 1, 2] [0] (by decide) rfl rfl rfl⟩ rfl rfl hl.1 rfl (lv_room (Nat.le_of_ble_eq_true rfl)) dL_law_1106 ⟨Nat.le_of_ble_eq_true rfl, Nat.le_of_ble_eq_true rfl⟩) hP hD hK hS hA [0, 1, 2] [3] rfl rfl (by decide) (by decide) (fun r_1 u H locs w_2 hK hP hD hS => ?_)
  have hK : va_K (dC, dI) cls [(xcT, .byte)] s := hK
  have hP : va_P (dC, dI) cls [(mq, .inr (15, mfs1))] H := hP
  have hD : va_D A [(mq, .inr (15, mfs1))] := hD
  obtain rfl : r_1 = (-2) := w_2
  refine lv_aload_n hx hb dL_law_1109 rfl (lv_at hl 2 rfl) ?_
  refine ca_i (wr := []) (va_runV (As := []) (rest := [.int (-2)]) ⟨hx, hb, hml, hown, ht⟩ (r_apply l dC dI H.size mq mfs1 L_mfs1 K53_mfs1 K54_mfs1 K125_mfs1 ) (cwV 0 ht (gdV k_15_204 k_15_201 k_15_202 k_15_203 k_1_17) rfl rfl rfl (by decide +kernel) ⟨Nat.le_of_ble_eq_true rfl, Nat.le_of_ble_eq_true rfl⟩) ⟨pcw_blind, va_recv hK hP (ci := 15) (q0 := 0) rfl rfl, pcw_at hP hD hK [0] [] (by decide) rfl rfl rfl⟩ rfl rfl hl.1 rfl (lv_room (Nat.le_of_ble_eq_true rfl)) dL_law_1110 ⟨Nat.le_of_ble_eq_true rfl, Nat.le_of_ble_eq_true rfl⟩) hP hD hK hS hA [0] [] rfl rfl (by decide) (by decide) (fun r_3 u H locs w_4 hK hP hD hS => ?_)
  have hK : va_K (dC, dI) cls [(xcT, .byte)] s := hK
  have hP : va_P (dC, dI) cls [] H := hP
  have hD : va_D A [] := hD
  obtain rfl : r_3 = (-2) := w_4
  refine lv_icmp_eq (tgt := 1597) hx hb dL_law_1113 (by decide) (fun _ => ?_) (fun c0 => absurd c0 (by decide))
  exact lw_tail l C0 hA2 hS (lv_sub hl [0, 4] rfl) (Nat.le_of_ble_eq_true rfl) (Nat.le_of_ble_eq_true rfl)
set_option maxHeartbeats 4000000 in
set_option maxRecDepth 100000 in
theorem lw_c34 {p : Program} {e : Env} {s : State} {m : MethodId} {below : List Frame} {meth : Method} {c : Code} (l : Launch) {b : Nat} {xs : Nat → Int32} (C0 : lw_At p s m meth c b 6 xs) (dC : Nat → ClassId) (dI : Nat → Nat → Nat) {A : Nat → Prop} (hA : ∀ q : Nat, s.heap.size ≤ q → A q) (hA2 : ∀ q : Nat, A q → s.heap.size ≤ q) (xq : Nat) (xfs1 : List Value) (xtp : Nat) (xcT : ClassId) (xft : Nat → Int32) (xrd : Nat) (xas : Nat) (xsp : Nat) (xlp : Nat) (xwr : Nat) (xma : Nat) (xgm : List Value) (xlt : Nat) (xcL : ClassId) (xfl : Nat → Int32) (xsz0 : Nat) (xcS : ClassId) (xf2 : Nat → Int32) (xgs : Nat) (xcG : ClassId) (xfg : Nat → Int32) (xdk : Nat) (xgd : List Value) (xwt : Nat) (xcW : ClassId) (xfw : Nat → Int32) (mq : Nat) (mfs1 : List Value) (mmd : Nat) (mc1 : ClassId) (mf1 : Nat → Int32) (mu1 : Nat) (mc3 : ClassId) (mf3 : Nat → Int32) (mu2 : Nat) (mc4 : ClassId) (mf4 : Nat → Int32) (mu3 : Nat) (mc5 : ClassId) (mf5 : Nat → Int32) (mwa : Nat) (mc12 : ClassId) (mf12 : Nat → Int32) (ou : Nat) {H : Heap} {locs : List Loc} {ls : Array Slot} (hK : va_K (dC, dI) cls [(xcT, .byte), (xcL, .int), (xcS, .int), (xcG, .int), (xcW, .byte), (mc1, .int), (mc3, .int), (mc4, .int), (mc5, .boolean), (mc12, .int)] s) (hP : va_P (dC, dI) cls [(xq, .inr (11, xfs1)), (xtp, .inl (xcT, 2000, .inl xft)), (xma, .inr (5, xgm)), (xlt, .inl (xcL, 20, .inl xfl)), (xsz0, .inl (xcS, 20, .inl xf2)), (xgs, .inl (xcG, 20, .inl xfg)), (xdk, .inr (2, xgd)), (xwt, .inl (xcW, 24200, .inl xfw)), (mq, .inr (15, mfs1)), (mmd, .inl (mc1, 4000, .inl mf1)), (mu1, .inl (mc3, 20, .inl mf3)), (mu2, .inl (mc4, 20, .inl mf4)), (mu3, .inl (mc5, 20, .inl mf5)), (mwa, .inl (mc12, 24204, .inl mf12))] H) (hD : va_D A [(xq, .inr (11, xfs1)), (xtp, .inl (xcT, 2000, .inl xft)), (xma, .inr (5, xgm)), (xlt, .inl (xcL, 20, .inl xfl)), (xsz0, .inl (xcS, 20, .inl xf2)), (xgs, .inl (xcG, 20, .inl xfg)), (xdk, .inr (2, xgd)), (xwt, .inl (xcW, 24200, .inl xfw)), (mq, .inr (15, mfs1)), (mmd, .inl (mc1, 4000, .inl mf1)), (mu1, .inl (mc3, 20, .inl mf3)), (mu2, .inl (mc4, 20, .inl mf4)), (mu3, .inl (mc5, 20, .inl mf5)), (mwa, .inl (mc12, 24204, .inl mf12))]) (hS : va_S A s.heap H locs) (hl : lv_has ls 7 [(4, .int 0), (3, .ref ou), (2, .ref mq), (1, .ref xq), (0, .ref b)]) (L_xfs1 : xfs1.length = 18) (K0_xfs1 : xfs1[0]? = some (.ref xtp)) (K1_xfs1 : xfs1[1]? = some (.int 0)) (K2_xfs1 : xfs1[2]? = some (.int 0)) (K8_xfs1 : xfs1[8]? = some (.ref xrd)) (K9_xfs1 : xfs1[9]? = some (.ref xas)) (K10_xfs1 : xfs1[10]? = some (.ref xsp)) (K11_xfs1 : xfs1[11]? = some (.int 0)) (K14_xfs1 : xfs1[14]? = some (.ref xlp)) (K15_xfs1 : xfs1[15]? = some (.ref xwr)) (K16_xfs1 : xfs1[16]? = some (.ref xma)) (K17_xfs1 : xfs1[17]? = some (.ref xdk)) (L_xgm : xgm.length = 15) (K0_xgm : xgm[0]? = some (.int 0)) (K1_xgm : xgm[1]? = some (.ref xlt)) (K2_xgm : xgm[2]? = some (.ref xsz0)) (K3_xgm : xgm[3]? = some (.ref xgs)) (L_xgd : xgd.length = 7) (K1_xgd : xgd[1]? = some (.int 0)) (K2_xgd : xgd[2]? = some (.ref xwt)) (K3_xgd : xgd[3]? = some (.int 0)) (K4_xgd : xgd[4]? = some (.int 0)) (K5_xgd : xgd[5]? = some (.int (-1))) (L_mfs1 : mfs1.length = 163) (K53_mfs1 : mfs1[53]? = some (.int 0)) (K54_mfs1 : mfs1[54]? = some (.int 0)) (K128_mfs1 : mfs1[128]? = some (.int 0)) (K154_mfs1 : mfs1[154]? = some (.int 0)) (K156_mfs1 : mfs1[156]? = some (.int 0)) (K160_mfs1 : mfs1[160]? = some (.int 0)) (K18_mfs1 : mfs1[18]? = some (.ref mmd)) (K129_mfs1 : mfs1[129]? = some (.ref mu1)) (K130_mfs1 : mfs1[130]? = some (.ref mu2)) (K131_mfs1 : mfs1[131]? = some (.ref mu3)) (K155_mfs1 : mfs1[155]? = some (.ref mwa)) : W p l e room_1 s m #[Value.ref b] below meth c H locs 951 1458901 (lw_Z below #[Value.ref b] s) (F0 m 1118 ls []) := by
  obtain ⟨hx, hb, hr, hml, hown, hts, hX, hbl, hlocks, hgv⟩ := id C0
  have hown : s.vm.findClass RL = some m.cls := hown
  have ht : ∀ w ∈ tb, w.before #[Value.ref b] s = true := fun w hw => hts w (List.mem_filter.mp hw).1
  have hbA : ¬ A b := fun h => absurd (hA2 _ h) (Nat.not_le.mpr hbl)
  refine lv_aload_n hx hb dL_law_1118 rfl (lv_at hl 3 rfl) ?_
  refine lv_aload_n hx hb dL_law_1119 rfl (lv_at hl 4 rfl) ?_
  refine lv_iload hx hb dL_law_1120 (lv_at hl 0 rfl) ?_
  refine lv_iconst (v := 1) hx hb dL_law_1122 (by decide) ?_
  refine lv_iadd hx hb dL_law_1123 ?_
  refine tk_i (y := 1) (by decide) ?_
  refine va_sld hx hb hX hbl hbA hS (by unfold vp_in; decide) dL_law_1124 ?_
  refine tk_i (y := (xs 1)) rfl ?_
  refine lv_if_eq (tgt := 1132) hx hb dL_law_1125 (by decide) (fun b_1 => ?_) (fun b_1 => ?_)
  · refine lv_iconst (v := 0) hx hb dL_law_1132 (by decide) ?_
    refine ca_i (wr := [(mq, .inr (15, mfs1)), (mmd, .inl (mc1, 4000, .inl mf1)), (mu1, .inl (mc3, 20, .inl mf3)), (mu2, .inl (mc4, 20, .inl mf4)), (mu3, .inl (mc5, 20, .inl mf5)), (mwa, .inl (mc12, 24204, .inl mf12))]) (va_runV (As := [.int 0]) (rest := []) ⟨hx, hb, hml, hown, ht⟩ (x_word l dC dI H.size xq xfs1 xtp xrd xas xsp xlp xwr xma xdk xcT xft xgm xlt xcL xfl xsz0 xcS xf2 xgs xcG xfg xgd xwt xcW xfw 0 L_xfs1 K0_xfs1 K1_xfs1 K2_xfs1 K8_xfs1 K9_xfs1 K10_xfs1 K11_xfs1 K14_xfs1 K15_xfs1 K16_xfs1 K17_xfs1 L_xgm K0_xgm K1_xgm K2_xgm K3_xgm L_xgd K1_xgd K2_xgd K3_xgd K4_xgd K5_xgd ) (cwV 1 ht (gdV k_8_157 k_8_154 k_8_155 k_8_156 k_1_1) rfl rfl rfl (by decide +kernel) ⟨Nat.le_of_ble_eq_true rfl, Nat.le_of_ble_eq_true rfl⟩) ⟨pcw_blind, va_recv hK hP (ci := 11) (q0 := 0) rfl rfl, pcw_at hP hD hK [0, 1, 2, 3, 4, 5, 6, 7] [0, 1, 2, 3, 4] (by decide) rfl rfl rfl⟩ rfl rfl hl.1 rfl (lv_room (Nat.le_of_ble_eq_true rfl)) dL_law_1133 ⟨Nat.le_of_ble_eq_true rfl, Nat.le_of_ble_eq_true rfl⟩) hP hD hK hS hA [0, 1, 2, 3, 4, 5, 6, 7] [8, 9, 10, 11, 12, 13] rfl rfl (by decide) (by decide) (fun r_2 u H locs w_3 hK hP hD hS => ?_)
    have hK : va_K (dC, dI) cls [(xcT, .byte), (xcL, .int), (xcS, .int), (xcG, .int), (xcW, .byte), (mc1, .int), (mc3, .int), (mc4, .int), (mc5, .boolean), (mc12, .int)] s := hK
    have hP : va_P (dC, dI) cls [(mq, .inr (15, mfs1)), (mmd, .inl (mc1, 4000, .inl mf1)), (mu1, .inl (mc3, 20, .inl mf3)), (mu2, .inl (mc4, 20, .inl mf4)), (mu3, .inl (mc5, 20, .inl mf5)), (mwa, .inl (mc12, 24204, .inl mf12))] H := hP
    have hD : va_D A [(mq, .inr (15, mfs1)), (mmd, .inl (mc1, 4000, .inl mf1)), (mu1, .inl (mc3, 20, .inl mf3)), (mu2, .inl (mc4, 20, .inl mf4)), (mu3, .inl (mc5, 20, .inl mf5)), (mwa, .inl (mc12, 24204, .inl mf12))] := hD
    obtain rfl : r_2 = 1 := w_3
    refine lv_aload_n hx hb dL_law_1136 rfl (lv_at hl 2 rfl) ?_
    refine lv_aload_n hx hb dL_law_1137 rfl (lv_at hl 4 rfl) ?_
    refine lv_iload hx hb dL_law_1138 (lv_at hl 0 rfl) ?_
    refine lv_iconst (v := 1) hx hb dL_law_1140 (by decide) ?_
    refine lv_iadd hx hb dL_law_1141 ?_
    refine tk_i (y := 1) (by decide) ?_
    refine va_sld hx hb hX hbl hbA hS (by unfold vp_in; decide) dL_law_1142 ?_
    refine tk_i (y := (xs 1)) rfl ?_
    refine lv_if_eq (tgt := 1150) hx hb dL_law_1143 (by decide) (fun _ => ?_) (fun c0 => absurd (by have z0 := Int32.toInt_inj.mpr b_1; have y0 : (0 : Int32).toInt = 0 := (by decide); exact Int32.toInt_inj.mp (by omega)) c0)
    refine lv_iconst (v := 0) hx hb dL_law_1150 (by decide) ?_
    refine ca_i (wr := []) (va_runV (As := [.int 0]) (rest := [.int 1]) ⟨hx, hb, hml, hown, ht⟩ (r_word l dC dI H.size mq mfs1 mwa mmd mu1 mu2 mu3 mc12 mf12 mc1 mf1 mc3 mf3 mc4 mf4 mc5 mf5 0 L_mfs1 K18_mfs1 K53_mfs1 K54_mfs1 K128_mfs1 K129_mfs1 K130_mfs1 K131_mfs1 K154_mfs1 K155_mfs1 K156_mfs1 K160_mfs1 ) (cwV 1 ht (gdV k_15_208 k_15_205 k_15_206 k_15_207 k_1_17) rfl rfl rfl (by decide +kernel) ⟨Nat.le_of_ble_eq_true rfl, Nat.le_of_ble_eq_true rfl⟩) ⟨pcw_blind, va_recv hK hP (ci := 15) (q0 := 0) rfl rfl, pcw_at hP hD hK [0, 5, 1, 2, 3, 4] [9, 5, 6, 7, 8] (by decide) rfl rfl rfl⟩ rfl rfl hl.1 rfl (lv_room (Nat.le_of_ble_eq_true rfl)) dL_law_1151 ⟨Nat.le_of_ble_eq_true rfl, Nat.le_of_ble_eq_true rfl⟩) hP hD hK hS hA [0, 5, 1, 2, 3, 4] [] rfl rfl (by decide) (by decide) (fun r_4 u H locs w_5 hK hP hD hS => ?_)
    have hK : va_K (dC, dI) cls [(xcT, .byte), (xcL, .int), (xcS, .int), (xcG, .int), (xcW, .byte), (mc1, .int), (mc3, .int), (mc4, .int), (mc5, .boolean), (mc12, .int)] s := hK
    have hP : va_P (dC, dI) cls [] H := hP
    have hD : va_D A [] := hD
    obtain rfl : r_4 = 1 := w_5
    refine lv_icmp_eq (tgt := 1597) hx hb dL_law_1154 (by decide) (fun _ => ?_) (fun c0 => absurd c0 (by decide))
    exact lw_tail l C0 hA2 hS (lv_sub hl [0, 4] rfl) (Nat.le_of_ble_eq_true rfl) (Nat.le_of_ble_eq_true rfl)
  · refine lv_iconst (v := 1) hx hb dL_law_1128 (by decide) ?_
    refine lv_goto (tgt := 1133) hx hb dL_law_1129 (by decide) ?_
    refine ca_i (wr := [(mq, .inr (15, mfs1)), (mmd, .inl (mc1, 4000, .inl mf1)), (mu1, .inl (mc3, 20, .inl mf3)), (mu2, .inl (mc4, 20, .inl mf4)), (mu3, .inl (mc5, 20, .inl mf5)), (mwa, .inl (mc12, 24204, .inl mf12))]) (va_runV (As := [.int 1]) (rest := []) ⟨hx, hb, hml, hown, ht⟩ (x_word l dC dI H.size xq xfs1 xtp xrd xas xsp xlp xwr xma xdk xcT xft xgm xlt xcL xfl xsz0 xcS xf2 xgs xcG xfg xgd xwt xcW xfw 1 L_xfs1 K0_xfs1 K1_xfs1 K2_xfs1 K8_xfs1 K9_xfs1 K10_xfs1 K11_xfs1 K14_xfs1 K15_xfs1 K16_xfs1 K17_xfs1 L_xgm K0_xgm K1_xgm K2_xgm K3_xgm L_xgd K1_xgd K2_xgd K3_xgd K4_xgd K5_xgd ) (cwV 1 ht (gdV k_8_157 k_8_154 k_8_155 k_8_156 k_1_1) rfl rfl rfl (by decide +kernel) ⟨Nat.le_of_ble_eq_true rfl, Nat.le_of_ble_eq_true rfl⟩) ⟨pcw_blind, va_recv hK hP (ci := 11) (q0 := 0) rfl rfl, pcw_at hP hD hK [0, 1, 2, 3, 4, 5, 6, 7] [0, 1, 2, 3, 4] (by decide) rfl rfl rfl⟩ rfl rfl hl.1 rfl (lv_room (Nat.le_of_ble_eq_true rfl)) dL_law_1133 ⟨Nat.le_of_ble_eq_true rfl, Nat.le_of_ble_eq_true rfl⟩) hP hD hK hS hA [0, 1, 2, 3, 4, 5, 6, 7] [8, 9, 10, 11, 12, 13] rfl rfl (by decide) (by decide) (fun r_6 u H locs w_7 hK hP hD hS => ?_)
    have hK : va_K (dC, dI) cls [(xcT, .byte), (xcL, .int), (xcS, .int), (xcG, .int), (xcW, .byte), (mc1, .int), (mc3, .int), (mc4, .int), (mc5, .boolean), (mc12, .int)] s := hK
    have hP : va_P (dC, dI) cls [(mq, .inr (15, mfs1)), (mmd, .inl (mc1, 4000, .inl mf1)), (mu1, .inl (mc3, 20, .inl mf3)), (mu2, .inl (mc4, 20, .inl mf4)), (mu3, .inl (mc5, 20, .inl mf5)), (mwa, .inl (mc12, 24204, .inl mf12))] H := hP
    have hD : va_D A [(mq, .inr (15, mfs1)), (mmd, .inl (mc1, 4000, .inl mf1)), (mu1, .inl (mc3, 20, .inl mf3)), (mu2, .inl (mc4, 20, .inl mf4)), (mu3, .inl (mc5, 20, .inl mf5)), (mwa, .inl (mc12, 24204, .inl mf12))] := hD
    obtain rfl : r_6 = 1 := w_7
    refine lv_aload_n hx hb dL_law_1136 rfl (lv_at hl 2 rfl) ?_
    refine lv_aload_n hx hb dL_law_1137 rfl (lv_at hl 4 rfl) ?_
    refine lv_iload hx hb dL_law_1138 (lv_at hl 0 rfl) ?_
    refine lv_iconst (v := 1) hx hb dL_law_1140 (by decide) ?_
    refine lv_iadd hx hb dL_law_1141 ?_
    refine tk_i (y := 1) (by decide) ?_
    refine va_sld hx hb hX hbl hbA hS (by unfold vp_in; decide) dL_law_1142 ?_
    refine tk_i (y := (xs 1)) rfl ?_
    refine lv_if_eq (tgt := 1150) hx hb dL_law_1143 (by decide) (fun c0 => absurd c0 (by have z0 := fun h => b_1 (Int32.toInt_inj.mp h); have y0 : (0 : Int32).toInt = 0 := (by decide); exact fun h => absurd (Int32.toInt_inj.mpr h) (by omega))) (fun _ => ?_)
    refine lv_iconst (v := 1) hx hb dL_law_1146 (by decide) ?_
    refine lv_goto (tgt := 1151) hx hb dL_law_1147 (by decide) ?_
    refine ca_i (wr := []) (va_runV (As := [.int 1]) (rest := [.int 1]) ⟨hx, hb, hml, hown, ht⟩ (r_word l dC dI H.size mq mfs1 mwa mmd mu1 mu2 mu3 mc12 mf12 mc1 mf1 mc3 mf3 mc4 mf4 mc5 mf5 1 L_mfs1 K18_mfs1 K53_mfs1 K54_mfs1 K128_mfs1 K129_mfs1 K130_mfs1 K131_mfs1 K154_mfs1 K155_mfs1 K156_mfs1 K160_mfs1 ) (cwV 1 ht (gdV k_15_208 k_15_205 k_15_206 k_15_207 k_1_17) rfl rfl rfl (by decide +kernel) ⟨Nat.le_of_ble_eq_true rfl, Nat.le_of_ble_eq_true rfl⟩) ⟨pcw_blind, va_recv hK hP (ci := 15) (q0 := 0) rfl rfl, pcw_at hP hD hK [0, 5, 1, 2, 3, 4] [9, 5, 6, 7, 8] (by decide) rfl rfl rfl⟩ rfl rfl hl.1 rfl (lv_room (Nat.le_of_ble_eq_true rfl)) dL_law_1151 ⟨Nat.le_of_ble_eq_true rfl, Nat.le_of_ble_eq_true rfl⟩) hP hD hK hS hA [0, 5, 1, 2, 3, 4] [] rfl rfl (by decide) (by decide) (fun r_8 u H locs w_9 hK hP hD hS => ?_)
    have hK : va_K (dC, dI) cls [(xcT, .byte), (xcL, .int), (xcS, .int), (xcG, .int), (xcW, .byte), (mc1, .int), (mc3, .int), (mc4, .int), (mc5, .boolean), (mc12, .int)] s := hK
    have hP : va_P (dC, dI) cls [] H := hP
    have hD : va_D A [] := hD
    obtain rfl : r_8 = 1 := w_9
    refine lv_icmp_eq (tgt := 1597) hx hb dL_law_1154 (by decide) (fun _ => ?_) (fun c0 => absurd c0 (by decide))
    exact lw_tail l C0 hA2 hS (lv_sub hl [0, 4] rfl) (Nat.le_of_ble_eq_true rfl) (Nat.le_of_ble_eq_true rfl)
