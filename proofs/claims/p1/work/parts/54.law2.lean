theorem dL_law_640 : decode cL_law 640 = .ok (.aload_n 1, 1) := by decide +kernel
theorem dL_law_641 : decode cL_law 641 = .ok (.aload_n 0, 1) := by decide +kernel
theorem dL_law_642 : decode cL_law 642 = .ok (.iload 4, 2) := by decide +kernel
theorem dL_law_644 : decode cL_law 644 = .ok (.iconst 1, 1) := by decide +kernel
theorem dL_law_645 : decode cL_law 645 = .ok (.iadd, 1) := by decide +kernel
theorem dL_law_646 : decode cL_law 646 = .ok (.iaload, 1) := by decide +kernel
theorem k_6_231 : Jvm.Cond.code ({ cls := "FinderHouse", name := "mend", desc := "(I)I" } : Jvm.MethodName) prog_1_method_23_code (8 : Nat) (Option.some Jvm.ClassFile.FieldType.int) ∈ tb := tb6 231 (by decide +kernel) (by decide +kernel)
theorem k_6_228 : Jvm.Cond.methodLink "FinderHouseLaw" (98 : Nat) ({ cls := "FinderHouse", name := "mend", desc := "(I)I" } : Jvm.MethodName) ∈ tb := tb6 228 (by decide +kernel) (by decide +kernel)
theorem k_6_229 : Jvm.Cond.instanceMethod ({ cls := "FinderHouse", name := "mend", desc := "(I)I" } : Jvm.MethodName) ∈ tb := tb6 229 (by decide +kernel) (by decide +kernel)
theorem k_6_230 : Jvm.Cond.selects "FinderHouse" ({ cls := "FinderHouse", name := "mend", desc := "(I)I" } : Jvm.MethodName) ({ cls := "FinderHouse", name := "mend", desc := "(I)I" } : Jvm.MethodName) ∈ tb := tb6 230 (by decide +kernel) (by decide +kernel)
theorem dL_law_647 : decode cL_law 647 = .ok (.invokevirtual 98, 3) := by decide +kernel
theorem dL_law_650 : decode cL_law 650 = .ok (.aload_n 2, 1) := by decide +kernel
theorem dL_law_651 : decode cL_law 651 = .ok (.aload_n 0, 1) := by decide +kernel
theorem dL_law_652 : decode cL_law 652 = .ok (.iload 4, 2) := by decide +kernel
theorem dL_law_654 : decode cL_law 654 = .ok (.iconst 1, 1) := by decide +kernel
theorem dL_law_655 : decode cL_law 655 = .ok (.iadd, 1) := by decide +kernel
theorem dL_law_656 : decode cL_law 656 = .ok (.iaload, 1) := by decide +kernel
theorem k_14_208 : Jvm.Cond.codeWith ({ cls := "FinderHouseModel", name := "mend", desc := "(I)I" } : Jvm.MethodName) prog_14_method_119_code (8 : Nat) (Option.some Jvm.ClassFile.FieldType.int) [((28 : Nat), (80 : Nat), (83 : Nat), (89 : Nat))] ∈ tb := tb14 208 (by decide +kernel) (by decide +kernel)
theorem k_14_205 : Jvm.Cond.methodLink "FinderHouseLaw" (101 : Nat) ({ cls := "FinderHouseModel", name := "mend", desc := "(I)I" } : Jvm.MethodName) ∈ tb := tb14 205 (by decide +kernel) (by decide +kernel)
theorem k_14_206 : Jvm.Cond.instanceMethod ({ cls := "FinderHouseModel", name := "mend", desc := "(I)I" } : Jvm.MethodName) ∈ tb := tb14 206 (by decide +kernel) (by decide +kernel)
theorem k_14_207 : Jvm.Cond.selects "FinderHouseModel" ({ cls := "FinderHouseModel", name := "mend", desc := "(I)I" } : Jvm.MethodName) ({ cls := "FinderHouseModel", name := "mend", desc := "(I)I" } : Jvm.MethodName) ∈ tb := tb14 207 (by decide +kernel) (by decide +kernel)
theorem dL_law_657 : decode cL_law 657 = .ok (.invokevirtual 101, 3) := by decide +kernel
theorem dL_law_660 : decode cL_law 660 = .ok (.if_icmp .eq 937, 3) := by decide +kernel
theorem dL_law_665 : decode cL_law 665 = .ok (.aload_n 1, 1) := by decide +kernel
theorem k_7_41 : Jvm.Cond.code ({ cls := "FinderHouse", name := "mended", desc := "()I" } : Jvm.MethodName) prog_1_method_24_code (1 : Nat) (Option.some Jvm.ClassFile.FieldType.int) ∈ tb := tb7 41 (by decide +kernel) (by decide +kernel)
theorem k_7_38 : Jvm.Cond.methodLink "FinderHouseLaw" (102 : Nat) ({ cls := "FinderHouse", name := "mended", desc := "()I" } : Jvm.MethodName) ∈ tb := tb7 38 (by decide +kernel) (by decide +kernel)
theorem k_7_39 : Jvm.Cond.instanceMethod ({ cls := "FinderHouse", name := "mended", desc := "()I" } : Jvm.MethodName) ∈ tb := tb7 39 (by decide +kernel) (by decide +kernel)
theorem k_7_40 : Jvm.Cond.selects "FinderHouse" ({ cls := "FinderHouse", name := "mended", desc := "()I" } : Jvm.MethodName) ({ cls := "FinderHouse", name := "mended", desc := "()I" } : Jvm.MethodName) ∈ tb := tb7 40 (by decide +kernel) (by decide +kernel)
theorem dL_law_666 : decode cL_law 666 = .ok (.invokevirtual 102, 3) := by decide +kernel
theorem dL_law_669 : decode cL_law 669 = .ok (.aload_n 2, 1) := by decide +kernel
theorem k_14_216 : Jvm.Cond.code ({ cls := "FinderHouseModel", name := "mended", desc := "()I" } : Jvm.MethodName) prog_14_method_120_code (1 : Nat) (Option.some Jvm.ClassFile.FieldType.int) ∈ tb := tb14 216 (by decide +kernel) (by decide +kernel)
theorem k_14_213 : Jvm.Cond.methodLink "FinderHouseLaw" (105 : Nat) ({ cls := "FinderHouseModel", name := "mended", desc := "()I" } : Jvm.MethodName) ∈ tb := tb14 213 (by decide +kernel) (by decide +kernel)
theorem k_14_214 : Jvm.Cond.instanceMethod ({ cls := "FinderHouseModel", name := "mended", desc := "()I" } : Jvm.MethodName) ∈ tb := tb14 214 (by decide +kernel) (by decide +kernel)
theorem k_14_215 : Jvm.Cond.selects "FinderHouseModel" ({ cls := "FinderHouseModel", name := "mended", desc := "()I" } : Jvm.MethodName) ({ cls := "FinderHouseModel", name := "mended", desc := "()I" } : Jvm.MethodName) ∈ tb := tb14 215 (by decide +kernel) (by decide +kernel)
theorem dL_law_670 : decode cL_law 670 = .ok (.invokevirtual 105, 3) := by decide +kernel
theorem dL_law_673 : decode cL_law 673 = .ok (.if_icmp .eq 924, 3) := by decide +kernel
theorem dL_law_678 : decode cL_law 678 = .ok (.aload_n 1, 1) := by decide +kernel
theorem dL_law_679 : decode cL_law 679 = .ok (.aload_n 0, 1) := by decide +kernel
theorem dL_law_680 : decode cL_law 680 = .ok (.iload 4, 2) := by decide +kernel
theorem dL_law_682 : decode cL_law 682 = .ok (.iconst 1, 1) := by decide +kernel
theorem dL_law_683 : decode cL_law 683 = .ok (.iadd, 1) := by decide +kernel
theorem dL_law_684 : decode cL_law 684 = .ok (.iaload, 1) := by decide +kernel
theorem k_7_45 : Jvm.Cond.code ({ cls := "FinderHouse", name := "byteOf", desc := "(I)I" } : Jvm.MethodName) prog_1_method_25_code (2 : Nat) (Option.some Jvm.ClassFile.FieldType.int) ∈ tb := tb7 45 (by decide +kernel) (by decide +kernel)
theorem k_7_42 : Jvm.Cond.methodLink "FinderHouseLaw" (106 : Nat) ({ cls := "FinderHouse", name := "byteOf", desc := "(I)I" } : Jvm.MethodName) ∈ tb := tb7 42 (by decide +kernel) (by decide +kernel)
theorem k_7_43 : Jvm.Cond.instanceMethod ({ cls := "FinderHouse", name := "byteOf", desc := "(I)I" } : Jvm.MethodName) ∈ tb := tb7 43 (by decide +kernel) (by decide +kernel)
theorem k_7_44 : Jvm.Cond.selects "FinderHouse" ({ cls := "FinderHouse", name := "byteOf", desc := "(I)I" } : Jvm.MethodName) ({ cls := "FinderHouse", name := "byteOf", desc := "(I)I" } : Jvm.MethodName) ∈ tb := tb7 44 (by decide +kernel) (by decide +kernel)
theorem dL_law_685 : decode cL_law 685 = .ok (.invokevirtual 106, 3) := by decide +kernel
theorem dL_law_688 : decode cL_law 688 = .ok (.aload_n 2, 1) := by decide +kernel
theorem dL_law_689 : decode cL_law 689 = .ok (.aload_n 0, 1) := by decide +kernel
theorem dL_law_690 : decode cL_law 690 = .ok (.iload 4, 2) := by decide +kernel
theorem dL_law_692 : decode cL_law 692 = .ok (.iconst 1, 1) := by decide +kernel
theorem dL_law_693 : decode cL_law 693 = .ok (.iadd, 1) := by decide +kernel
theorem dL_law_694 : decode cL_law 694 = .ok (.iaload, 1) := by decide +kernel
theorem k_14_220 : Jvm.Cond.code ({ cls := "FinderHouseModel", name := "byteOf", desc := "(I)I" } : Jvm.MethodName) prog_14_method_121_code (2 : Nat) (Option.some Jvm.ClassFile.FieldType.int) ∈ tb := tb14 220 (by decide +kernel) (by decide +kernel)
theorem k_14_217 : Jvm.Cond.methodLink "FinderHouseLaw" (109 : Nat) ({ cls := "FinderHouseModel", name := "byteOf", desc := "(I)I" } : Jvm.MethodName) ∈ tb := tb14 217 (by decide +kernel) (by decide +kernel)
theorem k_14_218 : Jvm.Cond.instanceMethod ({ cls := "FinderHouseModel", name := "byteOf", desc := "(I)I" } : Jvm.MethodName) ∈ tb := tb14 218 (by decide +kernel) (by decide +kernel)
theorem k_14_219 : Jvm.Cond.selects "FinderHouseModel" ({ cls := "FinderHouseModel", name := "byteOf", desc := "(I)I" } : Jvm.MethodName) ({ cls := "FinderHouseModel", name := "byteOf", desc := "(I)I" } : Jvm.MethodName) ∈ tb := tb14 219 (by decide +kernel) (by decide +kernel)
theorem dL_law_695 : decode cL_law 695 = .ok (.invokevirtual 109, 3) := by decide +kernel
theorem dL_law_698 : decode cL_law 698 = .ok (.if_icmp .eq 899, 3) := by decide +kernel
theorem dL_law_703 : decode cL_law 703 = .ok (.aload_n 1, 1) := by decide +kernel
theorem dL_law_704 : decode cL_law 704 = .ok (.aload_n 0, 1) := by decide +kernel
theorem dL_law_705 : decode cL_law 705 = .ok (.iload 4, 2) := by decide +kernel
theorem dL_law_707 : decode cL_law 707 = .ok (.iconst 1, 1) := by decide +kernel
theorem dL_law_708 : decode cL_law 708 = .ok (.iadd, 1) := by decide +kernel
theorem dL_law_709 : decode cL_law 709 = .ok (.iaload, 1) := by decide +kernel
theorem k_7_49 : Jvm.Cond.code ({ cls := "FinderHouse", name := "answer", desc := "(I)I" } : Jvm.MethodName) prog_1_method_26_code (2 : Nat) (Option.some Jvm.ClassFile.FieldType.int) ∈ tb := tb7 49 (by decide +kernel) (by decide +kernel)
theorem k_7_46 : Jvm.Cond.methodLink "FinderHouseLaw" (110 : Nat) ({ cls := "FinderHouse", name := "answer", desc := "(I)I" } : Jvm.MethodName) ∈ tb := tb7 46 (by decide +kernel) (by decide +kernel)
theorem k_7_47 : Jvm.Cond.instanceMethod ({ cls := "FinderHouse", name := "answer", desc := "(I)I" } : Jvm.MethodName) ∈ tb := tb7 47 (by decide +kernel) (by decide +kernel)
theorem k_7_48 : Jvm.Cond.selects "FinderHouse" ({ cls := "FinderHouse", name := "answer", desc := "(I)I" } : Jvm.MethodName) ({ cls := "FinderHouse", name := "answer", desc := "(I)I" } : Jvm.MethodName) ∈ tb := tb7 48 (by decide +kernel) (by decide +kernel)
theorem dL_law_710 : decode cL_law 710 = .ok (.invokevirtual 110, 3) := by decide +kernel
theorem dL_law_713 : decode cL_law 713 = .ok (.aload_n 2, 1) := by decide +kernel
theorem dL_law_714 : decode cL_law 714 = .ok (.aload_n 0, 1) := by decide +kernel
theorem dL_law_715 : decode cL_law 715 = .ok (.iload 4, 2) := by decide +kernel
theorem dL_law_717 : decode cL_law 717 = .ok (.iconst 1, 1) := by decide +kernel
theorem dL_law_718 : decode cL_law 718 = .ok (.iadd, 1) := by decide +kernel
theorem dL_law_719 : decode cL_law 719 = .ok (.iaload, 1) := by decide +kernel
theorem k_14_224 : Jvm.Cond.code ({ cls := "FinderHouseModel", name := "answer", desc := "(I)I" } : Jvm.MethodName) prog_14_method_122_code (2 : Nat) (Option.some Jvm.ClassFile.FieldType.int) ∈ tb := tb14 224 (by decide +kernel) (by decide +kernel)
theorem k_14_221 : Jvm.Cond.methodLink "FinderHouseLaw" (113 : Nat) ({ cls := "FinderHouseModel", name := "answer", desc := "(I)I" } : Jvm.MethodName) ∈ tb := tb14 221 (by decide +kernel) (by decide +kernel)
theorem k_14_222 : Jvm.Cond.instanceMethod ({ cls := "FinderHouseModel", name := "answer", desc := "(I)I" } : Jvm.MethodName) ∈ tb := tb14 222 (by decide +kernel) (by decide +kernel)
theorem k_14_223 : Jvm.Cond.selects "FinderHouseModel" ({ cls := "FinderHouseModel", name := "answer", desc := "(I)I" } : Jvm.MethodName) ({ cls := "FinderHouseModel", name := "answer", desc := "(I)I" } : Jvm.MethodName) ∈ tb := tb14 223 (by decide +kernel) (by decide +kernel)
theorem dL_law_720 : decode cL_law 720 = .ok (.invokevirtual 113, 3) := by decide +kernel
theorem dL_law_723 : decode cL_law 723 = .ok (.if_icmp .eq 874, 3) := by decide +kernel
theorem dL_law_728 : decode cL_law 728 = .ok (.aload_n 1, 1) := by decide +kernel
theorem dL_law_729 : decode cL_law 729 = .ok (.aload_n 0, 1) := by decide +kernel
theorem dL_law_730 : decode cL_law 730 = .ok (.iload 4, 2) := by decide +kernel
theorem dL_law_732 : decode cL_law 732 = .ok (.iconst 1, 1) := by decide +kernel
theorem dL_law_733 : decode cL_law 733 = .ok (.iadd, 1) := by decide +kernel
theorem dL_law_734 : decode cL_law 734 = .ok (.iaload, 1) := by decide +kernel
theorem dL_law_735 : decode cL_law 735 = .ok (.aload_n 0, 1) := by decide +kernel
theorem dL_law_736 : decode cL_law 736 = .ok (.iload 4, 2) := by decide +kernel
theorem dL_law_738 : decode cL_law 738 = .ok (.iconst 2, 1) := by decide +kernel
theorem dL_law_739 : decode cL_law 739 = .ok (.iadd, 1) := by decide +kernel
theorem dL_law_740 : decode cL_law 740 = .ok (.iaload, 1) := by decide +kernel
theorem k_7_53 : Jvm.Cond.code ({ cls := "FinderHouse", name := "point", desc := "(II)I" } : Jvm.MethodName) prog_1_method_27_code (3 : Nat) (Option.some Jvm.ClassFile.FieldType.int) ∈ tb := tb7 53 (by decide +kernel) (by decide +kernel)
theorem k_7_50 : Jvm.Cond.methodLink "FinderHouseLaw" (114 : Nat) ({ cls := "FinderHouse", name := "point", desc := "(II)I" } : Jvm.MethodName) ∈ tb := tb7 50 (by decide +kernel) (by decide +kernel)
theorem k_7_51 : Jvm.Cond.instanceMethod ({ cls := "FinderHouse", name := "point", desc := "(II)I" } : Jvm.MethodName) ∈ tb := tb7 51 (by decide +kernel) (by decide +kernel)
theorem k_7_52 : Jvm.Cond.selects "FinderHouse" ({ cls := "FinderHouse", name := "point", desc := "(II)I" } : Jvm.MethodName) ({ cls := "FinderHouse", name := "point", desc := "(II)I" } : Jvm.MethodName) ∈ tb := tb7 52 (by decide +kernel) (by decide +kernel)
theorem dL_law_741 : decode cL_law 741 = .ok (.invokevirtual 114, 3) := by decide +kernel
theorem dL_law_744 : decode cL_law 744 = .ok (.aload_n 2, 1) := by decide +kernel
theorem dL_law_745 : decode cL_law 745 = .ok (.aload_n 0, 1) := by decide +kernel
theorem dL_law_746 : decode cL_law 746 = .ok (.iload 4, 2) := by decide +kernel
theorem dL_law_748 : decode cL_law 748 = .ok (.iconst 1, 1) := by decide +kernel
theorem dL_law_749 : decode cL_law 749 = .ok (.iadd, 1) := by decide +kernel
theorem dL_law_750 : decode cL_law 750 = .ok (.iaload, 1) := by decide +kernel
theorem dL_law_751 : decode cL_law 751 = .ok (.aload_n 0, 1) := by decide +kernel
theorem dL_law_752 : decode cL_law 752 = .ok (.iload 4, 2) := by decide +kernel
theorem dL_law_754 : decode cL_law 754 = .ok (.iconst 2, 1) := by decide +kernel
theorem dL_law_755 : decode cL_law 755 = .ok (.iadd, 1) := by decide +kernel
theorem dL_law_756 : decode cL_law 756 = .ok (.iaload, 1) := by decide +kernel
theorem k_14_228 : Jvm.Cond.code ({ cls := "FinderHouseModel", name := "point", desc := "(II)I" } : Jvm.MethodName) prog_14_method_123_code (3 : Nat) (Option.some Jvm.ClassFile.FieldType.int) ∈ tb := tb14 228 (by decide +kernel) (by decide +kernel)
theorem k_14_225 : Jvm.Cond.methodLink "FinderHouseLaw" (117 : Nat) ({ cls := "FinderHouseModel", name := "point", desc := "(II)I" } : Jvm.MethodName) ∈ tb := tb14 225 (by decide +kernel) (by decide +kernel)
theorem k_14_226 : Jvm.Cond.instanceMethod ({ cls := "FinderHouseModel", name := "point", desc := "(II)I" } : Jvm.MethodName) ∈ tb := tb14 226 (by decide +kernel) (by decide +kernel)
theorem k_14_227 : Jvm.Cond.selects "FinderHouseModel" ({ cls := "FinderHouseModel", name := "point", desc := "(II)I" } : Jvm.MethodName) ({ cls := "FinderHouseModel", name := "point", desc := "(II)I" } : Jvm.MethodName) ∈ tb := tb14 227 (by decide +kernel) (by decide +kernel)
theorem dL_law_757 : decode cL_law 757 = .ok (.invokevirtual 117, 3) := by decide +kernel
theorem dL_law_760 : decode cL_law 760 = .ok (.if_icmp .eq 837, 3) := by decide +kernel
theorem dL_law_765 : decode cL_law 765 = .ok (.aload_n 1, 1) := by decide +kernel
theorem k_7_57 : Jvm.Cond.code ({ cls := "FinderHouse", name := "value", desc := "()I" } : Jvm.MethodName) prog_1_method_28_code (2 : Nat) (Option.some Jvm.ClassFile.FieldType.int) ∈ tb := tb7 57 (by decide +kernel) (by decide +kernel)
theorem k_7_54 : Jvm.Cond.methodLink "FinderHouseLaw" (118 : Nat) ({ cls := "FinderHouse", name := "value", desc := "()I" } : Jvm.MethodName) ∈ tb := tb7 54 (by decide +kernel) (by decide +kernel)
theorem k_7_55 : Jvm.Cond.instanceMethod ({ cls := "FinderHouse", name := "value", desc := "()I" } : Jvm.MethodName) ∈ tb := tb7 55 (by decide +kernel) (by decide +kernel)
theorem k_7_56 : Jvm.Cond.selects "FinderHouse" ({ cls := "FinderHouse", name := "value", desc := "()I" } : Jvm.MethodName) ({ cls := "FinderHouse", name := "value", desc := "()I" } : Jvm.MethodName) ∈ tb := tb7 56 (by decide +kernel) (by decide +kernel)
theorem dL_law_766 : decode cL_law 766 = .ok (.invokevirtual 118, 3) := by decide +kernel
theorem dL_law_769 : decode cL_law 769 = .ok (.aload_n 2, 1) := by decide +kernel
theorem k_14_232 : Jvm.Cond.codeWith ({ cls := "FinderHouseModel", name := "value", desc := "()I" } : Jvm.MethodName) prog_14_method_124_code (3 : Nat) (Option.some Jvm.ClassFile.FieldType.int) [((14 : Nat), (50 : Nat), (51 : Nat), (89 : Nat))] ∈ tb := tb14 232 (by decide +kernel) (by decide +kernel)
theorem k_14_229 : Jvm.Cond.methodLink "FinderHouseLaw" (121 : Nat) ({ cls := "FinderHouseModel", name := "value", desc := "()I" } : Jvm.MethodName) ∈ tb := tb14 229 (by decide +kernel) (by decide +kernel)
theorem k_14_230 : Jvm.Cond.instanceMethod ({ cls := "FinderHouseModel", name := "value", desc := "()I" } : Jvm.MethodName) ∈ tb := tb14 230 (by decide +kernel) (by decide +kernel)
theorem k_14_231 : Jvm.Cond.selects "FinderHouseModel" ({ cls := "FinderHouseModel", name := "value", desc := "()I" } : Jvm.MethodName) ({ cls := "FinderHouseModel", name := "value", desc := "()I" } : Jvm.MethodName) ∈ tb := tb14 231 (by decide +kernel) (by decide +kernel)
theorem dL_law_770 : decode cL_law 770 = .ok (.invokevirtual 121, 3) := by decide +kernel
theorem dL_law_773 : decode cL_law 773 = .ok (.if_icmp .eq 824, 3) := by decide +kernel
theorem dL_law_778 : decode cL_law 778 = .ok (.aload_n 1, 1) := by decide +kernel
theorem k_7_66 : Jvm.Cond.code ({ cls := "FinderHouse", name := "worked", desc := "()I" } : Jvm.MethodName) prog_1_method_29_code (1 : Nat) (Option.some Jvm.ClassFile.FieldType.int) ∈ tb := tb7 66 (by decide +kernel) (by decide +kernel)
theorem k_7_63 : Jvm.Cond.methodLink "FinderHouseLaw" (122 : Nat) ({ cls := "FinderHouse", name := "worked", desc := "()I" } : Jvm.MethodName) ∈ tb := tb7 63 (by decide +kernel) (by decide +kernel)
theorem k_7_64 : Jvm.Cond.instanceMethod ({ cls := "FinderHouse", name := "worked", desc := "()I" } : Jvm.MethodName) ∈ tb := tb7 64 (by decide +kernel) (by decide +kernel)
theorem k_7_65 : Jvm.Cond.selects "FinderHouse" ({ cls := "FinderHouse", name := "worked", desc := "()I" } : Jvm.MethodName) ({ cls := "FinderHouse", name := "worked", desc := "()I" } : Jvm.MethodName) ∈ tb := tb7 65 (by decide +kernel) (by decide +kernel)
theorem dL_law_779 : decode cL_law 779 = .ok (.invokevirtual 122, 3) := by decide +kernel
theorem dL_law_782 : decode cL_law 782 = .ok (.aload_n 2, 1) := by decide +kernel
theorem k_14_236 : Jvm.Cond.code ({ cls := "FinderHouseModel", name := "worked", desc := "()I" } : Jvm.MethodName) prog_14_method_125_code (1 : Nat) (Option.some Jvm.ClassFile.FieldType.int) ∈ tb := tb14 236 (by decide +kernel) (by decide +kernel)
theorem k_14_233 : Jvm.Cond.methodLink "FinderHouseLaw" (125 : Nat) ({ cls := "FinderHouseModel", name := "worked", desc := "()I" } : Jvm.MethodName) ∈ tb := tb14 233 (by decide +kernel) (by decide +kernel)
theorem k_14_234 : Jvm.Cond.instanceMethod ({ cls := "FinderHouseModel", name := "worked", desc := "()I" } : Jvm.MethodName) ∈ tb := tb14 234 (by decide +kernel) (by decide +kernel)
theorem k_14_235 : Jvm.Cond.selects "FinderHouseModel" ({ cls := "FinderHouseModel", name := "worked", desc := "()I" } : Jvm.MethodName) ({ cls := "FinderHouseModel", name := "worked", desc := "()I" } : Jvm.MethodName) ∈ tb := tb14 235 (by decide +kernel) (by decide +kernel)
theorem dL_law_783 : decode cL_law 783 = .ok (.invokevirtual 125, 3) := by decide +kernel
theorem dL_law_786 : decode cL_law 786 = .ok (.if_icmp .eq 811, 3) := by decide +kernel
theorem dL_law_791 : decode cL_law 791 = .ok (.aload_n 1, 1) := by decide +kernel
theorem k_7_70 : Jvm.Cond.code ({ cls := "FinderHouse", name := "keep", desc := "()I" } : Jvm.MethodName) prog_1_method_30_code (3 : Nat) (Option.some Jvm.ClassFile.FieldType.int) ∈ tb := tb7 70 (by decide +kernel) (by decide +kernel)
theorem k_7_67 : Jvm.Cond.methodLink "FinderHouseLaw" (126 : Nat) ({ cls := "FinderHouse", name := "keep", desc := "()I" } : Jvm.MethodName) ∈ tb := tb7 67 (by decide +kernel) (by decide +kernel)
theorem k_7_68 : Jvm.Cond.instanceMethod ({ cls := "FinderHouse", name := "keep", desc := "()I" } : Jvm.MethodName) ∈ tb := tb7 68 (by decide +kernel) (by decide +kernel)
theorem k_7_69 : Jvm.Cond.selects "FinderHouse" ({ cls := "FinderHouse", name := "keep", desc := "()I" } : Jvm.MethodName) ({ cls := "FinderHouse", name := "keep", desc := "()I" } : Jvm.MethodName) ∈ tb := tb7 69 (by decide +kernel) (by decide +kernel)
theorem dL_law_792 : decode cL_law 792 = .ok (.invokevirtual 126, 3) := by decide +kernel
theorem dL_law_795 : decode cL_law 795 = .ok (.aload_n 2, 1) := by decide +kernel
theorem k_15_0 : Jvm.Cond.code ({ cls := "FinderHouseModel", name := "keep", desc := "()I" } : Jvm.MethodName) prog_14_method_128_code (2 : Nat) (Option.some Jvm.ClassFile.FieldType.int) ∈ tb := tb15 0 (by decide +kernel) (by decide +kernel)
theorem k_14_237 : Jvm.Cond.methodLink "FinderHouseLaw" (129 : Nat) ({ cls := "FinderHouseModel", name := "keep", desc := "()I" } : Jvm.MethodName) ∈ tb := tb14 237 (by decide +kernel) (by decide +kernel)
theorem k_14_238 : Jvm.Cond.instanceMethod ({ cls := "FinderHouseModel", name := "keep", desc := "()I" } : Jvm.MethodName) ∈ tb := tb14 238 (by decide +kernel) (by decide +kernel)
theorem k_14_239 : Jvm.Cond.selects "FinderHouseModel" ({ cls := "FinderHouseModel", name := "keep", desc := "()I" } : Jvm.MethodName) ({ cls := "FinderHouseModel", name := "keep", desc := "()I" } : Jvm.MethodName) ∈ tb := tb14 239 (by decide +kernel) (by decide +kernel)
theorem dL_law_796 : decode cL_law 796 = .ok (.invokevirtual 129, 3) := by decide +kernel
theorem dL_law_799 : decode cL_law 799 = .ok (.if_icmp .eq 798, 3) := by decide +kernel
theorem dL_law_804 : decode cL_law 804 = .ok (.aload_n 1, 1) := by decide +kernel
theorem dL_law_805 : decode cL_law 805 = .ok (.aload_n 0, 1) := by decide +kernel
theorem dL_law_806 : decode cL_law 806 = .ok (.iload 4, 2) := by decide +kernel
theorem dL_law_808 : decode cL_law 808 = .ok (.iconst 1, 1) := by decide +kernel
theorem dL_law_809 : decode cL_law 809 = .ok (.iadd, 1) := by decide +kernel
theorem dL_law_810 : decode cL_law 810 = .ok (.iaload, 1) := by decide +kernel
theorem dL_law_811 : decode cL_law 811 = .ok (.aload_n 0, 1) := by decide +kernel
theorem dL_law_812 : decode cL_law 812 = .ok (.iload 4, 2) := by decide +kernel
theorem dL_law_814 : decode cL_law 814 = .ok (.iconst 2, 1) := by decide +kernel
theorem dL_law_815 : decode cL_law 815 = .ok (.iadd, 1) := by decide +kernel
theorem dL_law_816 : decode cL_law 816 = .ok (.iaload, 1) := by decide +kernel
theorem k_7_96 : Jvm.Cond.code ({ cls := "FinderHouse", name := "kept", desc := "(II)I" } : Jvm.MethodName) prog_1_method_33_code (3 : Nat) (Option.some Jvm.ClassFile.FieldType.int) ∈ tb := tb7 96 (by decide +kernel) (by decide +kernel)
theorem k_7_93 : Jvm.Cond.methodLink "FinderHouseLaw" (130 : Nat) ({ cls := "FinderHouse", name := "kept", desc := "(II)I" } : Jvm.MethodName) ∈ tb := tb7 93 (by decide +kernel) (by decide +kernel)
theorem k_7_94 : Jvm.Cond.instanceMethod ({ cls := "FinderHouse", name := "kept", desc := "(II)I" } : Jvm.MethodName) ∈ tb := tb7 94 (by decide +kernel) (by decide +kernel)
theorem k_7_95 : Jvm.Cond.selects "FinderHouse" ({ cls := "FinderHouse", name := "kept", desc := "(II)I" } : Jvm.MethodName) ({ cls := "FinderHouse", name := "kept", desc := "(II)I" } : Jvm.MethodName) ∈ tb := tb7 95 (by decide +kernel) (by decide +kernel)
theorem dL_law_817 : decode cL_law 817 = .ok (.invokevirtual 130, 3) := by decide +kernel
theorem dL_law_820 : decode cL_law 820 = .ok (.aload_n 2, 1) := by decide +kernel
theorem dL_law_821 : decode cL_law 821 = .ok (.aload_n 0, 1) := by decide +kernel
theorem dL_law_822 : decode cL_law 822 = .ok (.iload 4, 2) := by decide +kernel
theorem dL_law_824 : decode cL_law 824 = .ok (.iconst 1, 1) := by decide +kernel
theorem dL_law_825 : decode cL_law 825 = .ok (.iadd, 1) := by decide +kernel
theorem dL_law_826 : decode cL_law 826 = .ok (.iaload, 1) := by decide +kernel
theorem dL_law_827 : decode cL_law 827 = .ok (.aload_n 0, 1) := by decide +kernel
theorem dL_law_828 : decode cL_law 828 = .ok (.iload 4, 2) := by decide +kernel
theorem dL_law_830 : decode cL_law 830 = .ok (.iconst 2, 1) := by decide +kernel
theorem dL_law_831 : decode cL_law 831 = .ok (.iadd, 1) := by decide +kernel
theorem dL_law_832 : decode cL_law 832 = .ok (.iaload, 1) := by decide +kernel
theorem k_15_12 : Jvm.Cond.code ({ cls := "FinderHouseModel", name := "kept", desc := "(II)I" } : Jvm.MethodName) prog_14_method_129_code (4 : Nat) (Option.some Jvm.ClassFile.FieldType.int) ∈ tb := tb15 12 (by decide +kernel) (by decide +kernel)
theorem k_15_9 : Jvm.Cond.methodLink "FinderHouseLaw" (133 : Nat) ({ cls := "FinderHouseModel", name := "kept", desc := "(II)I" } : Jvm.MethodName) ∈ tb := tb15 9 (by decide +kernel) (by decide +kernel)
theorem k_15_10 : Jvm.Cond.instanceMethod ({ cls := "FinderHouseModel", name := "kept", desc := "(II)I" } : Jvm.MethodName) ∈ tb := tb15 10 (by decide +kernel) (by decide +kernel)
theorem k_15_11 : Jvm.Cond.selects "FinderHouseModel" ({ cls := "FinderHouseModel", name := "kept", desc := "(II)I" } : Jvm.MethodName) ({ cls := "FinderHouseModel", name := "kept", desc := "(II)I" } : Jvm.MethodName) ∈ tb := tb15 11 (by decide +kernel) (by decide +kernel)
theorem dL_law_833 : decode cL_law 833 = .ok (.invokevirtual 133, 3) := by decide +kernel
theorem dL_law_836 : decode cL_law 836 = .ok (.if_icmp .eq 761, 3) := by decide +kernel
theorem dL_law_841 : decode cL_law 841 = .ok (.aload_n 1, 1) := by decide +kernel
theorem k_7_104 : Jvm.Cond.code ({ cls := "FinderHouse", name := "learn", desc := "()I" } : Jvm.MethodName) prog_1_method_34_code (1 : Nat) (Option.some Jvm.ClassFile.FieldType.int) ∈ tb := tb7 104 (by decide +kernel) (by decide +kernel)
theorem k_7_101 : Jvm.Cond.methodLink "FinderHouseLaw" (134 : Nat) ({ cls := "FinderHouse", name := "learn", desc := "()I" } : Jvm.MethodName) ∈ tb := tb7 101 (by decide +kernel) (by decide +kernel)
theorem k_7_102 : Jvm.Cond.instanceMethod ({ cls := "FinderHouse", name := "learn", desc := "()I" } : Jvm.MethodName) ∈ tb := tb7 102 (by decide +kernel) (by decide +kernel)
theorem k_7_103 : Jvm.Cond.selects "FinderHouse" ({ cls := "FinderHouse", name := "learn", desc := "()I" } : Jvm.MethodName) ({ cls := "FinderHouse", name := "learn", desc := "()I" } : Jvm.MethodName) ∈ tb := tb7 103 (by decide +kernel) (by decide +kernel)
theorem dL_law_842 : decode cL_law 842 = .ok (.invokevirtual 134, 3) := by decide +kernel
theorem dL_law_845 : decode cL_law 845 = .ok (.aload_n 2, 1) := by decide +kernel
theorem k_15_16 : Jvm.Cond.code ({ cls := "FinderHouseModel", name := "learn", desc := "()I" } : Jvm.MethodName) prog_14_method_138_code (1 : Nat) (Option.some Jvm.ClassFile.FieldType.int) ∈ tb := tb15 16 (by decide +kernel) (by decide +kernel)
theorem k_15_13 : Jvm.Cond.methodLink "FinderHouseLaw" (137 : Nat) ({ cls := "FinderHouseModel", name := "learn", desc := "()I" } : Jvm.MethodName) ∈ tb := tb15 13 (by decide +kernel) (by decide +kernel)
theorem k_15_14 : Jvm.Cond.instanceMethod ({ cls := "FinderHouseModel", name := "learn", desc := "()I" } : Jvm.MethodName) ∈ tb := tb15 14 (by decide +kernel) (by decide +kernel)
theorem k_15_15 : Jvm.Cond.selects "FinderHouseModel" ({ cls := "FinderHouseModel", name := "learn", desc := "()I" } : Jvm.MethodName) ({ cls := "FinderHouseModel", name := "learn", desc := "()I" } : Jvm.MethodName) ∈ tb := tb15 15 (by decide +kernel) (by decide +kernel)
theorem dL_law_846 : decode cL_law 846 = .ok (.invokevirtual 137, 3) := by decide +kernel
theorem dL_law_849 : decode cL_law 849 = .ok (.if_icmp .eq 748, 3) := by decide +kernel
theorem dL_law_854 : decode cL_law 854 = .ok (.aload_n 1, 1) := by decide +kernel
theorem dL_law_855 : decode cL_law 855 = .ok (.aload_n 0, 1) := by decide +kernel
theorem dL_law_856 : decode cL_law 856 = .ok (.iload 4, 2) := by decide +kernel
theorem dL_law_858 : decode cL_law 858 = .ok (.iconst 1, 1) := by decide +kernel
theorem dL_law_859 : decode cL_law 859 = .ok (.iadd, 1) := by decide +kernel
theorem dL_law_860 : decode cL_law 860 = .ok (.iaload, 1) := by decide +kernel
theorem dL_law_861 : decode cL_law 861 = .ok (.aload_n 0, 1) := by decide +kernel
theorem dL_law_862 : decode cL_law 862 = .ok (.iload 4, 2) := by decide +kernel
theorem dL_law_864 : decode cL_law 864 = .ok (.iconst 2, 1) := by decide +kernel
theorem dL_law_865 : decode cL_law 865 = .ok (.iadd, 1) := by decide +kernel
theorem dL_law_866 : decode cL_law 866 = .ok (.iaload, 1) := by decide +kernel
theorem k_7_167 : Jvm.Cond.code ({ cls := "FinderHouse", name := "own", desc := "(II)I" } : Jvm.MethodName) prog_1_method_36_code (4 : Nat) (Option.some Jvm.ClassFile.FieldType.int) ∈ tb := tb7 167 (by decide +kernel) (by decide +kernel)
theorem k_7_164 : Jvm.Cond.methodLink "FinderHouseLaw" (138 : Nat) ({ cls := "FinderHouse", name := "own", desc := "(II)I" } : Jvm.MethodName) ∈ tb := tb7 164 (by decide +kernel) (by decide +kernel)
theorem k_7_165 : Jvm.Cond.instanceMethod ({ cls := "FinderHouse", name := "own", desc := "(II)I" } : Jvm.MethodName) ∈ tb := tb7 165 (by decide +kernel) (by decide +kernel)
theorem k_7_166 : Jvm.Cond.selects "FinderHouse" ({ cls := "FinderHouse", name := "own", desc := "(II)I" } : Jvm.MethodName) ({ cls := "FinderHouse", name := "own", desc := "(II)I" } : Jvm.MethodName) ∈ tb := tb7 166 (by decide +kernel) (by decide +kernel)
theorem dL_law_867 : decode cL_law 867 = .ok (.invokevirtual 138, 3) := by decide +kernel
theorem dL_law_870 : decode cL_law 870 = .ok (.aload_n 2, 1) := by decide +kernel
theorem dL_law_871 : decode cL_law 871 = .ok (.aload_n 0, 1) := by decide +kernel
theorem dL_law_872 : decode cL_law 872 = .ok (.iload 4, 2) := by decide +kernel
theorem dL_law_874 : decode cL_law 874 = .ok (.iconst 1, 1) := by decide +kernel
theorem dL_law_875 : decode cL_law 875 = .ok (.iadd, 1) := by decide +kernel
theorem dL_law_876 : decode cL_law 876 = .ok (.iaload, 1) := by decide +kernel
theorem dL_law_877 : decode cL_law 877 = .ok (.aload_n 0, 1) := by decide +kernel
theorem dL_law_878 : decode cL_law 878 = .ok (.iload 4, 2) := by decide +kernel
theorem dL_law_880 : decode cL_law 880 = .ok (.iconst 2, 1) := by decide +kernel
theorem dL_law_881 : decode cL_law 881 = .ok (.iadd, 1) := by decide +kernel
theorem dL_law_882 : decode cL_law 882 = .ok (.iaload, 1) := by decide +kernel
theorem k_15_57 : Jvm.Cond.code ({ cls := "FinderHouseModel", name := "own", desc := "(II)I" } : Jvm.MethodName) prog_14_method_140_code (5 : Nat) (Option.some Jvm.ClassFile.FieldType.int) ∈ tb := tb15 57 (by decide +kernel) (by decide +kernel)
theorem k_15_54 : Jvm.Cond.methodLink "FinderHouseLaw" (141 : Nat) ({ cls := "FinderHouseModel", name := "own", desc := "(II)I" } : Jvm.MethodName) ∈ tb := tb15 54 (by decide +kernel) (by decide +kernel)
theorem k_15_55 : Jvm.Cond.instanceMethod ({ cls := "FinderHouseModel", name := "own", desc := "(II)I" } : Jvm.MethodName) ∈ tb := tb15 55 (by decide +kernel) (by decide +kernel)
theorem k_15_56 : Jvm.Cond.selects "FinderHouseModel" ({ cls := "FinderHouseModel", name := "own", desc := "(II)I" } : Jvm.MethodName) ({ cls := "FinderHouseModel", name := "own", desc := "(II)I" } : Jvm.MethodName) ∈ tb := tb15 56 (by decide +kernel) (by decide +kernel)
theorem dL_law_883 : decode cL_law 883 = .ok (.invokevirtual 141, 3) := by decide +kernel
theorem dL_law_886 : decode cL_law 886 = .ok (.if_icmp .eq 711, 3) := by decide +kernel
theorem dL_law_891 : decode cL_law 891 = .ok (.aload_n 1, 1) := by decide +kernel
theorem k_7_171 : Jvm.Cond.code ({ cls := "FinderHouse", name := "loop", desc := "()I" } : Jvm.MethodName) prog_1_method_37_code (1 : Nat) (Option.some Jvm.ClassFile.FieldType.int) ∈ tb := tb7 171 (by decide +kernel) (by decide +kernel)
theorem k_7_168 : Jvm.Cond.methodLink "FinderHouseLaw" (142 : Nat) ({ cls := "FinderHouse", name := "loop", desc := "()I" } : Jvm.MethodName) ∈ tb := tb7 168 (by decide +kernel) (by decide +kernel)
theorem k_7_169 : Jvm.Cond.instanceMethod ({ cls := "FinderHouse", name := "loop", desc := "()I" } : Jvm.MethodName) ∈ tb := tb7 169 (by decide +kernel) (by decide +kernel)
theorem k_7_170 : Jvm.Cond.selects "FinderHouse" ({ cls := "FinderHouse", name := "loop", desc := "()I" } : Jvm.MethodName) ({ cls := "FinderHouse", name := "loop", desc := "()I" } : Jvm.MethodName) ∈ tb := tb7 170 (by decide +kernel) (by decide +kernel)
theorem dL_law_892 : decode cL_law 892 = .ok (.invokevirtual 142, 3) := by decide +kernel
theorem dL_law_895 : decode cL_law 895 = .ok (.aload_n 2, 1) := by decide +kernel
theorem k_15_63 : Jvm.Cond.codeWith ({ cls := "FinderHouseModel", name := "loop", desc := "()I" } : Jvm.MethodName) prog_14_method_148_code (3 : Nat) (Option.some Jvm.ClassFile.FieldType.int) [((37 : Nat), (47 : Nat), (50 : Nat), (89 : Nat))] ∈ tb := tb15 63 (by decide +kernel) (by decide +kernel)
theorem k_15_60 : Jvm.Cond.methodLink "FinderHouseLaw" (145 : Nat) ({ cls := "FinderHouseModel", name := "loop", desc := "()I" } : Jvm.MethodName) ∈ tb := tb15 60 (by decide +kernel) (by decide +kernel)
theorem k_15_61 : Jvm.Cond.instanceMethod ({ cls := "FinderHouseModel", name := "loop", desc := "()I" } : Jvm.MethodName) ∈ tb := tb15 61 (by decide +kernel) (by decide +kernel)
theorem k_15_62 : Jvm.Cond.selects "FinderHouseModel" ({ cls := "FinderHouseModel", name := "loop", desc := "()I" } : Jvm.MethodName) ({ cls := "FinderHouseModel", name := "loop", desc := "()I" } : Jvm.MethodName) ∈ tb := tb15 62 (by decide +kernel) (by decide +kernel)
theorem dL_law_896 : decode cL_law 896 = .ok (.invokevirtual 145, 3) := by decide +kernel
theorem dL_law_899 : decode cL_law 899 = .ok (.if_icmp .eq 698, 3) := by decide +kernel
set_option maxHeartbeats 4000000 in
set_option maxRecDepth 100000 in
theorem lw_c13 {p : Program} {e : Env} {s : State} {m : MethodId} {below : List Frame} {meth : Method} {c : Code} (l : Launch) {b : Nat} {xs : Nat → Int32} (C0 : lw_At p s m meth c b 6 xs) (dC : Nat → ClassId) (dI : Nat → Nat → Nat) {A : Nat → Prop} (hA : ∀ q : Nat, s.heap.size ≤ q → A q) (hA2 : ∀ q : Nat, A q → s.heap.size ≤ q) (xq : Nat) (xfs1 : List Value) (xtp : Nat) (xcT : ClassId) (xft : Nat → Int32) (xrd : Nat) (xgr : List Value) (xnd : Nat) (xgn : List Value) (xas : Nat) (xga : List Value) (xks : Nat) (xcK : ClassId) (xfk : Nat → Int32) (xsp : Nat) (xlp : Nat) (xwr : Nat) (xma : Nat) (xdk : Nat) (mq : Nat) (mfs1 : List Value) (mbd : Nat) (mgb : List Value) (ou : Nat) (st0 : Nat) (st1 : Nat) (st2 : Nat) (st3 : Nat) (st4 : Nat) (st5 : Nat) (st6 : Nat) (st7 : Nat) (sv0 : Nat) (sv1 : Nat) (sv2 : Nat) (hE : xf_all A s s.heap [.inr (.inl ("FinderHouse$Acts", 47, "add sub mul div rem min max and or xor less same not both any if pick cat len take drop rev head like code sign ", st0)), .inr (.inl ("FinderHouse$Acts", 63, "nnn nnn nnn nnn nnn nnn nnn nnn nnn nnn nnt nnt tt ttt ttt tnnn tsss sss sn sns sns ss ss sst sn ns ", st1)), .inl ("java/lang/String", "COMPACT_STRINGS", "Z", .int 1), .inr (.inr (.inr (.inr (.inl ("jdk/internal/util/Preconditions", "SIOOBE_FORMATTER", "Ljava/util/function/BiFunction;"))))), .inr (.inr (.inr (.inl "FinderHouse$Term"))), .inr (.inr (.inr (.inr (.inr (.inr ()))))), .inr (.inl ("FinderHouseModel", 313, "add nnn sub nnn mul nnn div nnn rem nnn min nnn max nnn and nnn or nnn xor nnn less nnt same nnt not tt both ttt any ttt if tnnn pick tsss cat sss len sn take sns drop sns rev ss head ss like sst code sn sign ns ", st2)), .inr (.inr (.inr (.inr (.inr (.inl .int))))), .inr (.inr (.inr (.inr (.inr (.inl .long))))), .inr (.inr (.inr (.inr (.inl ("java/lang/Throwable", "UNASSIGNED_STACK", "[Ljava/lang/StackTraceElement;"))))), .inr (.inr (.inr (.inr (.inl ("java/lang/Throwable", "SUPPRESSED_SENTINEL", "Ljava/util/List;"))))), .inr (.inr (.inl (st0, sv0, bsN))), .inr (.inr (.inl (st1, sv1, bsK))), .inr (.inr (.inl (st2, sv2, bsB))), .inr (.inl ("FinderHouse$Reader", 209, "find", st3)), .inr (.inl ("FinderHouse$Reader", 271, "act", st4)), .inr (.inl ("FinderHouse$Reader", 291, "loop", st5)), .inl ("FinderHouseModel", "TRUE", "J", .long 407354), .inl ("FinderHouseModel", "FALSE", "J", .long 3217595), .inl ("FinderHouseModel", "FIND", "J", .long 125041), .inl ("FinderHouseModel", "ACT", "J", .long 830), .inl ("FinderHouseModel", "LOOP", "J", .long 247552), .inr (.inl ("FinderHouse", 104, "the tape has not so many bytes", st6)), .inr (.inl ("FinderHouse", 534, "no such byte on the disk", st7))]) {H : Heap} {locs : List Loc} {ls : Array Slot} (hK : va_K (dC, dI) cls [(xcT, .byte), (xcK, .int)] s) (hP : va_P (dC, dI) cls [(xq, .inr (11, xfs1)), (xtp, .inl (xcT, 2000, .inl xft)), (xrd, .inr (6, xgr)), (xnd, .inr (9, xgn)), (xas, .inr (1, xga)), (xks, .inl (xcK, 4, .inl xfk)), (mq, .inr (15, mfs1)), (mbd, .inr (13, mgb))] H) (hD : va_D A [(xq, .inr (11, xfs1)), (xtp, .inl (xcT, 2000, .inl xft)), (xrd, .inr (6, xgr)), (xnd, .inr (9, xgn)), (xas, .inr (1, xga)), (xks, .inl (xcK, 4, .inl xfk)), (mq, .inr (15, mfs1)), (mbd, .inr (13, mgb))]) (hS : va_S A s.heap H locs) (hl : lv_has ls 7 [(4, .int 0), (3, .ref ou), (2, .ref mq), (1, .ref xq), (0, .ref b)]) (L_xfs1 : xfs1.length = 18) (K0_xfs1 : xfs1[0]? = some (.ref xtp)) (K1_xfs1 : xfs1[1]? = some (.int 0)) (K2_xfs1 : xfs1[2]? = some (.int 0)) (K8_xfs1 : xfs1[8]? = some (.ref xrd)) (K9_xfs1 : xfs1[9]? = some (.ref xas)) (K10_xfs1 : xfs1[10]? = some (.ref xsp)) (K11_xfs1 : xfs1[11]? = some (.int 0)) (K14_xfs1 : xfs1[14]? = some (.ref xlp)) (K15_xfs1 : xfs1[15]? = some (.ref xwr)) (K16_xfs1 : xfs1[16]? = some (.ref xma)) (K17_xfs1 : xfs1[17]? = some (.ref xdk)) (L_xgr : xgr.length = 20) (K11_xgr : xgr[11]? = some (.ref xnd)) (L_xgn : xgn.length = 4) (L_xga : xga.length = 16) (K1_xga : xga[1]? = some (.ref xks)) (L_mfs1 : mfs1.length = 163) (K53_mfs1 : mfs1[53]? = some (.int 0)) (K54_mfs1 : mfs1[54]? = some (.int 0)) (K23_mfs1 : mfs1[23]? = some (.ref mbd)) (L_mgb : mgb.length = 8) : W p l e room_1 s m #[Value.ref b] below meth c H locs 951 1458901 (lw_Z below #[Value.ref b] s) (F0 m 640 ls []) := by
  obtain ⟨hx, hb, hr, hml, hown, hts, hX, hbl, hlocks, hgv⟩ := id C0
  have hown : s.vm.findClass RL = some m.cls := hown
  have ht : ∀ w ∈ tb, w.before #[Value.ref b] s = true := fun w hw => hts w (List.mem_filter.mp hw).1
  have hbA : ¬ A b := fun h => absurd (hA2 _ h) (Nat.not_le.mpr hbl)
  refine lv_aload_n hx hb dL_law_640 rfl (lv_at hl 3 rfl) ?_
  refine lv_aload_n hx hb dL_law_641 rfl (lv_at hl 4 rfl) ?_
  refine lv_iload hx hb dL_law_642 (lv_at hl 0 rfl) ?_
  refine lv_iconst (v := 1) hx hb dL_law_644 (by decide) ?_
  refine lv_iadd hx hb dL_law_645 ?_
  refine tk_i (y := 1) (by decide) ?_
  refine va_sld hx hb hX hbl hbA hS (by unfold vp_in; decide) dL_law_646 ?_
  refine tk_i (y := (xs 1)) rfl ?_
  refine ca_i (wr := [(mq, .inr (15, mfs1)), (mbd, .inr (13, mgb))]) (va_runV (As := [.int (xs 1)]) (rest := []) ⟨hx, hb, hml, hown, ht⟩ (x_mend l dC dI H.size xq xfs1 xtp xrd xas xsp xlp xwr xma xdk xgr xnd xgn xcT xft xga xks xcK xfk (xs 1) L_xfs1 K0_xfs1 K1_xfs1 K2_xfs1 K8_xfs1 K9_xfs1 K10_xfs1 K11_xfs1 K14_xfs1 K15_xfs1 K16_xfs1 K17_xfs1 L_xgr K11_xgr L_xgn L_xga K1_xga ) (cwV 1 ht (gdV k_6_231 k_6_228 k_6_229 k_6_230 k_1_1) rfl rfl rfl (by decide +kernel) ⟨Nat.le_of_ble_eq_true rfl, Nat.le_of_ble_eq_true rfl⟩) ⟨pcw_blind, va_recv hK hP (ci := 11) (q0 := 0) rfl rfl, pcw_at hP hD hK [0, 2, 3, 1, 4, 5] [0, 1] (by decide) rfl rfl rfl⟩ rfl rfl hl.1 rfl (lv_room (Nat.le_of_ble_eq_true rfl)) dL_law_647 ⟨Nat.le_of_ble_eq_true rfl, Nat.le_of_ble_eq_true rfl⟩) hP hD hK hS hA [0, 2, 3, 1, 4, 5] [6, 7] rfl rfl (by decide) (by decide) (fun r_1 u H locs w_2 hK hP hD hS => ?_)
  have hK : va_K (dC, dI) cls [(xcT, .byte), (xcK, .int)] s := hK
  have hP : va_P (dC, dI) cls [(mq, .inr (15, mfs1)), (mbd, .inr (13, mgb))] H := hP
  have hD : va_D A [(mq, .inr (15, mfs1)), (mbd, .inr (13, mgb))] := hD
  refine lv_aload_n hx hb dL_law_650 rfl (lv_at hl 2 rfl) ?_
  refine lv_aload_n hx hb dL_law_651 rfl (lv_at hl 4 rfl) ?_
  refine lv_iload hx hb dL_law_652 (lv_at hl 0 rfl) ?_
  refine lv_iconst (v := 1) hx hb dL_law_654 (by decide) ?_
  refine lv_iadd hx hb dL_law_655 ?_
  refine tk_i (y := 1) (by decide) ?_
  refine va_sld hx hb hX hbl hbA hS (by unfold vp_in; decide) dL_law_656 ?_
  refine tk_i (y := (xs 1)) rfl ?_
  refine ca_i (wr := []) (vx_runVW (As := [.int (xs 1)]) (rest := [.int r_1]) ⟨hx, hb, hml, hown, ht⟩ (r_mend l dC dI H.size mq mfs1 mbd mgb 407354 3217595 (xs 1) L_mfs1 K23_mfs1 K53_mfs1 K54_mfs1 L_mgb ) (vx_cwVW 1 ht (gdV k_14_208 k_14_205 k_14_206 k_14_207 k_1_17) rfl rfl rfl (by decide +kernel) ⟨Nat.le_of_ble_eq_true rfl, Nat.le_of_ble_eq_true rfl⟩) ⟨pcx_blind, va_recv hK hP (ci := 15) (q0 := 0) rfl rfl, pcx_at hP hD hK hS hA hE [0, 1] [] [17, 18, 5] (by decide) rfl rfl rfl rfl⟩ rfl rfl hl.1 rfl (lv_room (Nat.le_of_ble_eq_true rfl)) dL_law_657 ⟨Nat.le_of_ble_eq_true rfl, Nat.le_of_ble_eq_true rfl⟩) hP hD hK hS hA [0, 1] [] rfl rfl (by decide) (by decide) (fun r_3 u H locs w_4 hK hP hD hS => ?_)
  have hK : va_K (dC, dI) cls [(xcT, .byte), (xcK, .int)] s := hK
  have hP : va_P (dC, dI) cls [] H := hP
  have hD : va_D A [] := hD
  refine lv_icmp_eq (tgt := 1597) hx hb dL_law_660 (by decide) (fun _ => ?_) (fun c0 => absurd (w_2.trans w_4.symm) c0)
  exact lw_tail l C0 hA2 hS (lv_sub hl [0, 4] rfl) (Nat.le_of_ble_eq_true rfl) (Nat.le_of_ble_eq_true rfl)
set_option maxHeartbeats 4000000 in
set_option maxRecDepth 100000 in
theorem lw_c14 {p : Program} {e : Env} {s : State} {m : MethodId} {below : List Frame} {meth : Method} {c : Code} (l : Launch) {b : Nat} {xs : Nat → Int32} (C0 : lw_At p s m meth c b 6 xs) (dC : Nat → ClassId) (dI : Nat → Nat → Nat) {A : Nat → Prop} (hA : ∀ q : Nat, s.heap.size ≤ q → A q) (hA2 : ∀ q : Nat, A q → s.heap.size ≤ q) (xq : Nat) (xfs1 : List Value) (mq : Nat) (mfs1 : List Value) (ou : Nat) {H : Heap} {locs : List Loc} {ls : Array Slot} (hK : va_K (dC, dI) cls [] s) (hP : va_P (dC, dI) cls [(xq, .inr (11, xfs1)), (mq, .inr (15, mfs1))] H) (hD : va_D A [(xq, .inr (11, xfs1)), (mq, .inr (15, mfs1))]) (hS : va_S A s.heap H locs) (hl : lv_has ls 7 [(4, .int 0), (3, .ref ou), (2, .ref mq), (1, .ref xq), (0, .ref b)]) (L_xfs1 : xfs1.length = 18) (K4_xfs1 : xfs1[4]? = some (.int (-1))) (L_mfs1 : mfs1.length = 163) (K54_mfs1 : mfs1[54]? = some (.int 0)) (K63_mfs1 : mfs1[63]? = some (.int (-1))) : W p l e room_1 s m #[Value.ref b] below meth c H locs 951 1458901 (lw_Z below #[Value.ref b] s) (F0 m 665 ls []) := by
  obtain ⟨hx, hb, hr, hml, hown, hts, hX, hbl, hlocks, hgv⟩ := id C0
  have hown : s.vm.findClass RL = some m.cls := hown
  have ht : ∀ w ∈ tb, w.before #[Value.ref b] s = true := fun w hw => hts w (List.mem_filter.mp hw).1
  have hbA : ¬ A b := fun h => absurd (hA2 _ h) (Nat.not_le.mpr hbl)
  refine lv_aload_n hx hb dL_law_665 rfl (lv_at hl 3 rfl) ?_
  refine ca_i (wr := [(mq, .inr (15, mfs1))]) (va_runV (As := []) (rest := []) ⟨hx, hb, hml, hown, ht⟩ (x_mended l dC dI H.size xq xfs1 L_xfs1 K4_xfs1 ) (cwV 0 ht (gdV k_7_41 k_7_38 k_7_39 k_7_40 k_1_1) rfl rfl rfl (by decide +kernel) ⟨Nat.le_of_ble_eq_true rfl, Nat.le_of_ble_eq_true rfl⟩) ⟨pcw_blind, va_recv hK hP (ci := 11) (q0 := 0) rfl rfl, pcw_at hP hD hK [0] [] (by decide) rfl rfl rfl⟩ rfl rfl hl.1 rfl (lv_room (Nat.le_of_ble_eq_true rfl)) dL_law_666 ⟨Nat.le_of_ble_eq_true rfl, Nat.le_of_ble_eq_true rfl⟩) hP hD hK hS hA [0] [1] rfl rfl (by decide) (by decide) (fun r_1 u H locs w_2 hK hP hD hS => ?_)
  have hK : va_K (dC, dI) cls [] s := hK
  have hP : va_P (dC, dI) cls [(mq, .inr (15, mfs1))] H := hP
  have hD : va_D A [(mq, .inr (15, mfs1))] := hD
  obtain rfl : r_1 = (-1) := w_2
  refine lv_aload_n hx hb dL_law_669 rfl (lv_at hl 2 rfl) ?_
  refine ca_i (wr := []) (va_runV (As := []) (rest := [.int (-1)]) ⟨hx, hb, hml, hown, ht⟩ (r_mended l dC dI H.size mq mfs1 L_mfs1 K54_mfs1 K63_mfs1 ) (cwV 0 ht (gdV k_14_216 k_14_213 k_14_214 k_14_215 k_1_17) rfl rfl rfl (by decide +kernel) ⟨Nat.le_of_ble_eq_true rfl, Nat.le_of_ble_eq_true rfl⟩) ⟨pcw_blind, va_recv hK hP (ci := 15) (q0 := 0) rfl rfl, pcw_at hP hD hK [0] [] (by decide) rfl rfl rfl⟩ rfl rfl hl.1 rfl (lv_room (Nat.le_of_ble_eq_true rfl)) dL_law_670 ⟨Nat.le_of_ble_eq_true rfl, Nat.le_of_ble_eq_true rfl⟩) hP hD hK hS hA [0] [] rfl rfl (by decide) (by decide) (fun r_3 u H locs w_4 hK hP hD hS => ?_)
  have hK : va_K (dC, dI) cls [] s := hK
  have hP : va_P (dC, dI) cls [] H := hP
  have hD : va_D A [] := hD
  obtain rfl : r_3 = (-1) := w_4
  refine lv_icmp_eq (tgt := 1597) hx hb dL_law_673 (by decide) (fun _ => ?_) (fun c0 => absurd c0 (by decide))
  exact lw_tail l C0 hA2 hS (lv_sub hl [0, 4] rfl) (Nat.le_of_ble_eq_true rfl) (Nat.le_of_ble_eq_true rfl)
set_option maxHeartbeats 4000000 in
set_option maxRecDepth 100000 in
theorem lw_c15 {p : Program} {e : Env} {s : State} {m : MethodId} {below : List Frame} {meth : Method} {c : Code} (l : Launch) {b : Nat} {xs : Nat → Int32} (C0 : lw_At p s m meth c b 6 xs) (dC : Nat → ClassId) (dI : Nat → Nat → Nat) {A : Nat → Prop} (hA : ∀ q : Nat, s.heap.size ≤ q → A q) (hA2 : ∀ q : Nat, A q → s.heap.size ≤ q) (xq : Nat) (xfs1 : List Value) (xsh : Nat) (xgsh : List Value) (mq : Nat) (mfs1 : List Value) (ou : Nat) {H : Heap} {locs : List Loc} {ls : Array Slot} (hK : va_K (dC, dI) cls [] s) (hP : va_P (dC, dI) cls [(xq, .inr (11, xfs1)), (xsh, .inr (8, xgsh)), (mq, .inr (15, mfs1))] H) (hD : va_D A [(xq, .inr (11, xfs1)), (xsh, .inr (8, xgsh)), (mq, .inr (15, mfs1))]) (hS : va_S A s.heap H locs) (hl : lv_has ls 7 [(4, .int 0), (3, .ref ou), (2, .ref mq), (1, .ref xq), (0, .ref b)]) (L_xfs1 : xfs1.length = 18) (K13_xfs1 : xfs1[13]? = some (.ref xsh)) (L_xgsh : xgsh.length = 22) (K3_xgsh : xgsh[3]? = some (.int 0)) (L_mfs1 : mfs1.length = 163) (K54_mfs1 : mfs1[54]? = some (.int 0)) (K62_mfs1 : mfs1[62]? = some (.int 0)) : W p l e room_1 s m #[Value.ref b] below meth c H locs 951 1458901 (lw_Z below #[Value.ref b] s) (F0 m 678 ls []) := by
  obtain ⟨hx, hb, hr, hml, hown, hts, hX, hbl, hlocks, hgv⟩ := id C0
  have hown : s.vm.findClass RL = some m.cls := hown
  have ht : ∀ w ∈ tb, w.before #[Value.ref b] s = true := fun w hw => hts w (List.mem_filter.mp hw).1
  have hbA : ¬ A b := fun h => absurd (hA2 _ h) (Nat.not_le.mpr hbl)
  refine lv_aload_n hx hb dL_law_678 rfl (lv_at hl 3 rfl) ?_
  refine lv_aload_n hx hb dL_law_679 rfl (lv_at hl 4 rfl) ?_
  refine lv_iload hx hb dL_law_680 (lv_at hl 0 rfl) ?_
  refine lv_iconst (v := 1) hx hb dL_law_682 (by decide) ?_
  refine lv_iadd hx hb dL_law_683 ?_
  refine tk_i (y := 1) (by decide) ?_
  refine va_sld hx hb hX hbl hbA hS (by unfold vp_in; decide) dL_law_684 ?_
  refine tk_i (y := (xs 1)) rfl ?_
  refine ca_i (wr := [(mq, .inr (15, mfs1))]) (va_runV (As := [.int (xs 1)]) (rest := []) ⟨hx, hb, hml, hown, ht⟩ (x_byteOf l dC dI H.size xq xfs1 xsh xgsh (xs 1) L_xfs1 K13_xfs1 L_xgsh K3_xgsh ) (cwV 1 ht (gdV k_7_45 k_7_42 k_7_43 k_7_44 k_1_1) rfl rfl rfl (by decide +kernel) ⟨Nat.le_of_ble_eq_true rfl, Nat.le_of_ble_eq_true rfl⟩) ⟨pcw_blind, va_recv hK hP (ci := 11) (q0 := 0) rfl rfl, pcw_at hP hD hK [0, 1] [] (by decide) rfl rfl rfl⟩ rfl rfl hl.1 rfl (lv_room (Nat.le_of_ble_eq_true rfl)) dL_law_685 ⟨Nat.le_of_ble_eq_true rfl, Nat.le_of_ble_eq_true rfl⟩) hP hD hK hS hA [0, 1] [2] rfl rfl (by decide) (by decide) (fun r_1 u H locs w_2 hK hP hD hS => ?_)
  have hK : va_K (dC, dI) cls [] s := hK
  have hP : va_P (dC, dI) cls [(mq, .inr (15, mfs1))] H := hP
  have hD : va_D A [(mq, .inr (15, mfs1))] := hD
  obtain rfl : r_1 = (-1) := w_2
  refine lv_aload_n hx hb dL_law_688 rfl (lv_at hl 2 rfl) ?_
  refine lv_aload_n hx hb dL_law_689 rfl (lv_at hl 4 rfl) ?_
  refine lv_iload hx hb dL_law_690 (lv_at hl 0 rfl) ?_
  refine lv_iconst (v := 1) hx hb dL_law_692 (by decide) ?_
  refine lv_iadd hx hb dL_law_693 ?_
  refine tk_i (y := 1) (by decide) ?_
  refine va_sld hx hb hX hbl hbA hS (by unfold vp_in; decide) dL_law_694 ?_
  refine tk_i (y := (xs 1)) rfl ?_
  refine ca_i (wr := []) (va_runV (As := [.int (xs 1)]) (rest := [.int (-1)]) ⟨hx, hb, hml, hown, ht⟩ (r_byteOf l dC dI H.size mq mfs1 (xs 1) L_mfs1 K54_mfs1 K62_mfs1 ) (cwV 1 ht (gdV k_14_220 k_14_217 k_14_218 k_14_219 k_1_17) rfl rfl rfl (by decide +kernel) ⟨Nat.le_of_ble_eq_true rfl, Nat.le_of_ble_eq_true rfl⟩) ⟨pcw_blind, va_recv hK hP (ci := 15) (q0 := 0) rfl rfl, pcw_at hP hD hK [0] [] (by decide) rfl rfl rfl⟩ rfl rfl hl.1 rfl (lv_room (Nat.le_of_ble_eq_true rfl)) dL_law_695 ⟨Nat.le_of_ble_eq_true rfl, Nat.le_of_ble_eq_true rfl⟩) hP hD hK hS hA [0] [] rfl rfl (by decide) (by decide) (fun r_3 u H locs w_4 hK hP hD hS => ?_)
  have hK : va_K (dC, dI) cls [] s := hK
  have hP : va_P (dC, dI) cls [] H := hP
  have hD : va_D A [] := hD
  obtain rfl : r_3 = (-1) := w_4
  refine lv_icmp_eq (tgt := 1597) hx hb dL_law_698 (by decide) (fun _ => ?_) (fun c0 => absurd c0 (by decide))
  exact lw_tail l C0 hA2 hS (lv_sub hl [0, 4] rfl) (Nat.le_of_ble_eq_true rfl) (Nat.le_of_ble_eq_true rfl)
set_option maxHeartbeats 4000000 in
set_option maxRecDepth 100000 in
theorem lw_c16 {p : Program} {e : Env} {s : State} {m : MethodId} {below : List Frame} {meth : Method} {c : Code} (l : Launch) {b : Nat} {xs : Nat → Int32} (C0 : lw_At p s m meth c b 6 xs) (dC : Nat → ClassId) (dI : Nat → Nat → Nat) {A : Nat → Prop} (hA : ∀ q : Nat, s.heap.size ≤ q → A q) (hA2 : ∀ q : Nat, A q → s.heap.size ≤ q) (xq : Nat) (xfs1 : List Value) (xsh : Nat) (xgsh : List Value) (mq : Nat) (mfs1 : List Value) (ou : Nat) {H : Heap} {locs : List Loc} {ls : Array Slot} (hK : va_K (dC, dI) cls [] s) (hP : va_P (dC, dI) cls [(xq, .inr (11, xfs1)), (xsh, .inr (8, xgsh)), (mq, .inr (15, mfs1))] H) (hD : va_D A [(xq, .inr (11, xfs1)), (xsh, .inr (8, xgsh)), (mq, .inr (15, mfs1))]) (hS : va_S A s.heap H locs) (hl : lv_has ls 7 [(4, .int 0), (3, .ref ou), (2, .ref mq), (1, .ref xq), (0, .ref b)]) (L_xfs1 : xfs1.length = 18) (K13_xfs1 : xfs1[13]? = some (.ref xsh)) (L_xgsh : xgsh.length = 22) (K7_xgsh : xgsh[7]? = some (.int 0)) (L_mfs1 : mfs1.length = 163) (K54_mfs1 : mfs1[54]? = some (.int 0)) (K56_mfs1 : mfs1[56]? = some (.int (-1))) : W p l e room_1 s m #[Value.ref b] below meth c H locs 951 1458901 (lw_Z below #[Value.ref b] s) (F0 m 703 ls []) := by
  obtain ⟨hx, hb, hr, hml, hown, hts, hX, hbl, hlocks, hgv⟩ := id C0
  have hown : s.vm.findClass RL = some m.cls := hown
  have ht : ∀ w ∈ tb, w.before #[Value.ref b] s = true := fun w hw => hts w (List.mem_filter.mp hw).1
  have hbA : ¬ A b := fun h => absurd (hA2 _ h) (Nat.not_le.mpr hbl)
  refine lv_aload_n hx hb dL_law_703 rfl (lv_at hl 3 rfl) ?_
  refine lv_aload_n hx hb dL_law_704 rfl (lv_at hl 4 rfl) ?_
  refine lv_iload hx hb dL_law_705 (lv_at hl 0 rfl) ?_
  refine lv_iconst (v := 1) hx hb dL_law_707 (by decide) ?_
  refine lv_iadd hx hb dL_law_708 ?_
  refine tk_i (y := 1) (by decide) ?_
  refine va_sld hx hb hX hbl hbA hS (by unfold vp_in; decide) dL_law_709 ?_
  refine tk_i (y := (xs 1)) rfl ?_
  refine ca_i (wr := [(mq, .inr (15, mfs1))]) (va_runV (As := [.int (xs 1)]) (rest := []) ⟨hx, hb, hml, hown, ht⟩ (x_answer l dC dI H.size xq xfs1 xsh xgsh (xs 1) L_xfs1 K13_xfs1 L_xgsh K7_xgsh ) (cwV 1 ht (gdV k_7_49 k_7_46 k_7_47 k_7_48 k_1_1) rfl rfl rfl (by decide +kernel) ⟨Nat.le_of_ble_eq_true rfl, Nat.le_of_ble_eq_true rfl⟩) ⟨pcw_blind, va_recv hK hP (ci := 11) (q0 := 0) rfl rfl, pcw_at hP hD hK [0, 1] [] (by decide) rfl rfl rfl⟩ rfl rfl hl.1 rfl (lv_room (Nat.le_of_ble_eq_true rfl)) dL_law_710 ⟨Nat.le_of_ble_eq_true rfl, Nat.le_of_ble_eq_true rfl⟩) hP hD hK hS hA [0, 1] [2] rfl rfl (by decide) (by decide) (fun r_1 u H locs w_2 hK hP hD hS => ?_)
  have hK : va_K (dC, dI) cls [] s := hK
  have hP : va_P (dC, dI) cls [(mq, .inr (15, mfs1))] H := hP
  have hD : va_D A [(mq, .inr (15, mfs1))] := hD
  obtain rfl : r_1 = (-2) := w_2
  refine lv_aload_n hx hb dL_law_713 rfl (lv_at hl 2 rfl) ?_
  refine lv_aload_n hx hb dL_law_714 rfl (lv_at hl 4 rfl) ?_
  refine lv_iload hx hb dL_law_715 (lv_at hl 0 rfl) ?_
  refine lv_iconst (v := 1) hx hb dL_law_717 (by decide) ?_
  refine lv_iadd hx hb dL_law_718 ?_
  refine tk_i (y := 1) (by decide) ?_
  refine va_sld hx hb hX hbl hbA hS (by unfold vp_in; decide) dL_law_719 ?_
  refine tk_i (y := (xs 1)) rfl ?_
  refine ca_i (wr := []) (va_runV (As := [.int (xs 1)]) (rest := [.int (-2)]) ⟨hx, hb, hml, hown, ht⟩ (r_answer_ l dC dI H.size mq mfs1 (xs 1) L_mfs1 K54_mfs1 K56_mfs1 ) (cwV 1 ht (gdV k_14_224 k_14_221 k_14_222 k_14_223 k_1_17) rfl rfl rfl (by decide +kernel) ⟨Nat.le_of_ble_eq_true rfl, Nat.le_of_ble_eq_true rfl⟩) ⟨pcw_blind, va_recv hK hP (ci := 15) (q0 := 0) rfl rfl, pcw_at hP hD hK [0] [] (by decide) rfl rfl rfl⟩ rfl rfl hl.1 rfl (lv_room (Nat.le_of_ble_eq_true rfl)) dL_law_720 ⟨Nat.le_of_ble_eq_true rfl, Nat.le_of_ble_eq_true rfl⟩) hP hD hK hS hA [0] [] rfl rfl (by decide) (by decide) (fun r_3 u H locs w_4 hK hP hD hS => ?_)
  have hK : va_K (dC, dI) cls [] s := hK
  have hP : va_P (dC, dI) cls [] H := hP
  have hD : va_D A [] := hD
  obtain rfl : r_3 = (-2) := w_4
  refine lv_icmp_eq (tgt := 1597) hx hb dL_law_723 (by decide) (fun _ => ?_) (fun c0 => absurd c0 (by decide))
  exact lw_tail l C0 hA2 hS (lv_sub hl [0, 4] rfl) (Nat.le_of_ble_eq_true rfl) (Nat.le_of_ble_eq_true rfl)
set_option maxHeartbeats 4000000 in
set_option maxRecDepth 100000 in
theorem lw_c17 {p : Program} {e : Env} {s : State} {m : MethodId} {below : List Frame} {meth : Method} {c : Code} (l : Launch) {b : Nat} {xs : Nat → Int32} (C0 : lw_At p s m meth c b 6 xs) (dC : Nat → ClassId) (dI : Nat → Nat → Nat) {A : Nat → Prop} (hA : ∀ q : Nat, s.heap.size ≤ q → A q) (hA2 : ∀ q : Nat, A q → s.heap.size ≤ q) (xq : Nat) (xfs1 : List Value) (mq : Nat) (mfs1 : List Value) (ou : Nat) {H : Heap} {locs : List Loc} {ls : Array Slot} (hK : va_K (dC, dI) cls [] s) (hP : va_P (dC, dI) cls [(xq, .inr (11, xfs1)), (mq, .inr (15, mfs1))] H) (hD : va_D A [(xq, .inr (11, xfs1)), (mq, .inr (15, mfs1))]) (hS : va_S A s.heap H locs) (hl : lv_has ls 7 [(4, .int 0), (3, .ref ou), (2, .ref mq), (1, .ref xq), (0, .ref b)]) (L_xfs1 : xfs1.length = 18) (K11_xfs1 : xfs1[11]? = some (.int 0)) (L_mfs1 : mfs1.length = 163) (K54_mfs1 : mfs1[54]? = some (.int 0)) (K38_mfs1 : mfs1[38]? = some (.null)) : W p l e room_1 s m #[Value.ref b] below meth c H locs 951 1458901 (lw_Z below #[Value.ref b] s) (F0 m 728 ls []) := by
  obtain ⟨hx, hb, hr, hml, hown, hts, hX, hbl, hlocks, hgv⟩ := id C0
  have hown : s.vm.findClass RL = some m.cls := hown
  have ht : ∀ w ∈ tb, w.before #[Value.ref b] s = true := fun w hw => hts w (List.mem_filter.mp hw).1
  have hbA : ¬ A b := fun h => absurd (hA2 _ h) (Nat.not_le.mpr hbl)
  refine lv_aload_n hx hb dL_law_728 rfl (lv_at hl 3 rfl) ?_
  refine lv_aload_n hx hb dL_law_729 rfl (lv_at hl 4 rfl) ?_
  refine lv_iload hx hb dL_law_730 (lv_at hl 0 rfl) ?_
  refine lv_iconst (v := 1) hx hb dL_law_732 (by decide) ?_
  refine lv_iadd hx hb dL_law_733 ?_
  refine tk_i (y := 1) (by decide) ?_
  refine va_sld hx hb hX hbl hbA hS (by unfold vp_in; decide) dL_law_734 ?_
  refine tk_i (y := (xs 1)) rfl ?_
  refine lv_aload_n hx hb dL_law_735 rfl (lv_at hl 4 rfl) ?_
  refine lv_iload hx hb dL_law_736 (lv_at hl 0 rfl) ?_
  refine lv_iconst (v := 2) hx hb dL_law_738 (by decide) ?_
  refine lv_iadd hx hb dL_law_739 ?_
  refine tk_i (y := 2) (by decide) ?_
  refine va_sld hx hb hX hbl hbA hS (by unfold vp_in; decide) dL_law_740 ?_
  refine tk_i (y := (xs 2)) rfl ?_
  refine ca_i (wr := [(mq, .inr (15, mfs1))]) (va_runV (As := [.int (xs 1), .int (xs 2)]) (rest := []) ⟨hx, hb, hml, hown, ht⟩ (x_point l dC dI H.size xq xfs1 (xs 1) (xs 2) L_xfs1 K11_xfs1 ) (cwV 2 ht (gdV k_7_53 k_7_50 k_7_51 k_7_52 k_1_1) rfl rfl rfl (by decide +kernel) ⟨Nat.le_of_ble_eq_true rfl, Nat.le_of_ble_eq_true rfl⟩) ⟨pcw_blind, va_recv hK hP (ci := 11) (q0 := 0) rfl rfl, pcw_at hP hD hK [0] [] (by decide) rfl rfl rfl⟩ rfl rfl hl.1 rfl (lv_room (Nat.le_of_ble_eq_true rfl)) dL_law_741 ⟨Nat.le_of_ble_eq_true rfl, Nat.le_of_ble_eq_true rfl⟩) hP hD hK hS hA [0] [1] rfl rfl (by decide) (by decide) (fun r_1 u H locs w_2 hK hP hD hS => ?_)
  have hK : va_K (dC, dI) cls [] s := hK
  have hP : va_P (dC, dI) cls [(mq, .inr (15, mfs1))] H := hP
  have hD : va_D A [(mq, .inr (15, mfs1))] := hD
  obtain rfl : r_1 = (-2) := w_2
  refine lv_aload_n hx hb dL_law_744 rfl (lv_at hl 2 rfl) ?_
  refine lv_aload_n hx hb dL_law_745 rfl (lv_at hl 4 rfl) ?_
  refine lv_iload hx hb dL_law_746 (lv_at hl 0 rfl) ?_
  refine lv_iconst (v := 1) hx hb dL_law_748 (by decide) ?_
  refine lv_iadd hx hb dL_law_749 ?_
  refine tk_i (y := 1) (by decide) ?_
  refine va_sld hx hb hX hbl hbA hS (by unfold vp_in; decide) dL_law_750 ?_
  refine tk_i (y := (xs 1)) rfl ?_
  refine lv_aload_n hx hb dL_law_751 rfl (lv_at hl 4 rfl) ?_
  refine lv_iload hx hb dL_law_752 (lv_at hl 0 rfl) ?_
  refine lv_iconst (v := 2) hx hb dL_law_754 (by decide) ?_
  refine lv_iadd hx hb dL_law_755 ?_
  refine tk_i (y := 2) (by decide) ?_
  refine va_sld hx hb hX hbl hbA hS (by unfold vp_in; decide) dL_law_756 ?_
  refine tk_i (y := (xs 2)) rfl ?_
  refine ca_i (wr := []) (va_runV (As := [.int (xs 1), .int (xs 2)]) (rest := [.int (-2)]) ⟨hx, hb, hml, hown, ht⟩ (r_point l dC dI H.size mq mfs1 (xs 1) (xs 2) L_mfs1 K38_mfs1 K54_mfs1 ) (cwV 2 ht (gdV k_14_228 k_14_225 k_14_226 k_14_227 k_1_17) rfl rfl rfl (by decide +kernel) ⟨Nat.le_of_ble_eq_true rfl, Nat.le_of_ble_eq_true rfl⟩) ⟨pcw_blind, va_recv hK hP (ci := 15) (q0 := 0) rfl rfl, pcw_at hP hD hK [0] [] (by decide) rfl rfl rfl⟩ rfl rfl hl.1 rfl (lv_room (Nat.le_of_ble_eq_true rfl)) dL_law_757 ⟨Nat.le_of_ble_eq_true rfl, Nat.le_of_ble_eq_true rfl⟩) hP hD hK hS hA [0] [] rfl rfl (by decide) (by decide) (fun r_3 u H locs w_4 hK hP hD hS => ?_)
  have hK : va_K (dC, dI) cls [] s := hK
  have hP : va_P (dC, dI) cls [] H := hP
  have hD : va_D A [] := hD
  obtain rfl : r_3 = (-2) := w_4
  refine lv_icmp_eq (tgt := 1597) hx hb dL_law_760 (by decide) (fun _ => ?_) (fun c0 => absurd c0 (by decide))
  exact lw_tail l C0 hA2 hS (lv_sub hl [0, 4] rfl) (Nat.le_of_ble_eq_true rfl) (Nat.le_of_ble_eq_true rfl)
set_option maxHeartbeats 4000000 in
set_option maxRecDepth 100000 in
theorem lw_c18 {p : Program} {e : Env} {s : State} {m : MethodId} {below : List Frame} {meth : Method} {c : Code} (l : Launch) {b : Nat} {xs : Nat → Int32} (C0 : lw_At p s m meth c b 6 xs) (dC : Nat → ClassId) (dI : Nat → Nat → Nat) {A : Nat → Prop} (hA : ∀ q : Nat, s.heap.size ≤ q → A q) (hA2 : ∀ q : Nat, A q → s.heap.size ≤ q) (xq : Nat) (xfs1 : List Value) (xtp : Nat) (xcT : ClassId) (xft : Nat → Int32) (xrd : Nat) (xgr : List Value) (xnd : Nat) (xgn : List Value) (xas : Nat) (xga : List Value) (xks : Nat) (xsp : Nat) (xlp : Nat) (xwr : Nat) (xma : Nat) (xdk : Nat) (mq : Nat) (mfs1 : List Value) (mbd : Nat) (mgb : List Value) (ou : Nat) (st0 : Nat) (st1 : Nat) (st2 : Nat) (st3 : Nat) (st4 : Nat) (st5 : Nat) (st6 : Nat) (st7 : Nat) (sv0 : Nat) (sv1 : Nat) (sv2 : Nat) (hE : xf_all A s s.heap [.inr (.inl ("FinderHouse$Acts", 47, "add sub mul div rem min max and or xor less same not both any if pick cat len take drop rev head like code sign ", st0)), .inr (.inl ("FinderHouse$Acts", 63, "nnn nnn nnn nnn nnn nnn nnn nnn nnn nnn nnt nnt tt ttt ttt tnnn tsss sss sn sns sns ss ss sst sn ns ", st1)), .inl ("java/lang/String", "COMPACT_STRINGS", "Z", .int 1), .inr (.inr (.inr (.inr (.inl ("jdk/internal/util/Preconditions", "SIOOBE_FORMATTER", "Ljava/util/function/BiFunction;"))))), .inr (.inr (.inr (.inl "FinderHouse$Term"))), .inr (.inr (.inr (.inr (.inr (.inr ()))))), .inr (.inl ("FinderHouseModel", 313, "add nnn sub nnn mul nnn div nnn rem nnn min nnn max nnn and nnn or nnn xor nnn less nnt same nnt not tt both ttt any ttt if tnnn pick tsss cat sss len sn take sns drop sns rev ss head ss like sst code sn sign ns ", st2)), .inr (.inr (.inr (.inr (.inr (.inl .int))))), .inr (.inr (.inr (.inr (.inr (.inl .long))))), .inr (.inr (.inr (.inr (.inl ("java/lang/Throwable", "UNASSIGNED_STACK", "[Ljava/lang/StackTraceElement;"))))), .inr (.inr (.inr (.inr (.inl ("java/lang/Throwable", "SUPPRESSED_SENTINEL", "Ljava/util/List;"))))), .inr (.inr (.inl (st0, sv0, bsN))), .inr (.inr (.inl (st1, sv1, bsK))), .inr (.inr (.inl (st2, sv2, bsB))), .inr (.inl ("FinderHouse$Reader", 209, "find", st3)), .inr (.inl ("FinderHouse$Reader", 271, "act", st4)), .inr (.inl ("FinderHouse$Reader", 291, "loop", st5)), .inl ("FinderHouseModel", "TRUE", "J", .long 407354), .inl ("FinderHouseModel", "FALSE", "J", .long 3217595), .inl ("FinderHouseModel", "FIND", "J", .long 125041), .inl ("FinderHouseModel", "ACT", "J", .long 830), .inl ("FinderHouseModel", "LOOP", "J", .long 247552), .inr (.inl ("FinderHouse", 104, "the tape has not so many bytes", st6)), .inr (.inl ("FinderHouse", 534, "no such byte on the disk", st7))]) {H : Heap} {locs : List Loc} {ls : Array Slot} (hK : va_K (dC, dI) cls [(xcT, .byte)] s) (hP : va_P (dC, dI) cls [(xq, .inr (11, xfs1)), (xtp, .inl (xcT, 2000, .inl xft)), (xrd, .inr (6, xgr)), (xnd, .inr (9, xgn)), (xas, .inr (1, xga)), (mq, .inr (15, mfs1)), (mbd, .inr (13, mgb))] H) (hD : va_D A [(xq, .inr (11, xfs1)), (xtp, .inl (xcT, 2000, .inl xft)), (xrd, .inr (6, xgr)), (xnd, .inr (9, xgn)), (xas, .inr (1, xga)), (mq, .inr (15, mfs1)), (mbd, .inr (13, mgb))]) (hS : va_S A s.heap H locs) (hl : lv_has ls 7 [(4, .int 0), (3, .ref ou), (2, .ref mq), (1, .ref xq), (0, .ref b)]) (L_xfs1 : xfs1.length = 18) (K0_xfs1 : xfs1[0]? = some (.ref xtp)) (K1_xfs1 : xfs1[1]? = some (.int 0)) (K2_xfs1 : xfs1[2]? = some (.int 0)) (K8_xfs1 : xfs1[8]? = some (.ref xrd)) (K9_xfs1 : xfs1[9]? = some (.ref xas)) (K10_xfs1 : xfs1[10]? = some (.ref xsp)) (K11_xfs1 : xfs1[11]? = some (.int 0)) (K14_xfs1 : xfs1[14]? = some (.ref xlp)) (K15_xfs1 : xfs1[15]? = some (.ref xwr)) (K16_xfs1 : xfs1[16]? = some (.ref xma)) (K17_xfs1 : xfs1[17]? = some (.ref xdk)) (L_xgr : xgr.length = 20) (K11_xgr : xgr[11]? = some (.ref xnd)) (L_xgn : xgn.length = 4) (L_xga : xga.length = 16) (K1_xga : xga[1]? = some (.ref xks)) (L_mfs1 : mfs1.length = 163) (K53_mfs1 : mfs1[53]? = some (.int 0)) (K54_mfs1 : mfs1[54]? = some (.int 0)) (K23_mfs1 : mfs1[23]? = some (.ref mbd)) (L_mgb : mgb.length = 8) : W p l e room_1 s m #[Value.ref b] below meth c H locs 951 1458901 (lw_Z below #[Value.ref b] s) (F0 m 765 ls []) := by
  obtain ⟨hx, hb, hr, hml, hown, hts, hX, hbl, hlocks, hgv⟩ := id C0
  have hown : s.vm.findClass RL = some m.cls := hown
  have ht : ∀ w ∈ tb, w.before #[Value.ref b] s = true := fun w hw => hts w (List.mem_filter.mp hw).1
  have hbA : ¬ A b := fun h => absurd (hA2 _ h) (Nat.not_le.mpr hbl)
  refine lv_aload_n hx hb dL_law_765 rfl (lv_at hl 3 rfl) ?_
  refine ca_i (wr := [(mq, .inr (15, mfs1)), (mbd, .inr (13, mgb))]) (va_runV (As := []) (rest := []) ⟨hx, hb, hml, hown, ht⟩ (x_value l dC dI H.size xq xfs1 xtp xrd xas xsp xlp xwr xma xdk xgr xnd xgn xcT xft xga xks L_xfs1 K0_xfs1 K1_xfs1 K2_xfs1 K8_xfs1 K9_xfs1 K10_xfs1 K11_xfs1 K14_xfs1 K15_xfs1 K16_xfs1 K17_xfs1 L_xgr K11_xgr L_xgn L_xga K1_xga ) (cwV 0 ht (gdV k_7_57 k_7_54 k_7_55 k_7_56 k_1_1) rfl rfl rfl (by decide +kernel) ⟨Nat.le_of_ble_eq_true rfl, Nat.le_of_ble_eq_true rfl⟩) ⟨pcw_blind, va_recv hK hP (ci := 11) (q0 := 0) rfl rfl, pcw_at hP hD hK [0, 2, 3, 1, 4] [0] (by decide) rfl rfl rfl⟩ rfl rfl hl.1 rfl (lv_room (Nat.le_of_ble_eq_true rfl)) dL_law_766 ⟨Nat.le_of_ble_eq_true rfl, Nat.le_of_ble_eq_true rfl⟩) hP hD hK hS hA [0, 2, 3, 1, 4] [5, 6] rfl rfl (by decide) (by decide) (fun r_1 u H locs w_2 hK hP hD hS => ?_)
  have hK : va_K (dC, dI) cls [(xcT, .byte)] s := hK
  have hP : va_P (dC, dI) cls [(mq, .inr (15, mfs1)), (mbd, .inr (13, mgb))] H := hP
  have hD : va_D A [(mq, .inr (15, mfs1)), (mbd, .inr (13, mgb))] := hD
  obtain rfl : r_1 = (-11) := w_2
  refine lv_aload_n hx hb dL_law_769 rfl (lv_at hl 2 rfl) ?_
  refine ca_i (wr := []) (vx_runVW (As := []) (rest := [.int (-11)]) ⟨hx, hb, hml, hown, ht⟩ (r_value l dC dI H.size mq mfs1 mbd mgb 407354 3217595 L_mfs1 K23_mfs1 K53_mfs1 K54_mfs1 L_mgb ) (vx_cwVW 0 ht (gdV k_14_232 k_14_229 k_14_230 k_14_231 k_1_17) rfl rfl rfl (by decide +kernel) ⟨Nat.le_of_ble_eq_true rfl, Nat.le_of_ble_eq_true rfl⟩) ⟨pcx_blind, va_recv hK hP (ci := 15) (q0 := 0) rfl rfl, pcx_at hP hD hK hS hA hE [0, 1] [] [17, 18, 5] (by decide) rfl rfl rfl rfl⟩ rfl rfl hl.1 rfl (lv_room (Nat.le_of_ble_eq_true rfl)) dL_law_770 ⟨Nat.le_of_ble_eq_true rfl, Nat.le_of_ble_eq_true rfl⟩) hP hD hK hS hA [0, 1] [] rfl rfl (by decide) (by decide) (fun r_3 u H locs w_4 hK hP hD hS => ?_)
  have hK : va_K (dC, dI) cls [(xcT, .byte)] s := hK
  have hP : va_P (dC, dI) cls [] H := hP
  have hD : va_D A [] := hD
  obtain rfl : r_3 = (-11) := w_4
  refine lv_icmp_eq (tgt := 1597) hx hb dL_law_773 (by decide) (fun _ => ?_) (fun c0 => absurd c0 (by decide))
  exact lw_tail l C0 hA2 hS (lv_sub hl [0, 4] rfl) (Nat.le_of_ble_eq_true rfl) (Nat.le_of_ble_eq_true rfl)
set_option maxHeartbeats 4000000 in
set_option maxRecDepth 100000 in
theorem lw_c19 {p : Program} {e : Env} {s : State} {m : MethodId} {below : List Frame} {meth : Method} {c : Code} (l : Launch) {b : Nat} {xs : Nat → Int32} (C0 : lw_At p s m meth c b 6 xs) (dC : Nat → ClassId) (dI : Nat → Nat → Nat) {A : Nat → Prop} (hA : ∀ q : Nat, s.heap.size ≤ q → A q) (hA2 : ∀ q : Nat, A q → s.heap.size ≤ q) (xq : Nat) (xfs1 : List Value) (mq : Nat) (mfs1 : List Value) (ou : Nat) {H : Heap} {locs : List Loc} {ls : Array Slot} (hK : va_K (dC, dI) cls [] s) (hP : va_P (dC, dI) cls [(xq, .inr (11, xfs1)), (mq, .inr (15, mfs1))] H) (hD : va_D A [(xq, .inr (11, xfs1)), (mq, .inr (15, mfs1))]) (hS : va_S A s.heap H locs) (hl : lv_has ls 7 [(4, .int 0), (3, .ref ou), (2, .ref mq), (1, .ref xq), (0, .ref b)]) (L_xfs1 : xfs1.length = 18) (K5_xfs1 : xfs1[5]? = some (.int 0)) (L_mfs1 : mfs1.length = 163) (K54_mfs1 : mfs1[54]? = some (.int 0)) (K64_mfs1 : mfs1[64]? = some (.int 0)) : W p l e room_1 s m #[Value.ref b] below meth c H locs 951 1458901 (lw_Z below #[Value.ref b] s) (F0 m 778 ls []) := by
  obtain ⟨hx, hb, hr, hml, hown, hts, hX, hbl, hlocks, hgv⟩ := id C0
  have hown : s.vm.findClass RL = some m.cls := hown
  have ht : ∀ w ∈ tb, w.before #[Value.ref b] s = true := fun w hw => hts w (List.mem_filter.mp hw).1
  have hbA : ¬ A b := fun h => absurd (hA2 _ h) (Nat.not_le.mpr hbl)
  refine lv_aload_n hx hb dL_law_778 rfl (lv_at hl 3 rfl) ?_
  refine ca_i (wr := [(mq, .inr (15, mfs1))]) (va_runV (As := []) (rest := []) ⟨hx, hb, hml, hown, ht⟩ (x_worked l dC dI H.size xq xfs1 L_xfs1 K5_xfs1 ) (cwV 0 ht (gdV k_7_66 k_7_63 k_7_64 k_7_65 k_1_1) rfl rfl rfl (by decide +kernel) ⟨Nat.le_of_ble_eq_true rfl, Nat.le_of_ble_eq_true rfl⟩) ⟨pcw_blind, va_recv hK hP (ci := 11) (q0 := 0) rfl rfl, pcw_at hP hD hK [0] [] (by decide) rfl rfl rfl⟩ rfl rfl hl.1 rfl (lv_room (Nat.le_of_ble_eq_true rfl)) dL_law_779 ⟨Nat.le_of_ble_eq_true rfl, Nat.le_of_ble_eq_true rfl⟩) hP hD hK hS hA [0] [1] rfl rfl (by decide) (by decide) (fun r_1 u H locs w_2 hK hP hD hS => ?_)
  have hK : va_K (dC, dI) cls [] s := hK
  have hP : va_P (dC, dI) cls [(mq, .inr (15, mfs1))] H := hP
  have hD : va_D A [(mq, .inr (15, mfs1))] := hD
  obtain rfl : r_1 = 0 := w_2
  refine lv_aload_n hx hb dL_law_782 rfl (lv_at hl 2 rfl) ?_
  refine ca_i (wr := []) (va_runV (As := []) (rest := [.int 0]) ⟨hx, hb, hml, hown, ht⟩ (r_worked l dC dI H.size mq mfs1 L_mfs1 K54_mfs1 K64_mfs1 ) (cwV 0 ht (gdV k_14_236 k_14_233 k_14_234 k_14_235 k_1_17) rfl rfl rfl (by decide +kernel) ⟨Nat.le_of_ble_eq_true rfl, Nat.le_of_ble_eq_true rfl⟩) ⟨pcw_blind, va_recv hK hP (ci := 15) (q0 := 0) rfl rfl, pcw_at hP hD hK [0] [] (by decide) rfl rfl rfl⟩ rfl rfl hl.1 rfl (lv_room (Nat.le_of_ble_eq_true rfl)) dL_law_783 ⟨Nat.le_of_ble_eq_true rfl, Nat.le_of_ble_eq_true rfl⟩) hP hD hK hS hA [0] [] rfl rfl (by decide) (by decide) (fun r_3 u H locs w_4 hK hP hD hS => ?_)
  have hK : va_K (dC, dI) cls [] s := hK
  have hP : va_P (dC, dI) cls [] H := hP
  have hD : va_D A [] := hD
  obtain rfl : r_3 = 0 := w_4
  refine lv_icmp_eq (tgt := 1597) hx hb dL_law_786 (by decide) (fun _ => ?_) (fun c0 => absurd c0 (by decide))
  exact lw_tail l C0 hA2 hS (lv_sub hl [0, 4] rfl) (Nat.le_of_ble_eq_true rfl) (Nat.le_of_ble_eq_true rfl)
set_option maxHeartbeats 4000000 in
set_option maxRecDepth 100000 in
theorem lw_c20 {p : Program} {e : Env} {s : State} {m : MethodId} {below : List Frame} {meth : Method} {c : Code} (l : Launch) {b : Nat} {xs : Nat → Int32} (C0 : lw_At p s m meth c b 6 xs) (dC : Nat → ClassId) (dI : Nat → Nat → Nat) {A : Nat → Prop} (hA : ∀ q : Nat, s.heap.size ≤ q → A q) (hA2 : ∀ q : Nat, A q → s.heap.size ≤ q) (xq : Nat) (xfs1 : List Value) (xsh : Nat) (xgsh : List Value) (xtm : Nat) (xgt : List Value) (mq : Nat) (mfs1 : List Value) (ou : Nat) {H : Heap} {locs : List Loc} {ls : Array Slot} (hK : va_K (dC, dI) cls [] s) (hP : va_P (dC, dI) cls [(xq, .inr (11, xfs1)), (xsh, .inr (8, xgsh)), (xtm, .inr (9, xgt)), (mq, .inr (15, mfs1))] H) (hD : va_D A [(xq, .inr (11, xfs1)), (xsh, .inr (8, xgsh)), (xtm, .inr (9, xgt)), (mq, .inr (15, mfs1))]) (hS : va_S A s.heap H locs) (hl : lv_has ls 7 [(4, .int 0), (3, .ref ou), (2, .ref mq), (1, .ref xq), (0, .ref b)]) (L_xfs1 : xfs1.length = 18) (K2_xfs1 : xfs1[2]? = some (.int 0)) (K13_xfs1 : xfs1[13]? = some (.ref xsh)) (L_xgsh : xgsh.length = 22) (K1_xgsh : xgsh[1]? = some (.ref xtm)) (L_xgt : xgt.length = 4) (K3_xgt : xgt[3]? = some (.int 0)) (L_mfs1 : mfs1.length = 163) (K54_mfs1 : mfs1[54]? = some (.int 0)) (K56_mfs1 : mfs1[56]? = some (.int (-1))) : W p l e room_1 s m #[Value.ref b] below meth c H locs 951 1458901 (lw_Z below #[Value.ref b] s) (F0 m 791 ls []) := by
  obtain ⟨hx, hb, hr, hml, hown, hts, hX, hbl, hlocks, hgv⟩ := id C0
  have hown : s.vm.findClass RL = some m.cls := hown
  have ht : ∀ w ∈ tb, w.before #[Value.ref b] s = true := fun w hw => hts w (List.mem_filter.mp hw).1
  have hbA : ¬ A b := fun h => absurd (hA2 _ h) (Nat.not_le.mpr hbl)
  refine lv_aload_n hx hb dL_law_791 rfl (lv_at hl 3 rfl) ?_
  refine ca_i (wr := [(mq, .inr (15, mfs1))]) (va_runV (As := []) (rest := []) ⟨hx, hb, hml, hown, ht⟩ (x_keep l dC dI H.size xq xfs1 xsh xgsh xtm xgt L_xfs1 K2_xfs1 K13_xfs1 L_xgsh K1_xgsh L_xgt K3_xgt ) (cwV 0 ht (gdV k_7_70 k_7_67 k_7_68 k_7_69 k_1_1) rfl rfl rfl (by decide +kernel) ⟨Nat.le_of_ble_eq_true rfl, Nat.le_of_ble_eq_true rfl⟩) ⟨pcw_blind, va_recv hK hP (ci := 11) (q0 := 0) rfl rfl, pcw_at hP hD hK [0, 1, 2] [] (by decide) rfl rfl rfl⟩ rfl rfl hl.1 rfl (lv_room (Nat.le_of_ble_eq_true rfl)) dL_law_792 ⟨Nat.le_of_ble_eq_true rfl, Nat.le_of_ble_eq_true rfl⟩) hP hD hK hS hA [0, 1, 2] [3] rfl rfl (by decide) (by decide) (fun r_1 u H locs w_2 hK hP hD hS => ?_)
  have hK : va_K (dC, dI) cls [] s := hK
  have hP : va_P (dC, dI) cls [(mq, .inr (15, mfs1))] H := hP
  have hD : va_D A [(mq, .inr (15, mfs1))] := hD
  obtain rfl : r_1 = (-2) := w_2
  refine lv_aload_n hx hb dL_law_795 rfl (lv_at hl 2 rfl) ?_
  refine ca_i (wr := []) (va_runV (As := []) (rest := [.int (-2)]) ⟨hx, hb, hml, hown, ht⟩ (r_keep l dC dI H.size mq mfs1 L_mfs1 K54_mfs1 K56_mfs1 ) (cwV 0 ht (gdV k_15_0 k_14_237 k_14_238 k_14_239 k_1_17) rfl rfl rfl (by decide +kernel) ⟨Nat.le_of_ble_eq_true rfl, Nat.le_of_ble_eq_true rfl⟩) ⟨pcw_blind, va_recv hK hP (ci := 15) (q0 := 0) rfl rfl, pcw_at hP hD hK [0] [] (by decide) rfl rfl rfl⟩ rfl rfl hl.1 rfl (lv_room (Nat.le_of_ble_eq_true rfl)) dL_law_796 ⟨Nat.le_of_ble_eq_true rfl, Nat.le_of_ble_eq_true rfl⟩) hP hD hK hS hA [0] [] rfl rfl (by decide) (by decide) (fun r_3 u H locs w_4 hK hP hD hS => ?_)
  have hK : va_K (dC, dI) cls [] s := hK
  have hP : va_P (dC, dI) cls [] H := hP
  have hD : va_D A [] := hD
  obtain rfl : r_3 = (-2) := w_4
  refine lv_icmp_eq (tgt := 1597) hx hb dL_law_799 (by decide) (fun _ => ?_) (fun c0 => absurd c0 (by decide))
  exact lw_tail l C0 hA2 hS (lv_sub hl [0, 4] rfl) (Nat.le_of_ble_eq_true rfl) (Nat.le_of_ble_eq_true rfl)
set_option maxHeartbeats 4000000 in
set_option maxRecDepth 100000 in
theorem lw_c21 {p : Program} {e : Env} {s : State} {m : MethodId} {below : List Frame} {meth : Method} {c : Code} (l : Launch) {b : Nat} {xs : Nat → Int32} (C0 : lw_At p s m meth c b 6 xs) (dC : Nat → ClassId) (dI : Nat → Nat → Nat) {A : Nat → Prop} (hA : ∀ q : Nat, s.heap.size ≤ q → A q) (hA2 : ∀ q : Nat, A q → s.heap.size ≤ q) (xq : Nat) (xfs1 : List Value) (xsh : Nat) (xgsh : List Value) (mq : Nat) (mfs1 : List Value) (ou : Nat) {H : Heap} {locs : List Loc} {ls : Array Slot} (hK : va_K (dC, dI) cls [] s) (hP : va_P (dC, dI) cls [(xq, .inr (11, xfs1)), (xsh, .inr (8, xgsh)), (mq, .inr (15, mfs1))] H) (hD : va_D A [(xq, .inr (11, xfs1)), (xsh, .inr (8, xgsh)), (mq, .inr (15, mfs1))]) (hS : va_S A s.heap H locs) (hl : lv_has ls 7 [(4, .int 0), (3, .ref ou), (2, .ref mq), (1, .ref xq), (0, .ref b)]) (L_xfs1 : xfs1.length = 18) (K2_xfs1 : xfs1[2]? = some (.int 0)) (K13_xfs1 : xfs1[13]? = some (.ref xsh)) (L_xgsh : xgsh.length = 22) (K9_xgsh : xgsh[9]? = some (.int 0)) (L_mfs1 : mfs1.length = 163) (K54_mfs1 : mfs1[54]? = some (.int 0)) (K77_mfs1 : mfs1[77]? = some (.int 0)) : W p l e room_1 s m #[Value.ref b] below meth c H locs 951 1458901 (lw_Z below #[Value.ref b] s) (F0 m 804 ls []) := by
  obtain ⟨hx, hb, hr, hml, hown, hts, hX, hbl, hlocks, hgv⟩ := id C0
  have hown : s.vm.findClass RL = some m.cls := hown
  have ht : ∀ w ∈ tb, w.before #[Value.ref b] s = true := fun w hw => hts w (List.mem_filter.mp hw).1
  have hbA : ¬ A b := fun h => absurd (hA2 _ h) (Nat.not_le.mpr hbl)
  refine lv_aload_n hx hb dL_law_804 rfl (lv_at hl 3 rfl) ?_
  refine lv_aload_n hx hb dL_law_805 rfl (lv_at hl 4 rfl) ?_
  refine lv_iload hx hb dL_law_806 (lv_at hl 0 rfl) ?_
  refine lv_iconst (v := 1) hx hb dL_law_808 (by decide) ?_
  refine lv_iadd hx hb dL_law_809 ?_
  refine tk_i (y := 1) (by decide) ?_
  refine va_sld hx hb hX hbl hbA hS (by unfold vp_in; decide) dL_law_810 ?_
  refine tk_i (y := (xs 1)) rfl ?_
  refine lv_aload_n hx hb dL_law_811 rfl (lv_at hl 4 rfl) ?_
  refine lv_iload hx hb dL_law_812 (lv_at hl 0 rfl) ?_
  refine lv_iconst (v := 2) hx hb dL_law_814 (by decide) ?_
  refine lv_iadd hx hb dL_law_815 ?_
  refine tk_i (y := 2) (by decide) ?_
  refine va_sld hx hb hX hbl hbA hS (by unfold vp_in; decide) dL_law_816 ?_
  refine tk_i (y := (xs 2)) rfl ?_
  refine ca_i (wr := [(mq, .inr (15, mfs1))]) (va_runV (As := [.int (xs 1), .int (xs 2)]) (rest := []) ⟨hx, hb, hml, hown, ht⟩ (x_kept l dC dI H.size xq xfs1 xsh xgsh (xs 1) (xs 2) L_xfs1 K2_xfs1 K13_xfs1 L_xgsh K9_xgsh ) (cwV 2 ht (gdV k_7_96 k_7_93 k_7_94 k_7_95 k_1_1) rfl rfl rfl (by decide +kernel) ⟨Nat.le_of_ble_eq_true rfl, Nat.le_of_ble_eq_true rfl⟩) ⟨pcw_blind, va_recv hK hP (ci := 11) (q0 := 0) rfl rfl, pcw_at hP hD hK [0, 1] [] (by decide) rfl rfl rfl⟩ rfl rfl hl.1 rfl (lv_room (Nat.le_of_ble_eq_true rfl)) dL_law_817 ⟨Nat.le_of_ble_eq_true rfl, Nat.le_of_ble_eq_true rfl⟩) hP hD hK hS hA [0, 1] [2] rfl rfl (by decide) (by decide) (fun r_1 u H locs w_2 hK hP hD hS => ?_)
  have hK : va_K (dC, dI) cls [] s := hK
  have hP : va_P (dC, dI) cls [(mq, .inr (15, mfs1))] H := hP
  have hD : va_D A [(mq, .inr (15, mfs1))] := hD
  obtain rfl : r_1 = (-1) := w_2
  refine lv_aload_n hx hb dL_law_820 rfl (lv_at hl 2 rfl) ?_
  refine lv_aload_n hx hb dL_law_821 rfl (lv_at hl 4 rfl) ?_
  refine lv_iload hx hb dL_law_822 (lv_at hl 0 rfl) ?_
  refine lv_iconst (v := 1) hx hb dL_law_824 (by decide) ?_
  refine lv_iadd hx hb dL_law_825 ?_
  refine tk_i (y := 1) (by decide) ?_
  refine va_sld hx hb hX hbl hbA hS (by unfold vp_in; decide) dL_law_826 ?_
  refine tk_i (y := (xs 1)) rfl ?_
  refine lv_aload_n hx hb dL_law_827 rfl (lv_at hl 4 rfl) ?_
  refine lv_iload hx hb dL_law_828 (lv_at hl 0 rfl) ?_
  refine lv_iconst (v := 2) hx hb dL_law_830 (by decide) ?_
  refine lv_iadd hx hb dL_law_831 ?_
  refine tk_i (y := 2) (by decide) ?_
  refine va_sld hx hb hX hbl hbA hS (by unfold vp_in; decide) dL_law_832 ?_
  refine tk_i (y := (xs 2)) rfl ?_
  refine ca_i (wr := []) (va_runV (As := [.int (xs 1), .int (xs 2)]) (rest := [.int (-1)]) ⟨hx, hb, hml, hown, ht⟩ (r_kept l dC dI H.size mq mfs1 (xs 1) (xs 2) L_mfs1 K54_mfs1 K77_mfs1 ) (cwV 2 ht (gdV k_15_12 k_15_9 k_15_10 k_15_11 k_1_17) rfl rfl rfl (by decide +kernel) ⟨Nat.le_of_ble_eq_true rfl, Nat.le_of_ble_eq_true rfl⟩) ⟨pcw_blind, va_recv hK hP (ci := 15) (q0 := 0) rfl rfl, pcw_at hP hD hK [0] [] (by decide) rfl rfl rfl⟩ rfl rfl hl.1 rfl (lv_room (Nat.le_of_ble_eq_true rfl)) dL_law_833 ⟨Nat.le_of_ble_eq_true rfl, Nat.le_of_ble_eq_true rfl⟩) hP hD hK hS hA [0] [] rfl rfl (by decide) (by decide) (fun r_3 u H locs w_4 hK hP hD hS => ?_)
  have hK : va_K (dC, dI) cls [] s := hK
  have hP : va_P (dC, dI) cls [] H := hP
  have hD : va_D A [] := hD
  obtain rfl : r_3 = (-1) := w_4
  refine lv_icmp_eq (tgt := 1597) hx hb dL_law_836 (by decide) (fun _ => ?_) (fun c0 => absurd c0 (by decide))
  exact lw_tail l C0 hA2 hS (lv_sub hl [0, 4] rfl) (Nat.le_of_ble_eq_true rfl) (Nat.le_of_ble_eq_true rfl)
set_option maxHeartbeats 4000000 in
set_option maxRecDepth 100000 in
theorem lw_c22 {p : Program} {e : Env} {s : State} {m : MethodId} {below : List Frame} {meth : Method} {c : Code} (l : Launch) {b : Nat} {xs : Nat → Int32} (C0 : lw_At p s m meth c b 6 xs) (dC : Nat → ClassId) (dI : Nat → Nat → Nat) {A : Nat → Prop} (hA : ∀ q : Nat, s.heap.size ≤ q → A q) (hA2 : ∀ q : Nat, A q → s.heap.size ≤ q) (xq : Nat) (xfs1 : List Value) (xtp : Nat) (xcT : ClassId) (xft : Nat → Int32) (xrd : Nat) (xas : Nat) (xsp : Nat) (xlp : Nat) (xwr : Nat) (xma : Nat) (xdk : Nat) (mq : Nat) (mfs1 : List Value) (ou : Nat) {H : Heap} {locs : List Loc} {ls : Array Slot} (hK : va_K (dC, dI) cls [(xcT, .byte)] s) (hP : va_P (dC, dI) cls [(xq, .inr (11, xfs1)), (xtp, .inl (xcT, 2000, .inl xft)), (mq, .inr (15, mfs1))] H) (hD : va_D A [(xq, .inr (11, xfs1)), (xtp, .inl (xcT, 2000, .inl xft)), (mq, .inr (15, mfs1))]) (hS : va_S A s.heap H locs) (hl : lv_has ls 7 [(4, .int 0), (3, .ref ou), (2, .ref mq), (1, .ref xq), (0, .ref b)]) (L_xfs1 : xfs1.length = 18) (K0_xfs1 : xfs1[0]? = some (.ref xtp)) (K1_xfs1 : xfs1[1]? = some (.int 0)) (K2_xfs1 : xfs1[2]? = some (.int 0)) (K8_xfs1 : xfs1[8]? = some (.ref xrd)) (K9_xfs1 : xfs1[9]? = some (.ref xas)) (K10_xfs1 : xfs1[10]? = some (.ref xsp)) (K11_xfs1 : xfs1[11]? = some (.int 0)) (K14_xfs1 : xfs1[14]? = some (.ref xlp)) (K15_xfs1 : xfs1[15]? = some (.ref xwr)) (K16_xfs1 : xfs1[16]? = some (.ref xma)) (K17_xfs1 : xfs1[17]? = some (.ref xdk)) (L_mfs1 : mfs1.length = 163) (K53_mfs1 : mfs1[53]? = some (.int 0)) (K54_mfs1 : mfs1[54]? = some (.int 0)) : W p l e room_1 s m #[Value.ref b] below meth c H locs 951 1458901 (lw_Z below #[Value.ref b] s) (F0 m 841 ls []) := by
  obtain ⟨hx, hb, hr, hml, hown, hts, hX, hbl, hlocks, hgv⟩ := id C0
  have hown : s.vm.findClass RL = some m.cls := hown
  have ht : ∀ w ∈ tb, w.before #[Value.ref b] s = true := fun w hw => hts w (List.mem_filter.mp hw).1
  have hbA : ¬ A b := fun h => absurd (hA2 _ h) (Nat.not_le.mpr hbl)
  refine lv_aload_n hx hb dL_law_841 rfl (lv_at hl 3 rfl) ?_
  refine ca_i (wr := [(mq, .inr (15, mfs1))]) (va_runV (As := []) (rest := []) ⟨hx, hb, hml, hown, ht⟩ (x_learn l dC dI H.size xq xfs1 xtp xrd xas xsp xlp xwr xma xdk xcT xft L_xfs1 K0_xfs1 K1_xfs1 K2_xfs1 K8_xfs1 K9_xfs1 K10_xfs1 K11_xfs1 K14_xfs1 K15_xfs1 K16_xfs1 K17_xfs1 ) (cwV 0 ht (gdV k_7_104 k_7_101 k_7_102 k_7_103 k_1_1) rfl rfl rfl (by decide +kernel) ⟨Nat.le_of_ble_eq_true rfl, Nat.le_of_ble_eq_true rfl⟩) ⟨pcw_blind, va_recv hK hP (ci := 11) (q0 := 0) rfl rfl, pcw_at hP hD hK [0, 1] [0] (by decide) rfl rfl rfl⟩ rfl rfl hl.1 rfl (lv_room (Nat.le_of_ble_eq_true rfl)) dL_law_842 ⟨Nat.le_of_ble_eq_true rfl, Nat.le_of_ble_eq_true rfl⟩) hP hD hK hS hA [0, 1] [2] rfl rfl (by decide) (by decide) (fun r_1 u H locs w_2 hK hP hD hS => ?_)
  have hK : va_K (dC, dI) cls [(xcT, .byte)] s := hK
  have hP : va_P (dC, dI) cls [(mq, .inr (15, mfs1))] H := hP
  have hD : va_D A [(mq, .inr (15, mfs1))] := hD
  obtain rfl : r_1 = (-1) := w_2
  refine lv_aload_n hx hb dL_law_845 rfl (lv_at hl 2 rfl) ?_
  refine ca_i (wr := []) (va_runV (As := []) (rest := [.int (-1)]) ⟨hx, hb, hml, hown, ht⟩ (r_learn l dC dI H.size mq mfs1 L_mfs1 K53_mfs1 K54_mfs1 ) (cwV 0 ht (gdV k_15_16 k_15_13 k_15_14 k_15_15 k_1_17) rfl rfl rfl (by decide +kernel) ⟨Nat.le_of_ble_eq_true rfl, Nat.le_of_ble_eq_true rfl⟩) ⟨pcw_blind, va_recv hK hP (ci := 15) (q0 := 0) rfl rfl, pcw_at hP hD hK [0] [] (by decide) rfl rfl rfl⟩ rfl rfl hl.1 rfl (lv_room (Nat.le_of_ble_eq_true rfl)) dL_law_846 ⟨Nat.le_of_ble_eq_true rfl, Nat.le_of_ble_eq_true rfl⟩) hP hD hK hS hA [0] [] rfl rfl (by decide) (by decide) (fun r_3 u H locs w_4 hK hP hD hS => ?_)
  have hK : va_K (dC, dI) cls [(xcT, .byte)] s := hK
  have hP : va_P (dC, dI) cls [] H := hP
  have hD : va_D A [] := hD
  obtain rfl : r_3 = (-1) := w_4
  refine lv_icmp_eq (tgt := 1597) hx hb dL_law_849 (by decide) (fun _ => ?_) (fun c0 => absurd c0 (by decide))
  exact lw_tail l C0 hA2 hS (lv_sub hl [0, 4] rfl) (Nat.le_of_ble_eq_true rfl) (Nat.le_of_ble_eq_true rfl)
set_option maxHeartbeats 4000000 in
set_option maxRecDepth 100000 in
theorem lw_c23 {p : Program} {e : Env} {s : State} {m : MethodId} {below : List Frame} {meth : Method} {c : Code} (l : Launch) {b : Nat} {xs : Nat → Int32} (C0 : lw_At p s m meth c b 6 xs) (dC : Nat → ClassId) (dI : Nat → Nat → Nat) {A : Nat → Prop} (hA : ∀ q : Nat, s.heap.size ≤ q → A q) (hA2 : ∀ q : Nat, A q → s.heap.size ≤ q) (xq : Nat) (xfs1 : List Value) (xac : Nat) (xg0 : List Value) (mq : Nat) (mfs1 : List Value) (ou : Nat) {H : Heap} {locs : List Loc} {ls : Array Slot} (hK : va_K (dC, dI) cls [] s) (hP : va_P (dC, dI) cls [(xq, .inr (11, xfs1)), (xac, .inr (0, xg0)), (mq, .inr (15, mfs1))] H) (hD : va_D A [(xq, .inr (11, xfs1)), (xac, .inr (0, xg0)), (mq, .inr (15, mfs1))]) (hS : va_S A s.heap H locs) (hl : lv_has ls 7 [(4, .int 0), (3, .ref ou), (2, .ref mq), (1, .ref xq), (0, .ref b)]) (L_xfs1 : xfs1.length = 18) (K2_xfs1 : xfs1[2]? = some (.int 0)) (K7_xfs1 : xfs1[7]? = some (.ref xac)) (L_xg0 : xg0.length = 16) (K5_xg0 : xg0[5]? = some (.int 0)) (L_mfs1 : mfs1.length = 163) (K5_mfs1 : mfs1[5]? = some (.int 26)) (K54_mfs1 : mfs1[54]? = some (.int 0)) : W p l e room_1 s m #[Value.ref b] below meth c H locs 951 1458901 (lw_Z below #[Value.ref b] s) (F0 m 854 ls []) := by
  obtain ⟨hx, hb, hr, hml, hown, hts, hX, hbl, hlocks, hgv⟩ := id C0
  have hown : s.vm.findClass RL = some m.cls := hown
  have ht : ∀ w ∈ tb, w.before #[Value.ref b] s = true := fun w hw => hts w (List.mem_filter.mp hw).1
  have hbA : ¬ A b := fun h => absurd (hA2 _ h) (Nat.not_le.mpr hbl)
  refine lv_aload_n hx hb dL_law_854 rfl (lv_at hl 3 rfl) ?_
  refine lv_aload_n hx hb dL_law_855 rfl (lv_at hl 4 rfl) ?_
  refine lv_iload hx hb dL_law_856 (lv_at hl 0 rfl) ?_
  refine lv_iconst (v := 1) hx hb dL_law_858 (by decide) ?_
  refine lv_iadd hx hb dL_law_859 ?_
  refine tk_i (y := 1) (by decide) ?_
  refine va_sld hx hb hX hbl hbA hS (by unfold vp_in; decide) dL_law_860 ?_
  refine tk_i (y := (xs 1)) rfl ?_
  refine lv_aload_n hx hb dL_law_861 rfl (lv_at hl 4 rfl) ?_
  refine lv_iload hx hb dL_law_862 (lv_at hl 0 rfl) ?_
  refine lv_iconst (v := 2) hx hb dL_law_864 (by decide) ?_
  refine lv_iadd hx hb dL_law_865 ?_
  refine tk_i (y := 2) (by decide) ?_
  refine va_sld hx hb hX hbl hbA hS (by unfold vp_in; decide) dL_law_866 ?_
  refine tk_i (y := (xs 2)) rfl ?_
  refine ca_i (wr := [(mq, .inr (15, mfs1))]) (va_runV (As := [.int (xs 1), .int (xs 2)]) (rest := []) ⟨hx, hb, hml, hown, ht⟩ (x_own l dC dI H.size xq xfs1 xac xg0 (xs 1) (xs 2) L_xfs1 K2_xfs1 K7_xfs1 L_xg0 K5_xg0 ) (cwV 2 ht (gdV k_7_167 k_7_164 k_7_165 k_7_166 k_1_1) rfl rfl rfl (by decide +kernel) ⟨Nat.le_of_ble_eq_true rfl, Nat.le_of_ble_eq_true rfl⟩) ⟨pcw_blind, va_recv hK hP (ci := 11) (q0 := 0) rfl rfl, pcw_at hP hD hK [0, 1] [] (by decide) rfl rfl rfl⟩ rfl rfl hl.1 rfl (lv_room (Nat.le_of_ble_eq_true rfl)) dL_law_867 ⟨Nat.le_of_ble_eq_true rfl, Nat.le_of_ble_eq_true rfl⟩) hP hD hK hS hA [0, 1] [2] rfl rfl (by decide) (by decide) (fun r_1 u H locs w_2 hK hP hD hS => ?_)
  have hK : va_K (dC, dI) cls [] s := hK
  have hP : va_P (dC, dI) cls [(mq, .inr (15, mfs1))] H := hP
  have hD : va_D A [(mq, .inr (15, mfs1))] := hD
  obtain rfl : r_1 = (-1) := w_2
  refine lv_aload_n hx hb dL_law_870 rfl (lv_at hl 2 rfl) ?_
  refine lv_aload_n hx hb dL_law_871 rfl (lv_at hl 4 rfl) ?_
  refine lv_iload hx hb dL_law_872 (lv_at hl 0 rfl) ?_
  refine lv_iconst (v := 1) hx hb dL_law_874 (by decide) ?_
  refine lv_iadd hx hb dL_law_875 ?_
  refine tk_i (y := 1) (by decide) ?_
  refine va_sld hx hb hX hbl hbA hS (by unfold vp_in; decide) dL_law_876 ?_
  refine tk_i (y := (xs 1)) rfl ?_
  refine lv_aload_n hx hb dL_law_877 rfl (lv_at hl 4 rfl) ?_
  refine lv_iload hx hb dL_law_878 (lv_at hl 0 rfl) ?_
  refine lv_iconst (v := 2) hx hb dL_law_880 (by decide) ?_
  refine lv_iadd hx hb dL_law_881 ?_
  refine tk_i (y := 2) (by decide) ?_
  refine va_sld hx hb hX hbl hbA hS (by unfold vp_in; decide) dL_law_882 ?_
  refine tk_i (y := (xs 2)) rfl ?_
  refine ca_i (wr := []) (va_runV (As := [.int (xs 1), .int (xs 2)]) (rest := [.int (-1)]) ⟨hx, hb, hml, hown, ht⟩ (r_own l dC dI H.size mq mfs1 (xs 1) (xs 2) L_mfs1 K5_mfs1 K54_mfs1 ) (cwV 2 ht (gdV k_15_57 k_15_54 k_15_55 k_15_56 k_1_17) rfl rfl rfl (by decide +kernel) ⟨Nat.le_of_ble_eq_true rfl, Nat.le_of_ble_eq_true rfl⟩) ⟨pcw_blind, va_recv hK hP (ci := 15) (q0 := 0) rfl rfl, pcw_at hP hD hK [0] [] (by decide) rfl rfl rfl⟩ rfl rfl hl.1 rfl (lv_room (Nat.le_of_ble_eq_true rfl)) dL_law_883 ⟨Nat.le_of_ble_eq_true rfl, Nat.le_of_ble_eq_true rfl⟩) hP hD hK hS hA [0] [] rfl rfl (by decide) (by decide) (fun r_3 u H locs w_4 hK hP hD hS => ?_)
  have hK : va_K (dC, dI) cls [] s := hK
  have hP : va_P (dC, dI) cls [] H := hP
  have hD : va_D A [] := hD
  obtain rfl : r_3 = (-1) := w_4
  refine lv_icmp_eq (tgt := 1597) hx hb dL_law_886 (by decide) (fun _ => ?_) (fun c0 => absurd c0 (by decide))
  exact lw_tail l C0 hA2 hS (lv_sub hl [0, 4] rfl) (Nat.le_of_ble_eq_true rfl) (Nat.le_of_ble_eq_true rfl)
set_option maxHeartbeats 4000000 in
set_option maxRecDepth 100000 in
theorem lw_c24 {p : Program} {e : Env} {s : State} {m : MethodId} {below : List Frame} {meth : Method} {c : Code} (l : Launch) {b : Nat} {xs : Nat → Int32} (C0 : lw_At p s m meth c b 6 xs) (dC : Nat → ClassId) (dI : Nat → Nat → Nat) {A : Nat → Prop} (hA : ∀ q : Nat, s.heap.size ≤ q → A q) (hA2 : ∀ q : Nat, A q → s.heap.size ≤ q) (xq : Nat) (xfs1 : List Value) (xtp : Nat) (xcT : ClassId) (xft : Nat → Int32) (xrd : Nat) (xgr : List Value) (xnd : Nat) (xgn : List Value) (xas : Nat) (xsp : Nat) (xlp : Nat) (xgl : List Value) (xwr : Nat) (xma : Nat) (xdk : Nat) (mq : Nat) (mfs1 : List Value) (mbd : Nat) (mgb : List Value) (mon : Nat) (mgo1 : List Value) (ou : Nat) (st0 : Nat) (st1 : Nat) (st2 : Nat) (st3 : Nat) (st4 : Nat) (st5 : Nat) (st6 : Nat) (st7 : Nat) (sv0 : Nat) (sv1 : Nat) (sv2 : Nat) (hE : xf_all A s s.heap [.inr (.inl ("FinderHouse$Acts", 47, "add sub mul div rem min max and or xor less same not both any if pick cat len take drop rev head like code sign ", st0)), .inr (.inl ("FinderHouse$Acts", 63, "nnn nnn nnn nnn nnn nnn nnn nnn nnn nnn nnt nnt tt ttt ttt tnnn tsss sss sn sns sns ss ss sst sn ns ", st1)), .inl ("java/lang/String", "COMPACT_STRINGS", "Z", .int 1), .inr (.inr (.inr (.inr (.inl ("jdk/internal/util/Preconditions", "SIOOBE_FORMATTER", "Ljava/util/function/BiFunction;"))))), .inr (.inr (.inr (.inl "FinderHouse$Term"))), .inr (.inr (.inr (.inr (.inr (.inr ()))))), .inr (.inl ("FinderHouseModel", 313, "add nnn sub nnn mul nnn div nnn rem nnn min nnn max nnn and nnn or nnn xor nnn less nnt same nnt not tt both ttt any ttt if tnnn pick tsss cat sss len sn take sns drop sns rev ss head ss like sst code sn sign ns ", st2)), .inr (.inr (.inr (.inr (.inr (.inl .int))))), .inr (.inr (.inr (.inr (.inr (.inl .long))))), .inr (.inr (.inr (.inr (.inl ("java/lang/Throwable", "UNASSIGNED_STACK", "[Ljava/lang/StackTraceElement;"))))), .inr (.inr (.inr (.inr (.inl ("java/lang/Throwable", "SUPPRESSED_SENTINEL", "Ljava/util/List;"))))), .inr (.inr (.inl (st0, sv0, bsN))), .inr (.inr (.inl (st1, sv1, bsK))), .inr (.inr (.inl (st2, sv2, bsB))), .inr (.inl ("FinderHouse$Reader", 209, "find", st3)), .inr (.inl ("FinderHouse$Reader", 271, "act", st4)), .inr (.inl ("FinderHouse$Reader", 291, "loop", st5)), .inl ("FinderHouseModel", "TRUE", "J", .long 407354), .inl ("FinderHouseModel", "FALSE", "J", .long 3217595), .inl ("FinderHouseModel", "FIND", "J", .long 125041), .inl ("FinderHouseModel", "ACT", "J", .long 830), .inl ("FinderHouseModel", "LOOP", "J", .long 247552), .inr (.inl ("FinderHouse", 104, "the tape has not so many bytes", st6)), .inr (.inl ("FinderHouse", 534, "no such byte on the disk", st7))]) {H : Heap} {locs : List Loc} {ls : Array Slot} (hK : va_K (dC, dI) cls [(xcT, .byte)] s) (hP : va_P (dC, dI) cls [(xq, .inr (11, xfs1)), (xtp, .inl (xcT, 2000, .inl xft)), (xrd, .inr (6, xgr)), (xnd, .inr (9, xgn)), (xlp, .inr (4, xgl)), (mq, .inr (15, mfs1)), (mbd, .inr (13, mgb)), (mon, .inr (14, mgo1))] H) (hD : va_D A [(xq, .inr (11, xfs1)), (xtp, .inl (xcT, 2000, .inl xft)), (xrd, .inr (6, xgr)), (xnd, .inr (9, xgn)), (xlp, .inr (4, xgl)), (mq, .inr (15, mfs1)), (mbd, .inr (13, mgb)), (mon, .inr (14, mgo1))]) (hS : va_S A s.heap H locs) (hl : lv_has ls 7 [(4, .int 0), (3, .ref ou), (2, .ref mq), (1, .ref xq), (0, .ref b)]) (L_xfs1 : xfs1.length = 18) (K0_xfs1 : xfs1[0]? = some (.ref xtp)) (K1_xfs1 : xfs1[1]? = some (.int 0)) (K2_xfs1 : xfs1[2]? = some (.int 0)) (K8_xfs1 : xfs1[8]? = some (.ref xrd)) (K9_xfs1 : xfs1[9]? = some (.ref xas)) (K10_xfs1 : xfs1[10]? = some (.ref xsp)) (K11_xfs1 : xfs1[11]? = some (.int 0)) (K14_xfs1 : xfs1[14]? = some (.ref xlp)) (K15_xfs1 : xfs1[15]? = some (.ref xwr)) (K16_xfs1 : xfs1[16]? = some (.ref xma)) (K17_xfs1 : xfs1[17]? = some (.ref xdk)) (L_xgr : xgr.length = 20) (K11_xgr : xgr[11]? = some (.ref xnd)) (L_xgn : xgn.length = 4) (L_xgl : xgl.length = 18) (L_mfs1 : mfs1.length = 163) (K53_mfs1 : mfs1[53]? = some (.int 0)) (K54_mfs1 : mfs1[54]? = some (.int 0)) (K92_mfs1 : mfs1[92]? = some (.null)) (K23_mfs1 : mfs1[23]? = some (.ref mbd)) (K90_mfs1 : mfs1[90]? = some (.ref mon)) (L_mgb : mgb.length = 8) (L_mgo1 : mgo1.length = 9) (K0_mgo1 : mgo1[0]? = some (.int 2200)) : W p l e room_1 s m #[Value.ref b] below meth c H locs 951 1458901 (lw_Z below #[Value.ref b] s) (F0 m 891 ls []) := by
  obtain ⟨hx, hb, hr, hml, hown, hts, hX, hbl, hlocks, hgv⟩ := id C0
  have hown : s.vm.findClass RL = some m.cls := hown
  have ht : ∀ w ∈ tb, w.before #[Value.ref b] s = true := fun w hw => hts w (List.mem_filter.mp hw).1
  have hbA : ¬ A b := fun h => absurd (hA2 _ h) (Nat.not_le.mpr hbl)
  refine lv_aload_n hx hb dL_law_891 rfl (lv_at hl 3 rfl) ?_
  refine ca_i (wr := [(mq, .inr (15, mfs1)), (mbd, .inr (13, mgb)), (mon, .inr (14, mgo1))]) (va_runV (As := []) (rest := []) ⟨hx, hb, hml, hown, ht⟩ (x_loop l dC dI H.size xq xfs1 xtp xrd xas xsp xlp xwr xma xdk xgr xnd xgn xcT xft xgl st5 L_xfs1 K0_xfs1 K1_xfs1 K2_xfs1 K8_xfs1 K9_xfs1 K10_xfs1 K11_xfs1 K14_xfs1 K15_xfs1 K16_xfs1 K17_xfs1 L_xgr K11_xgr L_xgn L_xgl ) (cwV 0 ht (gdV k_7_171 k_7_168 k_7_169 k_7_170 k_1_1) rfl rfl rfl (by decide +kernel) ⟨Nat.le_of_ble_eq_true rfl, Nat.le_of_ble_eq_true rfl⟩) ⟨pcx_blind, va_recv hK hP (ci := 11) (q0 := 0) rfl rfl, pcx_at hP hD hK hS hA hE [0, 2, 3, 1, 4] [0] [16] (by decide) rfl rfl rfl rfl⟩ rfl rfl hl.1 rfl (lv_room (Nat.le_of_ble_eq_true rfl)) dL_law_892 ⟨Nat.le_of_ble_eq_true rfl, Nat.le_of_ble_eq_true rfl⟩) hP hD hK hS hA [0, 2, 3, 1, 4] [5, 6, 7] rfl rfl (by decide) (by decide) (fun r_1 u H locs w_2 hK hP hD hS => ?_)
  have hK : va_K (dC, dI) cls [(xcT, .byte)] s := hK
  have hP : va_P (dC, dI) cls [(mq, .inr (15, mfs1)), (mbd, .inr (13, mgb)), (mon, .inr (14, mgo1))] H := hP
  have hD : va_D A [(mq, .inr (15, mfs1)), (mbd, .inr (13, mgb)), (mon, .inr (14, mgo1))] := hD
  obtain rfl : r_1 = (-11) := w_2
  refine lv_aload_n hx hb dL_law_895 rfl (lv_at hl 2 rfl) ?_
  refine ca_i (wr := []) (vx_runVW (As := []) (rest := [.int (-11)]) ⟨hx, hb, hml, hown, ht⟩ (r_loop l dC dI H.size mq mfs1 mbd mgb mon mgo1 247552 2200 L_mfs1 K23_mfs1 K53_mfs1 K54_mfs1 K90_mfs1 K92_mfs1 L_mgb L_mgo1 K0_mgo1 ) (vx_cwVW 0 ht (gdV k_15_63 k_15_60 k_15_61 k_15_62 k_1_17) rfl rfl rfl (by decide +kernel) ⟨Nat.le_of_ble_eq_true rfl, Nat.le_of_ble_eq_true rfl⟩) ⟨pcx_blind, va_recv hK hP (ci := 15) (q0 := 0) rfl rfl, pcx_at hP hD hK hS hA hE [0, 1, 2] [] [21, 5] (by decide) rfl rfl rfl rfl⟩ rfl rfl hl.1 rfl (lv_room (Nat.le_of_ble_eq_true rfl)) dL_law_896 ⟨Nat.le_of_ble_eq_true rfl, Nat.le_of_ble_eq_true rfl⟩) hP hD hK hS hA [0, 1, 2] [] rfl rfl (by decide) (by decide) (fun r_3 u H locs w_4 hK hP hD hS => ?_)
  have hK : va_K (dC, dI) cls [(xcT, .byte)] s := hK
  have hP : va_P (dC, dI) cls [] H := hP
  have hD : va_D A [] := hD
  obtain rfl : r_3 = (-11) := w_4
  refine lv_icmp_eq (tgt := 1597) hx hb dL_law_899 (by decide) (fun _ => ?_) (fun c0 => absurd c0 (by decide))
  exact lw_tail l C0 hA2 hS (lv_sub hl [0, 4] rfl) (Nat.le_of_ble_eq_true rfl) (Nat.le_of_ble_eq_true rfl)
