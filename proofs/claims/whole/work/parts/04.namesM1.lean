/-! the reference's names, decode rows and words: written by program out of the listing, as the printed names are for the class -/
abbrev cX1_isPlain : ByteArray := prog_3_method_4_code
def yX1_isPlain : MethodName := ⟨RX1, "isPlain", "(I)Z"⟩
theorem dX1_isPlain_0 : decode cX1_isPlain 0 = .ok (.iload_n 0, 1) := by decide +kernel
theorem dX1_isPlain_1 : decode cX1_isPlain 1 = .ok (.iconst 1, 1) := by decide +kernel
theorem dX1_isPlain_2 : decode cX1_isPlain 2 = .ok (.if_icmp .lt 13, 3) := by decide +kernel
theorem dX1_isPlain_5 : decode cX1_isPlain 5 = .ok (.iload_n 0, 1) := by decide +kernel
theorem dX1_isPlain_6 : decode cX1_isPlain 6 = .ok (.bipush 6, 2) := by decide +kernel
theorem dX1_isPlain_8 : decode cX1_isPlain 8 = .ok (.if_icmp .gt 7, 3) := by decide +kernel
theorem dX1_isPlain_11 : decode cX1_isPlain 11 = .ok (.iconst 1, 1) := by decide +kernel
theorem dX1_isPlain_12 : decode cX1_isPlain 12 = .ok (.goto 4, 3) := by decide +kernel
theorem dX1_isPlain_15 : decode cX1_isPlain 15 = .ok (.iconst 0, 1) := by decide +kernel
theorem dX1_isPlain_16 : decode cX1_isPlain 16 = .ok (.ireturn, 1) := by decide +kernel
abbrev cX1_isReference : ByteArray := prog_3_method_5_code
def yX1_isReference : MethodName := ⟨RX1, "isReference", "(I)Z"⟩
theorem dX1_isReference_0 : decode cX1_isReference 0 = .ok (.iload_n 0, 1) := by decide +kernel
theorem dX1_isReference_1 : decode cX1_isReference 1 = .ok (.bipush 7, 2) := by decide +kernel
theorem dX1_isReference_3 : decode cX1_isReference 3 = .ok (.if_icmp .lt 7, 3) := by decide +kernel
theorem dX1_isReference_6 : decode cX1_isReference 6 = .ok (.iconst 1, 1) := by decide +kernel
theorem dX1_isReference_7 : decode cX1_isReference 7 = .ok (.goto 4, 3) := by decide +kernel
theorem dX1_isReference_10 : decode cX1_isReference 10 = .ok (.iconst 0, 1) := by decide +kernel
theorem dX1_isReference_11 : decode cX1_isReference 11 = .ok (.ireturn, 1) := by decide +kernel
abbrev cX1_isBox : ByteArray := prog_3_method_6_code
def yX1_isBox : MethodName := ⟨RX1, "isBox", "(I)Z"⟩
theorem dX1_isBox_0 : decode cX1_isBox 0 = .ok (.iload_n 0, 1) := by decide +kernel
theorem dX1_isBox_1 : decode cX1_isBox 1 = .ok (.bipush 8, 2) := by decide +kernel
theorem dX1_isBox_3 : decode cX1_isBox 3 = .ok (.if_icmp .le 13, 3) := by decide +kernel
theorem dX1_isBox_6 : decode cX1_isBox 6 = .ok (.iload_n 0, 1) := by decide +kernel
theorem dX1_isBox_7 : decode cX1_isBox 7 = .ok (.bipush 15, 2) := by decide +kernel
theorem dX1_isBox_9 : decode cX1_isBox 9 = .ok (.if_icmp .ge 7, 3) := by decide +kernel
theorem dX1_isBox_12 : decode cX1_isBox 12 = .ok (.iconst 1, 1) := by decide +kernel
theorem dX1_isBox_13 : decode cX1_isBox 13 = .ok (.goto 4, 3) := by decide +kernel
theorem dX1_isBox_16 : decode cX1_isBox 16 = .ok (.iconst 0, 1) := by decide +kernel
theorem dX1_isBox_17 : decode cX1_isBox 17 = .ok (.ireturn, 1) := by decide +kernel
abbrev cX1_isBelow : ByteArray := prog_3_method_7_code
def yX1_isBelow : MethodName := ⟨RX1, "isBelow", "(II)Z"⟩
theorem dX1_isBelow_0 : decode cX1_isBelow 0 = .ok (.iload_n 1, 1) := by decide +kernel
theorem dX1_isBelow_1 : decode cX1_isBelow 1 = .ok (.iload_n 2, 1) := by decide +kernel
theorem dX1_isBelow_2 : decode cX1_isBelow 2 = .ok (.if_icmp .ne 5, 3) := by decide +kernel
theorem dX1_isBelow_5 : decode cX1_isBelow 5 = .ok (.iconst 1, 1) := by decide +kernel
theorem dX1_isBelow_6 : decode cX1_isBelow 6 = .ok (.ireturn, 1) := by decide +kernel
theorem dX1_isBelow_7 : decode cX1_isBelow 7 = .ok (.iload_n 1, 1) := by decide +kernel
theorem dX1_isBelow_8 : decode cX1_isBelow 8 = .ok (.invokestatic 32, 3) := by decide +kernel
theorem dX1_isBelow_11 : decode cX1_isBelow 11 = .ok (.ifCond .eq 10, 3) := by decide +kernel
theorem dX1_isBelow_14 : decode cX1_isBelow 14 = .ok (.iload_n 2, 1) := by decide +kernel
theorem dX1_isBelow_15 : decode cX1_isBelow 15 = .ok (.invokestatic 32, 3) := by decide +kernel
theorem dX1_isBelow_18 : decode cX1_isBelow 18 = .ok (.ifCond .ne 5, 3) := by decide +kernel
theorem dX1_isBelow_21 : decode cX1_isBelow 21 = .ok (.iconst 0, 1) := by decide +kernel
theorem dX1_isBelow_22 : decode cX1_isBelow 22 = .ok (.ireturn, 1) := by decide +kernel
theorem dX1_isBelow_23 : decode cX1_isBelow 23 = .ok (.iload_n 2, 1) := by decide +kernel
theorem dX1_isBelow_24 : decode cX1_isBelow 24 = .ok (.bipush 7, 2) := by decide +kernel
theorem dX1_isBelow_26 : decode cX1_isBelow 26 = .ok (.if_icmp .ne 5, 3) := by decide +kernel
theorem dX1_isBelow_29 : decode cX1_isBelow 29 = .ok (.iconst 1, 1) := by decide +kernel
theorem dX1_isBelow_30 : decode cX1_isBelow 30 = .ok (.ireturn, 1) := by decide +kernel
theorem dX1_isBelow_31 : decode cX1_isBelow 31 = .ok (.iload_n 2, 1) := by decide +kernel
theorem dX1_isBelow_32 : decode cX1_isBelow 32 = .ok (.bipush 8, 2) := by decide +kernel
theorem dX1_isBelow_34 : decode cX1_isBelow 34 = .ok (.if_icmp .ne 33, 3) := by decide +kernel
theorem dX1_isBelow_37 : decode cX1_isBelow 37 = .ok (.iload_n 1, 1) := by decide +kernel
theorem dX1_isBelow_38 : decode cX1_isBelow 38 = .ok (.bipush 10, 2) := by decide +kernel
theorem dX1_isBelow_40 : decode cX1_isBelow 40 = .ok (.if_icmp .eq 21, 3) := by decide +kernel
theorem dX1_isBelow_43 : decode cX1_isBelow 43 = .ok (.iload_n 1, 1) := by decide +kernel
theorem dX1_isBelow_44 : decode cX1_isBelow 44 = .ok (.bipush 11, 2) := by decide +kernel
theorem dX1_isBelow_46 : decode cX1_isBelow 46 = .ok (.if_icmp .eq 15, 3) := by decide +kernel
theorem dX1_isBelow_49 : decode cX1_isBelow 49 = .ok (.iload_n 1, 1) := by decide +kernel
theorem dX1_isBelow_50 : decode cX1_isBelow 50 = .ok (.bipush 13, 2) := by decide +kernel
theorem dX1_isBelow_52 : decode cX1_isBelow 52 = .ok (.if_icmp .eq 9, 3) := by decide +kernel
theorem dX1_isBelow_55 : decode cX1_isBelow 55 = .ok (.iload_n 1, 1) := by decide +kernel
theorem dX1_isBelow_56 : decode cX1_isBelow 56 = .ok (.bipush 14, 2) := by decide +kernel
theorem dX1_isBelow_58 : decode cX1_isBelow 58 = .ok (.if_icmp .ne 7, 3) := by decide +kernel
theorem dX1_isBelow_61 : decode cX1_isBelow 61 = .ok (.iconst 1, 1) := by decide +kernel
theorem dX1_isBelow_62 : decode cX1_isBelow 62 = .ok (.goto 4, 3) := by decide +kernel
theorem dX1_isBelow_65 : decode cX1_isBelow 65 = .ok (.iconst 0, 1) := by decide +kernel
theorem dX1_isBelow_66 : decode cX1_isBelow 66 = .ok (.ireturn, 1) := by decide +kernel
theorem dX1_isBelow_67 : decode cX1_isBelow 67 = .ok (.iload_n 1, 1) := by decide +kernel
theorem dX1_isBelow_68 : decode cX1_isBelow 68 = .ok (.istore_n 3, 1) := by decide +kernel
theorem dX1_isBelow_69 : decode cX1_isBelow 69 = .ok (.iload_n 3, 1) := by decide +kernel
theorem dX1_isBelow_70 : decode cX1_isBelow 70 = .ok (.bipush 20, 2) := by decide +kernel
theorem dX1_isBelow_72 : decode cX1_isBelow 72 = .ok (.if_icmp .lt 20, 3) := by decide +kernel
theorem dX1_isBelow_75 : decode cX1_isBelow 75 = .ok (.aload_n 0, 1) := by decide +kernel
theorem dX1_isBelow_76 : decode cX1_isBelow 76 = .ok (.getfield 7, 3) := by decide +kernel
theorem dX1_isBelow_79 : decode cX1_isBelow 79 = .ok (.iload_n 3, 1) := by decide +kernel
theorem dX1_isBelow_80 : decode cX1_isBelow 80 = .ok (.bipush 20, 2) := by decide +kernel
theorem dX1_isBelow_82 : decode cX1_isBelow 82 = .ok (.isub, 1) := by decide +kernel
theorem dX1_isBelow_83 : decode cX1_isBelow 83 = .ok (.iaload, 1) := by decide +kernel
theorem dX1_isBelow_84 : decode cX1_isBelow 84 = .ok (.istore_n 3, 1) := by decide +kernel
theorem dX1_isBelow_85 : decode cX1_isBelow 85 = .ok (.iload_n 3, 1) := by decide +kernel
theorem dX1_isBelow_86 : decode cX1_isBelow 86 = .ok (.iload_n 2, 1) := by decide +kernel
theorem dX1_isBelow_87 : decode cX1_isBelow 87 = .ok (.if_icmp .ne (-18), 3) := by decide +kernel
theorem dX1_isBelow_90 : decode cX1_isBelow 90 = .ok (.iconst 1, 1) := by decide +kernel
theorem dX1_isBelow_91 : decode cX1_isBelow 91 = .ok (.ireturn, 1) := by decide +kernel
theorem dX1_isBelow_92 : decode cX1_isBelow 92 = .ok (.iconst 0, 1) := by decide +kernel
theorem dX1_isBelow_93 : decode cX1_isBelow 93 = .ok (.ireturn, 1) := by decide +kernel
abbrev cX1_widens : ByteArray := prog_3_method_8_code
def yX1_widens : MethodName := ⟨RX1, "widens", "(II)Z"⟩
theorem dX1_widens_0 : decode cX1_widens 0 = .ok (.iload_n 0, 1) := by decide +kernel
theorem dX1_widens_1 : decode cX1_widens 1 = .ok (.iload_n 1, 1) := by decide +kernel
theorem dX1_widens_2 : decode cX1_widens 2 = .ok (.if_icmp .ne 5, 3) := by decide +kernel
theorem dX1_widens_5 : decode cX1_widens 5 = .ok (.iconst 1, 1) := by decide +kernel
theorem dX1_widens_6 : decode cX1_widens 6 = .ok (.ireturn, 1) := by decide +kernel
theorem dX1_widens_7 : decode cX1_widens 7 = .ok (.iload_n 0, 1) := by decide +kernel
theorem dX1_widens_8 : decode cX1_widens 8 = .ok (.tableswitch 100 2 5 #[32, 54, 71, 88], 32) := by decide +kernel
theorem dX1_widens_40 : decode cX1_widens 40 = .ok (.iload_n 1, 1) := by decide +kernel
theorem dX1_widens_41 : decode cX1_widens 41 = .ok (.iconst 3, 1) := by decide +kernel
theorem dX1_widens_42 : decode cX1_widens 42 = .ok (.if_icmp .eq 14, 3) := by decide +kernel
theorem dX1_widens_45 : decode cX1_widens 45 = .ok (.iload_n 1, 1) := by decide +kernel
theorem dX1_widens_46 : decode cX1_widens 46 = .ok (.iconst 5, 1) := by decide +kernel
theorem dX1_widens_47 : decode cX1_widens 47 = .ok (.if_icmp .eq 9, 3) := by decide +kernel
theorem dX1_widens_50 : decode cX1_widens 50 = .ok (.iload_n 1, 1) := by decide +kernel
theorem dX1_widens_51 : decode cX1_widens 51 = .ok (.bipush 6, 2) := by decide +kernel
theorem dX1_widens_53 : decode cX1_widens 53 = .ok (.if_icmp .ne 7, 3) := by decide +kernel
theorem dX1_widens_56 : decode cX1_widens 56 = .ok (.iconst 1, 1) := by decide +kernel
theorem dX1_widens_57 : decode cX1_widens 57 = .ok (.goto 4, 3) := by decide +kernel
theorem dX1_widens_60 : decode cX1_widens 60 = .ok (.iconst 0, 1) := by decide +kernel
theorem dX1_widens_61 : decode cX1_widens 61 = .ok (.ireturn, 1) := by decide +kernel
theorem dX1_widens_62 : decode cX1_widens 62 = .ok (.iload_n 1, 1) := by decide +kernel
theorem dX1_widens_63 : decode cX1_widens 63 = .ok (.iconst 5, 1) := by decide +kernel
theorem dX1_widens_64 : decode cX1_widens 64 = .ok (.if_icmp .eq 9, 3) := by decide +kernel
theorem dX1_widens_67 : decode cX1_widens 67 = .ok (.iload_n 1, 1) := by decide +kernel
theorem dX1_widens_68 : decode cX1_widens 68 = .ok (.bipush 6, 2) := by decide +kernel
theorem dX1_widens_70 : decode cX1_widens 70 = .ok (.if_icmp .ne 7, 3) := by decide +kernel
theorem dX1_widens_73 : decode cX1_widens 73 = .ok (.iconst 1, 1) := by decide +kernel
theorem dX1_widens_74 : decode cX1_widens 74 = .ok (.goto 4, 3) := by decide +kernel
theorem dX1_widens_77 : decode cX1_widens 77 = .ok (.iconst 0, 1) := by decide +kernel
theorem dX1_widens_78 : decode cX1_widens 78 = .ok (.ireturn, 1) := by decide +kernel
theorem dX1_widens_79 : decode cX1_widens 79 = .ok (.iload_n 1, 1) := by decide +kernel
theorem dX1_widens_80 : decode cX1_widens 80 = .ok (.iconst 5, 1) := by decide +kernel
theorem dX1_widens_81 : decode cX1_widens 81 = .ok (.if_icmp .eq 9, 3) := by decide +kernel
theorem dX1_widens_84 : decode cX1_widens 84 = .ok (.iload_n 1, 1) := by decide +kernel
theorem dX1_widens_85 : decode cX1_widens 85 = .ok (.bipush 6, 2) := by decide +kernel
theorem dX1_widens_87 : decode cX1_widens 87 = .ok (.if_icmp .ne 7, 3) := by decide +kernel
theorem dX1_widens_90 : decode cX1_widens 90 = .ok (.iconst 1, 1) := by decide +kernel
theorem dX1_widens_91 : decode cX1_widens 91 = .ok (.goto 4, 3) := by decide +kernel
theorem dX1_widens_94 : decode cX1_widens 94 = .ok (.iconst 0, 1) := by decide +kernel
theorem dX1_widens_95 : decode cX1_widens 95 = .ok (.ireturn, 1) := by decide +kernel
theorem dX1_widens_96 : decode cX1_widens 96 = .ok (.iload_n 1, 1) := by decide +kernel
theorem dX1_widens_97 : decode cX1_widens 97 = .ok (.bipush 6, 2) := by decide +kernel
theorem dX1_widens_99 : decode cX1_widens 99 = .ok (.if_icmp .ne 7, 3) := by decide +kernel
theorem dX1_widens_102 : decode cX1_widens 102 = .ok (.iconst 1, 1) := by decide +kernel
theorem dX1_widens_103 : decode cX1_widens 103 = .ok (.goto 4, 3) := by decide +kernel
theorem dX1_widens_106 : decode cX1_widens 106 = .ok (.iconst 0, 1) := by decide +kernel
theorem dX1_widens_107 : decode cX1_widens 107 = .ok (.ireturn, 1) := by decide +kernel
theorem dX1_widens_108 : decode cX1_widens 108 = .ok (.iconst 0, 1) := by decide +kernel
theorem dX1_widens_109 : decode cX1_widens 109 = .ok (.ireturn, 1) := by decide +kernel
abbrev cX1_mayPass : ByteArray := prog_3_method_9_code
def yX1_mayPass : MethodName := ⟨RX1, "mayPass", "(IIZZ)Z"⟩
theorem dX1_mayPass_0 : decode cX1_mayPass 0 = .ok (.iload_n 1, 1) := by decide +kernel
theorem dX1_mayPass_1 : decode cX1_mayPass 1 = .ok (.iload_n 2, 1) := by decide +kernel
theorem dX1_mayPass_2 : decode cX1_mayPass 2 = .ok (.if_icmp .ne 5, 3) := by decide +kernel
theorem dX1_mayPass_5 : decode cX1_mayPass 5 = .ok (.iconst 1, 1) := by decide +kernel
theorem dX1_mayPass_6 : decode cX1_mayPass 6 = .ok (.ireturn, 1) := by decide +kernel
theorem dX1_mayPass_7 : decode cX1_mayPass 7 = .ok (.iload_n 1, 1) := by decide +kernel
theorem dX1_mayPass_8 : decode cX1_mayPass 8 = .ok (.ifCond .eq 7, 3) := by decide +kernel
theorem dX1_mayPass_11 : decode cX1_mayPass 11 = .ok (.iload_n 2, 1) := by decide +kernel
theorem dX1_mayPass_12 : decode cX1_mayPass 12 = .ok (.ifCond .ne 6, 3) := by decide +kernel
theorem dX1_mayPass_15 : decode cX1_mayPass 15 = .ok (.iload 4, 2) := by decide +kernel
theorem dX1_mayPass_17 : decode cX1_mayPass 17 = .ok (.ireturn, 1) := by decide +kernel
theorem dX1_mayPass_18 : decode cX1_mayPass 18 = .ok (.iload_n 1, 1) := by decide +kernel
theorem dX1_mayPass_19 : decode cX1_mayPass 19 = .ok (.invokestatic 36, 3) := by decide +kernel
theorem dX1_mayPass_22 : decode cX1_mayPass 22 = .ok (.ifCond .eq 28, 3) := by decide +kernel
theorem dX1_mayPass_25 : decode cX1_mayPass 25 = .ok (.iload_n 2, 1) := by decide +kernel
theorem dX1_mayPass_26 : decode cX1_mayPass 26 = .ok (.invokestatic 36, 3) := by decide +kernel
theorem dX1_mayPass_29 : decode cX1_mayPass 29 = .ok (.ifCond .eq 21, 3) := by decide +kernel
theorem dX1_mayPass_32 : decode cX1_mayPass 32 = .ok (.iload_n 3, 1) := by decide +kernel
theorem dX1_mayPass_33 : decode cX1_mayPass 33 = .ok (.ifCond .ne 11, 3) := by decide +kernel
theorem dX1_mayPass_36 : decode cX1_mayPass 36 = .ok (.iload_n 1, 1) := by decide +kernel
theorem dX1_mayPass_37 : decode cX1_mayPass 37 = .ok (.iload_n 2, 1) := by decide +kernel
theorem dX1_mayPass_38 : decode cX1_mayPass 38 = .ok (.invokestatic 39, 3) := by decide +kernel
theorem dX1_mayPass_41 : decode cX1_mayPass 41 = .ok (.ifCond .eq 7, 3) := by decide +kernel
theorem dX1_mayPass_44 : decode cX1_mayPass 44 = .ok (.iconst 1, 1) := by decide +kernel
theorem dX1_mayPass_45 : decode cX1_mayPass 45 = .ok (.goto 4, 3) := by decide +kernel
theorem dX1_mayPass_48 : decode cX1_mayPass 48 = .ok (.iconst 0, 1) := by decide +kernel
theorem dX1_mayPass_49 : decode cX1_mayPass 49 = .ok (.ireturn, 1) := by decide +kernel
theorem dX1_mayPass_50 : decode cX1_mayPass 50 = .ok (.iload_n 1, 1) := by decide +kernel
theorem dX1_mayPass_51 : decode cX1_mayPass 51 = .ok (.invokestatic 36, 3) := by decide +kernel
theorem dX1_mayPass_54 : decode cX1_mayPass 54 = .ok (.ifCond .eq 13, 3) := by decide +kernel
theorem dX1_mayPass_57 : decode cX1_mayPass 57 = .ok (.aload_n 0, 1) := by decide +kernel
theorem dX1_mayPass_58 : decode cX1_mayPass 58 = .ok (.iload_n 1, 1) := by decide +kernel
theorem dX1_mayPass_59 : decode cX1_mayPass 59 = .ok (.bipush 8, 2) := by decide +kernel
theorem dX1_mayPass_61 : decode cX1_mayPass 61 = .ok (.iadd, 1) := by decide +kernel
theorem dX1_mayPass_62 : decode cX1_mayPass 62 = .ok (.iload_n 2, 1) := by decide +kernel
theorem dX1_mayPass_63 : decode cX1_mayPass 63 = .ok (.invokevirtual 43, 3) := by decide +kernel
theorem dX1_mayPass_66 : decode cX1_mayPass 66 = .ok (.ireturn, 1) := by decide +kernel
theorem dX1_mayPass_67 : decode cX1_mayPass 67 = .ok (.iload_n 2, 1) := by decide +kernel
theorem dX1_mayPass_68 : decode cX1_mayPass 68 = .ok (.invokestatic 32, 3) := by decide +kernel
theorem dX1_mayPass_71 : decode cX1_mayPass 71 = .ok (.ifCond .eq 5, 3) := by decide +kernel
theorem dX1_mayPass_74 : decode cX1_mayPass 74 = .ok (.iconst 1, 1) := by decide +kernel
theorem dX1_mayPass_75 : decode cX1_mayPass 75 = .ok (.ireturn, 1) := by decide +kernel
theorem dX1_mayPass_76 : decode cX1_mayPass 76 = .ok (.iload_n 1, 1) := by decide +kernel
theorem dX1_mayPass_77 : decode cX1_mayPass 77 = .ok (.bipush 7, 2) := by decide +kernel
theorem dX1_mayPass_79 : decode cX1_mayPass 79 = .ok (.if_icmp .ne 5, 3) := by decide +kernel
theorem dX1_mayPass_82 : decode cX1_mayPass 82 = .ok (.iconst 1, 1) := by decide +kernel
theorem dX1_mayPass_83 : decode cX1_mayPass 83 = .ok (.ireturn, 1) := by decide +kernel
theorem dX1_mayPass_84 : decode cX1_mayPass 84 = .ok (.iload_n 1, 1) := by decide +kernel
theorem dX1_mayPass_85 : decode cX1_mayPass 85 = .ok (.bipush 8, 2) := by decide +kernel
theorem dX1_mayPass_87 : decode cX1_mayPass 87 = .ok (.if_icmp .ne 34, 3) := by decide +kernel
theorem dX1_mayPass_90 : decode cX1_mayPass 90 = .ok (.iload_n 3, 1) := by decide +kernel
theorem dX1_mayPass_91 : decode cX1_mayPass 91 = .ok (.ifCond .ne 24, 3) := by decide +kernel
theorem dX1_mayPass_94 : decode cX1_mayPass 94 = .ok (.iload_n 2, 1) := by decide +kernel
theorem dX1_mayPass_95 : decode cX1_mayPass 95 = .ok (.iconst 2, 1) := by decide +kernel
theorem dX1_mayPass_96 : decode cX1_mayPass 96 = .ok (.if_icmp .eq 19, 3) := by decide +kernel
theorem dX1_mayPass_99 : decode cX1_mayPass 99 = .ok (.iload_n 2, 1) := by decide +kernel
theorem dX1_mayPass_100 : decode cX1_mayPass 100 = .ok (.iconst 3, 1) := by decide +kernel
theorem dX1_mayPass_101 : decode cX1_mayPass 101 = .ok (.if_icmp .eq 14, 3) := by decide +kernel
theorem dX1_mayPass_104 : decode cX1_mayPass 104 = .ok (.iload_n 2, 1) := by decide +kernel
theorem dX1_mayPass_105 : decode cX1_mayPass 105 = .ok (.iconst 5, 1) := by decide +kernel
theorem dX1_mayPass_106 : decode cX1_mayPass 106 = .ok (.if_icmp .eq 9, 3) := by decide +kernel
theorem dX1_mayPass_109 : decode cX1_mayPass 109 = .ok (.iload_n 2, 1) := by decide +kernel
theorem dX1_mayPass_110 : decode cX1_mayPass 110 = .ok (.bipush 6, 2) := by decide +kernel
theorem dX1_mayPass_112 : decode cX1_mayPass 112 = .ok (.if_icmp .ne 7, 3) := by decide +kernel
theorem dX1_mayPass_115 : decode cX1_mayPass 115 = .ok (.iconst 1, 1) := by decide +kernel
theorem dX1_mayPass_116 : decode cX1_mayPass 116 = .ok (.goto 4, 3) := by decide +kernel
theorem dX1_mayPass_119 : decode cX1_mayPass 119 = .ok (.iconst 0, 1) := by decide +kernel
theorem dX1_mayPass_120 : decode cX1_mayPass 120 = .ok (.ireturn, 1) := by decide +kernel
theorem dX1_mayPass_121 : decode cX1_mayPass 121 = .ok (.iload_n 1, 1) := by decide +kernel
theorem dX1_mayPass_122 : decode cX1_mayPass 122 = .ok (.invokestatic 46, 3) := by decide +kernel
theorem dX1_mayPass_125 : decode cX1_mayPass 125 = .ok (.ifCond .eq 22, 3) := by decide +kernel
theorem dX1_mayPass_128 : decode cX1_mayPass 128 = .ok (.iload_n 3, 1) := by decide +kernel
theorem dX1_mayPass_129 : decode cX1_mayPass 129 = .ok (.ifCond .ne 14, 3) := by decide +kernel
theorem dX1_mayPass_132 : decode cX1_mayPass 132 = .ok (.iload_n 1, 1) := by decide +kernel
theorem dX1_mayPass_133 : decode cX1_mayPass 133 = .ok (.bipush 8, 2) := by decide +kernel
theorem dX1_mayPass_135 : decode cX1_mayPass 135 = .ok (.isub, 1) := by decide +kernel
theorem dX1_mayPass_136 : decode cX1_mayPass 136 = .ok (.iload_n 2, 1) := by decide +kernel
theorem dX1_mayPass_137 : decode cX1_mayPass 137 = .ok (.invokestatic 39, 3) := by decide +kernel
theorem dX1_mayPass_140 : decode cX1_mayPass 140 = .ok (.ifCond .eq 7, 3) := by decide +kernel
theorem dX1_mayPass_143 : decode cX1_mayPass 143 = .ok (.iconst 1, 1) := by decide +kernel
theorem dX1_mayPass_144 : decode cX1_mayPass 144 = .ok (.goto 4, 3) := by decide +kernel
theorem dX1_mayPass_147 : decode cX1_mayPass 147 = .ok (.iconst 0, 1) := by decide +kernel
theorem dX1_mayPass_148 : decode cX1_mayPass 148 = .ok (.ireturn, 1) := by decide +kernel
abbrev cX1_forcedTo : ByteArray := prog_3_method_10_code
def yX1_forcedTo : MethodName := ⟨RX1, "forcedTo", "(IJ)J"⟩
theorem dX1_forcedTo_0 : decode cX1_forcedTo 0 = .ok (.iload_n 0, 1) := by decide +kernel
theorem dX1_forcedTo_1 : decode cX1_forcedTo 1 = .ok (.tableswitch 59 1 5 #[35, 39, 44, 49, 55], 35) := by decide +kernel
theorem dX1_forcedTo_36 : decode cX1_forcedTo 36 = .ok (.lload_n 1, 1) := by decide +kernel
theorem dX1_forcedTo_37 : decode cX1_forcedTo 37 = .ok (.lconst 1, 1) := by decide +kernel
theorem dX1_forcedTo_38 : decode cX1_forcedTo 38 = .ok (.land, 1) := by decide +kernel
theorem dX1_forcedTo_39 : decode cX1_forcedTo 39 = .ok (.lreturn, 1) := by decide +kernel
theorem dX1_forcedTo_40 : decode cX1_forcedTo 40 = .ok (.lload_n 1, 1) := by decide +kernel
theorem dX1_forcedTo_41 : decode cX1_forcedTo 41 = .ok (.l2i, 1) := by decide +kernel
theorem dX1_forcedTo_42 : decode cX1_forcedTo 42 = .ok (.i2b, 1) := by decide +kernel
theorem dX1_forcedTo_43 : decode cX1_forcedTo 43 = .ok (.i2l, 1) := by decide +kernel
theorem dX1_forcedTo_44 : decode cX1_forcedTo 44 = .ok (.lreturn, 1) := by decide +kernel
theorem dX1_forcedTo_45 : decode cX1_forcedTo 45 = .ok (.lload_n 1, 1) := by decide +kernel
theorem dX1_forcedTo_46 : decode cX1_forcedTo 46 = .ok (.l2i, 1) := by decide +kernel
theorem dX1_forcedTo_47 : decode cX1_forcedTo 47 = .ok (.i2s, 1) := by decide +kernel
theorem dX1_forcedTo_48 : decode cX1_forcedTo 48 = .ok (.i2l, 1) := by decide +kernel
theorem dX1_forcedTo_49 : decode cX1_forcedTo 49 = .ok (.lreturn, 1) := by decide +kernel
theorem dX1_forcedTo_50 : decode cX1_forcedTo 50 = .ok (.lload_n 1, 1) := by decide +kernel
theorem dX1_forcedTo_51 : decode cX1_forcedTo 51 = .ok (.ldc2_w 49, 3) := by decide +kernel
theorem dX1_forcedTo_54 : decode cX1_forcedTo 54 = .ok (.land, 1) := by decide +kernel
theorem dX1_forcedTo_55 : decode cX1_forcedTo 55 = .ok (.lreturn, 1) := by decide +kernel
theorem dX1_forcedTo_56 : decode cX1_forcedTo 56 = .ok (.lload_n 1, 1) := by decide +kernel
theorem dX1_forcedTo_57 : decode cX1_forcedTo 57 = .ok (.l2i, 1) := by decide +kernel
theorem dX1_forcedTo_58 : decode cX1_forcedTo 58 = .ok (.i2l, 1) := by decide +kernel
theorem dX1_forcedTo_59 : decode cX1_forcedTo 59 = .ok (.lreturn, 1) := by decide +kernel
theorem dX1_forcedTo_60 : decode cX1_forcedTo 60 = .ok (.lload_n 1, 1) := by decide +kernel
theorem dX1_forcedTo_61 : decode cX1_forcedTo 61 = .ok (.lreturn, 1) := by decide +kernel
abbrev cX1_findType : ByteArray := prog_3_method_11_code
def yX1_findType : MethodName := ⟨RX1, "findType", "(II)I"⟩
theorem dX1_findType_0 : decode cX1_findType 0 = .ok (.iconst 0, 1) := by decide +kernel
theorem dX1_findType_1 : decode cX1_findType 1 = .ok (.istore_n 3, 1) := by decide +kernel
theorem dX1_findType_2 : decode cX1_findType 2 = .ok (.iload_n 3, 1) := by decide +kernel
theorem dX1_findType_3 : decode cX1_findType 3 = .ok (.aload_n 0, 1) := by decide +kernel
theorem dX1_findType_4 : decode cX1_findType 4 = .ok (.getfield 51, 3) := by decide +kernel
theorem dX1_findType_7 : decode cX1_findType 7 = .ok (.if_icmp .ge 92, 3) := by decide +kernel
theorem dX1_findType_10 : decode cX1_findType 10 = .ok (.aload_n 0, 1) := by decide +kernel
theorem dX1_findType_11 : decode cX1_findType 11 = .ok (.getfield 13, 3) := by decide +kernel
theorem dX1_findType_14 : decode cX1_findType 14 = .ok (.iload_n 3, 1) := by decide +kernel
theorem dX1_findType_15 : decode cX1_findType 15 = .ok (.iaload, 1) := by decide +kernel
theorem dX1_findType_16 : decode cX1_findType 16 = .ok (.iload_n 1, 1) := by decide +kernel
theorem dX1_findType_17 : decode cX1_findType 17 = .ok (.if_icmp .ne 17, 3) := by decide +kernel
theorem dX1_findType_20 : decode cX1_findType 20 = .ok (.aload_n 0, 1) := by decide +kernel
theorem dX1_findType_21 : decode cX1_findType 21 = .ok (.getfield 16, 3) := by decide +kernel
theorem dX1_findType_24 : decode cX1_findType 24 = .ok (.iload_n 3, 1) := by decide +kernel
theorem dX1_findType_25 : decode cX1_findType 25 = .ok (.iaload, 1) := by decide +kernel
theorem dX1_findType_26 : decode cX1_findType 26 = .ok (.iload_n 2, 1) := by decide +kernel
theorem dX1_findType_27 : decode cX1_findType 27 = .ok (.if_icmp .ne 7, 3) := by decide +kernel
theorem dX1_findType_30 : decode cX1_findType 30 = .ok (.iconst 1, 1) := by decide +kernel
theorem dX1_findType_31 : decode cX1_findType 31 = .ok (.goto 4, 3) := by decide +kernel
theorem dX1_findType_34 : decode cX1_findType 34 = .ok (.iconst 0, 1) := by decide +kernel
theorem dX1_findType_35 : decode cX1_findType 35 = .ok (.istore 4, 2) := by decide +kernel
theorem dX1_findType_37 : decode cX1_findType 37 = .ok (.iconst 0, 1) := by decide +kernel
theorem dX1_findType_38 : decode cX1_findType 38 = .ok (.istore 5, 2) := by decide +kernel
theorem dX1_findType_40 : decode cX1_findType 40 = .ok (.iload 5, 2) := by decide +kernel
theorem dX1_findType_42 : decode cX1_findType 42 = .ok (.iload_n 2, 1) := by decide +kernel
theorem dX1_findType_43 : decode cX1_findType 43 = .ok (.if_icmp .ge 43, 3) := by decide +kernel
theorem dX1_findType_46 : decode cX1_findType 46 = .ok (.iload 4, 2) := by decide +kernel
theorem dX1_findType_48 : decode cX1_findType 48 = .ok (.ifCond .eq 38, 3) := by decide +kernel
theorem dX1_findType_51 : decode cX1_findType 51 = .ok (.aload_n 0, 1) := by decide +kernel
theorem dX1_findType_52 : decode cX1_findType 52 = .ok (.getfield 19, 3) := by decide +kernel
theorem dX1_findType_55 : decode cX1_findType 55 = .ok (.bipush 10, 2) := by decide +kernel
theorem dX1_findType_57 : decode cX1_findType 57 = .ok (.iload_n 3, 1) := by decide +kernel
theorem dX1_findType_58 : decode cX1_findType 58 = .ok (.imul, 1) := by decide +kernel
theorem dX1_findType_59 : decode cX1_findType 59 = .ok (.iload 5, 2) := by decide +kernel
theorem dX1_findType_61 : decode cX1_findType 61 = .ok (.iadd, 1) := by decide +kernel
theorem dX1_findType_62 : decode cX1_findType 62 = .ok (.iaload, 1) := by decide +kernel
theorem dX1_findType_63 : decode cX1_findType 63 = .ok (.aload_n 0, 1) := by decide +kernel
theorem dX1_findType_64 : decode cX1_findType 64 = .ok (.getfield 25, 3) := by decide +kernel
theorem dX1_findType_67 : decode cX1_findType 67 = .ok (.iload 5, 2) := by decide +kernel
theorem dX1_findType_69 : decode cX1_findType 69 = .ok (.iaload, 1) := by decide +kernel
theorem dX1_findType_70 : decode cX1_findType 70 = .ok (.if_icmp .ne 7, 3) := by decide +kernel
theorem dX1_findType_73 : decode cX1_findType 73 = .ok (.iconst 1, 1) := by decide +kernel
theorem dX1_findType_74 : decode cX1_findType 74 = .ok (.goto 4, 3) := by decide +kernel
theorem dX1_findType_77 : decode cX1_findType 77 = .ok (.iconst 0, 1) := by decide +kernel
theorem dX1_findType_78 : decode cX1_findType 78 = .ok (.istore 4, 2) := by decide +kernel
theorem dX1_findType_80 : decode cX1_findType 80 = .ok (.iinc 5 1, 3) := by decide +kernel
theorem dX1_findType_83 : decode cX1_findType 83 = .ok (.goto (-43), 3) := by decide +kernel
theorem dX1_findType_86 : decode cX1_findType 86 = .ok (.iload 4, 2) := by decide +kernel
theorem dX1_findType_88 : decode cX1_findType 88 = .ok (.ifCond .eq 5, 3) := by decide +kernel
theorem dX1_findType_91 : decode cX1_findType 91 = .ok (.iload_n 3, 1) := by decide +kernel
theorem dX1_findType_92 : decode cX1_findType 92 = .ok (.ireturn, 1) := by decide +kernel
theorem dX1_findType_93 : decode cX1_findType 93 = .ok (.iinc 3 1, 3) := by decide +kernel
theorem dX1_findType_96 : decode cX1_findType 96 = .ok (.goto (-94), 3) := by decide +kernel
theorem dX1_findType_99 : decode cX1_findType 99 = .ok (.iconst (-1), 1) := by decide +kernel
theorem dX1_findType_100 : decode cX1_findType 100 = .ok (.ireturn, 1) := by decide +kernel
abbrev cX1_madeType : ByteArray := prog_3_method_12_code
def yX1_madeType : MethodName := ⟨RX1, "madeType", "()I"⟩
theorem dX1_madeType_0 : decode cX1_madeType 0 = .ok (.aload_n 0, 1) := by decide +kernel
theorem dX1_madeType_1 : decode cX1_madeType 1 = .ok (.getfield 54, 3) := by decide +kernel
theorem dX1_madeType_4 : decode cX1_madeType 4 = .ok (.bipush 10, 2) := by decide +kernel
theorem dX1_madeType_6 : decode cX1_madeType 6 = .ok (.if_icmp .le 5, 3) := by decide +kernel
theorem dX1_madeType_9 : decode cX1_madeType 9 = .ok (.iconst (-1), 1) := by decide +kernel
theorem dX1_madeType_10 : decode cX1_madeType 10 = .ok (.ireturn, 1) := by decide +kernel
theorem dX1_madeType_11 : decode cX1_madeType 11 = .ok (.aload_n 0, 1) := by decide +kernel
theorem dX1_madeType_12 : decode cX1_madeType 12 = .ok (.aload_n 0, 1) := by decide +kernel
theorem dX1_madeType_13 : decode cX1_madeType 13 = .ok (.getfield 57, 3) := by decide +kernel
theorem dX1_madeType_16 : decode cX1_madeType 16 = .ok (.aload_n 0, 1) := by decide +kernel
theorem dX1_madeType_17 : decode cX1_madeType 17 = .ok (.getfield 54, 3) := by decide +kernel
theorem dX1_madeType_20 : decode cX1_madeType 20 = .ok (.invokevirtual 60, 3) := by decide +kernel
theorem dX1_madeType_23 : decode cX1_madeType 23 = .ok (.istore_n 1, 1) := by decide +kernel
theorem dX1_madeType_24 : decode cX1_madeType 24 = .ok (.iload_n 1, 1) := by decide +kernel
theorem dX1_madeType_25 : decode cX1_madeType 25 = .ok (.iconst (-1), 1) := by decide +kernel
theorem dX1_madeType_26 : decode cX1_madeType 26 = .ok (.if_icmp .ne 13, 3) := by decide +kernel
theorem dX1_madeType_29 : decode cX1_madeType 29 = .ok (.aload_n 0, 1) := by decide +kernel
theorem dX1_madeType_30 : decode cX1_madeType 30 = .ok (.getfield 51, 3) := by decide +kernel
theorem dX1_madeType_33 : decode cX1_madeType 33 = .ok (.sipush 300, 3) := by decide +kernel
theorem dX1_madeType_36 : decode cX1_madeType 36 = .ok (.if_icmp .ne 5, 3) := by decide +kernel
theorem dX1_madeType_39 : decode cX1_madeType 39 = .ok (.iload_n 1, 1) := by decide +kernel
theorem dX1_madeType_40 : decode cX1_madeType 40 = .ok (.ireturn, 1) := by decide +kernel
theorem dX1_madeType_41 : decode cX1_madeType 41 = .ok (.aload_n 0, 1) := by decide +kernel
theorem dX1_madeType_42 : decode cX1_madeType 42 = .ok (.getfield 13, 3) := by decide +kernel
theorem dX1_madeType_45 : decode cX1_madeType 45 = .ok (.aload_n 0, 1) := by decide +kernel
theorem dX1_madeType_46 : decode cX1_madeType 46 = .ok (.getfield 51, 3) := by decide +kernel
theorem dX1_madeType_49 : decode cX1_madeType 49 = .ok (.aload_n 0, 1) := by decide +kernel
theorem dX1_madeType_50 : decode cX1_madeType 50 = .ok (.getfield 57, 3) := by decide +kernel
theorem dX1_madeType_53 : decode cX1_madeType 53 = .ok (.iastore, 1) := by decide +kernel
theorem dX1_madeType_54 : decode cX1_madeType 54 = .ok (.aload_n 0, 1) := by decide +kernel
theorem dX1_madeType_55 : decode cX1_madeType 55 = .ok (.getfield 16, 3) := by decide +kernel
theorem dX1_madeType_58 : decode cX1_madeType 58 = .ok (.aload_n 0, 1) := by decide +kernel
theorem dX1_madeType_59 : decode cX1_madeType 59 = .ok (.getfield 51, 3) := by decide +kernel
theorem dX1_madeType_62 : decode cX1_madeType 62 = .ok (.aload_n 0, 1) := by decide +kernel
theorem dX1_madeType_63 : decode cX1_madeType 63 = .ok (.getfield 54, 3) := by decide +kernel
theorem dX1_madeType_66 : decode cX1_madeType 66 = .ok (.iastore, 1) := by decide +kernel
theorem dX1_madeType_67 : decode cX1_madeType 67 = .ok (.iconst 0, 1) := by decide +kernel
theorem dX1_madeType_68 : decode cX1_madeType 68 = .ok (.istore_n 2, 1) := by decide +kernel
theorem dX1_madeType_69 : decode cX1_madeType 69 = .ok (.iload_n 2, 1) := by decide +kernel
theorem dX1_madeType_70 : decode cX1_madeType 70 = .ok (.aload_n 0, 1) := by decide +kernel
theorem dX1_madeType_71 : decode cX1_madeType 71 = .ok (.getfield 54, 3) := by decide +kernel
theorem dX1_madeType_74 : decode cX1_madeType 74 = .ok (.if_icmp .ge 29, 3) := by decide +kernel
theorem dX1_madeType_77 : decode cX1_madeType 77 = .ok (.aload_n 0, 1) := by decide +kernel
theorem dX1_madeType_78 : decode cX1_madeType 78 = .ok (.getfield 19, 3) := by decide +kernel
theorem dX1_madeType_81 : decode cX1_madeType 81 = .ok (.bipush 10, 2) := by decide +kernel
theorem dX1_madeType_83 : decode cX1_madeType 83 = .ok (.aload_n 0, 1) := by decide +kernel
theorem dX1_madeType_84 : decode cX1_madeType 84 = .ok (.getfield 51, 3) := by decide +kernel
theorem dX1_madeType_87 : decode cX1_madeType 87 = .ok (.imul, 1) := by decide +kernel
theorem dX1_madeType_88 : decode cX1_madeType 88 = .ok (.iload_n 2, 1) := by decide +kernel
theorem dX1_madeType_89 : decode cX1_madeType 89 = .ok (.iadd, 1) := by decide +kernel
theorem dX1_madeType_90 : decode cX1_madeType 90 = .ok (.aload_n 0, 1) := by decide +kernel
theorem dX1_madeType_91 : decode cX1_madeType 91 = .ok (.getfield 25, 3) := by decide +kernel
theorem dX1_madeType_94 : decode cX1_madeType 94 = .ok (.iload_n 2, 1) := by decide +kernel
theorem dX1_madeType_95 : decode cX1_madeType 95 = .ok (.iaload, 1) := by decide +kernel
theorem dX1_madeType_96 : decode cX1_madeType 96 = .ok (.iastore, 1) := by decide +kernel
theorem dX1_madeType_97 : decode cX1_madeType 97 = .ok (.iinc 2 1, 3) := by decide +kernel
theorem dX1_madeType_100 : decode cX1_madeType 100 = .ok (.goto (-31), 3) := by decide +kernel
theorem dX1_madeType_103 : decode cX1_madeType 103 = .ok (.aload_n 0, 1) := by decide +kernel
theorem dX1_madeType_104 : decode cX1_madeType 104 = .ok (.dup, 1) := by decide +kernel
theorem dX1_madeType_105 : decode cX1_madeType 105 = .ok (.getfield 51, 3) := by decide +kernel
theorem dX1_madeType_108 : decode cX1_madeType 108 = .ok (.iconst 1, 1) := by decide +kernel
theorem dX1_madeType_109 : decode cX1_madeType 109 = .ok (.iadd, 1) := by decide +kernel
theorem dX1_madeType_110 : decode cX1_madeType 110 = .ok (.putfield 51, 3) := by decide +kernel
theorem dX1_madeType_113 : decode cX1_madeType 113 = .ok (.aload_n 0, 1) := by decide +kernel
theorem dX1_madeType_114 : decode cX1_madeType 114 = .ok (.getfield 51, 3) := by decide +kernel
theorem dX1_madeType_117 : decode cX1_madeType 117 = .ok (.iconst 1, 1) := by decide +kernel
theorem dX1_madeType_118 : decode cX1_madeType 118 = .ok (.isub, 1) := by decide +kernel
theorem dX1_madeType_119 : decode cX1_madeType 119 = .ok (.ireturn, 1) := by decide +kernel
abbrev cX1_isType : ByteArray := prog_3_method_13_code
def yX1_isType : MethodName := ⟨RX1, "isType", "(I)Z"⟩
theorem dX1_isType_0 : decode cX1_isType 0 = .ok (.iload_n 1, 1) := by decide +kernel
theorem dX1_isType_1 : decode cX1_isType 1 = .ok (.ifCond .lt 15, 3) := by decide +kernel
theorem dX1_isType_4 : decode cX1_isType 4 = .ok (.iload_n 1, 1) := by decide +kernel
theorem dX1_isType_5 : decode cX1_isType 5 = .ok (.aload_n 0, 1) := by decide +kernel
theorem dX1_isType_6 : decode cX1_isType 6 = .ok (.getfield 51, 3) := by decide +kernel
theorem dX1_isType_9 : decode cX1_isType 9 = .ok (.if_icmp .ge 7, 3) := by decide +kernel
theorem dX1_isType_12 : decode cX1_isType 12 = .ok (.iconst 1, 1) := by decide +kernel
theorem dX1_isType_13 : decode cX1_isType 13 = .ok (.goto 4, 3) := by decide +kernel
theorem dX1_isType_16 : decode cX1_isType 16 = .ok (.iconst 0, 1) := by decide +kernel
theorem dX1_isType_17 : decode cX1_isType 17 = .ok (.ireturn, 1) := by decide +kernel
abbrev cX1_isNumber : ByteArray := prog_3_method_14_code
def yX1_isNumber : MethodName := ⟨RX1, "isNumber", "(IJ)Z"⟩
theorem dX1_isNumber_0 : decode cX1_isNumber 0 = .ok (.iload_n 0, 1) := by decide +kernel
theorem dX1_isNumber_1 : decode cX1_isNumber 1 = .ok (.iconst 1, 1) := by decide +kernel
theorem dX1_isNumber_2 : decode cX1_isNumber 2 = .ok (.if_icmp .ne 23, 3) := by decide +kernel
theorem dX1_isNumber_5 : decode cX1_isNumber 5 = .ok (.lload_n 1, 1) := by decide +kernel
theorem dX1_isNumber_6 : decode cX1_isNumber 6 = .ok (.lconst 0, 1) := by decide +kernel
theorem dX1_isNumber_7 : decode cX1_isNumber 7 = .ok (.lcmp, 1) := by decide +kernel
theorem dX1_isNumber_8 : decode cX1_isNumber 8 = .ok (.ifCond .eq 9, 3) := by decide +kernel
theorem dX1_isNumber_11 : decode cX1_isNumber 11 = .ok (.lload_n 1, 1) := by decide +kernel
theorem dX1_isNumber_12 : decode cX1_isNumber 12 = .ok (.lconst 1, 1) := by decide +kernel
theorem dX1_isNumber_13 : decode cX1_isNumber 13 = .ok (.lcmp, 1) := by decide +kernel
theorem dX1_isNumber_14 : decode cX1_isNumber 14 = .ok (.ifCond .ne 7, 3) := by decide +kernel
theorem dX1_isNumber_17 : decode cX1_isNumber 17 = .ok (.iconst 1, 1) := by decide +kernel
theorem dX1_isNumber_18 : decode cX1_isNumber 18 = .ok (.goto 22, 3) := by decide +kernel
theorem dX1_isNumber_21 : decode cX1_isNumber 21 = .ok (.iconst 0, 1) := by decide +kernel
theorem dX1_isNumber_22 : decode cX1_isNumber 22 = .ok (.goto 18, 3) := by decide +kernel
theorem dX1_isNumber_25 : decode cX1_isNumber 25 = .ok (.iload_n 0, 1) := by decide +kernel
theorem dX1_isNumber_26 : decode cX1_isNumber 26 = .ok (.lload_n 1, 1) := by decide +kernel
theorem dX1_isNumber_27 : decode cX1_isNumber 27 = .ok (.invokestatic 64, 3) := by decide +kernel
theorem dX1_isNumber_30 : decode cX1_isNumber 30 = .ok (.lload_n 1, 1) := by decide +kernel
theorem dX1_isNumber_31 : decode cX1_isNumber 31 = .ok (.lcmp, 1) := by decide +kernel
theorem dX1_isNumber_32 : decode cX1_isNumber 32 = .ok (.ifCond .ne 7, 3) := by decide +kernel
theorem dX1_isNumber_35 : decode cX1_isNumber 35 = .ok (.iconst 1, 1) := by decide +kernel
theorem dX1_isNumber_36 : decode cX1_isNumber 36 = .ok (.goto 4, 3) := by decide +kernel
theorem dX1_isNumber_39 : decode cX1_isNumber 39 = .ok (.iconst 0, 1) := by decide +kernel
theorem dX1_isNumber_40 : decode cX1_isNumber 40 = .ok (.ireturn, 1) := by decide +kernel
abbrev cX1_isObject : ByteArray := prog_3_method_15_code
def yX1_isObject : MethodName := ⟨RX1, "isObject", "(I)Z"⟩
theorem dX1_isObject_0 : decode cX1_isObject 0 = .ok (.aload_n 0, 1) := by decide +kernel
theorem dX1_isObject_1 : decode cX1_isObject 1 = .ok (.iload_n 1, 1) := by decide +kernel
theorem dX1_isObject_2 : decode cX1_isObject 2 = .ok (.invokevirtual 68, 3) := by decide +kernel
theorem dX1_isObject_5 : decode cX1_isObject 5 = .ok (.ifCond .eq 13, 3) := by decide +kernel
theorem dX1_isObject_8 : decode cX1_isObject 8 = .ok (.iload_n 1, 1) := by decide +kernel
theorem dX1_isObject_9 : decode cX1_isObject 9 = .ok (.bipush 8, 2) := by decide +kernel
theorem dX1_isObject_11 : decode cX1_isObject 11 = .ok (.if_icmp .le 7, 3) := by decide +kernel
theorem dX1_isObject_14 : decode cX1_isObject 14 = .ok (.iconst 1, 1) := by decide +kernel
theorem dX1_isObject_15 : decode cX1_isObject 15 = .ok (.goto 4, 3) := by decide +kernel
theorem dX1_isObject_18 : decode cX1_isObject 18 = .ok (.iconst 0, 1) := by decide +kernel
theorem dX1_isObject_19 : decode cX1_isObject 19 = .ok (.ireturn, 1) := by decide +kernel
abbrev cX1_meet : ByteArray := prog_3_method_18_code
def yX1_meet : MethodName := ⟨RX1, "meet", "(II)I"⟩
theorem dX1_meet_0 : decode cX1_meet 0 = .ok (.aload_n 0, 1) := by decide +kernel
theorem dX1_meet_1 : decode cX1_meet 1 = .ok (.iload_n 1, 1) := by decide +kernel
theorem dX1_meet_2 : decode cX1_meet 2 = .ok (.invokevirtual 68, 3) := by decide +kernel
theorem dX1_meet_5 : decode cX1_meet 5 = .ok (.ifCond .eq 11, 3) := by decide +kernel
theorem dX1_meet_8 : decode cX1_meet 8 = .ok (.aload_n 0, 1) := by decide +kernel
theorem dX1_meet_9 : decode cX1_meet 9 = .ok (.iload_n 2, 1) := by decide +kernel
theorem dX1_meet_10 : decode cX1_meet 10 = .ok (.invokevirtual 68, 3) := by decide +kernel
theorem dX1_meet_13 : decode cX1_meet 13 = .ok (.ifCond .ne 5, 3) := by decide +kernel
theorem dX1_meet_16 : decode cX1_meet 16 = .ok (.iconst (-1), 1) := by decide +kernel
theorem dX1_meet_17 : decode cX1_meet 17 = .ok (.ireturn, 1) := by decide +kernel
theorem dX1_meet_18 : decode cX1_meet 18 = .ok (.iconst 0, 1) := by decide +kernel
theorem dX1_meet_19 : decode cX1_meet 19 = .ok (.istore_n 3, 1) := by decide +kernel
theorem dX1_meet_20 : decode cX1_meet 20 = .ok (.iload_n 3, 1) := by decide +kernel
theorem dX1_meet_21 : decode cX1_meet 21 = .ok (.bipush 20, 2) := by decide +kernel
theorem dX1_meet_23 : decode cX1_meet 23 = .ok (.aload_n 0, 1) := by decide +kernel
theorem dX1_meet_24 : decode cX1_meet 24 = .ok (.getfield 28, 3) := by decide +kernel
theorem dX1_meet_27 : decode cX1_meet 27 = .ok (.iadd, 1) := by decide +kernel
theorem dX1_meet_28 : decode cX1_meet 28 = .ok (.if_icmp .ge 103, 3) := by decide +kernel
theorem dX1_meet_31 : decode cX1_meet 31 = .ok (.aload_n 0, 1) := by decide +kernel
theorem dX1_meet_32 : decode cX1_meet 32 = .ok (.iload_n 1, 1) := by decide +kernel
theorem dX1_meet_33 : decode cX1_meet 33 = .ok (.iload_n 3, 1) := by decide +kernel
theorem dX1_meet_34 : decode cX1_meet 34 = .ok (.invokevirtual 43, 3) := by decide +kernel
theorem dX1_meet_37 : decode cX1_meet 37 = .ok (.ifCond .eq 88, 3) := by decide +kernel
theorem dX1_meet_40 : decode cX1_meet 40 = .ok (.aload_n 0, 1) := by decide +kernel
theorem dX1_meet_41 : decode cX1_meet 41 = .ok (.iload_n 2, 1) := by decide +kernel
theorem dX1_meet_42 : decode cX1_meet 42 = .ok (.iload_n 3, 1) := by decide +kernel
theorem dX1_meet_43 : decode cX1_meet 43 = .ok (.invokevirtual 43, 3) := by decide +kernel
theorem dX1_meet_46 : decode cX1_meet 46 = .ok (.ifCond .ne 6, 3) := by decide +kernel
theorem dX1_meet_49 : decode cX1_meet 49 = .ok (.goto 76, 3) := by decide +kernel
theorem dX1_meet_52 : decode cX1_meet 52 = .ok (.iconst 1, 1) := by decide +kernel
theorem dX1_meet_53 : decode cX1_meet 53 = .ok (.istore 4, 2) := by decide +kernel
theorem dX1_meet_55 : decode cX1_meet 55 = .ok (.iconst 0, 1) := by decide +kernel
theorem dX1_meet_56 : decode cX1_meet 56 = .ok (.istore 5, 2) := by decide +kernel
theorem dX1_meet_58 : decode cX1_meet 58 = .ok (.iload 5, 2) := by decide +kernel
theorem dX1_meet_60 : decode cX1_meet 60 = .ok (.bipush 20, 2) := by decide +kernel
theorem dX1_meet_62 : decode cX1_meet 62 = .ok (.aload_n 0, 1) := by decide +kernel
theorem dX1_meet_63 : decode cX1_meet 63 = .ok (.getfield 28, 3) := by decide +kernel
theorem dX1_meet_66 : decode cX1_meet 66 = .ok (.iadd, 1) := by decide +kernel
theorem dX1_meet_67 : decode cX1_meet 67 = .ok (.if_icmp .ge 51, 3) := by decide +kernel
theorem dX1_meet_70 : decode cX1_meet 70 = .ok (.iload 4, 2) := by decide +kernel
theorem dX1_meet_72 : decode cX1_meet 72 = .ok (.ifCond .eq 46, 3) := by decide +kernel
theorem dX1_meet_75 : decode cX1_meet 75 = .ok (.aload_n 0, 1) := by decide +kernel
theorem dX1_meet_76 : decode cX1_meet 76 = .ok (.iload_n 1, 1) := by decide +kernel
theorem dX1_meet_77 : decode cX1_meet 77 = .ok (.iload 5, 2) := by decide +kernel
theorem dX1_meet_79 : decode cX1_meet 79 = .ok (.invokevirtual 43, 3) := by decide +kernel
theorem dX1_meet_82 : decode cX1_meet 82 = .ok (.ifCond .eq 23, 3) := by decide +kernel
theorem dX1_meet_85 : decode cX1_meet 85 = .ok (.aload_n 0, 1) := by decide +kernel
theorem dX1_meet_86 : decode cX1_meet 86 = .ok (.iload_n 2, 1) := by decide +kernel
theorem dX1_meet_87 : decode cX1_meet 87 = .ok (.iload 5, 2) := by decide +kernel
theorem dX1_meet_89 : decode cX1_meet 89 = .ok (.invokevirtual 43, 3) := by decide +kernel
theorem dX1_meet_92 : decode cX1_meet 92 = .ok (.ifCond .eq 13, 3) := by decide +kernel
theorem dX1_meet_95 : decode cX1_meet 95 = .ok (.aload_n 0, 1) := by decide +kernel
theorem dX1_meet_96 : decode cX1_meet 96 = .ok (.iload_n 3, 1) := by decide +kernel
theorem dX1_meet_97 : decode cX1_meet 97 = .ok (.iload 5, 2) := by decide +kernel
theorem dX1_meet_99 : decode cX1_meet 99 = .ok (.invokevirtual 43, 3) := by decide +kernel
theorem dX1_meet_102 : decode cX1_meet 102 = .ok (.ifCond .eq 7, 3) := by decide +kernel
theorem dX1_meet_105 : decode cX1_meet 105 = .ok (.iconst 1, 1) := by decide +kernel
theorem dX1_meet_106 : decode cX1_meet 106 = .ok (.goto 4, 3) := by decide +kernel
theorem dX1_meet_109 : decode cX1_meet 109 = .ok (.iconst 0, 1) := by decide +kernel
theorem dX1_meet_110 : decode cX1_meet 110 = .ok (.istore 4, 2) := by decide +kernel
theorem dX1_meet_112 : decode cX1_meet 112 = .ok (.iinc 5 1, 3) := by decide +kernel
theorem dX1_meet_115 : decode cX1_meet 115 = .ok (.goto (-57), 3) := by decide +kernel
theorem dX1_meet_118 : decode cX1_meet 118 = .ok (.iload 4, 2) := by decide +kernel
theorem dX1_meet_120 : decode cX1_meet 120 = .ok (.ifCond .eq 5, 3) := by decide +kernel
theorem dX1_meet_123 : decode cX1_meet 123 = .ok (.iload_n 3, 1) := by decide +kernel
theorem dX1_meet_124 : decode cX1_meet 124 = .ok (.ireturn, 1) := by decide +kernel
theorem dX1_meet_125 : decode cX1_meet 125 = .ok (.iinc 3 1, 3) := by decide +kernel
theorem dX1_meet_128 : decode cX1_meet 128 = .ok (.goto (-108), 3) := by decide +kernel
theorem dX1_meet_131 : decode cX1_meet 131 = .ok (.iconst (-1), 1) := by decide +kernel
theorem dX1_meet_132 : decode cX1_meet 132 = .ok (.ireturn, 1) := by decide +kernel
abbrev cX1_may : ByteArray := prog_3_method_19_code
def yX1_may : MethodName := ⟨RX1, "may", "(IIZZ)Z"⟩
theorem dX1_may_0 : decode cX1_may 0 = .ok (.aload_n 0, 1) := by decide +kernel
theorem dX1_may_1 : decode cX1_may 1 = .ok (.iload_n 1, 1) := by decide +kernel
theorem dX1_may_2 : decode cX1_may 2 = .ok (.invokevirtual 68, 3) := by decide +kernel
theorem dX1_may_5 : decode cX1_may 5 = .ok (.ifCond .eq 24, 3) := by decide +kernel
theorem dX1_may_8 : decode cX1_may 8 = .ok (.aload_n 0, 1) := by decide +kernel
theorem dX1_may_9 : decode cX1_may 9 = .ok (.iload_n 2, 1) := by decide +kernel
theorem dX1_may_10 : decode cX1_may 10 = .ok (.invokevirtual 68, 3) := by decide +kernel
theorem dX1_may_13 : decode cX1_may 13 = .ok (.ifCond .eq 16, 3) := by decide +kernel
theorem dX1_may_16 : decode cX1_may 16 = .ok (.iload 4, 2) := by decide +kernel
theorem dX1_may_18 : decode cX1_may 18 = .ok (.ifCond .ne 13, 3) := by decide +kernel
theorem dX1_may_21 : decode cX1_may 21 = .ok (.iload_n 1, 1) := by decide +kernel
theorem dX1_may_22 : decode cX1_may 22 = .ok (.ifCond .eq 7, 3) := by decide +kernel
theorem dX1_may_25 : decode cX1_may 25 = .ok (.iload_n 2, 1) := by decide +kernel
theorem dX1_may_26 : decode cX1_may 26 = .ok (.ifCond .ne 5, 3) := by decide +kernel
theorem dX1_may_29 : decode cX1_may 29 = .ok (.iconst 0, 1) := by decide +kernel
theorem dX1_may_30 : decode cX1_may 30 = .ok (.ireturn, 1) := by decide +kernel
theorem dX1_may_31 : decode cX1_may 31 = .ok (.aload_n 0, 1) := by decide +kernel
theorem dX1_may_32 : decode cX1_may 32 = .ok (.iload_n 1, 1) := by decide +kernel
theorem dX1_may_33 : decode cX1_may 33 = .ok (.iload_n 2, 1) := by decide +kernel
theorem dX1_may_34 : decode cX1_may 34 = .ok (.iload_n 3, 1) := by decide +kernel
theorem dX1_may_35 : decode cX1_may 35 = .ok (.iload 4, 2) := by decide +kernel
theorem dX1_may_37 : decode cX1_may 37 = .ok (.invokevirtual 71, 3) := by decide +kernel
theorem dX1_may_40 : decode cX1_may 40 = .ok (.ireturn, 1) := by decide +kernel
abbrev cX1_kept : ByteArray := prog_3_method_20_code
def yX1_kept : MethodName := ⟨RX1, "kept", "(IJ)I"⟩
theorem dX1_kept_0 : decode cX1_kept 0 = .ok (.aload_n 0, 1) := by decide +kernel
theorem dX1_kept_1 : decode cX1_kept 1 = .ok (.iload_n 1, 1) := by decide +kernel
theorem dX1_kept_2 : decode cX1_kept 2 = .ok (.putfield 75, 3) := by decide +kernel
theorem dX1_kept_5 : decode cX1_kept 5 = .ok (.aload_n 0, 1) := by decide +kernel
theorem dX1_kept_6 : decode cX1_kept 6 = .ok (.lload_n 2, 1) := by decide +kernel
theorem dX1_kept_7 : decode cX1_kept 7 = .ok (.putfield 78, 3) := by decide +kernel
theorem dX1_kept_10 : decode cX1_kept 10 = .ok (.iconst 0, 1) := by decide +kernel
theorem dX1_kept_11 : decode cX1_kept 11 = .ok (.ireturn, 1) := by decide +kernel
abbrev cX1_pass : ByteArray := prog_3_method_21_code
def yX1_pass : MethodName := ⟨RX1, "pass", "(IIZIJ)I"⟩
theorem dX1_pass_0 : decode cX1_pass 0 = .ok (.aload_n 0, 1) := by decide +kernel
theorem dX1_pass_1 : decode cX1_pass 1 = .ok (.iload_n 1, 1) := by decide +kernel
theorem dX1_pass_2 : decode cX1_pass 2 = .ok (.iload_n 2, 1) := by decide +kernel
theorem dX1_pass_3 : decode cX1_pass 3 = .ok (.iload_n 3, 1) := by decide +kernel
theorem dX1_pass_4 : decode cX1_pass 4 = .ok (.iconst 0, 1) := by decide +kernel
theorem dX1_pass_5 : decode cX1_pass 5 = .ok (.invokevirtual 82, 3) := by decide +kernel
theorem dX1_pass_8 : decode cX1_pass 8 = .ok (.ifCond .ne 5, 3) := by decide +kernel
theorem dX1_pass_11 : decode cX1_pass 11 = .ok (.iconst (-1), 1) := by decide +kernel
theorem dX1_pass_12 : decode cX1_pass 12 = .ok (.ireturn, 1) := by decide +kernel
theorem dX1_pass_13 : decode cX1_pass 13 = .ok (.iload_n 1, 1) := by decide +kernel
theorem dX1_pass_14 : decode cX1_pass 14 = .ok (.invokestatic 36, 3) := by decide +kernel
theorem dX1_pass_17 : decode cX1_pass 17 = .ok (.ifCond .eq 53, 3) := by decide +kernel
theorem dX1_pass_20 : decode cX1_pass 20 = .ok (.iload_n 1, 1) := by decide +kernel
theorem dX1_pass_21 : decode cX1_pass 21 = .ok (.lload 5, 2) := by decide +kernel
theorem dX1_pass_23 : decode cX1_pass 23 = .ok (.invokestatic 85, 3) := by decide +kernel
theorem dX1_pass_26 : decode cX1_pass 26 = .ok (.ifCond .ne 5, 3) := by decide +kernel
theorem dX1_pass_29 : decode cX1_pass 29 = .ok (.iconst (-1), 1) := by decide +kernel
theorem dX1_pass_30 : decode cX1_pass 30 = .ok (.ireturn, 1) := by decide +kernel
theorem dX1_pass_31 : decode cX1_pass 31 = .ok (.iload_n 2, 1) := by decide +kernel
theorem dX1_pass_32 : decode cX1_pass 32 = .ok (.invokestatic 36, 3) := by decide +kernel
theorem dX1_pass_35 : decode cX1_pass 35 = .ok (.ifCond .eq 24, 3) := by decide +kernel
theorem dX1_pass_38 : decode cX1_pass 38 = .ok (.aload_n 0, 1) := by decide +kernel
theorem dX1_pass_39 : decode cX1_pass 39 = .ok (.iconst 0, 1) := by decide +kernel
theorem dX1_pass_40 : decode cX1_pass 40 = .ok (.iload_n 3, 1) := by decide +kernel
theorem dX1_pass_41 : decode cX1_pass 41 = .ok (.ifCond .eq 12, 3) := by decide +kernel
theorem dX1_pass_44 : decode cX1_pass 44 = .ok (.iload_n 2, 1) := by decide +kernel
theorem dX1_pass_45 : decode cX1_pass 45 = .ok (.lload 5, 2) := by decide +kernel
theorem dX1_pass_47 : decode cX1_pass 47 = .ok (.invokestatic 64, 3) := by decide +kernel
theorem dX1_pass_50 : decode cX1_pass 50 = .ok (.goto 5, 3) := by decide +kernel
theorem dX1_pass_53 : decode cX1_pass 53 = .ok (.lload 5, 2) := by decide +kernel
theorem dX1_pass_55 : decode cX1_pass 55 = .ok (.invokevirtual 89, 3) := by decide +kernel
theorem dX1_pass_58 : decode cX1_pass 58 = .ok (.ireturn, 1) := by decide +kernel
theorem dX1_pass_59 : decode cX1_pass 59 = .ok (.aload_n 0, 1) := by decide +kernel
theorem dX1_pass_60 : decode cX1_pass 60 = .ok (.iload_n 1, 1) := by decide +kernel
theorem dX1_pass_61 : decode cX1_pass 61 = .ok (.bipush 8, 2) := by decide +kernel
theorem dX1_pass_63 : decode cX1_pass 63 = .ok (.iadd, 1) := by decide +kernel
theorem dX1_pass_64 : decode cX1_pass 64 = .ok (.lload 5, 2) := by decide +kernel
theorem dX1_pass_66 : decode cX1_pass 66 = .ok (.invokevirtual 89, 3) := by decide +kernel
theorem dX1_pass_69 : decode cX1_pass 69 = .ok (.ireturn, 1) := by decide +kernel
theorem dX1_pass_70 : decode cX1_pass 70 = .ok (.iload 4, 2) := by decide +kernel
theorem dX1_pass_72 : decode cX1_pass 72 = .ok (.ifCond .ne 46, 3) := by decide +kernel
theorem dX1_pass_75 : decode cX1_pass 75 = .ok (.iload_n 2, 1) := by decide +kernel
theorem dX1_pass_76 : decode cX1_pass 76 = .ok (.invokestatic 32, 3) := by decide +kernel
theorem dX1_pass_79 : decode cX1_pass 79 = .ok (.ifCond .eq 10, 3) := by decide +kernel
theorem dX1_pass_82 : decode cX1_pass 82 = .ok (.aload_n 0, 1) := by decide +kernel
theorem dX1_pass_83 : decode cX1_pass 83 = .ok (.iconst 0, 1) := by decide +kernel
theorem dX1_pass_84 : decode cX1_pass 84 = .ok (.lconst 0, 1) := by decide +kernel
theorem dX1_pass_85 : decode cX1_pass 85 = .ok (.invokevirtual 89, 3) := by decide +kernel
theorem dX1_pass_88 : decode cX1_pass 88 = .ok (.ireturn, 1) := by decide +kernel
theorem dX1_pass_89 : decode cX1_pass 89 = .ok (.iload_n 3, 1) := by decide +kernel
theorem dX1_pass_90 : decode cX1_pass 90 = .ok (.ifCond .eq 12, 3) := by decide +kernel
theorem dX1_pass_93 : decode cX1_pass 93 = .ok (.aload_n 0, 1) := by decide +kernel
theorem dX1_pass_94 : decode cX1_pass 94 = .ok (.iconst 0, 1) := by decide +kernel
theorem dX1_pass_95 : decode cX1_pass 95 = .ok (.lconst 0, 1) := by decide +kernel
theorem dX1_pass_96 : decode cX1_pass 96 = .ok (.invokevirtual 89, 3) := by decide +kernel
theorem dX1_pass_99 : decode cX1_pass 99 = .ok (.goto 18, 3) := by decide +kernel
theorem dX1_pass_102 : decode cX1_pass 102 = .ok (.iload_n 1, 1) := by decide +kernel
theorem dX1_pass_103 : decode cX1_pass 103 = .ok (.iload_n 2, 1) := by decide +kernel
theorem dX1_pass_104 : decode cX1_pass 104 = .ok (.if_icmp .ne 12, 3) := by decide +kernel
theorem dX1_pass_107 : decode cX1_pass 107 = .ok (.aload_n 0, 1) := by decide +kernel
theorem dX1_pass_108 : decode cX1_pass 108 = .ok (.iconst 0, 1) := by decide +kernel
theorem dX1_pass_109 : decode cX1_pass 109 = .ok (.lconst 0, 1) := by decide +kernel
theorem dX1_pass_110 : decode cX1_pass 110 = .ok (.invokevirtual 89, 3) := by decide +kernel
theorem dX1_pass_113 : decode cX1_pass 113 = .ok (.goto 4, 3) := by decide +kernel
theorem dX1_pass_116 : decode cX1_pass 116 = .ok (.iconst 1, 1) := by decide +kernel
theorem dX1_pass_117 : decode cX1_pass 117 = .ok (.ireturn, 1) := by decide +kernel
theorem dX1_pass_118 : decode cX1_pass 118 = .ok (.aload_n 0, 1) := by decide +kernel
theorem dX1_pass_119 : decode cX1_pass 119 = .ok (.iload 4, 2) := by decide +kernel
theorem dX1_pass_121 : decode cX1_pass 121 = .ok (.invokevirtual 93, 3) := by decide +kernel
theorem dX1_pass_124 : decode cX1_pass 124 = .ok (.ifCond .eq 34, 3) := by decide +kernel
theorem dX1_pass_127 : decode cX1_pass 127 = .ok (.aload_n 0, 1) := by decide +kernel
theorem dX1_pass_128 : decode cX1_pass 128 = .ok (.iload 4, 2) := by decide +kernel
theorem dX1_pass_130 : decode cX1_pass 130 = .ok (.iload_n 1, 1) := by decide +kernel
theorem dX1_pass_131 : decode cX1_pass 131 = .ok (.invokevirtual 43, 3) := by decide +kernel
theorem dX1_pass_134 : decode cX1_pass 134 = .ok (.ifCond .eq 24, 3) := by decide +kernel
theorem dX1_pass_137 : decode cX1_pass 137 = .ok (.iload 4, 2) := by decide +kernel
theorem dX1_pass_139 : decode cX1_pass 139 = .ok (.invokestatic 46, 3) := by decide +kernel
theorem dX1_pass_142 : decode cX1_pass 142 = .ok (.ifCond .eq 18, 3) := by decide +kernel
theorem dX1_pass_145 : decode cX1_pass 145 = .ok (.iload 4, 2) := by decide +kernel
theorem dX1_pass_147 : decode cX1_pass 147 = .ok (.bipush 8, 2) := by decide +kernel
theorem dX1_pass_149 : decode cX1_pass 149 = .ok (.isub, 1) := by decide +kernel
theorem dX1_pass_150 : decode cX1_pass 150 = .ok (.lload 5, 2) := by decide +kernel
theorem dX1_pass_152 : decode cX1_pass 152 = .ok (.invokestatic 85, 3) := by decide +kernel
theorem dX1_pass_155 : decode cX1_pass 155 = .ok (.ifCond .ne 5, 3) := by decide +kernel
theorem dX1_pass_158 : decode cX1_pass 158 = .ok (.iconst (-1), 1) := by decide +kernel
theorem dX1_pass_159 : decode cX1_pass 159 = .ok (.ireturn, 1) := by decide +kernel
theorem dX1_pass_160 : decode cX1_pass 160 = .ok (.iload_n 2, 1) := by decide +kernel
theorem dX1_pass_161 : decode cX1_pass 161 = .ok (.invokestatic 32, 3) := by decide +kernel
theorem dX1_pass_164 : decode cX1_pass 164 = .ok (.ifCond .eq 26, 3) := by decide +kernel
theorem dX1_pass_167 : decode cX1_pass 167 = .ok (.aload_n 0, 1) := by decide +kernel
theorem dX1_pass_168 : decode cX1_pass 168 = .ok (.iload 4, 2) := by decide +kernel
theorem dX1_pass_170 : decode cX1_pass 170 = .ok (.iload_n 2, 1) := by decide +kernel
theorem dX1_pass_171 : decode cX1_pass 171 = .ok (.invokevirtual 43, 3) := by decide +kernel
theorem dX1_pass_174 : decode cX1_pass 174 = .ok (.ifCond .eq 14, 3) := by decide +kernel
theorem dX1_pass_177 : decode cX1_pass 177 = .ok (.aload_n 0, 1) := by decide +kernel
theorem dX1_pass_178 : decode cX1_pass 178 = .ok (.iload 4, 2) := by decide +kernel
theorem dX1_pass_180 : decode cX1_pass 180 = .ok (.lload 5, 2) := by decide +kernel
theorem dX1_pass_182 : decode cX1_pass 182 = .ok (.invokevirtual 89, 3) := by decide +kernel
theorem dX1_pass_185 : decode cX1_pass 185 = .ok (.goto 4, 3) := by decide +kernel
theorem dX1_pass_188 : decode cX1_pass 188 = .ok (.iconst 2, 1) := by decide +kernel
theorem dX1_pass_189 : decode cX1_pass 189 = .ok (.ireturn, 1) := by decide +kernel
theorem dX1_pass_190 : decode cX1_pass 190 = .ok (.iload 4, 2) := by decide +kernel
theorem dX1_pass_192 : decode cX1_pass 192 = .ok (.invokestatic 46, 3) := by decide +kernel
theorem dX1_pass_195 : decode cX1_pass 195 = .ok (.ifCond .eq 19, 3) := by decide +kernel
theorem dX1_pass_198 : decode cX1_pass 198 = .ok (.iload_n 3, 1) := by decide +kernel
theorem dX1_pass_199 : decode cX1_pass 199 = .ok (.ifCond .ne 17, 3) := by decide +kernel
theorem dX1_pass_202 : decode cX1_pass 202 = .ok (.iload 4, 2) := by decide +kernel
theorem dX1_pass_204 : decode cX1_pass 204 = .ok (.bipush 8, 2) := by decide +kernel
theorem dX1_pass_206 : decode cX1_pass 206 = .ok (.isub, 1) := by decide +kernel
theorem dX1_pass_207 : decode cX1_pass 207 = .ok (.iload_n 2, 1) := by decide +kernel
theorem dX1_pass_208 : decode cX1_pass 208 = .ok (.invokestatic 39, 3) := by decide +kernel
theorem dX1_pass_211 : decode cX1_pass 211 = .ok (.ifCond .ne 5, 3) := by decide +kernel
theorem dX1_pass_214 : decode cX1_pass 214 = .ok (.iconst 2, 1) := by decide +kernel
theorem dX1_pass_215 : decode cX1_pass 215 = .ok (.ireturn, 1) := by decide +kernel
theorem dX1_pass_216 : decode cX1_pass 216 = .ok (.aload_n 0, 1) := by decide +kernel
theorem dX1_pass_217 : decode cX1_pass 217 = .ok (.iconst 0, 1) := by decide +kernel
theorem dX1_pass_218 : decode cX1_pass 218 = .ok (.iload_n 3, 1) := by decide +kernel
theorem dX1_pass_219 : decode cX1_pass 219 = .ok (.ifCond .eq 12, 3) := by decide +kernel
theorem dX1_pass_222 : decode cX1_pass 222 = .ok (.iload_n 2, 1) := by decide +kernel
theorem dX1_pass_223 : decode cX1_pass 223 = .ok (.lload 5, 2) := by decide +kernel
theorem dX1_pass_225 : decode cX1_pass 225 = .ok (.invokestatic 64, 3) := by decide +kernel
theorem dX1_pass_228 : decode cX1_pass 228 = .ok (.goto 5, 3) := by decide +kernel
theorem dX1_pass_231 : decode cX1_pass 231 = .ok (.lload 5, 2) := by decide +kernel
theorem dX1_pass_233 : decode cX1_pass 233 = .ok (.invokevirtual 89, 3) := by decide +kernel
theorem dX1_pass_236 : decode cX1_pass 236 = .ok (.ireturn, 1) := by decide +kernel
abbrev cX1_kind : ByteArray := prog_3_method_22_code
def yX1_kind : MethodName := ⟨RX1, "kind", "()I"⟩
theorem dX1_kind_0 : decode cX1_kind 0 = .ok (.aload_n 0, 1) := by decide +kernel
theorem dX1_kind_1 : decode cX1_kind 1 = .ok (.getfield 75, 3) := by decide +kernel
theorem dX1_kind_4 : decode cX1_kind 4 = .ok (.ireturn, 1) := by decide +kernel
abbrev cX1_number : ByteArray := prog_3_method_23_code
def yX1_number : MethodName := ⟨RX1, "number", "()J"⟩
theorem dX1_number_0 : decode cX1_number 0 = .ok (.aload_n 0, 1) := by decide +kernel
theorem dX1_number_1 : decode cX1_number 1 = .ok (.getfield 78, 3) := by decide +kernel
theorem dX1_number_4 : decode cX1_number 4 = .ok (.lreturn, 1) := by decide +kernel
abbrev cX1_put : ByteArray := prog_3_method_24_code
def yX1_put : MethodName := ⟨RX1, "put", "(I)Z"⟩
theorem dX1_put_0 : decode cX1_put 0 = .ok (.aload_n 0, 1) := by decide +kernel
theorem dX1_put_1 : decode cX1_put 1 = .ok (.getfield 96, 3) := by decide +kernel
theorem dX1_put_4 : decode cX1_put 4 = .ok (.bipush 20, 2) := by decide +kernel
theorem dX1_put_6 : decode cX1_put 6 = .ok (.if_icmp .ne 5, 3) := by decide +kernel
theorem dX1_put_9 : decode cX1_put 9 = .ok (.iconst 0, 1) := by decide +kernel
theorem dX1_put_10 : decode cX1_put 10 = .ok (.ireturn, 1) := by decide +kernel
theorem dX1_put_11 : decode cX1_put 11 = .ok (.aload_n 0, 1) := by decide +kernel
theorem dX1_put_12 : decode cX1_put 12 = .ok (.getfield 22, 3) := by decide +kernel
theorem dX1_put_15 : decode cX1_put 15 = .ok (.aload_n 0, 1) := by decide +kernel
theorem dX1_put_16 : decode cX1_put 16 = .ok (.getfield 96, 3) := by decide +kernel
theorem dX1_put_19 : decode cX1_put 19 = .ok (.iload_n 1, 1) := by decide +kernel
theorem dX1_put_20 : decode cX1_put 20 = .ok (.iastore, 1) := by decide +kernel
theorem dX1_put_21 : decode cX1_put 21 = .ok (.aload_n 0, 1) := by decide +kernel
theorem dX1_put_22 : decode cX1_put 22 = .ok (.dup, 1) := by decide +kernel
theorem dX1_put_23 : decode cX1_put 23 = .ok (.getfield 96, 3) := by decide +kernel
theorem dX1_put_26 : decode cX1_put 26 = .ok (.iconst 1, 1) := by decide +kernel
theorem dX1_put_27 : decode cX1_put 27 = .ok (.iadd, 1) := by decide +kernel
theorem dX1_put_28 : decode cX1_put 28 = .ok (.putfield 96, 3) := by decide +kernel
theorem dX1_put_31 : decode cX1_put 31 = .ok (.iconst 1, 1) := by decide +kernel
theorem dX1_put_32 : decode cX1_put 32 = .ok (.ireturn, 1) := by decide +kernel
abbrev cX1_type : ByteArray := prog_3_method_25_code
def yX1_type : MethodName := ⟨RX1, "type", "(I)I"⟩
theorem dX1_type_0 : decode cX1_type 0 = .ok (.aload_n 0, 1) := by decide +kernel
theorem dX1_type_1 : decode cX1_type 1 = .ok (.getfield 96, 3) := by decide +kernel
theorem dX1_type_4 : decode cX1_type 4 = .ok (.istore_n 2, 1) := by decide +kernel
theorem dX1_type_5 : decode cX1_type 5 = .ok (.aload_n 0, 1) := by decide +kernel
theorem dX1_type_6 : decode cX1_type 6 = .ok (.iconst 0, 1) := by decide +kernel
theorem dX1_type_7 : decode cX1_type 7 = .ok (.putfield 96, 3) := by decide +kernel
theorem dX1_type_10 : decode cX1_type 10 = .ok (.aload_n 0, 1) := by decide +kernel
theorem dX1_type_11 : decode cX1_type 11 = .ok (.iload_n 1, 1) := by decide +kernel
theorem dX1_type_12 : decode cX1_type 12 = .ok (.invokevirtual 68, 3) := by decide +kernel
theorem dX1_type_15 : decode cX1_type 15 = .ok (.ifCond .eq 13, 3) := by decide +kernel
theorem dX1_type_18 : decode cX1_type 18 = .ok (.iload_n 2, 1) := by decide +kernel
theorem dX1_type_19 : decode cX1_type 19 = .ok (.bipush 10, 2) := by decide +kernel
theorem dX1_type_21 : decode cX1_type 21 = .ok (.if_icmp .gt 7, 3) := by decide +kernel
theorem dX1_type_24 : decode cX1_type 24 = .ok (.iconst 1, 1) := by decide +kernel
theorem dX1_type_25 : decode cX1_type 25 = .ok (.goto 4, 3) := by decide +kernel
theorem dX1_type_28 : decode cX1_type 28 = .ok (.iconst 0, 1) := by decide +kernel
theorem dX1_type_29 : decode cX1_type 29 = .ok (.istore_n 3, 1) := by decide +kernel
theorem dX1_type_30 : decode cX1_type 30 = .ok (.iconst 0, 1) := by decide +kernel
theorem dX1_type_31 : decode cX1_type 31 = .ok (.istore 4, 2) := by decide +kernel
theorem dX1_type_33 : decode cX1_type 33 = .ok (.iload 4, 2) := by decide +kernel
theorem dX1_type_35 : decode cX1_type 35 = .ok (.iload_n 2, 1) := by decide +kernel
theorem dX1_type_36 : decode cX1_type 36 = .ok (.if_icmp .ge 43, 3) := by decide +kernel
theorem dX1_type_39 : decode cX1_type 39 = .ok (.iload_n 3, 1) := by decide +kernel
theorem dX1_type_40 : decode cX1_type 40 = .ok (.ifCond .eq 39, 3) := by decide +kernel
theorem dX1_type_43 : decode cX1_type 43 = .ok (.aload_n 0, 1) := by decide +kernel
theorem dX1_type_44 : decode cX1_type 44 = .ok (.aload_n 0, 1) := by decide +kernel
theorem dX1_type_45 : decode cX1_type 45 = .ok (.getfield 22, 3) := by decide +kernel
theorem dX1_type_48 : decode cX1_type 48 = .ok (.iload 4, 2) := by decide +kernel
theorem dX1_type_50 : decode cX1_type 50 = .ok (.iaload, 1) := by decide +kernel
theorem dX1_type_51 : decode cX1_type 51 = .ok (.invokevirtual 68, 3) := by decide +kernel
theorem dX1_type_54 : decode cX1_type 54 = .ok (.ifCond .eq 17, 3) := by decide +kernel
theorem dX1_type_57 : decode cX1_type 57 = .ok (.aload_n 0, 1) := by decide +kernel
theorem dX1_type_58 : decode cX1_type 58 = .ok (.getfield 22, 3) := by decide +kernel
theorem dX1_type_61 : decode cX1_type 61 = .ok (.iload 4, 2) := by decide +kernel
theorem dX1_type_63 : decode cX1_type 63 = .ok (.iaload, 1) := by decide +kernel
theorem dX1_type_64 : decode cX1_type 64 = .ok (.ifCond .eq 7, 3) := by decide +kernel
theorem dX1_type_67 : decode cX1_type 67 = .ok (.iconst 1, 1) := by decide +kernel
theorem dX1_type_68 : decode cX1_type 68 = .ok (.goto 4, 3) := by decide +kernel
theorem dX1_type_71 : decode cX1_type 71 = .ok (.iconst 0, 1) := by decide +kernel
theorem dX1_type_72 : decode cX1_type 72 = .ok (.istore_n 3, 1) := by decide +kernel
theorem dX1_type_73 : decode cX1_type 73 = .ok (.iinc 4 1, 3) := by decide +kernel
theorem dX1_type_76 : decode cX1_type 76 = .ok (.goto (-43), 3) := by decide +kernel
theorem dX1_type_79 : decode cX1_type 79 = .ok (.iload_n 3, 1) := by decide +kernel
theorem dX1_type_80 : decode cX1_type 80 = .ok (.ifCond .ne 5, 3) := by decide +kernel
theorem dX1_type_83 : decode cX1_type 83 = .ok (.iconst (-1), 1) := by decide +kernel
theorem dX1_type_84 : decode cX1_type 84 = .ok (.ireturn, 1) := by decide +kernel
theorem dX1_type_85 : decode cX1_type 85 = .ok (.aload_n 0, 1) := by decide +kernel
theorem dX1_type_86 : decode cX1_type 86 = .ok (.iload_n 1, 1) := by decide +kernel
theorem dX1_type_87 : decode cX1_type 87 = .ok (.putfield 57, 3) := by decide +kernel
theorem dX1_type_90 : decode cX1_type 90 = .ok (.aload_n 0, 1) := by decide +kernel
theorem dX1_type_91 : decode cX1_type 91 = .ok (.iload_n 2, 1) := by decide +kernel
theorem dX1_type_92 : decode cX1_type 92 = .ok (.putfield 54, 3) := by decide +kernel
theorem dX1_type_95 : decode cX1_type 95 = .ok (.iconst 0, 1) := by decide +kernel
theorem dX1_type_96 : decode cX1_type 96 = .ok (.istore 4, 2) := by decide +kernel
theorem dX1_type_98 : decode cX1_type 98 = .ok (.iload 4, 2) := by decide +kernel
theorem dX1_type_100 : decode cX1_type 100 = .ok (.iload_n 2, 1) := by decide +kernel
theorem dX1_type_101 : decode cX1_type 101 = .ok (.if_icmp .ge 23, 3) := by decide +kernel
theorem dX1_type_104 : decode cX1_type 104 = .ok (.aload_n 0, 1) := by decide +kernel
theorem dX1_type_105 : decode cX1_type 105 = .ok (.getfield 25, 3) := by decide +kernel
theorem dX1_type_108 : decode cX1_type 108 = .ok (.iload 4, 2) := by decide +kernel
theorem dX1_type_110 : decode cX1_type 110 = .ok (.aload_n 0, 1) := by decide +kernel
theorem dX1_type_111 : decode cX1_type 111 = .ok (.getfield 22, 3) := by decide +kernel
theorem dX1_type_114 : decode cX1_type 114 = .ok (.iload 4, 2) := by decide +kernel
theorem dX1_type_116 : decode cX1_type 116 = .ok (.iaload, 1) := by decide +kernel
theorem dX1_type_117 : decode cX1_type 117 = .ok (.iastore, 1) := by decide +kernel
theorem dX1_type_118 : decode cX1_type 118 = .ok (.iinc 4 1, 3) := by decide +kernel
theorem dX1_type_121 : decode cX1_type 121 = .ok (.goto (-23), 3) := by decide +kernel
theorem dX1_type_124 : decode cX1_type 124 = .ok (.aload_n 0, 1) := by decide +kernel
theorem dX1_type_125 : decode cX1_type 125 = .ok (.invokevirtual 99, 3) := by decide +kernel
theorem dX1_type_128 : decode cX1_type 128 = .ok (.ireturn, 1) := by decide +kernel
abbrev cX1_typeAbout : ByteArray := prog_3_method_26_code
def yX1_typeAbout : MethodName := ⟨RX1, "typeAbout", "(II)I"⟩
theorem dX1_typeAbout_0 : decode cX1_typeAbout 0 = .ok (.aload_n 0, 1) := by decide +kernel
theorem dX1_typeAbout_1 : decode cX1_typeAbout 1 = .ok (.iload_n 1, 1) := by decide +kernel
theorem dX1_typeAbout_2 : decode cX1_typeAbout 2 = .ok (.invokevirtual 103, 3) := by decide +kernel
theorem dX1_typeAbout_5 : decode cX1_typeAbout 5 = .ok (.ifCond .ne 5, 3) := by decide +kernel
theorem dX1_typeAbout_8 : decode cX1_typeAbout 8 = .ok (.iconst (-1), 1) := by decide +kernel
theorem dX1_typeAbout_9 : decode cX1_typeAbout 9 = .ok (.ireturn, 1) := by decide +kernel
theorem dX1_typeAbout_10 : decode cX1_typeAbout 10 = .ok (.iload_n 2, 1) := by decide +kernel
theorem dX1_typeAbout_11 : decode cX1_typeAbout 11 = .ok (.iconst (-1), 1) := by decide +kernel
theorem dX1_typeAbout_12 : decode cX1_typeAbout 12 = .ok (.if_icmp .ne 10, 3) := by decide +kernel
theorem dX1_typeAbout_15 : decode cX1_typeAbout 15 = .ok (.aload_n 0, 1) := by decide +kernel
theorem dX1_typeAbout_16 : decode cX1_typeAbout 16 = .ok (.getfield 13, 3) := by decide +kernel
theorem dX1_typeAbout_19 : decode cX1_typeAbout 19 = .ok (.iload_n 1, 1) := by decide +kernel
theorem dX1_typeAbout_20 : decode cX1_typeAbout 20 = .ok (.iaload, 1) := by decide +kernel
theorem dX1_typeAbout_21 : decode cX1_typeAbout 21 = .ok (.ireturn, 1) := by decide +kernel
theorem dX1_typeAbout_22 : decode cX1_typeAbout 22 = .ok (.iload_n 2, 1) := by decide +kernel
theorem dX1_typeAbout_23 : decode cX1_typeAbout 23 = .ok (.bipush (-2), 2) := by decide +kernel
theorem dX1_typeAbout_25 : decode cX1_typeAbout 25 = .ok (.if_icmp .ne 10, 3) := by decide +kernel
theorem dX1_typeAbout_28 : decode cX1_typeAbout 28 = .ok (.aload_n 0, 1) := by decide +kernel
theorem dX1_typeAbout_29 : decode cX1_typeAbout 29 = .ok (.getfield 16, 3) := by decide +kernel
theorem dX1_typeAbout_32 : decode cX1_typeAbout 32 = .ok (.iload_n 1, 1) := by decide +kernel
theorem dX1_typeAbout_33 : decode cX1_typeAbout 33 = .ok (.iaload, 1) := by decide +kernel
theorem dX1_typeAbout_34 : decode cX1_typeAbout 34 = .ok (.ireturn, 1) := by decide +kernel
theorem dX1_typeAbout_35 : decode cX1_typeAbout 35 = .ok (.iload_n 2, 1) := by decide +kernel
theorem dX1_typeAbout_36 : decode cX1_typeAbout 36 = .ok (.ifCond .lt 27, 3) := by decide +kernel
theorem dX1_typeAbout_39 : decode cX1_typeAbout 39 = .ok (.iload_n 2, 1) := by decide +kernel
theorem dX1_typeAbout_40 : decode cX1_typeAbout 40 = .ok (.aload_n 0, 1) := by decide +kernel
theorem dX1_typeAbout_41 : decode cX1_typeAbout 41 = .ok (.getfield 16, 3) := by decide +kernel
theorem dX1_typeAbout_44 : decode cX1_typeAbout 44 = .ok (.iload_n 1, 1) := by decide +kernel
theorem dX1_typeAbout_45 : decode cX1_typeAbout 45 = .ok (.iaload, 1) := by decide +kernel
theorem dX1_typeAbout_46 : decode cX1_typeAbout 46 = .ok (.if_icmp .ge 17, 3) := by decide +kernel
theorem dX1_typeAbout_49 : decode cX1_typeAbout 49 = .ok (.aload_n 0, 1) := by decide +kernel
theorem dX1_typeAbout_50 : decode cX1_typeAbout 50 = .ok (.getfield 19, 3) := by decide +kernel
theorem dX1_typeAbout_53 : decode cX1_typeAbout 53 = .ok (.bipush 10, 2) := by decide +kernel
theorem dX1_typeAbout_55 : decode cX1_typeAbout 55 = .ok (.iload_n 1, 1) := by decide +kernel
theorem dX1_typeAbout_56 : decode cX1_typeAbout 56 = .ok (.imul, 1) := by decide +kernel
theorem dX1_typeAbout_57 : decode cX1_typeAbout 57 = .ok (.iload_n 2, 1) := by decide +kernel
theorem dX1_typeAbout_58 : decode cX1_typeAbout 58 = .ok (.iadd, 1) := by decide +kernel
theorem dX1_typeAbout_59 : decode cX1_typeAbout 59 = .ok (.iaload, 1) := by decide +kernel
theorem dX1_typeAbout_60 : decode cX1_typeAbout 60 = .ok (.goto 4, 3) := by decide +kernel
theorem dX1_typeAbout_63 : decode cX1_typeAbout 63 = .ok (.iconst (-1), 1) := by decide +kernel
theorem dX1_typeAbout_64 : decode cX1_typeAbout 64 = .ok (.ireturn, 1) := by decide +kernel
abbrev cX1_mayBe : ByteArray := prog_3_method_27_code
def yX1_mayBe : MethodName := ⟨RX1, "mayBe", "(IIZ)Z"⟩
theorem dX1_mayBe_0 : decode cX1_mayBe 0 = .ok (.aload_n 0, 1) := by decide +kernel
theorem dX1_mayBe_1 : decode cX1_mayBe 1 = .ok (.iload_n 1, 1) := by decide +kernel
theorem dX1_mayBe_2 : decode cX1_mayBe 2 = .ok (.invokevirtual 103, 3) := by decide +kernel
theorem dX1_mayBe_5 : decode cX1_mayBe 5 = .ok (.ifCond .eq 26, 3) := by decide +kernel
theorem dX1_mayBe_8 : decode cX1_mayBe 8 = .ok (.aload_n 0, 1) := by decide +kernel
theorem dX1_mayBe_9 : decode cX1_mayBe 9 = .ok (.iload_n 2, 1) := by decide +kernel
theorem dX1_mayBe_10 : decode cX1_mayBe 10 = .ok (.invokevirtual 103, 3) := by decide +kernel
theorem dX1_mayBe_13 : decode cX1_mayBe 13 = .ok (.ifCond .eq 18, 3) := by decide +kernel
theorem dX1_mayBe_16 : decode cX1_mayBe 16 = .ok (.aload_n 0, 1) := by decide +kernel
theorem dX1_mayBe_17 : decode cX1_mayBe 17 = .ok (.getfield 16, 3) := by decide +kernel
theorem dX1_mayBe_20 : decode cX1_mayBe 20 = .ok (.iload_n 1, 1) := by decide +kernel
theorem dX1_mayBe_21 : decode cX1_mayBe 21 = .ok (.iaload, 1) := by decide +kernel
theorem dX1_mayBe_22 : decode cX1_mayBe 22 = .ok (.aload_n 0, 1) := by decide +kernel
theorem dX1_mayBe_23 : decode cX1_mayBe 23 = .ok (.getfield 16, 3) := by decide +kernel
theorem dX1_mayBe_26 : decode cX1_mayBe 26 = .ok (.iload_n 2, 1) := by decide +kernel
theorem dX1_mayBe_27 : decode cX1_mayBe 27 = .ok (.iaload, 1) := by decide +kernel
theorem dX1_mayBe_28 : decode cX1_mayBe 28 = .ok (.if_icmp .eq 5, 3) := by decide +kernel
theorem dX1_mayBe_31 : decode cX1_mayBe 31 = .ok (.iconst 0, 1) := by decide +kernel
theorem dX1_mayBe_32 : decode cX1_mayBe 32 = .ok (.ireturn, 1) := by decide +kernel
theorem dX1_mayBe_33 : decode cX1_mayBe 33 = .ok (.iconst 0, 1) := by decide +kernel
theorem dX1_mayBe_34 : decode cX1_mayBe 34 = .ok (.istore 4, 2) := by decide +kernel
theorem dX1_mayBe_36 : decode cX1_mayBe 36 = .ok (.iload 4, 2) := by decide +kernel
theorem dX1_mayBe_38 : decode cX1_mayBe 38 = .ok (.aload_n 0, 1) := by decide +kernel
theorem dX1_mayBe_39 : decode cX1_mayBe 39 = .ok (.getfield 16, 3) := by decide +kernel
theorem dX1_mayBe_42 : decode cX1_mayBe 42 = .ok (.iload_n 1, 1) := by decide +kernel
theorem dX1_mayBe_43 : decode cX1_mayBe 43 = .ok (.iaload, 1) := by decide +kernel
theorem dX1_mayBe_44 : decode cX1_mayBe 44 = .ok (.if_icmp .ge 44, 3) := by decide +kernel
theorem dX1_mayBe_47 : decode cX1_mayBe 47 = .ok (.aload_n 0, 1) := by decide +kernel
theorem dX1_mayBe_48 : decode cX1_mayBe 48 = .ok (.aload_n 0, 1) := by decide +kernel
theorem dX1_mayBe_49 : decode cX1_mayBe 49 = .ok (.getfield 19, 3) := by decide +kernel
theorem dX1_mayBe_52 : decode cX1_mayBe 52 = .ok (.bipush 10, 2) := by decide +kernel
theorem dX1_mayBe_54 : decode cX1_mayBe 54 = .ok (.iload_n 2, 1) := by decide +kernel
theorem dX1_mayBe_55 : decode cX1_mayBe 55 = .ok (.imul, 1) := by decide +kernel
theorem dX1_mayBe_56 : decode cX1_mayBe 56 = .ok (.iload 4, 2) := by decide +kernel
theorem dX1_mayBe_58 : decode cX1_mayBe 58 = .ok (.iadd, 1) := by decide +kernel
theorem dX1_mayBe_59 : decode cX1_mayBe 59 = .ok (.iaload, 1) := by decide +kernel
theorem dX1_mayBe_60 : decode cX1_mayBe 60 = .ok (.aload_n 0, 1) := by decide +kernel
theorem dX1_mayBe_61 : decode cX1_mayBe 61 = .ok (.getfield 19, 3) := by decide +kernel
theorem dX1_mayBe_64 : decode cX1_mayBe 64 = .ok (.bipush 10, 2) := by decide +kernel
theorem dX1_mayBe_66 : decode cX1_mayBe 66 = .ok (.iload_n 1, 1) := by decide +kernel
theorem dX1_mayBe_67 : decode cX1_mayBe 67 = .ok (.imul, 1) := by decide +kernel
theorem dX1_mayBe_68 : decode cX1_mayBe 68 = .ok (.iload 4, 2) := by decide +kernel
theorem dX1_mayBe_70 : decode cX1_mayBe 70 = .ok (.iadd, 1) := by decide +kernel
theorem dX1_mayBe_71 : decode cX1_mayBe 71 = .ok (.iaload, 1) := by decide +kernel
theorem dX1_mayBe_72 : decode cX1_mayBe 72 = .ok (.iload_n 3, 1) := by decide +kernel
theorem dX1_mayBe_73 : decode cX1_mayBe 73 = .ok (.iconst 0, 1) := by decide +kernel
theorem dX1_mayBe_74 : decode cX1_mayBe 74 = .ok (.invokevirtual 71, 3) := by decide +kernel
theorem dX1_mayBe_77 : decode cX1_mayBe 77 = .ok (.ifCond .ne 5, 3) := by decide +kernel
theorem dX1_mayBe_80 : decode cX1_mayBe 80 = .ok (.iconst 0, 1) := by decide +kernel
theorem dX1_mayBe_81 : decode cX1_mayBe 81 = .ok (.ireturn, 1) := by decide +kernel
theorem dX1_mayBe_82 : decode cX1_mayBe 82 = .ok (.iinc 4 1, 3) := by decide +kernel
theorem dX1_mayBe_85 : decode cX1_mayBe 85 = .ok (.goto (-49), 3) := by decide +kernel
theorem dX1_mayBe_88 : decode cX1_mayBe 88 = .ok (.aload_n 0, 1) := by decide +kernel
theorem dX1_mayBe_89 : decode cX1_mayBe 89 = .ok (.aload_n 0, 1) := by decide +kernel
theorem dX1_mayBe_90 : decode cX1_mayBe 90 = .ok (.getfield 13, 3) := by decide +kernel
theorem dX1_mayBe_93 : decode cX1_mayBe 93 = .ok (.iload_n 1, 1) := by decide +kernel
theorem dX1_mayBe_94 : decode cX1_mayBe 94 = .ok (.iaload, 1) := by decide +kernel
theorem dX1_mayBe_95 : decode cX1_mayBe 95 = .ok (.aload_n 0, 1) := by decide +kernel
theorem dX1_mayBe_96 : decode cX1_mayBe 96 = .ok (.getfield 13, 3) := by decide +kernel
theorem dX1_mayBe_99 : decode cX1_mayBe 99 = .ok (.iload_n 2, 1) := by decide +kernel
theorem dX1_mayBe_100 : decode cX1_mayBe 100 = .ok (.iaload, 1) := by decide +kernel
theorem dX1_mayBe_101 : decode cX1_mayBe 101 = .ok (.iload_n 3, 1) := by decide +kernel
theorem dX1_mayBe_102 : decode cX1_mayBe 102 = .ok (.iconst 1, 1) := by decide +kernel
theorem dX1_mayBe_103 : decode cX1_mayBe 103 = .ok (.invokevirtual 71, 3) := by decide +kernel
theorem dX1_mayBe_106 : decode cX1_mayBe 106 = .ok (.ireturn, 1) := by decide +kernel
abbrev cX1_changed : ByteArray := prog_3_method_28_code
def yX1_changed : MethodName := ⟨RX1, "changed", "(IIII)I"⟩
theorem dX1_changed_0 : decode cX1_changed 0 = .ok (.aload_n 0, 1) := by decide +kernel
theorem dX1_changed_1 : decode cX1_changed 1 = .ok (.iload_n 1, 1) := by decide +kernel
theorem dX1_changed_2 : decode cX1_changed 2 = .ok (.invokevirtual 103, 3) := by decide +kernel
theorem dX1_changed_5 : decode cX1_changed 5 = .ok (.ifCond .eq 36, 3) := by decide +kernel
theorem dX1_changed_8 : decode cX1_changed 8 = .ok (.aload_n 0, 1) := by decide +kernel
theorem dX1_changed_9 : decode cX1_changed 9 = .ok (.iload 4, 2) := by decide +kernel
theorem dX1_changed_11 : decode cX1_changed 11 = .ok (.invokevirtual 103, 3) := by decide +kernel
theorem dX1_changed_14 : decode cX1_changed 14 = .ok (.ifCond .eq 27, 3) := by decide +kernel
theorem dX1_changed_17 : decode cX1_changed 17 = .ok (.iload_n 2, 1) := by decide +kernel
theorem dX1_changed_18 : decode cX1_changed 18 = .ok (.ifCond .lt 23, 3) := by decide +kernel
theorem dX1_changed_21 : decode cX1_changed 21 = .ok (.iload_n 3, 1) := by decide +kernel
theorem dX1_changed_22 : decode cX1_changed 22 = .ok (.ifCond .lt 19, 3) := by decide +kernel
theorem dX1_changed_25 : decode cX1_changed 25 = .ok (.iload_n 2, 1) := by decide +kernel
theorem dX1_changed_26 : decode cX1_changed 26 = .ok (.i2l, 1) := by decide +kernel
theorem dX1_changed_27 : decode cX1_changed 27 = .ok (.iload_n 3, 1) := by decide +kernel
theorem dX1_changed_28 : decode cX1_changed 28 = .ok (.i2l, 1) := by decide +kernel
theorem dX1_changed_29 : decode cX1_changed 29 = .ok (.ladd, 1) := by decide +kernel
theorem dX1_changed_30 : decode cX1_changed 30 = .ok (.aload_n 0, 1) := by decide +kernel
theorem dX1_changed_31 : decode cX1_changed 31 = .ok (.getfield 16, 3) := by decide +kernel
theorem dX1_changed_34 : decode cX1_changed 34 = .ok (.iload_n 1, 1) := by decide +kernel
theorem dX1_changed_35 : decode cX1_changed 35 = .ok (.iaload, 1) := by decide +kernel
theorem dX1_changed_36 : decode cX1_changed 36 = .ok (.i2l, 1) := by decide +kernel
theorem dX1_changed_37 : decode cX1_changed 37 = .ok (.lcmp, 1) := by decide +kernel
theorem dX1_changed_38 : decode cX1_changed 38 = .ok (.ifCond .le 5, 3) := by decide +kernel
theorem dX1_changed_41 : decode cX1_changed 41 = .ok (.iconst (-1), 1) := by decide +kernel
theorem dX1_changed_42 : decode cX1_changed 42 = .ok (.ireturn, 1) := by decide +kernel
theorem dX1_changed_43 : decode cX1_changed 43 = .ok (.aload_n 0, 1) := by decide +kernel
theorem dX1_changed_44 : decode cX1_changed 44 = .ok (.aload_n 0, 1) := by decide +kernel
theorem dX1_changed_45 : decode cX1_changed 45 = .ok (.getfield 13, 3) := by decide +kernel
theorem dX1_changed_48 : decode cX1_changed 48 = .ok (.iload_n 1, 1) := by decide +kernel
theorem dX1_changed_49 : decode cX1_changed 49 = .ok (.iaload, 1) := by decide +kernel
theorem dX1_changed_50 : decode cX1_changed 50 = .ok (.putfield 57, 3) := by decide +kernel
theorem dX1_changed_53 : decode cX1_changed 53 = .ok (.aload_n 0, 1) := by decide +kernel
theorem dX1_changed_54 : decode cX1_changed 54 = .ok (.iconst 0, 1) := by decide +kernel
theorem dX1_changed_55 : decode cX1_changed 55 = .ok (.putfield 54, 3) := by decide +kernel
theorem dX1_changed_58 : decode cX1_changed 58 = .ok (.iconst 0, 1) := by decide +kernel
theorem dX1_changed_59 : decode cX1_changed 59 = .ok (.istore 5, 2) := by decide +kernel
theorem dX1_changed_61 : decode cX1_changed 61 = .ok (.iload 5, 2) := by decide +kernel
theorem dX1_changed_63 : decode cX1_changed 63 = .ok (.iload_n 2, 1) := by decide +kernel
theorem dX1_changed_64 : decode cX1_changed 64 = .ok (.if_icmp .ge 25, 3) := by decide +kernel
theorem dX1_changed_67 : decode cX1_changed 67 = .ok (.aload_n 0, 1) := by decide +kernel
theorem dX1_changed_68 : decode cX1_changed 68 = .ok (.aload_n 0, 1) := by decide +kernel
theorem dX1_changed_69 : decode cX1_changed 69 = .ok (.getfield 19, 3) := by decide +kernel
theorem dX1_changed_72 : decode cX1_changed 72 = .ok (.bipush 10, 2) := by decide +kernel
theorem dX1_changed_74 : decode cX1_changed 74 = .ok (.iload_n 1, 1) := by decide +kernel
theorem dX1_changed_75 : decode cX1_changed 75 = .ok (.imul, 1) := by decide +kernel
theorem dX1_changed_76 : decode cX1_changed 76 = .ok (.iload 5, 2) := by decide +kernel
theorem dX1_changed_78 : decode cX1_changed 78 = .ok (.iadd, 1) := by decide +kernel
theorem dX1_changed_79 : decode cX1_changed 79 = .ok (.iaload, 1) := by decide +kernel
theorem dX1_changed_80 : decode cX1_changed 80 = .ok (.invokevirtual 106, 3) := by decide +kernel
theorem dX1_changed_83 : decode cX1_changed 83 = .ok (.iinc 5 1, 3) := by decide +kernel
theorem dX1_changed_86 : decode cX1_changed 86 = .ok (.goto (-25), 3) := by decide +kernel
theorem dX1_changed_89 : decode cX1_changed 89 = .ok (.iconst 0, 1) := by decide +kernel
theorem dX1_changed_90 : decode cX1_changed 90 = .ok (.istore 5, 2) := by decide +kernel
theorem dX1_changed_92 : decode cX1_changed 92 = .ok (.iload 5, 2) := by decide +kernel
theorem dX1_changed_94 : decode cX1_changed 94 = .ok (.aload_n 0, 1) := by decide +kernel
theorem dX1_changed_95 : decode cX1_changed 95 = .ok (.getfield 16, 3) := by decide +kernel
theorem dX1_changed_98 : decode cX1_changed 98 = .ok (.iload 4, 2) := by decide +kernel
theorem dX1_changed_100 : decode cX1_changed 100 = .ok (.iaload, 1) := by decide +kernel
theorem dX1_changed_101 : decode cX1_changed 101 = .ok (.if_icmp .ge 26, 3) := by decide +kernel
theorem dX1_changed_104 : decode cX1_changed 104 = .ok (.aload_n 0, 1) := by decide +kernel
theorem dX1_changed_105 : decode cX1_changed 105 = .ok (.aload_n 0, 1) := by decide +kernel
theorem dX1_changed_106 : decode cX1_changed 106 = .ok (.getfield 19, 3) := by decide +kernel
theorem dX1_changed_109 : decode cX1_changed 109 = .ok (.bipush 10, 2) := by decide +kernel
theorem dX1_changed_111 : decode cX1_changed 111 = .ok (.iload 4, 2) := by decide +kernel
theorem dX1_changed_113 : decode cX1_changed 113 = .ok (.imul, 1) := by decide +kernel
theorem dX1_changed_114 : decode cX1_changed 114 = .ok (.iload 5, 2) := by decide +kernel
theorem dX1_changed_116 : decode cX1_changed 116 = .ok (.iadd, 1) := by decide +kernel
theorem dX1_changed_117 : decode cX1_changed 117 = .ok (.iaload, 1) := by decide +kernel
theorem dX1_changed_118 : decode cX1_changed 118 = .ok (.invokevirtual 106, 3) := by decide +kernel
theorem dX1_changed_121 : decode cX1_changed 121 = .ok (.iinc 5 1, 3) := by decide +kernel
theorem dX1_changed_124 : decode cX1_changed 124 = .ok (.goto (-32), 3) := by decide +kernel
theorem dX1_changed_127 : decode cX1_changed 127 = .ok (.iload_n 2, 1) := by decide +kernel
theorem dX1_changed_128 : decode cX1_changed 128 = .ok (.iload_n 3, 1) := by decide +kernel
theorem dX1_changed_129 : decode cX1_changed 129 = .ok (.iadd, 1) := by decide +kernel
theorem dX1_changed_130 : decode cX1_changed 130 = .ok (.istore 5, 2) := by decide +kernel
theorem dX1_changed_132 : decode cX1_changed 132 = .ok (.iload 5, 2) := by decide +kernel
theorem dX1_changed_134 : decode cX1_changed 134 = .ok (.aload_n 0, 1) := by decide +kernel
theorem dX1_changed_135 : decode cX1_changed 135 = .ok (.getfield 16, 3) := by decide +kernel
theorem dX1_changed_138 : decode cX1_changed 138 = .ok (.iload_n 1, 1) := by decide +kernel
theorem dX1_changed_139 : decode cX1_changed 139 = .ok (.iaload, 1) := by decide +kernel
theorem dX1_changed_140 : decode cX1_changed 140 = .ok (.if_icmp .ge 25, 3) := by decide +kernel
theorem dX1_changed_143 : decode cX1_changed 143 = .ok (.aload_n 0, 1) := by decide +kernel
theorem dX1_changed_144 : decode cX1_changed 144 = .ok (.aload_n 0, 1) := by decide +kernel
theorem dX1_changed_145 : decode cX1_changed 145 = .ok (.getfield 19, 3) := by decide +kernel
theorem dX1_changed_148 : decode cX1_changed 148 = .ok (.bipush 10, 2) := by decide +kernel
theorem dX1_changed_150 : decode cX1_changed 150 = .ok (.iload_n 1, 1) := by decide +kernel
theorem dX1_changed_151 : decode cX1_changed 151 = .ok (.imul, 1) := by decide +kernel
theorem dX1_changed_152 : decode cX1_changed 152 = .ok (.iload 5, 2) := by decide +kernel
theorem dX1_changed_154 : decode cX1_changed 154 = .ok (.iadd, 1) := by decide +kernel
theorem dX1_changed_155 : decode cX1_changed 155 = .ok (.iaload, 1) := by decide +kernel
theorem dX1_changed_156 : decode cX1_changed 156 = .ok (.invokevirtual 106, 3) := by decide +kernel
theorem dX1_changed_159 : decode cX1_changed 159 = .ok (.iinc 5 1, 3) := by decide +kernel
theorem dX1_changed_162 : decode cX1_changed 162 = .ok (.goto (-30), 3) := by decide +kernel
theorem dX1_changed_165 : decode cX1_changed 165 = .ok (.aload_n 0, 1) := by decide +kernel
theorem dX1_changed_166 : decode cX1_changed 166 = .ok (.invokevirtual 99, 3) := by decide +kernel
theorem dX1_changed_169 : decode cX1_changed 169 = .ok (.ireturn, 1) := by decide +kernel
abbrev cX1_add : ByteArray := prog_3_method_29_code
def yX1_add : MethodName := ⟨RX1, "add", "(I)V"⟩
theorem dX1_add_0 : decode cX1_add 0 = .ok (.aload_n 0, 1) := by decide +kernel
theorem dX1_add_1 : decode cX1_add 1 = .ok (.getfield 25, 3) := by decide +kernel
theorem dX1_add_4 : decode cX1_add 4 = .ok (.aload_n 0, 1) := by decide +kernel
theorem dX1_add_5 : decode cX1_add 5 = .ok (.getfield 54, 3) := by decide +kernel
theorem dX1_add_8 : decode cX1_add 8 = .ok (.iload_n 1, 1) := by decide +kernel
theorem dX1_add_9 : decode cX1_add 9 = .ok (.iastore, 1) := by decide +kernel
theorem dX1_add_10 : decode cX1_add 10 = .ok (.aload_n 0, 1) := by decide +kernel
theorem dX1_add_11 : decode cX1_add 11 = .ok (.dup, 1) := by decide +kernel
theorem dX1_add_12 : decode cX1_add 12 = .ok (.getfield 54, 3) := by decide +kernel
theorem dX1_add_15 : decode cX1_add 15 = .ok (.iconst 1, 1) := by decide +kernel
theorem dX1_add_16 : decode cX1_add 16 = .ok (.iadd, 1) := by decide +kernel
theorem dX1_add_17 : decode cX1_add 17 = .ok (.putfield 54, 3) := by decide +kernel
theorem dX1_add_20 : decode cX1_add 20 = .ok (.return_, 1) := by decide +kernel
