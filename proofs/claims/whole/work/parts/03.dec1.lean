theorem dX6_hangingEntry_64 : decode cX6_hangingEntry 64 = .ok (.aload 6, 2) := by decide +kernel
theorem dX6_hangingEntry_66 : decode cX6_hangingEntry 66 = .ok (.getfield 91, 3) := by decide +kernel
theorem dX6_hangingEntry_69 : decode cX6_hangingEntry 69 = .ok (.istore 7, 2) := by decide +kernel
theorem dX6_hangingEntry_71 : decode cX6_hangingEntry 71 = .ok (.aload 6, 2) := by decide +kernel
theorem dX6_hangingEntry_73 : decode cX6_hangingEntry 73 = .ok (.iconst (-1), 1) := by decide +kernel
theorem dX6_hangingEntry_74 : decode cX6_hangingEntry 74 = .ok (.putfield 91, 3) := by decide +kernel
theorem dX6_hangingEntry_77 : decode cX6_hangingEntry 77 = .ok (.aload_n 0, 1) := by decide +kernel
theorem dX6_hangingEntry_78 : decode cX6_hangingEntry 78 = .ok (.getfield 15, 3) := by decide +kernel
theorem dX6_hangingEntry_81 : decode cX6_hangingEntry 81 = .ok (.aload_n 1, 1) := by decide +kernel
theorem dX6_hangingEntry_82 : decode cX6_hangingEntry 82 = .ok (.iload_n 2, 1) := by decide +kernel
theorem dX6_hangingEntry_83 : decode cX6_hangingEntry 83 = .ok (.invokevirtual 76, 3) := by decide +kernel
theorem dX6_hangingEntry_86 : decode cX6_hangingEntry 86 = .ok (.aload_n 0, 1) := by decide +kernel
theorem dX6_hangingEntry_87 : decode cX6_hangingEntry 87 = .ok (.iload_n 3, 1) := by decide +kernel
theorem dX6_hangingEntry_88 : decode cX6_hangingEntry 88 = .ok (.invokevirtual 80, 3) := by decide +kernel
theorem dX6_hangingEntry_91 : decode cX6_hangingEntry 91 = .ok (.aload 6, 2) := by decide +kernel
theorem dX6_hangingEntry_93 : decode cX6_hangingEntry 93 = .ok (.iload 7, 2) := by decide +kernel
theorem dX6_hangingEntry_95 : decode cX6_hangingEntry 95 = .ok (.putfield 91, 3) := by decide +kernel
theorem dX6_hangingEntry_98 : decode cX6_hangingEntry 98 = .ok (.aload_n 0, 1) := by decide +kernel
theorem dX6_hangingEntry_99 : decode cX6_hangingEntry 99 = .ok (.getfield 23, 3) := by decide +kernel
theorem dX6_hangingEntry_102 : decode cX6_hangingEntry 102 = .ok (.iload 4, 2) := by decide +kernel
theorem dX6_hangingEntry_104 : decode cX6_hangingEntry 104 = .ok (.if_icmp .eq 6, 3) := by decide +kernel
theorem dX6_hangingEntry_107 : decode cX6_hangingEntry 107 = .ok (.iload 5, 2) := by decide +kernel
theorem dX6_hangingEntry_109 : decode cX6_hangingEntry 109 = .ok (.ireturn, 1) := by decide +kernel
theorem dX6_hangingEntry_110 : decode cX6_hangingEntry 110 = .ok (.iinc 5 1, 3) := by decide +kernel
theorem dX6_hangingEntry_113 : decode cX6_hangingEntry 113 = .ok (.goto (-90), 3) := by decide +kernel
theorem dX6_hangingEntry_116 : decode cX6_hangingEntry 116 = .ok (.iconst (-1), 1) := by decide +kernel
theorem dX6_hangingEntry_117 : decode cX6_hangingEntry 117 = .ok (.ireturn, 1) := by decide +kernel
theorem dX6_hangingKnowing_0 : decode cX6_hangingKnowing 0 = .ok (.aload_n 0, 1) := by decide +kernel
theorem dX6_hangingKnowing_1 : decode cX6_hangingKnowing 1 = .ok (.getfield 15, 3) := by decide +kernel
theorem dX6_hangingKnowing_4 : decode cX6_hangingKnowing 4 = .ok (.aload_n 1, 1) := by decide +kernel
theorem dX6_hangingKnowing_5 : decode cX6_hangingKnowing 5 = .ok (.iload_n 2, 1) := by decide +kernel
theorem dX6_hangingKnowing_6 : decode cX6_hangingKnowing 6 = .ok (.invokevirtual 76, 3) := by decide +kernel
theorem dX6_hangingKnowing_9 : decode cX6_hangingKnowing 9 = .ok (.aload_n 0, 1) := by decide +kernel
theorem dX6_hangingKnowing_10 : decode cX6_hangingKnowing 10 = .ok (.iload_n 3, 1) := by decide +kernel
theorem dX6_hangingKnowing_11 : decode cX6_hangingKnowing 11 = .ok (.invokevirtual 80, 3) := by decide +kernel
theorem dX6_hangingKnowing_14 : decode cX6_hangingKnowing 14 = .ok (.aload_n 0, 1) := by decide +kernel
theorem dX6_hangingKnowing_15 : decode cX6_hangingKnowing 15 = .ok (.getfield 23, 3) := by decide +kernel
theorem dX6_hangingKnowing_18 : decode cX6_hangingKnowing 18 = .ok (.istore 4, 2) := by decide +kernel
theorem dX6_hangingKnowing_20 : decode cX6_hangingKnowing 20 = .ok (.iconst 0, 1) := by decide +kernel
theorem dX6_hangingKnowing_21 : decode cX6_hangingKnowing 21 = .ok (.istore 5, 2) := by decide +kernel
theorem dX6_hangingKnowing_23 : decode cX6_hangingKnowing 23 = .ok (.iload 5, 2) := by decide +kernel
theorem dX6_hangingKnowing_25 : decode cX6_hangingKnowing 25 = .ok (.aload_n 0, 1) := by decide +kernel
theorem dX6_hangingKnowing_26 : decode cX6_hangingKnowing 26 = .ok (.getfield 9, 3) := by decide +kernel
theorem dX6_hangingKnowing_29 : decode cX6_hangingKnowing 29 = .ok (.getfield 63, 3) := by decide +kernel
theorem dX6_hangingKnowing_32 : decode cX6_hangingKnowing 32 = .ok (.if_icmp .ge 88, 3) := by decide +kernel
theorem dX6_hangingKnowing_35 : decode cX6_hangingKnowing 35 = .ok (.iconst 0, 1) := by decide +kernel
theorem dX6_hangingKnowing_36 : decode cX6_hangingKnowing 36 = .ok (.istore 6, 2) := by decide +kernel
theorem dX6_hangingKnowing_38 : decode cX6_hangingKnowing 38 = .ok (.iload 6, 2) := by decide +kernel
theorem dX6_hangingKnowing_40 : decode cX6_hangingKnowing 40 = .ok (.aload_n 0, 1) := by decide +kernel
theorem dX6_hangingKnowing_41 : decode cX6_hangingKnowing 41 = .ok (.getfield 9, 3) := by decide +kernel
theorem dX6_hangingKnowing_44 : decode cX6_hangingKnowing 44 = .ok (.getfield 63, 3) := by decide +kernel
theorem dX6_hangingKnowing_47 : decode cX6_hangingKnowing 47 = .ok (.if_icmp .ge 67, 3) := by decide +kernel
theorem dX6_hangingKnowing_50 : decode cX6_hangingKnowing 50 = .ok (.aload_n 0, 1) := by decide +kernel
theorem dX6_hangingKnowing_51 : decode cX6_hangingKnowing 51 = .ok (.getfield 9, 3) := by decide +kernel
theorem dX6_hangingKnowing_54 : decode cX6_hangingKnowing 54 = .ok (.getfield 48, 3) := by decide +kernel
theorem dX6_hangingKnowing_57 : decode cX6_hangingKnowing 57 = .ok (.iload 5, 2) := by decide +kernel
theorem dX6_hangingKnowing_59 : decode cX6_hangingKnowing 59 = .ok (.aaload, 1) := by decide +kernel
theorem dX6_hangingKnowing_60 : decode cX6_hangingKnowing 60 = .ok (.getfield 84, 3) := by decide +kernel
theorem dX6_hangingKnowing_63 : decode cX6_hangingKnowing 63 = .ok (.iload_n 2, 1) := by decide +kernel
theorem dX6_hangingKnowing_64 : decode cX6_hangingKnowing 64 = .ok (.if_icmp .ne 44, 3) := by decide +kernel
theorem dX6_hangingKnowing_67 : decode cX6_hangingKnowing 67 = .ok (.aload_n 0, 1) := by decide +kernel
theorem dX6_hangingKnowing_68 : decode cX6_hangingKnowing 68 = .ok (.getfield 15, 3) := by decide +kernel
theorem dX6_hangingKnowing_71 : decode cX6_hangingKnowing 71 = .ok (.getfield 94, 3) := by decide +kernel
theorem dX6_hangingKnowing_74 : decode cX6_hangingKnowing 74 = .ok (.iload 5, 2) := by decide +kernel
theorem dX6_hangingKnowing_76 : decode cX6_hangingKnowing 76 = .ok (.iaload, 1) := by decide +kernel
theorem dX6_hangingKnowing_77 : decode cX6_hangingKnowing 77 = .ok (.iload 6, 2) := by decide +kernel
theorem dX6_hangingKnowing_79 : decode cX6_hangingKnowing 79 = .ok (.invokestatic 69, 3) := by decide +kernel
theorem dX6_hangingKnowing_82 : decode cX6_hangingKnowing 82 = .ok (.ifCond .eq 26, 3) := by decide +kernel
theorem dX6_hangingKnowing_85 : decode cX6_hangingKnowing 85 = .ok (.aload_n 0, 1) := by decide +kernel
theorem dX6_hangingKnowing_86 : decode cX6_hangingKnowing 86 = .ok (.iload 5, 2) := by decide +kernel
theorem dX6_hangingKnowing_88 : decode cX6_hangingKnowing 88 = .ok (.iload 6, 2) := by decide +kernel
theorem dX6_hangingKnowing_90 : decode cX6_hangingKnowing 90 = .ok (.iload_n 3, 1) := by decide +kernel
theorem dX6_hangingKnowing_91 : decode cX6_hangingKnowing 91 = .ok (.invokevirtual 97, 3) := by decide +kernel
theorem dX6_hangingKnowing_94 : decode cX6_hangingKnowing 94 = .ok (.iload 4, 2) := by decide +kernel
theorem dX6_hangingKnowing_96 : decode cX6_hangingKnowing 96 = .ok (.if_icmp .eq 12, 3) := by decide +kernel
theorem dX6_hangingKnowing_99 : decode cX6_hangingKnowing 99 = .ok (.iload 5, 2) := by decide +kernel
theorem dX6_hangingKnowing_101 : decode cX6_hangingKnowing 101 = .ok (.bipush 16, 2) := by decide +kernel
theorem dX6_hangingKnowing_103 : decode cX6_hangingKnowing 103 = .ok (.imul, 1) := by decide +kernel
theorem dX6_hangingKnowing_104 : decode cX6_hangingKnowing 104 = .ok (.iload 6, 2) := by decide +kernel
theorem dX6_hangingKnowing_106 : decode cX6_hangingKnowing 106 = .ok (.iadd, 1) := by decide +kernel
theorem dX6_hangingKnowing_107 : decode cX6_hangingKnowing 107 = .ok (.ireturn, 1) := by decide +kernel
theorem dX6_hangingKnowing_108 : decode cX6_hangingKnowing 108 = .ok (.iinc 6 1, 3) := by decide +kernel
theorem dX6_hangingKnowing_111 : decode cX6_hangingKnowing 111 = .ok (.goto (-73), 3) := by decide +kernel
theorem dX6_hangingKnowing_114 : decode cX6_hangingKnowing 114 = .ok (.iinc 5 1, 3) := by decide +kernel
theorem dX6_hangingKnowing_117 : decode cX6_hangingKnowing 117 = .ok (.goto (-94), 3) := by decide +kernel
theorem dX6_hangingKnowing_120 : decode cX6_hangingKnowing 120 = .ok (.iconst (-1), 1) := by decide +kernel
theorem dX6_hangingKnowing_121 : decode cX6_hangingKnowing 121 = .ok (.ireturn, 1) := by decide +kernel
theorem dX6_ownerOtherwiseKnowing_0 : decode cX6_ownerOtherwiseKnowing 0 = .ok (.aload_n 0, 1) := by decide +kernel
theorem dX6_ownerOtherwiseKnowing_1 : decode cX6_ownerOtherwiseKnowing 1 = .ok (.getfield 9, 3) := by decide +kernel
theorem dX6_ownerOtherwiseKnowing_4 : decode cX6_ownerOtherwiseKnowing 4 = .ok (.getfield 48, 3) := by decide +kernel
theorem dX6_ownerOtherwiseKnowing_7 : decode cX6_ownerOtherwiseKnowing 7 = .ok (.iload_n 1, 1) := by decide +kernel
theorem dX6_ownerOtherwiseKnowing_8 : decode cX6_ownerOtherwiseKnowing 8 = .ok (.aaload, 1) := by decide +kernel
theorem dX6_ownerOtherwiseKnowing_9 : decode cX6_ownerOtherwiseKnowing 9 = .ok (.astore 4, 2) := by decide +kernel
theorem dX6_ownerOtherwiseKnowing_11 : decode cX6_ownerOtherwiseKnowing 11 = .ok (.aload 4, 2) := by decide +kernel
theorem dX6_ownerOtherwiseKnowing_13 : decode cX6_ownerOtherwiseKnowing 13 = .ok (.getfield 101, 3) := by decide +kernel
theorem dX6_ownerOtherwiseKnowing_16 : decode cX6_ownerOtherwiseKnowing 16 = .ok (.istore 5, 2) := by decide +kernel
theorem dX6_ownerOtherwiseKnowing_18 : decode cX6_ownerOtherwiseKnowing 18 = .ok (.aload 4, 2) := by decide +kernel
theorem dX6_ownerOtherwiseKnowing_20 : decode cX6_ownerOtherwiseKnowing 20 = .ok (.iload 5, 2) := by decide +kernel
theorem dX6_ownerOtherwiseKnowing_22 : decode cX6_ownerOtherwiseKnowing 22 = .ok (.iload_n 2, 1) := by decide +kernel
theorem dX6_ownerOtherwiseKnowing_23 : decode cX6_ownerOtherwiseKnowing 23 = .ok (.invokestatic 27, 3) := by decide +kernel
theorem dX6_ownerOtherwiseKnowing_26 : decode cX6_ownerOtherwiseKnowing 26 = .ok (.ixor, 1) := by decide +kernel
theorem dX6_ownerOtherwiseKnowing_27 : decode cX6_ownerOtherwiseKnowing 27 = .ok (.putfield 101, 3) := by decide +kernel
theorem dX6_ownerOtherwiseKnowing_30 : decode cX6_ownerOtherwiseKnowing 30 = .ok (.aload_n 0, 1) := by decide +kernel
theorem dX6_ownerOtherwiseKnowing_31 : decode cX6_ownerOtherwiseKnowing 31 = .ok (.getfield 15, 3) := by decide +kernel
theorem dX6_ownerOtherwiseKnowing_34 : decode cX6_ownerOtherwiseKnowing 34 = .ok (.iload_n 2, 1) := by decide +kernel
theorem dX6_ownerOtherwiseKnowing_35 : decode cX6_ownerOtherwiseKnowing 35 = .ok (.iload_n 1, 1) := by decide +kernel
theorem dX6_ownerOtherwiseKnowing_36 : decode cX6_ownerOtherwiseKnowing 36 = .ok (.invokevirtual 104, 3) := by decide +kernel
theorem dX6_ownerOtherwiseKnowing_39 : decode cX6_ownerOtherwiseKnowing 39 = .ok (.aload_n 0, 1) := by decide +kernel
theorem dX6_ownerOtherwiseKnowing_40 : decode cX6_ownerOtherwiseKnowing 40 = .ok (.iload_n 3, 1) := by decide +kernel
theorem dX6_ownerOtherwiseKnowing_41 : decode cX6_ownerOtherwiseKnowing 41 = .ok (.invokevirtual 80, 3) := by decide +kernel
theorem dX6_ownerOtherwiseKnowing_44 : decode cX6_ownerOtherwiseKnowing 44 = .ok (.aload 4, 2) := by decide +kernel
theorem dX6_ownerOtherwiseKnowing_46 : decode cX6_ownerOtherwiseKnowing 46 = .ok (.iload 5, 2) := by decide +kernel
theorem dX6_ownerOtherwiseKnowing_48 : decode cX6_ownerOtherwiseKnowing 48 = .ok (.putfield 101, 3) := by decide +kernel
theorem dX6_ownerOtherwiseKnowing_51 : decode cX6_ownerOtherwiseKnowing 51 = .ok (.aload_n 0, 1) := by decide +kernel
theorem dX6_ownerOtherwiseKnowing_52 : decode cX6_ownerOtherwiseKnowing 52 = .ok (.getfield 15, 3) := by decide +kernel
theorem dX6_ownerOtherwiseKnowing_55 : decode cX6_ownerOtherwiseKnowing 55 = .ok (.iload_n 2, 1) := by decide +kernel
theorem dX6_ownerOtherwiseKnowing_56 : decode cX6_ownerOtherwiseKnowing 56 = .ok (.iload_n 1, 1) := by decide +kernel
theorem dX6_ownerOtherwiseKnowing_57 : decode cX6_ownerOtherwiseKnowing 57 = .ok (.invokevirtual 104, 3) := by decide +kernel
theorem dX6_ownerOtherwiseKnowing_60 : decode cX6_ownerOtherwiseKnowing 60 = .ok (.aload_n 0, 1) := by decide +kernel
theorem dX6_ownerOtherwiseKnowing_61 : decode cX6_ownerOtherwiseKnowing 61 = .ok (.getfield 23, 3) := by decide +kernel
theorem dX6_ownerOtherwiseKnowing_64 : decode cX6_ownerOtherwiseKnowing 64 = .ok (.ireturn, 1) := by decide +kernel
theorem dX7_init_0 : decode cX7_init 0 = .ok (.aload_n 0, 1) := by decide +kernel
theorem dX7_init_1 : decode cX7_init 1 = .ok (.invokespecial 1, 3) := by decide +kernel
theorem dX7_init_4 : decode cX7_init 4 = .ok (.aload_n 0, 1) := by decide +kernel
theorem dX7_init_5 : decode cX7_init 5 = .ok (.bipush 12, 2) := by decide +kernel
theorem dX7_init_7 : decode cX7_init 7 = .ok (.newarray .int, 2) := by decide +kernel
theorem dX7_init_9 : decode cX7_init 9 = .ok (.putfield 9, 3) := by decide +kernel
theorem dX7_init_12 : decode cX7_init 12 = .ok (.aload_n 0, 1) := by decide +kernel
theorem dX7_init_13 : decode cX7_init 13 = .ok (.bipush 6, 2) := by decide +kernel
theorem dX7_init_15 : decode cX7_init 15 = .ok (.newarray .int, 2) := by decide +kernel
theorem dX7_init_17 : decode cX7_init 17 = .ok (.putfield 13, 3) := by decide +kernel
theorem dX7_init_20 : decode cX7_init 20 = .ok (.aload_n 0, 1) := by decide +kernel
theorem dX7_init_21 : decode cX7_init 21 = .ok (.iconst 4, 1) := by decide +kernel
theorem dX7_init_22 : decode cX7_init 22 = .ok (.anewarray 16, 3) := by decide +kernel
theorem dX7_init_25 : decode cX7_init 25 = .ok (.putfield 18, 3) := by decide +kernel
theorem dX7_init_28 : decode cX7_init 28 = .ok (.iconst 0, 1) := by decide +kernel
theorem dX7_init_29 : decode cX7_init 29 = .ok (.istore_n 1, 1) := by decide +kernel
theorem dX7_init_30 : decode cX7_init 30 = .ok (.iload_n 1, 1) := by decide +kernel
theorem dX7_init_31 : decode cX7_init 31 = .ok (.iconst 4, 1) := by decide +kernel
theorem dX7_init_32 : decode cX7_init 32 = .ok (.if_icmp .ge 22, 3) := by decide +kernel
theorem dX7_init_35 : decode cX7_init 35 = .ok (.aload_n 0, 1) := by decide +kernel
theorem dX7_init_36 : decode cX7_init 36 = .ok (.getfield 18, 3) := by decide +kernel
theorem dX7_init_39 : decode cX7_init 39 = .ok (.iload_n 1, 1) := by decide +kernel
theorem dX7_init_40 : decode cX7_init 40 = .ok (.new 16, 3) := by decide +kernel
theorem dX7_init_43 : decode cX7_init 43 = .ok (.dup, 1) := by decide +kernel
theorem dX7_init_44 : decode cX7_init 44 = .ok (.invokespecial 22, 3) := by decide +kernel
theorem dX7_init_47 : decode cX7_init 47 = .ok (.aastore, 1) := by decide +kernel
theorem dX7_init_48 : decode cX7_init 48 = .ok (.iinc 1 1, 3) := by decide +kernel
theorem dX7_init_51 : decode cX7_init 51 = .ok (.goto (-21), 3) := by decide +kernel
theorem dX7_init_54 : decode cX7_init 54 = .ok (.aload_n 0, 1) := by decide +kernel
theorem dX7_init_55 : decode cX7_init 55 = .ok (.new 23, 3) := by decide +kernel
theorem dX7_init_58 : decode cX7_init 58 = .ok (.dup, 1) := by decide +kernel
theorem dX7_init_59 : decode cX7_init 59 = .ok (.invokespecial 25, 3) := by decide +kernel
theorem dX7_init_62 : decode cX7_init 62 = .ok (.putfield 26, 3) := by decide +kernel
theorem dX7_init_65 : decode cX7_init 65 = .ok (.aload_n 0, 1) := by decide +kernel
theorem dX7_init_66 : decode cX7_init 66 = .ok (.new 30, 3) := by decide +kernel
theorem dX7_init_69 : decode cX7_init 69 = .ok (.dup, 1) := by decide +kernel
theorem dX7_init_70 : decode cX7_init 70 = .ok (.invokespecial 32, 3) := by decide +kernel
theorem dX7_init_73 : decode cX7_init 73 = .ok (.putfield 33, 3) := by decide +kernel
theorem dX7_init_76 : decode cX7_init 76 = .ok (.aload_n 0, 1) := by decide +kernel
theorem dX7_init_77 : decode cX7_init 77 = .ok (.new 30, 3) := by decide +kernel
theorem dX7_init_80 : decode cX7_init 80 = .ok (.dup, 1) := by decide +kernel
theorem dX7_init_81 : decode cX7_init 81 = .ok (.invokespecial 32, 3) := by decide +kernel
theorem dX7_init_84 : decode cX7_init 84 = .ok (.putfield 37, 3) := by decide +kernel
theorem dX7_init_87 : decode cX7_init 87 = .ok (.aload_n 0, 1) := by decide +kernel
theorem dX7_init_88 : decode cX7_init 88 = .ok (.new 40, 3) := by decide +kernel
theorem dX7_init_91 : decode cX7_init 91 = .ok (.dup, 1) := by decide +kernel
theorem dX7_init_92 : decode cX7_init 92 = .ok (.aload_n 0, 1) := by decide +kernel
theorem dX7_init_93 : decode cX7_init 93 = .ok (.getfield 33, 3) := by decide +kernel
theorem dX7_init_96 : decode cX7_init 96 = .ok (.invokespecial 42, 3) := by decide +kernel
theorem dX7_init_99 : decode cX7_init 99 = .ok (.putfield 45, 3) := by decide +kernel
theorem dX7_init_102 : decode cX7_init 102 = .ok (.aload_n 0, 1) := by decide +kernel
theorem dX7_init_103 : decode cX7_init 103 = .ok (.new 49, 3) := by decide +kernel
theorem dX7_init_106 : decode cX7_init 106 = .ok (.dup, 1) := by decide +kernel
theorem dX7_init_107 : decode cX7_init 107 = .ok (.aload_n 0, 1) := by decide +kernel
theorem dX7_init_108 : decode cX7_init 108 = .ok (.getfield 33, 3) := by decide +kernel
theorem dX7_init_111 : decode cX7_init 111 = .ok (.aload_n 0, 1) := by decide +kernel
theorem dX7_init_112 : decode cX7_init 112 = .ok (.getfield 9, 3) := by decide +kernel
theorem dX7_init_115 : decode cX7_init 115 = .ok (.aload_n 0, 1) := by decide +kernel
theorem dX7_init_116 : decode cX7_init 116 = .ok (.getfield 45, 3) := by decide +kernel
theorem dX7_init_119 : decode cX7_init 119 = .ok (.invokespecial 51, 3) := by decide +kernel
theorem dX7_init_122 : decode cX7_init 122 = .ok (.putfield 54, 3) := by decide +kernel
theorem dX7_init_125 : decode cX7_init 125 = .ok (.aload_n 0, 1) := by decide +kernel
theorem dX7_init_126 : decode cX7_init 126 = .ok (.new 58, 3) := by decide +kernel
theorem dX7_init_129 : decode cX7_init 129 = .ok (.dup, 1) := by decide +kernel
theorem dX7_init_130 : decode cX7_init 130 = .ok (.aload_n 0, 1) := by decide +kernel
theorem dX7_init_131 : decode cX7_init 131 = .ok (.getfield 33, 3) := by decide +kernel
theorem dX7_init_134 : decode cX7_init 134 = .ok (.aload_n 0, 1) := by decide +kernel
theorem dX7_init_135 : decode cX7_init 135 = .ok (.getfield 54, 3) := by decide +kernel
theorem dX7_init_138 : decode cX7_init 138 = .ok (.invokespecial 60, 3) := by decide +kernel
theorem dX7_init_141 : decode cX7_init 141 = .ok (.putfield 63, 3) := by decide +kernel
theorem dX7_init_144 : decode cX7_init 144 = .ok (.return_, 1) := by decide +kernel
theorem dX7_person_0 : decode cX7_person 0 = .ok (.iload_n 1, 1) := by decide +kernel
theorem dX7_person_1 : decode cX7_person 1 = .ok (.bipush 9, 2) := by decide +kernel
theorem dX7_person_3 : decode cX7_person 3 = .ok (.invokestatic 67, 3) := by decide +kernel
theorem dX7_person_6 : decode cX7_person 6 = .ok (.ifCond .ne 6, 3) := by decide +kernel
theorem dX7_person_9 : decode cX7_person 9 = .ok (.bipush (-102), 2) := by decide +kernel
theorem dX7_person_11 : decode cX7_person 11 = .ok (.ireturn, 1) := by decide +kernel
theorem dX7_person_12 : decode cX7_person 12 = .ok (.aload_n 0, 1) := by decide +kernel
theorem dX7_person_13 : decode cX7_person 13 = .ok (.getfield 71, 3) := by decide +kernel
theorem dX7_person_16 : decode cX7_person 16 = .ok (.bipush 12, 2) := by decide +kernel
theorem dX7_person_18 : decode cX7_person 18 = .ok (.if_icmp .lt 6, 3) := by decide +kernel
theorem dX7_person_21 : decode cX7_person 21 = .ok (.bipush (-104), 2) := by decide +kernel
theorem dX7_person_23 : decode cX7_person 23 = .ok (.ireturn, 1) := by decide +kernel
theorem dX7_person_24 : decode cX7_person 24 = .ok (.aload_n 0, 1) := by decide +kernel
theorem dX7_person_25 : decode cX7_person 25 = .ok (.getfield 9, 3) := by decide +kernel
theorem dX7_person_28 : decode cX7_person 28 = .ok (.aload_n 0, 1) := by decide +kernel
theorem dX7_person_29 : decode cX7_person 29 = .ok (.getfield 71, 3) := by decide +kernel
theorem dX7_person_32 : decode cX7_person 32 = .ok (.iload_n 1, 1) := by decide +kernel
theorem dX7_person_33 : decode cX7_person 33 = .ok (.iastore, 1) := by decide +kernel
theorem dX7_person_34 : decode cX7_person 34 = .ok (.aload_n 0, 1) := by decide +kernel
theorem dX7_person_35 : decode cX7_person 35 = .ok (.dup, 1) := by decide +kernel
theorem dX7_person_36 : decode cX7_person 36 = .ok (.getfield 71, 3) := by decide +kernel
theorem dX7_person_39 : decode cX7_person 39 = .ok (.iconst 1, 1) := by decide +kernel
theorem dX7_person_40 : decode cX7_person 40 = .ok (.iadd, 1) := by decide +kernel
theorem dX7_person_41 : decode cX7_person 41 = .ok (.putfield 71, 3) := by decide +kernel
theorem dX7_person_44 : decode cX7_person 44 = .ok (.aload_n 0, 1) := by decide +kernel
theorem dX7_person_45 : decode cX7_person 45 = .ok (.getfield 71, 3) := by decide +kernel
theorem dX7_person_48 : decode cX7_person 48 = .ok (.iconst 1, 1) := by decide +kernel
theorem dX7_person_49 : decode cX7_person 49 = .ok (.isub, 1) := by decide +kernel
theorem dX7_person_50 : decode cX7_person 50 = .ok (.ireturn, 1) := by decide +kernel
theorem dX7_field_0 : decode cX7_field 0 = .ok (.aload_n 0, 1) := by decide +kernel
theorem dX7_field_1 : decode cX7_field 1 = .ok (.iload_n 1, 1) := by decide +kernel
theorem dX7_field_2 : decode cX7_field 2 = .ok (.invokevirtual 75, 3) := by decide +kernel
theorem dX7_field_5 : decode cX7_field 5 = .ok (.ifCond .ne 6, 3) := by decide +kernel
theorem dX7_field_8 : decode cX7_field 8 = .ok (.bipush (-101), 2) := by decide +kernel
theorem dX7_field_10 : decode cX7_field 10 = .ok (.ireturn, 1) := by decide +kernel
theorem dX7_field_11 : decode cX7_field 11 = .ok (.aload_n 0, 1) := by decide +kernel
theorem dX7_field_12 : decode cX7_field 12 = .ok (.getfield 79, 3) := by decide +kernel
theorem dX7_field_15 : decode cX7_field 15 = .ok (.bipush 6, 2) := by decide +kernel
theorem dX7_field_17 : decode cX7_field 17 = .ok (.if_icmp .lt 6, 3) := by decide +kernel
theorem dX7_field_20 : decode cX7_field 20 = .ok (.bipush (-104), 2) := by decide +kernel
theorem dX7_field_22 : decode cX7_field 22 = .ok (.ireturn, 1) := by decide +kernel
theorem dX7_field_23 : decode cX7_field 23 = .ok (.aload_n 0, 1) := by decide +kernel
theorem dX7_field_24 : decode cX7_field 24 = .ok (.getfield 13, 3) := by decide +kernel
theorem dX7_field_27 : decode cX7_field 27 = .ok (.aload_n 0, 1) := by decide +kernel
theorem dX7_field_28 : decode cX7_field 28 = .ok (.getfield 79, 3) := by decide +kernel
theorem dX7_field_31 : decode cX7_field 31 = .ok (.iload_n 1, 1) := by decide +kernel
theorem dX7_field_32 : decode cX7_field 32 = .ok (.iastore, 1) := by decide +kernel
theorem dX7_field_33 : decode cX7_field 33 = .ok (.aload_n 0, 1) := by decide +kernel
theorem dX7_field_34 : decode cX7_field 34 = .ok (.dup, 1) := by decide +kernel
theorem dX7_field_35 : decode cX7_field 35 = .ok (.getfield 79, 3) := by decide +kernel
theorem dX7_field_38 : decode cX7_field 38 = .ok (.iconst 1, 1) := by decide +kernel
theorem dX7_field_39 : decode cX7_field 39 = .ok (.iadd, 1) := by decide +kernel
theorem dX7_field_40 : decode cX7_field 40 = .ok (.putfield 79, 3) := by decide +kernel
theorem dX7_field_43 : decode cX7_field 43 = .ok (.aload_n 0, 1) := by decide +kernel
theorem dX7_field_44 : decode cX7_field 44 = .ok (.getfield 79, 3) := by decide +kernel
theorem dX7_field_47 : decode cX7_field 47 = .ok (.iconst 1, 1) := by decide +kernel
theorem dX7_field_48 : decode cX7_field 48 = .ok (.isub, 1) := by decide +kernel
theorem dX7_field_49 : decode cX7_field 49 = .ok (.ireturn, 1) := by decide +kernel
theorem dX7_deed_0 : decode cX7_deed 0 = .ok (.iload_n 1, 1) := by decide +kernel
theorem dX7_deed_1 : decode cX7_deed 1 = .ok (.iconst 4, 1) := by decide +kernel
theorem dX7_deed_2 : decode cX7_deed 2 = .ok (.invokestatic 67, 3) := by decide +kernel
theorem dX7_deed_5 : decode cX7_deed 5 = .ok (.ifCond .ne 6, 3) := by decide +kernel
theorem dX7_deed_8 : decode cX7_deed 8 = .ok (.bipush (-102), 2) := by decide +kernel
theorem dX7_deed_10 : decode cX7_deed 10 = .ok (.ireturn, 1) := by decide +kernel
theorem dX7_deed_11 : decode cX7_deed 11 = .ok (.aload_n 0, 1) := by decide +kernel
theorem dX7_deed_12 : decode cX7_deed 12 = .ok (.iload_n 2, 1) := by decide +kernel
theorem dX7_deed_13 : decode cX7_deed 13 = .ok (.invokevirtual 82, 3) := by decide +kernel
theorem dX7_deed_16 : decode cX7_deed 16 = .ok (.ifCond .eq 26, 3) := by decide +kernel
theorem dX7_deed_19 : decode cX7_deed 19 = .ok (.aload_n 0, 1) := by decide +kernel
theorem dX7_deed_20 : decode cX7_deed 20 = .ok (.iload_n 3, 1) := by decide +kernel
theorem dX7_deed_21 : decode cX7_deed 21 = .ok (.invokevirtual 75, 3) := by decide +kernel
theorem dX7_deed_24 : decode cX7_deed 24 = .ok (.ifCond .eq 18, 3) := by decide +kernel
theorem dX7_deed_27 : decode cX7_deed 27 = .ok (.aload_n 0, 1) := by decide +kernel
theorem dX7_deed_28 : decode cX7_deed 28 = .ok (.iload 4, 2) := by decide +kernel
theorem dX7_deed_30 : decode cX7_deed 30 = .ok (.invokevirtual 75, 3) := by decide +kernel
theorem dX7_deed_33 : decode cX7_deed 33 = .ok (.ifCond .eq 9, 3) := by decide +kernel
theorem dX7_deed_36 : decode cX7_deed 36 = .ok (.iload_n 3, 1) := by decide +kernel
theorem dX7_deed_37 : decode cX7_deed 37 = .ok (.iload 4, 2) := by decide +kernel
theorem dX7_deed_39 : decode cX7_deed 39 = .ok (.if_icmp .ne 6, 3) := by decide +kernel
theorem dX7_deed_42 : decode cX7_deed 42 = .ok (.bipush (-101), 2) := by decide +kernel
theorem dX7_deed_44 : decode cX7_deed 44 = .ok (.ireturn, 1) := by decide +kernel
theorem dX7_deed_45 : decode cX7_deed 45 = .ok (.iload 5, 2) := by decide +kernel
theorem dX7_deed_47 : decode cX7_deed 47 = .ok (.sipush 999, 3) := by decide +kernel
theorem dX7_deed_50 : decode cX7_deed 50 = .ok (.invokestatic 67, 3) := by decide +kernel
theorem dX7_deed_53 : decode cX7_deed 53 = .ok (.ifCond .ne 6, 3) := by decide +kernel
theorem dX7_deed_56 : decode cX7_deed 56 = .ok (.bipush (-102), 2) := by decide +kernel
theorem dX7_deed_58 : decode cX7_deed 58 = .ok (.ireturn, 1) := by decide +kernel
theorem dX7_deed_59 : decode cX7_deed 59 = .ok (.aload_n 0, 1) := by decide +kernel
theorem dX7_deed_60 : decode cX7_deed 60 = .ok (.getfield 33, 3) := by decide +kernel
theorem dX7_deed_63 : decode cX7_deed 63 = .ok (.getfield 85, 3) := by decide +kernel
theorem dX7_deed_66 : decode cX7_deed 66 = .ok (.bipush 16, 2) := by decide +kernel
theorem dX7_deed_68 : decode cX7_deed 68 = .ok (.if_icmp .lt 6, 3) := by decide +kernel
theorem dX7_deed_71 : decode cX7_deed 71 = .ok (.bipush (-104), 2) := by decide +kernel
theorem dX7_deed_73 : decode cX7_deed 73 = .ok (.ireturn, 1) := by decide +kernel
theorem dX7_deed_74 : decode cX7_deed 74 = .ok (.aload_n 0, 1) := by decide +kernel
theorem dX7_deed_75 : decode cX7_deed 75 = .ok (.getfield 33, 3) := by decide +kernel
theorem dX7_deed_78 : decode cX7_deed 78 = .ok (.getfield 88, 3) := by decide +kernel
theorem dX7_deed_81 : decode cX7_deed 81 = .ok (.aload_n 0, 1) := by decide +kernel
theorem dX7_deed_82 : decode cX7_deed 82 = .ok (.getfield 33, 3) := by decide +kernel
theorem dX7_deed_85 : decode cX7_deed 85 = .ok (.getfield 85, 3) := by decide +kernel
theorem dX7_deed_88 : decode cX7_deed 88 = .ok (.aaload, 1) := by decide +kernel
theorem dX7_deed_89 : decode cX7_deed 89 = .ok (.iload_n 1, 1) := by decide +kernel
theorem dX7_deed_90 : decode cX7_deed 90 = .ok (.iload_n 2, 1) := by decide +kernel
theorem dX7_deed_91 : decode cX7_deed 91 = .ok (.iload_n 3, 1) := by decide +kernel
theorem dX7_deed_92 : decode cX7_deed 92 = .ok (.iload 4, 2) := by decide +kernel
theorem dX7_deed_94 : decode cX7_deed 94 = .ok (.iload 5, 2) := by decide +kernel
theorem dX7_deed_96 : decode cX7_deed 96 = .ok (.invokevirtual 92, 3) := by decide +kernel
theorem dX7_deed_99 : decode cX7_deed 99 = .ok (.aload_n 0, 1) := by decide +kernel
theorem dX7_deed_100 : decode cX7_deed 100 = .ok (.getfield 33, 3) := by decide +kernel
theorem dX7_deed_103 : decode cX7_deed 103 = .ok (.dup, 1) := by decide +kernel
theorem dX7_deed_104 : decode cX7_deed 104 = .ok (.getfield 85, 3) := by decide +kernel
theorem dX7_deed_107 : decode cX7_deed 107 = .ok (.iconst 1, 1) := by decide +kernel
theorem dX7_deed_108 : decode cX7_deed 108 = .ok (.iadd, 1) := by decide +kernel
theorem dX7_deed_109 : decode cX7_deed 109 = .ok (.putfield 85, 3) := by decide +kernel
theorem dX7_deed_112 : decode cX7_deed 112 = .ok (.aload_n 0, 1) := by decide +kernel
theorem dX7_deed_113 : decode cX7_deed 113 = .ok (.getfield 33, 3) := by decide +kernel
theorem dX7_deed_116 : decode cX7_deed 116 = .ok (.getfield 85, 3) := by decide +kernel
theorem dX7_deed_119 : decode cX7_deed 119 = .ok (.iconst 1, 1) := by decide +kernel
theorem dX7_deed_120 : decode cX7_deed 120 = .ok (.isub, 1) := by decide +kernel
theorem dX7_deed_121 : decode cX7_deed 121 = .ok (.ireturn, 1) := by decide +kernel
theorem dX7_as_0 : decode cX7_as 0 = .ok (.aload_n 0, 1) := by decide +kernel
theorem dX7_as_1 : decode cX7_as 1 = .ok (.iload_n 1, 1) := by decide +kernel
theorem dX7_as_2 : decode cX7_as 2 = .ok (.invokevirtual 98, 3) := by decide +kernel
theorem dX7_as_5 : decode cX7_as 5 = .ok (.ifCond .ne 6, 3) := by decide +kernel
theorem dX7_as_8 : decode cX7_as 8 = .ok (.bipush (-101), 2) := by decide +kernel
theorem dX7_as_10 : decode cX7_as 10 = .ok (.ireturn, 1) := by decide +kernel
theorem dX7_as_11 : decode cX7_as 11 = .ok (.iload_n 2, 1) := by decide +kernel
theorem dX7_as_12 : decode cX7_as 12 = .ok (.iconst 4, 1) := by decide +kernel
theorem dX7_as_13 : decode cX7_as 13 = .ok (.invokestatic 67, 3) := by decide +kernel
theorem dX7_as_16 : decode cX7_as 16 = .ok (.ifCond .ne 6, 3) := by decide +kernel
theorem dX7_as_19 : decode cX7_as 19 = .ok (.bipush (-102), 2) := by decide +kernel
theorem dX7_as_21 : decode cX7_as 21 = .ok (.ireturn, 1) := by decide +kernel
theorem dX7_as_22 : decode cX7_as 22 = .ok (.aload_n 0, 1) := by decide +kernel
theorem dX7_as_23 : decode cX7_as 23 = .ok (.getfield 33, 3) := by decide +kernel
theorem dX7_as_26 : decode cX7_as 26 = .ok (.getfield 88, 3) := by decide +kernel
theorem dX7_as_29 : decode cX7_as 29 = .ok (.iload_n 1, 1) := by decide +kernel
theorem dX7_as_30 : decode cX7_as 30 = .ok (.aaload, 1) := by decide +kernel
theorem dX7_as_31 : decode cX7_as 31 = .ok (.iload_n 2, 1) := by decide +kernel
theorem dX7_as_32 : decode cX7_as 32 = .ok (.invokevirtual 101, 3) := by decide +kernel
theorem dX7_as_35 : decode cX7_as 35 = .ok (.ifCond .eq 7, 3) := by decide +kernel
theorem dX7_as_38 : decode cX7_as 38 = .ok (.iload_n 1, 1) := by decide +kernel
theorem dX7_as_39 : decode cX7_as 39 = .ok (.goto 4, 3) := by decide +kernel
theorem dX7_as_42 : decode cX7_as 42 = .ok (.iconst (-1), 1) := by decide +kernel
theorem dX7_as_43 : decode cX7_as 43 = .ok (.ireturn, 1) := by decide +kernel
theorem dX7_about_0 : decode cX7_about 0 = .ok (.aload_n 0, 1) := by decide +kernel
theorem dX7_about_1 : decode cX7_about 1 = .ok (.iload_n 1, 1) := by decide +kernel
theorem dX7_about_2 : decode cX7_about 2 = .ok (.invokevirtual 98, 3) := by decide +kernel
theorem dX7_about_5 : decode cX7_about 5 = .ok (.ifCond .ne 6, 3) := by decide +kernel
theorem dX7_about_8 : decode cX7_about 8 = .ok (.bipush (-101), 2) := by decide +kernel
theorem dX7_about_10 : decode cX7_about 10 = .ok (.ireturn, 1) := by decide +kernel
theorem dX7_about_11 : decode cX7_about 11 = .ok (.iload_n 2, 1) := by decide +kernel
theorem dX7_about_12 : decode cX7_about 12 = .ok (.bipush 9, 2) := by decide +kernel
theorem dX7_about_14 : decode cX7_about 14 = .ok (.invokestatic 67, 3) := by decide +kernel
theorem dX7_about_17 : decode cX7_about 17 = .ok (.ifCond .ne 6, 3) := by decide +kernel
theorem dX7_about_20 : decode cX7_about 20 = .ok (.bipush (-102), 2) := by decide +kernel
theorem dX7_about_22 : decode cX7_about 22 = .ok (.ireturn, 1) := by decide +kernel
theorem dX7_about_23 : decode cX7_about 23 = .ok (.aload_n 0, 1) := by decide +kernel
theorem dX7_about_24 : decode cX7_about 24 = .ok (.getfield 33, 3) := by decide +kernel
theorem dX7_about_27 : decode cX7_about 27 = .ok (.getfield 88, 3) := by decide +kernel
theorem dX7_about_30 : decode cX7_about 30 = .ok (.iload_n 1, 1) := by decide +kernel
theorem dX7_about_31 : decode cX7_about 31 = .ok (.aaload, 1) := by decide +kernel
theorem dX7_about_32 : decode cX7_about 32 = .ok (.iload_n 2, 1) := by decide +kernel
theorem dX7_about_33 : decode cX7_about 33 = .ok (.invokevirtual 104, 3) := by decide +kernel
theorem dX7_about_36 : decode cX7_about 36 = .ok (.ireturn, 1) := by decide +kernel
theorem dX7_enter_0 : decode cX7_enter 0 = .ok (.aload_n 0, 1) := by decide +kernel
theorem dX7_enter_1 : decode cX7_enter 1 = .ok (.iload_n 1, 1) := by decide +kernel
theorem dX7_enter_2 : decode cX7_enter 2 = .ok (.invokevirtual 98, 3) := by decide +kernel
theorem dX7_enter_5 : decode cX7_enter 5 = .ok (.ifCond .ne 6, 3) := by decide +kernel
theorem dX7_enter_8 : decode cX7_enter 8 = .ok (.bipush (-101), 2) := by decide +kernel
theorem dX7_enter_10 : decode cX7_enter 10 = .ok (.ireturn, 1) := by decide +kernel
theorem dX7_enter_11 : decode cX7_enter 11 = .ok (.aload_n 0, 1) := by decide +kernel
theorem dX7_enter_12 : decode cX7_enter 12 = .ok (.getfield 33, 3) := by decide +kernel
theorem dX7_enter_15 : decode cX7_enter 15 = .ok (.getfield 88, 3) := by decide +kernel
theorem dX7_enter_18 : decode cX7_enter 18 = .ok (.iload_n 1, 1) := by decide +kernel
theorem dX7_enter_19 : decode cX7_enter 19 = .ok (.aaload, 1) := by decide +kernel
theorem dX7_enter_20 : decode cX7_enter 20 = .ok (.astore 5, 2) := by decide +kernel
theorem dX7_enter_22 : decode cX7_enter 22 = .ok (.iload_n 2, 1) := by decide +kernel
theorem dX7_enter_23 : decode cX7_enter 23 = .ok (.aload 5, 2) := by decide +kernel
theorem dX7_enter_25 : decode cX7_enter 25 = .ok (.getfield 108, 3) := by decide +kernel
theorem dX7_enter_28 : decode cX7_enter 28 = .ok (.if_icmp .lt 25, 3) := by decide +kernel
theorem dX7_enter_31 : decode cX7_enter 31 = .ok (.iload_n 2, 1) := by decide +kernel
theorem dX7_enter_32 : decode cX7_enter 32 = .ok (.sipush 999, 3) := by decide +kernel
theorem dX7_enter_35 : decode cX7_enter 35 = .ok (.if_icmp .gt 18, 3) := by decide +kernel
theorem dX7_enter_38 : decode cX7_enter 38 = .ok (.iload_n 3, 1) := by decide +kernel
theorem dX7_enter_39 : decode cX7_enter 39 = .ok (.invokestatic 111, 3) := by decide +kernel
theorem dX7_enter_42 : decode cX7_enter 42 = .ok (.ifCond .eq 11, 3) := by decide +kernel
theorem dX7_enter_45 : decode cX7_enter 45 = .ok (.iload 4, 2) := by decide +kernel
theorem dX7_enter_47 : decode cX7_enter 47 = .ok (.invokestatic 111, 3) := by decide +kernel
theorem dX7_enter_50 : decode cX7_enter 50 = .ok (.ifCond .ne 6, 3) := by decide +kernel
theorem dX7_enter_53 : decode cX7_enter 53 = .ok (.bipush (-102), 2) := by decide +kernel
theorem dX7_enter_55 : decode cX7_enter 55 = .ok (.ireturn, 1) := by decide +kernel
theorem dX7_enter_56 : decode cX7_enter 56 = .ok (.aload 5, 2) := by decide +kernel
theorem dX7_enter_58 : decode cX7_enter 58 = .ok (.invokevirtual 114, 3) := by decide +kernel
theorem dX7_enter_61 : decode cX7_enter 61 = .ok (.ifCond .eq 6, 3) := by decide +kernel
theorem dX7_enter_64 : decode cX7_enter 64 = .ok (.bipush (-103), 2) := by decide +kernel
theorem dX7_enter_66 : decode cX7_enter 66 = .ok (.ireturn, 1) := by decide +kernel
theorem dX7_enter_67 : decode cX7_enter 67 = .ok (.aload 5, 2) := by decide +kernel
theorem dX7_enter_69 : decode cX7_enter 69 = .ok (.iload_n 2, 1) := by decide +kernel
theorem dX7_enter_70 : decode cX7_enter 70 = .ok (.putfield 118, 3) := by decide +kernel
theorem dX7_enter_73 : decode cX7_enter 73 = .ok (.aload 5, 2) := by decide +kernel
theorem dX7_enter_75 : decode cX7_enter 75 = .ok (.iload_n 3, 1) := by decide +kernel
theorem dX7_enter_76 : decode cX7_enter 76 = .ok (.iconst (-1), 1) := by decide +kernel
theorem dX7_enter_77 : decode cX7_enter 77 = .ok (.if_icmp .ne 15, 3) := by decide +kernel
theorem dX7_enter_80 : decode cX7_enter 80 = .ok (.aload_n 0, 1) := by decide +kernel
theorem dX7_enter_81 : decode cX7_enter 81 = .ok (.aload 5, 2) := by decide +kernel
theorem dX7_enter_83 : decode cX7_enter 83 = .ok (.getfield 121, 3) := by decide +kernel
theorem dX7_enter_86 : decode cX7_enter 86 = .ok (.invokevirtual 124, 3) := by decide +kernel
theorem dX7_enter_89 : decode cX7_enter 89 = .ok (.goto 4, 3) := by decide +kernel
theorem dX7_enter_92 : decode cX7_enter 92 = .ok (.iload_n 3, 1) := by decide +kernel
theorem dX7_enter_93 : decode cX7_enter 93 = .ok (.putfield 127, 3) := by decide +kernel
theorem dX7_enter_96 : decode cX7_enter 96 = .ok (.aload 5, 2) := by decide +kernel
theorem dX7_enter_98 : decode cX7_enter 98 = .ok (.iload 4, 2) := by decide +kernel
theorem dX7_enter_100 : decode cX7_enter 100 = .ok (.iconst (-1), 1) := by decide +kernel
theorem dX7_enter_101 : decode cX7_enter 101 = .ok (.if_icmp .ne 15, 3) := by decide +kernel
theorem dX7_enter_104 : decode cX7_enter 104 = .ok (.aload_n 0, 1) := by decide +kernel
theorem dX7_enter_105 : decode cX7_enter 105 = .ok (.aload 5, 2) := by decide +kernel
theorem dX7_enter_107 : decode cX7_enter 107 = .ok (.getfield 130, 3) := by decide +kernel
theorem dX7_enter_110 : decode cX7_enter 110 = .ok (.invokevirtual 124, 3) := by decide +kernel
theorem dX7_enter_113 : decode cX7_enter 113 = .ok (.goto 5, 3) := by decide +kernel
theorem dX7_enter_116 : decode cX7_enter 116 = .ok (.iload 4, 2) := by decide +kernel
theorem dX7_enter_118 : decode cX7_enter 118 = .ok (.putfield 133, 3) := by decide +kernel
theorem dX7_enter_121 : decode cX7_enter 121 = .ok (.iconst 1, 1) := by decide +kernel
theorem dX7_enter_122 : decode cX7_enter 122 = .ok (.ireturn, 1) := by decide +kernel
theorem dX7_leaf_0 : decode cX7_leaf 0 = .ok (.aload_n 0, 1) := by decide +kernel
theorem dX7_leaf_1 : decode cX7_leaf 1 = .ok (.iload_n 1, 1) := by decide +kernel
theorem dX7_leaf_2 : decode cX7_leaf 2 = .ok (.invokevirtual 98, 3) := by decide +kernel
theorem dX7_leaf_5 : decode cX7_leaf 5 = .ok (.ifCond .ne 6, 3) := by decide +kernel
theorem dX7_leaf_8 : decode cX7_leaf 8 = .ok (.bipush (-101), 2) := by decide +kernel
theorem dX7_leaf_10 : decode cX7_leaf 10 = .ok (.ireturn, 1) := by decide +kernel
theorem dX7_leaf_11 : decode cX7_leaf 11 = .ok (.aload_n 0, 1) := by decide +kernel
theorem dX7_leaf_12 : decode cX7_leaf 12 = .ok (.getfield 33, 3) := by decide +kernel
theorem dX7_leaf_15 : decode cX7_leaf 15 = .ok (.getfield 88, 3) := by decide +kernel
theorem dX7_leaf_18 : decode cX7_leaf 18 = .ok (.iload_n 1, 1) := by decide +kernel
theorem dX7_leaf_19 : decode cX7_leaf 19 = .ok (.aaload, 1) := by decide +kernel
theorem dX7_leaf_20 : decode cX7_leaf 20 = .ok (.astore_n 3, 1) := by decide +kernel
theorem dX7_leaf_21 : decode cX7_leaf 21 = .ok (.aload_n 3, 1) := by decide +kernel
theorem dX7_leaf_22 : decode cX7_leaf 22 = .ok (.invokevirtual 114, 3) := by decide +kernel
theorem dX7_leaf_25 : decode cX7_leaf 25 = .ok (.ifCond .ne 6, 3) := by decide +kernel
theorem dX7_leaf_28 : decode cX7_leaf 28 = .ok (.bipush (-103), 2) := by decide +kernel
theorem dX7_leaf_30 : decode cX7_leaf 30 = .ok (.ireturn, 1) := by decide +kernel
theorem dX7_leaf_31 : decode cX7_leaf 31 = .ok (.aload_n 3, 1) := by decide +kernel
theorem dX7_leaf_32 : decode cX7_leaf 32 = .ok (.getfield 136, 3) := by decide +kernel
theorem dX7_leaf_35 : decode cX7_leaf 35 = .ok (.ifCond .eq 7, 3) := by decide +kernel
theorem dX7_leaf_38 : decode cX7_leaf 38 = .ok (.iconst 1, 1) := by decide +kernel
theorem dX7_leaf_39 : decode cX7_leaf 39 = .ok (.goto 4, 3) := by decide +kernel
theorem dX7_leaf_42 : decode cX7_leaf 42 = .ok (.iconst 0, 1) := by decide +kernel
theorem dX7_leaf_43 : decode cX7_leaf 43 = .ok (.istore 4, 2) := by decide +kernel
theorem dX7_leaf_45 : decode cX7_leaf 45 = .ok (.aload_n 3, 1) := by decide +kernel
theorem dX7_leaf_46 : decode cX7_leaf 46 = .ok (.iload_n 2, 1) := by decide +kernel
theorem dX7_leaf_47 : decode cX7_leaf 47 = .ok (.putfield 136, 3) := by decide +kernel
theorem dX7_leaf_50 : decode cX7_leaf 50 = .ok (.iload 4, 2) := by decide +kernel
theorem dX7_leaf_52 : decode cX7_leaf 52 = .ok (.ireturn, 1) := by decide +kernel
theorem dX7_knew_0 : decode cX7_knew 0 = .ok (.aload_n 0, 1) := by decide +kernel
theorem dX7_knew_1 : decode cX7_knew 1 = .ok (.iload_n 1, 1) := by decide +kernel
theorem dX7_knew_2 : decode cX7_knew 2 = .ok (.invokevirtual 98, 3) := by decide +kernel
theorem dX7_knew_5 : decode cX7_knew 5 = .ok (.ifCond .ne 6, 3) := by decide +kernel
theorem dX7_knew_8 : decode cX7_knew 8 = .ok (.bipush (-101), 2) := by decide +kernel
theorem dX7_knew_10 : decode cX7_knew 10 = .ok (.ireturn, 1) := by decide +kernel
theorem dX7_knew_11 : decode cX7_knew 11 = .ok (.iload_n 2, 1) := by decide +kernel
theorem dX7_knew_12 : decode cX7_knew 12 = .ok (.ldc 140, 2) := by decide +kernel
theorem dX7_knew_14 : decode cX7_knew 14 = .ok (.invokestatic 67, 3) := by decide +kernel
theorem dX7_knew_17 : decode cX7_knew 17 = .ok (.ifCond .ne 6, 3) := by decide +kernel
theorem dX7_knew_20 : decode cX7_knew 20 = .ok (.bipush (-102), 2) := by decide +kernel
theorem dX7_knew_22 : decode cX7_knew 22 = .ok (.ireturn, 1) := by decide +kernel
theorem dX7_knew_23 : decode cX7_knew 23 = .ok (.aload_n 0, 1) := by decide +kernel
theorem dX7_knew_24 : decode cX7_knew 24 = .ok (.getfield 33, 3) := by decide +kernel
theorem dX7_knew_27 : decode cX7_knew 27 = .ok (.getfield 88, 3) := by decide +kernel
theorem dX7_knew_30 : decode cX7_knew 30 = .ok (.iload_n 1, 1) := by decide +kernel
theorem dX7_knew_31 : decode cX7_knew 31 = .ok (.aaload, 1) := by decide +kernel
theorem dX7_knew_32 : decode cX7_knew 32 = .ok (.getfield 141, 3) := by decide +kernel
theorem dX7_knew_35 : decode cX7_knew 35 = .ok (.istore_n 3, 1) := by decide +kernel
theorem dX7_knew_36 : decode cX7_knew 36 = .ok (.aload_n 0, 1) := by decide +kernel
theorem dX7_knew_37 : decode cX7_knew 37 = .ok (.getfield 33, 3) := by decide +kernel
theorem dX7_knew_40 : decode cX7_knew 40 = .ok (.getfield 88, 3) := by decide +kernel
theorem dX7_knew_43 : decode cX7_knew 43 = .ok (.iload_n 1, 1) := by decide +kernel
theorem dX7_knew_44 : decode cX7_knew 44 = .ok (.aaload, 1) := by decide +kernel
theorem dX7_knew_45 : decode cX7_knew 45 = .ok (.iload_n 2, 1) := by decide +kernel
theorem dX7_knew_46 : decode cX7_knew 46 = .ok (.putfield 141, 3) := by decide +kernel
theorem dX7_knew_49 : decode cX7_knew 49 = .ok (.iload_n 3, 1) := by decide +kernel
theorem dX7_knew_50 : decode cX7_knew 50 = .ok (.ireturn, 1) := by decide +kernel
theorem dX7_lives_0 : decode cX7_lives 0 = .ok (.aload_n 0, 1) := by decide +kernel
theorem dX7_lives_1 : decode cX7_lives 1 = .ok (.iload_n 1, 1) := by decide +kernel
theorem dX7_lives_2 : decode cX7_lives 2 = .ok (.invokevirtual 82, 3) := by decide +kernel
theorem dX7_lives_5 : decode cX7_lives 5 = .ok (.ifCond .eq 16, 3) := by decide +kernel
theorem dX7_lives_8 : decode cX7_lives 8 = .ok (.iload_n 2, 1) := by decide +kernel
theorem dX7_lives_9 : decode cX7_lives 9 = .ok (.iconst (-1), 1) := by decide +kernel
theorem dX7_lives_10 : decode cX7_lives 10 = .ok (.if_icmp .eq 14, 3) := by decide +kernel
theorem dX7_lives_13 : decode cX7_lives 13 = .ok (.aload_n 0, 1) := by decide +kernel
theorem dX7_lives_14 : decode cX7_lives 14 = .ok (.iload_n 2, 1) := by decide +kernel
theorem dX7_lives_15 : decode cX7_lives 15 = .ok (.invokevirtual 75, 3) := by decide +kernel
theorem dX7_lives_18 : decode cX7_lives 18 = .ok (.ifCond .ne 6, 3) := by decide +kernel
theorem dX7_lives_21 : decode cX7_lives 21 = .ok (.bipush (-101), 2) := by decide +kernel
theorem dX7_lives_23 : decode cX7_lives 23 = .ok (.ireturn, 1) := by decide +kernel
theorem dX7_lives_24 : decode cX7_lives 24 = .ok (.iload_n 3, 1) := by decide +kernel
theorem dX7_lives_25 : decode cX7_lives 25 = .ok (.sipush 999, 3) := by decide +kernel
theorem dX7_lives_28 : decode cX7_lives 28 = .ok (.invokestatic 67, 3) := by decide +kernel
theorem dX7_lives_31 : decode cX7_lives 31 = .ok (.ifCond .ne 6, 3) := by decide +kernel
theorem dX7_lives_34 : decode cX7_lives 34 = .ok (.bipush (-102), 2) := by decide +kernel
theorem dX7_lives_36 : decode cX7_lives 36 = .ok (.ireturn, 1) := by decide +kernel
theorem dX7_lives_37 : decode cX7_lives 37 = .ok (.aload_n 0, 1) := by decide +kernel
theorem dX7_lives_38 : decode cX7_lives 38 = .ok (.getfield 33, 3) := by decide +kernel
theorem dX7_lives_41 : decode cX7_lives 41 = .ok (.getfield 144, 3) := by decide +kernel
theorem dX7_lives_44 : decode cX7_lives 44 = .ok (.iload_n 1, 1) := by decide +kernel
theorem dX7_lives_45 : decode cX7_lives 45 = .ok (.iaload, 1) := by decide +kernel
theorem dX7_lives_46 : decode cX7_lives 46 = .ok (.istore 4, 2) := by decide +kernel
theorem dX7_lives_48 : decode cX7_lives 48 = .ok (.aload_n 0, 1) := by decide +kernel
theorem dX7_lives_49 : decode cX7_lives 49 = .ok (.getfield 33, 3) := by decide +kernel
theorem dX7_lives_52 : decode cX7_lives 52 = .ok (.getfield 144, 3) := by decide +kernel
theorem dX7_lives_55 : decode cX7_lives 55 = .ok (.iload_n 1, 1) := by decide +kernel
theorem dX7_lives_56 : decode cX7_lives 56 = .ok (.iload_n 2, 1) := by decide +kernel
theorem dX7_lives_57 : decode cX7_lives 57 = .ok (.iastore, 1) := by decide +kernel
theorem dX7_lives_58 : decode cX7_lives 58 = .ok (.aload_n 0, 1) := by decide +kernel
theorem dX7_lives_59 : decode cX7_lives 59 = .ok (.getfield 33, 3) := by decide +kernel
theorem dX7_lives_62 : decode cX7_lives 62 = .ok (.getfield 147, 3) := by decide +kernel
theorem dX7_lives_65 : decode cX7_lives 65 = .ok (.iload_n 1, 1) := by decide +kernel
theorem dX7_lives_66 : decode cX7_lives 66 = .ok (.iload_n 2, 1) := by decide +kernel
theorem dX7_lives_67 : decode cX7_lives 67 = .ok (.iconst (-1), 1) := by decide +kernel
theorem dX7_lives_68 : decode cX7_lives 68 = .ok (.if_icmp .ne 7, 3) := by decide +kernel
theorem dX7_lives_71 : decode cX7_lives 71 = .ok (.iconst 0, 1) := by decide +kernel
theorem dX7_lives_72 : decode cX7_lives 72 = .ok (.goto 4, 3) := by decide +kernel
theorem dX7_lives_75 : decode cX7_lives 75 = .ok (.iload_n 3, 1) := by decide +kernel
theorem dX7_lives_76 : decode cX7_lives 76 = .ok (.iastore, 1) := by decide +kernel
theorem dX7_lives_77 : decode cX7_lives 77 = .ok (.iload 4, 2) := by decide +kernel
theorem dX7_lives_79 : decode cX7_lives 79 = .ok (.ireturn, 1) := by decide +kernel
theorem dX7_letters_0 : decode cX7_letters 0 = .ok (.aload_n 0, 1) := by decide +kernel
theorem dX7_letters_1 : decode cX7_letters 1 = .ok (.getfield 26, 3) := by decide +kernel
theorem dX7_letters_4 : decode cX7_letters 4 = .ok (.lload_n 1, 1) := by decide +kernel
theorem dX7_letters_5 : decode cX7_letters 5 = .ok (.invokevirtual 150, 3) := by decide +kernel
theorem dX7_letters_8 : decode cX7_letters 8 = .ok (.ireturn, 1) := by decide +kernel
theorem dX7_blank_0 : decode cX7_blank 0 = .ok (.aload_n 0, 1) := by decide +kernel
theorem dX7_blank_1 : decode cX7_blank 1 = .ok (.getfield 26, 3) := by decide +kernel
theorem dX7_blank_4 : decode cX7_blank 4 = .ok (.getfield 154, 3) := by decide +kernel
theorem dX7_blank_7 : decode cX7_blank 7 = .ok (.istore_n 1, 1) := by decide +kernel
theorem dX7_blank_8 : decode cX7_blank 8 = .ok (.aload_n 0, 1) := by decide +kernel
theorem dX7_blank_9 : decode cX7_blank 9 = .ok (.getfield 26, 3) := by decide +kernel
theorem dX7_blank_12 : decode cX7_blank 12 = .ok (.iconst 0, 1) := by decide +kernel
theorem dX7_blank_13 : decode cX7_blank 13 = .ok (.putfield 154, 3) := by decide +kernel
theorem dX7_blank_16 : decode cX7_blank 16 = .ok (.iload_n 1, 1) := by decide +kernel
theorem dX7_blank_17 : decode cX7_blank 17 = .ok (.ireturn, 1) := by decide +kernel
theorem dX7_fault_0 : decode cX7_fault 0 = .ok (.aload_n 0, 1) := by decide +kernel
theorem dX7_fault_1 : decode cX7_fault 1 = .ok (.getfield 26, 3) := by decide +kernel
theorem dX7_fault_4 : decode cX7_fault 4 = .ok (.invokevirtual 155, 3) := by decide +kernel
theorem dX7_fault_7 : decode cX7_fault 7 = .ok (.ireturn, 1) := by decide +kernel
theorem dX7_law_0 : decode cX7_law 0 = .ok (.aload_n 0, 1) := by decide +kernel
theorem dX7_law_1 : decode cX7_law 1 = .ok (.getfield 26, 3) := by decide +kernel
theorem dX7_law_4 : decode cX7_law 4 = .ok (.invokevirtual 159, 3) := by decide +kernel
theorem dX7_law_7 : decode cX7_law 7 = .ok (.ifCond .ne 6, 3) := by decide +kernel
theorem dX7_law_10 : decode cX7_law 10 = .ok (.bipush (-103), 2) := by decide +kernel
theorem dX7_law_12 : decode cX7_law 12 = .ok (.ireturn, 1) := by decide +kernel
theorem dX7_law_13 : decode cX7_law 13 = .ok (.aload_n 0, 1) := by decide +kernel
theorem dX7_law_14 : decode cX7_law 14 = .ok (.getfield 162, 3) := by decide +kernel
theorem dX7_law_17 : decode cX7_law 17 = .ok (.iconst 4, 1) := by decide +kernel
theorem dX7_law_18 : decode cX7_law 18 = .ok (.if_icmp .lt 6, 3) := by decide +kernel
theorem dX7_law_21 : decode cX7_law 21 = .ok (.bipush (-104), 2) := by decide +kernel
theorem dX7_law_23 : decode cX7_law 23 = .ok (.ireturn, 1) := by decide +kernel
theorem dX7_law_24 : decode cX7_law 24 = .ok (.aload_n 0, 1) := by decide +kernel
theorem dX7_law_25 : decode cX7_law 25 = .ok (.getfield 26, 3) := by decide +kernel
theorem dX7_law_28 : decode cX7_law 28 = .ok (.aload_n 0, 1) := by decide +kernel
theorem dX7_law_29 : decode cX7_law 29 = .ok (.getfield 18, 3) := by decide +kernel
theorem dX7_law_32 : decode cX7_law 32 = .ok (.aload_n 0, 1) := by decide +kernel
theorem dX7_law_33 : decode cX7_law 33 = .ok (.getfield 162, 3) := by decide +kernel
theorem dX7_law_36 : decode cX7_law 36 = .ok (.aaload, 1) := by decide +kernel
theorem dX7_law_37 : decode cX7_law 37 = .ok (.invokevirtual 165, 3) := by decide +kernel
theorem dX7_law_40 : decode cX7_law 40 = .ok (.aload_n 0, 1) := by decide +kernel
theorem dX7_law_41 : decode cX7_law 41 = .ok (.getfield 26, 3) := by decide +kernel
theorem dX7_law_44 : decode cX7_law 44 = .ok (.iconst 0, 1) := by decide +kernel
theorem dX7_law_45 : decode cX7_law 45 = .ok (.putfield 154, 3) := by decide +kernel
theorem dX7_law_48 : decode cX7_law 48 = .ok (.aload_n 0, 1) := by decide +kernel
theorem dX7_law_49 : decode cX7_law 49 = .ok (.dup, 1) := by decide +kernel
theorem dX7_law_50 : decode cX7_law 50 = .ok (.getfield 162, 3) := by decide +kernel
theorem dX7_law_53 : decode cX7_law 53 = .ok (.iconst 1, 1) := by decide +kernel
theorem dX7_law_54 : decode cX7_law 54 = .ok (.iadd, 1) := by decide +kernel
theorem dX7_law_55 : decode cX7_law 55 = .ok (.putfield 162, 3) := by decide +kernel
theorem dX7_law_58 : decode cX7_law 58 = .ok (.aload_n 0, 1) := by decide +kernel
theorem dX7_law_59 : decode cX7_law 59 = .ok (.getfield 162, 3) := by decide +kernel
theorem dX7_law_62 : decode cX7_law 62 = .ok (.iconst 1, 1) := by decide +kernel
theorem dX7_law_63 : decode cX7_law 63 = .ok (.isub, 1) := by decide +kernel
theorem dX7_law_64 : decode cX7_law 64 = .ok (.ireturn, 1) := by decide +kernel
theorem dX7_search_0 : decode cX7_search 0 = .ok (.aload_n 0, 1) := by decide +kernel
theorem dX7_search_1 : decode cX7_search 1 = .ok (.iload_n 1, 1) := by decide +kernel
theorem dX7_search_2 : decode cX7_search 2 = .ok (.invokevirtual 82, 3) := by decide +kernel
theorem dX7_search_5 : decode cX7_search 5 = .ok (.ifCond .eq 11, 3) := by decide +kernel
theorem dX7_search_8 : decode cX7_search 8 = .ok (.aload_n 0, 1) := by decide +kernel
theorem dX7_search_9 : decode cX7_search 9 = .ok (.iload_n 2, 1) := by decide +kernel
theorem dX7_search_10 : decode cX7_search 10 = .ok (.invokevirtual 75, 3) := by decide +kernel
theorem dX7_search_13 : decode cX7_search 13 = .ok (.ifCond .ne 6, 3) := by decide +kernel
theorem dX7_search_16 : decode cX7_search 16 = .ok (.bipush (-101), 2) := by decide +kernel
theorem dX7_search_18 : decode cX7_search 18 = .ok (.ireturn, 1) := by decide +kernel
theorem dX7_search_19 : decode cX7_search 19 = .ok (.iload_n 3, 1) := by decide +kernel
theorem dX7_search_20 : decode cX7_search 20 = .ok (.sipush 999, 3) := by decide +kernel
theorem dX7_search_23 : decode cX7_search 23 = .ok (.invokestatic 67, 3) := by decide +kernel
theorem dX7_search_26 : decode cX7_search 26 = .ok (.ifCond .eq 12, 3) := by decide +kernel
theorem dX7_search_29 : decode cX7_search 29 = .ok (.iload 4, 2) := by decide +kernel
theorem dX7_search_31 : decode cX7_search 31 = .ok (.iconst 2, 1) := by decide +kernel
theorem dX7_search_32 : decode cX7_search 32 = .ok (.invokestatic 67, 3) := by decide +kernel
theorem dX7_search_35 : decode cX7_search 35 = .ok (.ifCond .ne 6, 3) := by decide +kernel
theorem dX7_search_38 : decode cX7_search 38 = .ok (.bipush (-102), 2) := by decide +kernel
theorem dX7_search_40 : decode cX7_search 40 = .ok (.ireturn, 1) := by decide +kernel
theorem dX7_search_41 : decode cX7_search 41 = .ok (.aload_n 0, 1) := by decide +kernel
theorem dX7_search_42 : decode cX7_search 42 = .ok (.getfield 45, 3) := by decide +kernel
theorem dX7_search_45 : decode cX7_search 45 = .ok (.iload_n 1, 1) := by decide +kernel
theorem dX7_search_46 : decode cX7_search 46 = .ok (.aload_n 0, 1) := by decide +kernel
theorem dX7_search_47 : decode cX7_search 47 = .ok (.getfield 9, 3) := by decide +kernel
theorem dX7_search_50 : decode cX7_search 50 = .ok (.iload_n 2, 1) := by decide +kernel
theorem dX7_search_51 : decode cX7_search 51 = .ok (.iaload, 1) := by decide +kernel
theorem dX7_search_52 : decode cX7_search 52 = .ok (.iload_n 3, 1) := by decide +kernel
theorem dX7_search_53 : decode cX7_search 53 = .ok (.invokevirtual 169, 3) := by decide +kernel
theorem dX7_search_56 : decode cX7_search 56 = .ok (.iload 4, 2) := by decide +kernel
theorem dX7_search_58 : decode cX7_search 58 = .ok (.ifCond .ne 11, 3) := by decide +kernel
theorem dX7_search_61 : decode cX7_search 61 = .ok (.aload_n 0, 1) := by decide +kernel
theorem dX7_search_62 : decode cX7_search 62 = .ok (.getfield 45, 3) := by decide +kernel
theorem dX7_search_65 : decode cX7_search 65 = .ok (.getfield 173, 3) := by decide +kernel
theorem dX7_search_68 : decode cX7_search 68 = .ok (.ireturn, 1) := by decide +kernel
theorem dX7_search_69 : decode cX7_search 69 = .ok (.iload 4, 2) := by decide +kernel
theorem dX7_search_71 : decode cX7_search 71 = .ok (.iconst 1, 1) := by decide +kernel
theorem dX7_search_72 : decode cX7_search 72 = .ok (.if_icmp .ne 13, 3) := by decide +kernel
theorem dX7_search_75 : decode cX7_search 75 = .ok (.aload_n 0, 1) := by decide +kernel
theorem dX7_search_76 : decode cX7_search 76 = .ok (.getfield 45, 3) := by decide +kernel
theorem dX7_search_79 : decode cX7_search 79 = .ok (.getfield 176, 3) := by decide +kernel
theorem dX7_search_82 : decode cX7_search 82 = .ok (.goto 10, 3) := by decide +kernel
theorem dX7_search_85 : decode cX7_search 85 = .ok (.aload_n 0, 1) := by decide +kernel
theorem dX7_search_86 : decode cX7_search 86 = .ok (.getfield 45, 3) := by decide +kernel
theorem dX7_search_89 : decode cX7_search 89 = .ok (.getfield 179, 3) := by decide +kernel
theorem dX7_search_92 : decode cX7_search 92 = .ok (.ireturn, 1) := by decide +kernel
theorem dX7_held_0 : decode cX7_held 0 = .ok (.aload_n 0, 1) := by decide +kernel
theorem dX7_held_1 : decode cX7_held 1 = .ok (.iload_n 1, 1) := by decide +kernel
theorem dX7_held_2 : decode cX7_held 2 = .ok (.invokevirtual 182, 3) := by decide +kernel
theorem dX7_held_5 : decode cX7_held 5 = .ok (.ifCond .eq 11, 3) := by decide +kernel
theorem dX7_held_8 : decode cX7_held 8 = .ok (.aload_n 0, 1) := by decide +kernel
theorem dX7_held_9 : decode cX7_held 9 = .ok (.iload_n 2, 1) := by decide +kernel
theorem dX7_held_10 : decode cX7_held 10 = .ok (.invokevirtual 98, 3) := by decide +kernel
theorem dX7_held_13 : decode cX7_held 13 = .ok (.ifCond .ne 6, 3) := by decide +kernel
theorem dX7_held_16 : decode cX7_held 16 = .ok (.bipush (-101), 2) := by decide +kernel
theorem dX7_held_18 : decode cX7_held 18 = .ok (.ireturn, 1) := by decide +kernel
theorem dX7_held_19 : decode cX7_held 19 = .ok (.aload_n 0, 1) := by decide +kernel
theorem dX7_held_20 : decode cX7_held 20 = .ok (.getfield 54, 3) := by decide +kernel
theorem dX7_held_23 : decode cX7_held 23 = .ok (.aload_n 0, 1) := by decide +kernel
theorem dX7_held_24 : decode cX7_held 24 = .ok (.getfield 18, 3) := by decide +kernel
theorem dX7_held_27 : decode cX7_held 27 = .ok (.iload_n 1, 1) := by decide +kernel
theorem dX7_held_28 : decode cX7_held 28 = .ok (.aaload, 1) := by decide +kernel
theorem dX7_held_29 : decode cX7_held 29 = .ok (.iload_n 2, 1) := by decide +kernel
theorem dX7_held_30 : decode cX7_held 30 = .ok (.invokevirtual 184, 3) := by decide +kernel
theorem dX7_held_33 : decode cX7_held 33 = .ok (.ireturn, 1) := by decide +kernel
theorem dX7_prevails_0 : decode cX7_prevails 0 = .ok (.aload_n 0, 1) := by decide +kernel
theorem dX7_prevails_1 : decode cX7_prevails 1 = .ok (.iload_n 1, 1) := by decide +kernel
theorem dX7_prevails_2 : decode cX7_prevails 2 = .ok (.invokevirtual 182, 3) := by decide +kernel
theorem dX7_prevails_5 : decode cX7_prevails 5 = .ok (.ifCond .eq 24, 3) := by decide +kernel
theorem dX7_prevails_8 : decode cX7_prevails 8 = .ok (.aload_n 0, 1) := by decide +kernel
theorem dX7_prevails_9 : decode cX7_prevails 9 = .ok (.iload_n 2, 1) := by decide +kernel
theorem dX7_prevails_10 : decode cX7_prevails 10 = .ok (.invokevirtual 98, 3) := by decide +kernel
theorem dX7_prevails_13 : decode cX7_prevails 13 = .ok (.ifCond .eq 16, 3) := by decide +kernel
theorem dX7_prevails_16 : decode cX7_prevails 16 = .ok (.aload_n 0, 1) := by decide +kernel
theorem dX7_prevails_17 : decode cX7_prevails 17 = .ok (.iload_n 3, 1) := by decide +kernel
theorem dX7_prevails_18 : decode cX7_prevails 18 = .ok (.invokevirtual 98, 3) := by decide +kernel
theorem dX7_prevails_21 : decode cX7_prevails 21 = .ok (.ifCond .eq 8, 3) := by decide +kernel
theorem dX7_prevails_24 : decode cX7_prevails 24 = .ok (.iload_n 2, 1) := by decide +kernel
theorem dX7_prevails_25 : decode cX7_prevails 25 = .ok (.iload_n 3, 1) := by decide +kernel
theorem dX7_prevails_26 : decode cX7_prevails 26 = .ok (.if_icmp .ne 6, 3) := by decide +kernel
theorem dX7_prevails_29 : decode cX7_prevails 29 = .ok (.bipush (-101), 2) := by decide +kernel
theorem dX7_prevails_31 : decode cX7_prevails 31 = .ok (.ireturn, 1) := by decide +kernel
theorem dX7_prevails_32 : decode cX7_prevails 32 = .ok (.aload_n 0, 1) := by decide +kernel
theorem dX7_prevails_33 : decode cX7_prevails 33 = .ok (.getfield 33, 3) := by decide +kernel
theorem dX7_prevails_36 : decode cX7_prevails 36 = .ok (.getfield 88, 3) := by decide +kernel
theorem dX7_prevails_39 : decode cX7_prevails 39 = .ok (.iload_n 2, 1) := by decide +kernel
theorem dX7_prevails_40 : decode cX7_prevails 40 = .ok (.aaload, 1) := by decide +kernel
theorem dX7_prevails_41 : decode cX7_prevails 41 = .ok (.getfield 188, 3) := by decide +kernel
theorem dX7_prevails_44 : decode cX7_prevails 44 = .ok (.istore 4, 2) := by decide +kernel
theorem dX7_prevails_46 : decode cX7_prevails 46 = .ok (.aload_n 0, 1) := by decide +kernel
theorem dX7_prevails_47 : decode cX7_prevails 47 = .ok (.getfield 33, 3) := by decide +kernel
theorem dX7_prevails_50 : decode cX7_prevails 50 = .ok (.getfield 88, 3) := by decide +kernel
theorem dX7_prevails_53 : decode cX7_prevails 53 = .ok (.iload_n 3, 1) := by decide +kernel
theorem dX7_prevails_54 : decode cX7_prevails 54 = .ok (.aaload, 1) := by decide +kernel
theorem dX7_prevails_55 : decode cX7_prevails 55 = .ok (.getfield 188, 3) := by decide +kernel
theorem dX7_prevails_58 : decode cX7_prevails 58 = .ok (.iload 4, 2) := by decide +kernel
theorem dX7_prevails_60 : decode cX7_prevails 60 = .ok (.if_icmp .eq 6, 3) := by decide +kernel
theorem dX7_prevails_63 : decode cX7_prevails 63 = .ok (.bipush (-101), 2) := by decide +kernel
theorem dX7_prevails_65 : decode cX7_prevails 65 = .ok (.ireturn, 1) := by decide +kernel
theorem dX7_prevails_66 : decode cX7_prevails 66 = .ok (.aload_n 0, 1) := by decide +kernel
theorem dX7_prevails_67 : decode cX7_prevails 67 = .ok (.getfield 54, 3) := by decide +kernel
theorem dX7_prevails_70 : decode cX7_prevails 70 = .ok (.aload_n 0, 1) := by decide +kernel
theorem dX7_prevails_71 : decode cX7_prevails 71 = .ok (.getfield 18, 3) := by decide +kernel
theorem dX7_prevails_74 : decode cX7_prevails 74 = .ok (.iload_n 1, 1) := by decide +kernel
theorem dX7_prevails_75 : decode cX7_prevails 75 = .ok (.aaload, 1) := by decide +kernel
theorem dX7_prevails_76 : decode cX7_prevails 76 = .ok (.iload 4, 2) := by decide +kernel
theorem dX7_prevails_78 : decode cX7_prevails 78 = .ok (.invokevirtual 191, 3) := by decide +kernel
theorem dX7_prevails_81 : decode cX7_prevails 81 = .ok (.aload_n 0, 1) := by decide +kernel
theorem dX7_prevails_82 : decode cX7_prevails 82 = .ok (.getfield 54, 3) := by decide +kernel
theorem dX7_prevails_85 : decode cX7_prevails 85 = .ok (.iload_n 2, 1) := by decide +kernel
theorem dX7_prevails_86 : decode cX7_prevails 86 = .ok (.iload_n 3, 1) := by decide +kernel
theorem dX7_prevails_87 : decode cX7_prevails 87 = .ok (.invokestatic 195, 3) := by decide +kernel
theorem dX7_prevails_90 : decode cX7_prevails 90 = .ok (.invokevirtual 198, 3) := by decide +kernel
theorem dX7_prevails_93 : decode cX7_prevails 93 = .ok (.ifCond .eq 7, 3) := by decide +kernel
theorem dX7_prevails_96 : decode cX7_prevails 96 = .ok (.iload_n 3, 1) := by decide +kernel
theorem dX7_prevails_97 : decode cX7_prevails 97 = .ok (.goto 4, 3) := by decide +kernel
theorem dX7_prevails_100 : decode cX7_prevails 100 = .ok (.iload_n 2, 1) := by decide +kernel
theorem dX7_prevails_101 : decode cX7_prevails 101 = .ok (.ireturn, 1) := by decide +kernel
theorem dX7_first_0 : decode cX7_first 0 = .ok (.aload_n 0, 1) := by decide +kernel
theorem dX7_first_1 : decode cX7_first 1 = .ok (.iload_n 1, 1) := by decide +kernel
theorem dX7_first_2 : decode cX7_first 2 = .ok (.invokevirtual 182, 3) := by decide +kernel
theorem dX7_first_5 : decode cX7_first 5 = .ok (.ifCond .ne 6, 3) := by decide +kernel
theorem dX7_first_8 : decode cX7_first 8 = .ok (.bipush (-101), 2) := by decide +kernel
theorem dX7_first_10 : decode cX7_first 10 = .ok (.ireturn, 1) := by decide +kernel
theorem dX7_first_11 : decode cX7_first 11 = .ok (.iload_n 2, 1) := by decide +kernel
theorem dX7_first_12 : decode cX7_first 12 = .ok (.ldc 140, 2) := by decide +kernel
theorem dX7_first_14 : decode cX7_first 14 = .ok (.invokestatic 67, 3) := by decide +kernel
theorem dX7_first_17 : decode cX7_first 17 = .ok (.ifCond .ne 6, 3) := by decide +kernel
theorem dX7_first_20 : decode cX7_first 20 = .ok (.bipush (-102), 2) := by decide +kernel
theorem dX7_first_22 : decode cX7_first 22 = .ok (.ireturn, 1) := by decide +kernel
theorem dX7_first_23 : decode cX7_first 23 = .ok (.iload_n 2, 1) := by decide +kernel
theorem dX7_first_24 : decode cX7_first 24 = .ok (.aload_n 0, 1) := by decide +kernel
theorem dX7_first_25 : decode cX7_first 25 = .ok (.getfield 33, 3) := by decide +kernel
theorem dX7_first_28 : decode cX7_first 28 = .ok (.getfield 85, 3) := by decide +kernel
theorem dX7_first_31 : decode cX7_first 31 = .ok (.iushr, 1) := by decide +kernel
theorem dX7_first_32 : decode cX7_first 32 = .ok (.ifCond .eq 6, 3) := by decide +kernel
theorem dX7_first_35 : decode cX7_first 35 = .ok (.bipush (-101), 2) := by decide +kernel
theorem dX7_first_37 : decode cX7_first 37 = .ok (.ireturn, 1) := by decide +kernel
theorem dX7_first_38 : decode cX7_first 38 = .ok (.iload_n 2, 1) := by decide +kernel
theorem dX7_first_39 : decode cX7_first 39 = .ok (.ifCond .ne 5, 3) := by decide +kernel
theorem dX7_first_42 : decode cX7_first 42 = .ok (.iconst (-1), 1) := by decide +kernel
theorem dX7_first_43 : decode cX7_first 43 = .ok (.ireturn, 1) := by decide +kernel
theorem dX7_first_44 : decode cX7_first 44 = .ok (.aload_n 0, 1) := by decide +kernel
theorem dX7_first_45 : decode cX7_first 45 = .ok (.getfield 33, 3) := by decide +kernel
theorem dX7_first_48 : decode cX7_first 48 = .ok (.getfield 88, 3) := by decide +kernel
theorem dX7_first_51 : decode cX7_first 51 = .ok (.iload_n 2, 1) := by decide +kernel
theorem dX7_first_52 : decode cX7_first 52 = .ok (.invokestatic 201, 3) := by decide +kernel
theorem dX7_first_55 : decode cX7_first 55 = .ok (.aaload, 1) := by decide +kernel
theorem dX7_first_56 : decode cX7_first 56 = .ok (.getfield 188, 3) := by decide +kernel
theorem dX7_first_59 : decode cX7_first 59 = .ok (.istore_n 3, 1) := by decide +kernel
theorem dX7_first_60 : decode cX7_first 60 = .ok (.iload_n 2, 1) := by decide +kernel
theorem dX7_first_61 : decode cX7_first 61 = .ok (.aload_n 0, 1) := by decide +kernel
theorem dX7_first_62 : decode cX7_first 62 = .ok (.getfield 33, 3) := by decide +kernel
theorem dX7_first_65 : decode cX7_first 65 = .ok (.iload_n 3, 1) := by decide +kernel
theorem dX7_first_66 : decode cX7_first 66 = .ok (.invokevirtual 204, 3) := by decide +kernel
theorem dX7_first_69 : decode cX7_first 69 = .ok (.iconst (-1), 1) := by decide +kernel
theorem dX7_first_70 : decode cX7_first 70 = .ok (.ixor, 1) := by decide +kernel
theorem dX7_first_71 : decode cX7_first 71 = .ok (.iand, 1) := by decide +kernel
theorem dX7_first_72 : decode cX7_first 72 = .ok (.ifCond .eq 6, 3) := by decide +kernel
theorem dX7_first_75 : decode cX7_first 75 = .ok (.bipush (-103), 2) := by decide +kernel
theorem dX7_first_77 : decode cX7_first 77 = .ok (.ireturn, 1) := by decide +kernel
theorem dX7_first_78 : decode cX7_first 78 = .ok (.aload_n 0, 1) := by decide +kernel
theorem dX7_first_79 : decode cX7_first 79 = .ok (.getfield 54, 3) := by decide +kernel
theorem dX7_first_82 : decode cX7_first 82 = .ok (.aload_n 0, 1) := by decide +kernel
theorem dX7_first_83 : decode cX7_first 83 = .ok (.getfield 18, 3) := by decide +kernel
theorem dX7_first_86 : decode cX7_first 86 = .ok (.iload_n 1, 1) := by decide +kernel
theorem dX7_first_87 : decode cX7_first 87 = .ok (.aaload, 1) := by decide +kernel
theorem dX7_first_88 : decode cX7_first 88 = .ok (.iload_n 3, 1) := by decide +kernel
theorem dX7_first_89 : decode cX7_first 89 = .ok (.invokevirtual 191, 3) := by decide +kernel
theorem dX7_first_92 : decode cX7_first 92 = .ok (.aload_n 0, 1) := by decide +kernel
theorem dX7_first_93 : decode cX7_first 93 = .ok (.getfield 54, 3) := by decide +kernel
theorem dX7_first_96 : decode cX7_first 96 = .ok (.iload_n 2, 1) := by decide +kernel
theorem dX7_first_97 : decode cX7_first 97 = .ok (.invokevirtual 207, 3) := by decide +kernel
theorem dX7_first_100 : decode cX7_first 100 = .ok (.ireturn, 1) := by decide +kernel
theorem dX7_whose_0 : decode cX7_whose 0 = .ok (.aload_n 0, 1) := by decide +kernel
theorem dX7_whose_1 : decode cX7_whose 1 = .ok (.iload_n 1, 1) := by decide +kernel
theorem dX7_whose_2 : decode cX7_whose 2 = .ok (.invokevirtual 182, 3) := by decide +kernel
theorem dX7_whose_5 : decode cX7_whose 5 = .ok (.ifCond .eq 11, 3) := by decide +kernel
theorem dX7_whose_8 : decode cX7_whose 8 = .ok (.aload_n 0, 1) := by decide +kernel
theorem dX7_whose_9 : decode cX7_whose 9 = .ok (.iload_n 2, 1) := by decide +kernel
theorem dX7_whose_10 : decode cX7_whose 10 = .ok (.invokevirtual 82, 3) := by decide +kernel
theorem dX7_whose_13 : decode cX7_whose 13 = .ok (.ifCond .ne 6, 3) := by decide +kernel
theorem dX7_whose_16 : decode cX7_whose 16 = .ok (.bipush (-101), 2) := by decide +kernel
theorem dX7_whose_18 : decode cX7_whose 18 = .ok (.ireturn, 1) := by decide +kernel
theorem dX7_whose_19 : decode cX7_whose 19 = .ok (.iload_n 3, 1) := by decide +kernel
theorem dX7_whose_20 : decode cX7_whose 20 = .ok (.iconst 1, 1) := by decide +kernel
theorem dX7_whose_21 : decode cX7_whose 21 = .ok (.invokestatic 67, 3) := by decide +kernel
theorem dX7_whose_24 : decode cX7_whose 24 = .ok (.ifCond .ne 13, 3) := by decide +kernel
theorem dX7_whose_27 : decode cX7_whose 27 = .ok (.iload_n 3, 1) := by decide +kernel
theorem dX7_whose_28 : decode cX7_whose 28 = .ok (.invokestatic 210, 3) := by decide +kernel
theorem dX7_whose_31 : decode cX7_whose 31 = .ok (.ifCond .ne 6, 3) := by decide +kernel
theorem dX7_whose_34 : decode cX7_whose 34 = .ok (.bipush (-102), 2) := by decide +kernel
theorem dX7_whose_36 : decode cX7_whose 36 = .ok (.ireturn, 1) := by decide +kernel
theorem dX7_whose_37 : decode cX7_whose 37 = .ok (.aload_n 0, 1) := by decide +kernel
theorem dX7_whose_38 : decode cX7_whose 38 = .ok (.getfield 54, 3) := by decide +kernel
theorem dX7_whose_41 : decode cX7_whose 41 = .ok (.aload_n 0, 1) := by decide +kernel
theorem dX7_whose_42 : decode cX7_whose 42 = .ok (.getfield 18, 3) := by decide +kernel
theorem dX7_whose_45 : decode cX7_whose 45 = .ok (.iload_n 1, 1) := by decide +kernel
theorem dX7_whose_46 : decode cX7_whose 46 = .ok (.aaload, 1) := by decide +kernel
theorem dX7_whose_47 : decode cX7_whose 47 = .ok (.iload_n 2, 1) := by decide +kernel
theorem dX7_whose_48 : decode cX7_whose 48 = .ok (.invokevirtual 191, 3) := by decide +kernel
theorem dX7_whose_51 : decode cX7_whose 51 = .ok (.aload_n 0, 1) := by decide +kernel
theorem dX7_whose_52 : decode cX7_whose 52 = .ok (.getfield 63, 3) := by decide +kernel
theorem dX7_whose_55 : decode cX7_whose 55 = .ok (.aload_n 0, 1) := by decide +kernel
theorem dX7_whose_56 : decode cX7_whose 56 = .ok (.getfield 13, 3) := by decide +kernel
theorem dX7_whose_59 : decode cX7_whose 59 = .ok (.iload_n 2, 1) := by decide +kernel
theorem dX7_whose_60 : decode cX7_whose 60 = .ok (.iaload, 1) := by decide +kernel
theorem dX7_whose_61 : decode cX7_whose 61 = .ok (.invokevirtual 213, 3) := by decide +kernel
theorem dX7_whose_64 : decode cX7_whose 64 = .ok (.iload_n 3, 1) := by decide +kernel
theorem dX7_whose_65 : decode cX7_whose 65 = .ok (.ifCond .ne 11, 3) := by decide +kernel
theorem dX7_whose_68 : decode cX7_whose 68 = .ok (.aload_n 0, 1) := by decide +kernel
theorem dX7_whose_69 : decode cX7_whose 69 = .ok (.getfield 63, 3) := by decide +kernel
theorem dX7_whose_72 : decode cX7_whose 72 = .ok (.getfield 217, 3) := by decide +kernel
theorem dX7_whose_75 : decode cX7_whose 75 = .ok (.ireturn, 1) := by decide +kernel
theorem dX7_whose_76 : decode cX7_whose 76 = .ok (.iload_n 3, 1) := by decide +kernel
theorem dX7_whose_77 : decode cX7_whose 77 = .ok (.iconst 1, 1) := by decide +kernel
theorem dX7_whose_78 : decode cX7_whose 78 = .ok (.if_icmp .ne 13, 3) := by decide +kernel
theorem dX7_whose_81 : decode cX7_whose 81 = .ok (.aload_n 0, 1) := by decide +kernel
theorem dX7_whose_82 : decode cX7_whose 82 = .ok (.getfield 63, 3) := by decide +kernel
theorem dX7_whose_85 : decode cX7_whose 85 = .ok (.getfield 220, 3) := by decide +kernel
theorem dX7_whose_88 : decode cX7_whose 88 = .ok (.goto 14, 3) := by decide +kernel
theorem dX7_whose_91 : decode cX7_whose 91 = .ok (.aload_n 0, 1) := by decide +kernel
theorem dX7_whose_92 : decode cX7_whose 92 = .ok (.getfield 63, 3) := by decide +kernel
theorem dX7_whose_95 : decode cX7_whose 95 = .ok (.iload_n 3, 1) := by decide +kernel
theorem dX7_whose_96 : decode cX7_whose 96 = .ok (.bipush 10, 2) := by decide +kernel
theorem dX7_whose_98 : decode cX7_whose 98 = .ok (.isub, 1) := by decide +kernel
theorem dX7_whose_99 : decode cX7_whose 99 = .ok (.invokevirtual 223, 3) := by decide +kernel
theorem dX7_whose_102 : decode cX7_whose 102 = .ok (.ireturn, 1) := by decide +kernel
theorem dX7_debts_0 : decode cX7_debts 0 = .ok (.aload_n 0, 1) := by decide +kernel
theorem dX7_debts_1 : decode cX7_debts 1 = .ok (.iload_n 1, 1) := by decide +kernel
theorem dX7_debts_2 : decode cX7_debts 2 = .ok (.invokevirtual 182, 3) := by decide +kernel
theorem dX7_debts_5 : decode cX7_debts 5 = .ok (.ifCond .eq 11, 3) := by decide +kernel
theorem dX7_debts_8 : decode cX7_debts 8 = .ok (.aload_n 0, 1) := by decide +kernel
theorem dX7_debts_9 : decode cX7_debts 9 = .ok (.iload_n 2, 1) := by decide +kernel
theorem dX7_debts_10 : decode cX7_debts 10 = .ok (.invokevirtual 82, 3) := by decide +kernel
theorem dX7_debts_13 : decode cX7_debts 13 = .ok (.ifCond .ne 6, 3) := by decide +kernel
theorem dX7_debts_16 : decode cX7_debts 16 = .ok (.bipush (-101), 2) := by decide +kernel
theorem dX7_debts_18 : decode cX7_debts 18 = .ok (.ireturn, 1) := by decide +kernel
theorem dX7_debts_19 : decode cX7_debts 19 = .ok (.iload_n 3, 1) := by decide +kernel
theorem dX7_debts_20 : decode cX7_debts 20 = .ok (.ifCond .eq 13, 3) := by decide +kernel
theorem dX7_debts_23 : decode cX7_debts 23 = .ok (.iload_n 3, 1) := by decide +kernel
theorem dX7_debts_24 : decode cX7_debts 24 = .ok (.invokestatic 210, 3) := by decide +kernel
theorem dX7_debts_27 : decode cX7_debts 27 = .ok (.ifCond .ne 6, 3) := by decide +kernel
theorem dX7_debts_30 : decode cX7_debts 30 = .ok (.bipush (-102), 2) := by decide +kernel
theorem dX7_debts_32 : decode cX7_debts 32 = .ok (.ireturn, 1) := by decide +kernel
theorem dX7_debts_33 : decode cX7_debts 33 = .ok (.aload_n 0, 1) := by decide +kernel
theorem dX7_debts_34 : decode cX7_debts 34 = .ok (.getfield 54, 3) := by decide +kernel
theorem dX7_debts_37 : decode cX7_debts 37 = .ok (.aload_n 0, 1) := by decide +kernel
theorem dX7_debts_38 : decode cX7_debts 38 = .ok (.getfield 18, 3) := by decide +kernel
theorem dX7_debts_41 : decode cX7_debts 41 = .ok (.iload_n 1, 1) := by decide +kernel
theorem dX7_debts_42 : decode cX7_debts 42 = .ok (.aaload, 1) := by decide +kernel
theorem dX7_debts_43 : decode cX7_debts 43 = .ok (.iload_n 2, 1) := by decide +kernel
theorem dX7_debts_44 : decode cX7_debts 44 = .ok (.invokevirtual 191, 3) := by decide +kernel
theorem dX7_debts_47 : decode cX7_debts 47 = .ok (.aload_n 0, 1) := by decide +kernel
theorem dX7_debts_48 : decode cX7_debts 48 = .ok (.getfield 63, 3) := by decide +kernel
theorem dX7_debts_51 : decode cX7_debts 51 = .ok (.aload_n 0, 1) := by decide +kernel
theorem dX7_debts_52 : decode cX7_debts 52 = .ok (.getfield 13, 3) := by decide +kernel
theorem dX7_debts_55 : decode cX7_debts 55 = .ok (.iload_n 2, 1) := by decide +kernel
theorem dX7_debts_56 : decode cX7_debts 56 = .ok (.iaload, 1) := by decide +kernel
theorem dX7_debts_57 : decode cX7_debts 57 = .ok (.invokevirtual 213, 3) := by decide +kernel
theorem dX7_debts_60 : decode cX7_debts 60 = .ok (.aload_n 0, 1) := by decide +kernel
theorem dX7_debts_61 : decode cX7_debts 61 = .ok (.getfield 63, 3) := by decide +kernel
theorem dX7_debts_64 : decode cX7_debts 64 = .ok (.invokevirtual 226, 3) := by decide +kernel
theorem dX7_debts_67 : decode cX7_debts 67 = .ok (.istore 4, 2) := by decide +kernel
theorem dX7_debts_69 : decode cX7_debts 69 = .ok (.iload_n 3, 1) := by decide +kernel
theorem dX7_debts_70 : decode cX7_debts 70 = .ok (.ifCond .ne 11, 3) := by decide +kernel
theorem dX7_debts_73 : decode cX7_debts 73 = .ok (.iload 4, 2) := by decide +kernel
theorem dX7_debts_75 : decode cX7_debts 75 = .ok (.invokestatic 229, 3) := by decide +kernel
theorem dX7_debts_78 : decode cX7_debts 78 = .ok (.goto 16, 3) := by decide +kernel
theorem dX7_debts_81 : decode cX7_debts 81 = .ok (.aload_n 0, 1) := by decide +kernel
theorem dX7_debts_82 : decode cX7_debts 82 = .ok (.getfield 63, 3) := by decide +kernel
theorem dX7_debts_85 : decode cX7_debts 85 = .ok (.iload 4, 2) := by decide +kernel
theorem dX7_debts_87 : decode cX7_debts 87 = .ok (.iload_n 3, 1) := by decide +kernel
theorem dX7_debts_88 : decode cX7_debts 88 = .ok (.bipush 10, 2) := by decide +kernel
theorem dX7_debts_90 : decode cX7_debts 90 = .ok (.isub, 1) := by decide +kernel
theorem dX7_debts_91 : decode cX7_debts 91 = .ok (.invokevirtual 234, 3) := by decide +kernel
theorem dX7_debts_94 : decode cX7_debts 94 = .ok (.ireturn, 1) := by decide +kernel
theorem dX7_rings_0 : decode cX7_rings 0 = .ok (.aload_n 0, 1) := by decide +kernel
theorem dX7_rings_1 : decode cX7_rings 1 = .ok (.iload_n 1, 1) := by decide +kernel
theorem dX7_rings_2 : decode cX7_rings 2 = .ok (.invokevirtual 182, 3) := by decide +kernel
theorem dX7_rings_5 : decode cX7_rings 5 = .ok (.ifCond .eq 11, 3) := by decide +kernel
theorem dX7_rings_8 : decode cX7_rings 8 = .ok (.aload_n 0, 1) := by decide +kernel
theorem dX7_rings_9 : decode cX7_rings 9 = .ok (.iload_n 2, 1) := by decide +kernel
theorem dX7_rings_10 : decode cX7_rings 10 = .ok (.invokevirtual 82, 3) := by decide +kernel
theorem dX7_rings_13 : decode cX7_rings 13 = .ok (.ifCond .ne 6, 3) := by decide +kernel
theorem dX7_rings_16 : decode cX7_rings 16 = .ok (.bipush (-101), 2) := by decide +kernel
theorem dX7_rings_18 : decode cX7_rings 18 = .ok (.ireturn, 1) := by decide +kernel
theorem dX7_rings_19 : decode cX7_rings 19 = .ok (.aload_n 0, 1) := by decide +kernel
theorem dX7_rings_20 : decode cX7_rings 20 = .ok (.getfield 54, 3) := by decide +kernel
theorem dX7_rings_23 : decode cX7_rings 23 = .ok (.aload_n 0, 1) := by decide +kernel
theorem dX7_rings_24 : decode cX7_rings 24 = .ok (.getfield 18, 3) := by decide +kernel
theorem dX7_rings_27 : decode cX7_rings 27 = .ok (.iload_n 1, 1) := by decide +kernel
theorem dX7_rings_28 : decode cX7_rings 28 = .ok (.aaload, 1) := by decide +kernel
theorem dX7_rings_29 : decode cX7_rings 29 = .ok (.iload_n 2, 1) := by decide +kernel
theorem dX7_rings_30 : decode cX7_rings 30 = .ok (.invokevirtual 191, 3) := by decide +kernel
theorem dX7_rings_33 : decode cX7_rings 33 = .ok (.iconst 0, 1) := by decide +kernel
theorem dX7_rings_34 : decode cX7_rings 34 = .ok (.istore_n 3, 1) := by decide +kernel
theorem dX7_rings_35 : decode cX7_rings 35 = .ok (.iconst 0, 1) := by decide +kernel
theorem dX7_rings_36 : decode cX7_rings 36 = .ok (.istore 4, 2) := by decide +kernel
theorem dX7_rings_38 : decode cX7_rings 38 = .ok (.iload 4, 2) := by decide +kernel
theorem dX7_rings_40 : decode cX7_rings 40 = .ok (.aload_n 0, 1) := by decide +kernel
theorem dX7_rings_41 : decode cX7_rings 41 = .ok (.getfield 71, 3) := by decide +kernel
theorem dX7_rings_44 : decode cX7_rings 44 = .ok (.if_icmp .ge 28, 3) := by decide +kernel
theorem dX7_rings_47 : decode cX7_rings 47 = .ok (.iload_n 3, 1) := by decide +kernel
theorem dX7_rings_48 : decode cX7_rings 48 = .ok (.aload_n 0, 1) := by decide +kernel
theorem dX7_rings_49 : decode cX7_rings 49 = .ok (.getfield 54, 3) := by decide +kernel
theorem dX7_rings_52 : decode cX7_rings 52 = .ok (.aload_n 0, 1) := by decide +kernel
theorem dX7_rings_53 : decode cX7_rings 53 = .ok (.getfield 54, 3) := by decide +kernel
theorem dX7_rings_56 : decode cX7_rings 56 = .ok (.iload 4, 2) := by decide +kernel
theorem dX7_rings_58 : decode cX7_rings 58 = .ok (.invokevirtual 238, 3) := by decide +kernel
theorem dX7_rings_61 : decode cX7_rings 61 = .ok (.invokevirtual 241, 3) := by decide +kernel
theorem dX7_rings_64 : decode cX7_rings 64 = .ok (.iadd, 1) := by decide +kernel
theorem dX7_rings_65 : decode cX7_rings 65 = .ok (.istore_n 3, 1) := by decide +kernel
theorem dX7_rings_66 : decode cX7_rings 66 = .ok (.iinc 4 1, 3) := by decide +kernel
theorem dX7_rings_69 : decode cX7_rings 69 = .ok (.goto (-31), 3) := by decide +kernel
theorem dX7_rings_72 : decode cX7_rings 72 = .ok (.iload_n 3, 1) := by decide +kernel
theorem dX7_rings_73 : decode cX7_rings 73 = .ok (.ireturn, 1) := by decide +kernel
theorem dX7_moves_0 : decode cX7_moves 0 = .ok (.aload_n 0, 1) := by decide +kernel
theorem dX7_moves_1 : decode cX7_moves 1 = .ok (.iload_n 1, 1) := by decide +kernel
theorem dX7_moves_2 : decode cX7_moves 2 = .ok (.invokevirtual 182, 3) := by decide +kernel
theorem dX7_moves_5 : decode cX7_moves 5 = .ok (.ifCond .eq 11, 3) := by decide +kernel
theorem dX7_moves_8 : decode cX7_moves 8 = .ok (.aload_n 0, 1) := by decide +kernel
theorem dX7_moves_9 : decode cX7_moves 9 = .ok (.iload_n 2, 1) := by decide +kernel
theorem dX7_moves_10 : decode cX7_moves 10 = .ok (.invokevirtual 182, 3) := by decide +kernel
theorem dX7_moves_13 : decode cX7_moves 13 = .ok (.ifCond .ne 6, 3) := by decide +kernel
theorem dX7_moves_16 : decode cX7_moves 16 = .ok (.bipush (-101), 2) := by decide +kernel
theorem dX7_moves_18 : decode cX7_moves 18 = .ok (.ireturn, 1) := by decide +kernel
theorem dX7_moves_19 : decode cX7_moves 19 = .ok (.iconst 0, 1) := by decide +kernel
theorem dX7_moves_20 : decode cX7_moves 20 = .ok (.istore_n 3, 1) := by decide +kernel
theorem dX7_moves_21 : decode cX7_moves 21 = .ok (.iconst 0, 1) := by decide +kernel
theorem dX7_moves_22 : decode cX7_moves 22 = .ok (.istore 4, 2) := by decide +kernel
theorem dX7_moves_24 : decode cX7_moves 24 = .ok (.iload 4, 2) := by decide +kernel
theorem dX7_moves_26 : decode cX7_moves 26 = .ok (.aload_n 0, 1) := by decide +kernel
theorem dX7_moves_27 : decode cX7_moves 27 = .ok (.getfield 79, 3) := by decide +kernel
theorem dX7_moves_30 : decode cX7_moves 30 = .ok (.if_icmp .ge 44, 3) := by decide +kernel
theorem dX7_moves_33 : decode cX7_moves 33 = .ok (.aload_n 0, 1) := by decide +kernel
theorem dX7_moves_34 : decode cX7_moves 34 = .ok (.aload_n 0, 1) := by decide +kernel
theorem dX7_moves_35 : decode cX7_moves 35 = .ok (.getfield 18, 3) := by decide +kernel
theorem dX7_moves_38 : decode cX7_moves 38 = .ok (.iload_n 1, 1) := by decide +kernel
theorem dX7_moves_39 : decode cX7_moves 39 = .ok (.aaload, 1) := by decide +kernel
theorem dX7_moves_40 : decode cX7_moves 40 = .ok (.iload 4, 2) := by decide +kernel
theorem dX7_moves_42 : decode cX7_moves 42 = .ok (.invokevirtual 244, 3) := by decide +kernel
theorem dX7_moves_45 : decode cX7_moves 45 = .ok (.aload_n 0, 1) := by decide +kernel
theorem dX7_moves_46 : decode cX7_moves 46 = .ok (.aload_n 0, 1) := by decide +kernel
theorem dX7_moves_47 : decode cX7_moves 47 = .ok (.getfield 18, 3) := by decide +kernel
theorem dX7_moves_50 : decode cX7_moves 50 = .ok (.iload_n 2, 1) := by decide +kernel
theorem dX7_moves_51 : decode cX7_moves 51 = .ok (.aaload, 1) := by decide +kernel
theorem dX7_moves_52 : decode cX7_moves 52 = .ok (.iload 4, 2) := by decide +kernel
theorem dX7_moves_54 : decode cX7_moves 54 = .ok (.invokevirtual 244, 3) := by decide +kernel
theorem dX7_moves_57 : decode cX7_moves 57 = .ok (.if_icmp .eq 11, 3) := by decide +kernel
theorem dX7_moves_60 : decode cX7_moves 60 = .ok (.iload_n 3, 1) := by decide +kernel
theorem dX7_moves_61 : decode cX7_moves 61 = .ok (.iload 4, 2) := by decide +kernel
theorem dX7_moves_63 : decode cX7_moves 63 = .ok (.invokestatic 195, 3) := by decide +kernel
theorem dX7_moves_66 : decode cX7_moves 66 = .ok (.ior, 1) := by decide +kernel
theorem dX7_moves_67 : decode cX7_moves 67 = .ok (.istore_n 3, 1) := by decide +kernel
theorem dX7_moves_68 : decode cX7_moves 68 = .ok (.iinc 4 1, 3) := by decide +kernel
theorem dX7_moves_71 : decode cX7_moves 71 = .ok (.goto (-47), 3) := by decide +kernel
theorem dX7_moves_74 : decode cX7_moves 74 = .ok (.iload_n 3, 1) := by decide +kernel
theorem dX7_moves_75 : decode cX7_moves 75 = .ok (.ireturn, 1) := by decide +kernel
theorem dX7_hangs_0 : decode cX7_hangs 0 = .ok (.aload_n 0, 1) := by decide +kernel
theorem dX7_hangs_1 : decode cX7_hangs 1 = .ok (.iload_n 1, 1) := by decide +kernel
theorem dX7_hangs_2 : decode cX7_hangs 2 = .ok (.invokevirtual 182, 3) := by decide +kernel
theorem dX7_hangs_5 : decode cX7_hangs 5 = .ok (.ifCond .eq 11, 3) := by decide +kernel
theorem dX7_hangs_8 : decode cX7_hangs 8 = .ok (.aload_n 0, 1) := by decide +kernel
theorem dX7_hangs_9 : decode cX7_hangs 9 = .ok (.iload_n 2, 1) := by decide +kernel
theorem dX7_hangs_10 : decode cX7_hangs 10 = .ok (.invokevirtual 82, 3) := by decide +kernel
theorem dX7_hangs_13 : decode cX7_hangs 13 = .ok (.ifCond .ne 6, 3) := by decide +kernel
theorem dX7_hangs_16 : decode cX7_hangs 16 = .ok (.bipush (-101), 2) := by decide +kernel
theorem dX7_hangs_18 : decode cX7_hangs 18 = .ok (.ireturn, 1) := by decide +kernel
theorem dX7_hangs_19 : decode cX7_hangs 19 = .ok (.iload_n 3, 1) := by decide +kernel
theorem dX7_hangs_20 : decode cX7_hangs 20 = .ok (.iconst 2, 1) := by decide +kernel
theorem dX7_hangs_21 : decode cX7_hangs 21 = .ok (.invokestatic 67, 3) := by decide +kernel
theorem dX7_hangs_24 : decode cX7_hangs 24 = .ok (.ifCond .ne 6, 3) := by decide +kernel
theorem dX7_hangs_27 : decode cX7_hangs 27 = .ok (.bipush (-102), 2) := by decide +kernel
theorem dX7_hangs_29 : decode cX7_hangs 29 = .ok (.ireturn, 1) := by decide +kernel
theorem dX7_hangs_30 : decode cX7_hangs 30 = .ok (.iload_n 3, 1) := by decide +kernel
theorem dX7_hangs_31 : decode cX7_hangs 31 = .ok (.ifCond .ne 24, 3) := by decide +kernel
theorem dX7_hangs_34 : decode cX7_hangs 34 = .ok (.aload_n 0, 1) := by decide +kernel
theorem dX7_hangs_35 : decode cX7_hangs 35 = .ok (.getfield 63, 3) := by decide +kernel
theorem dX7_hangs_38 : decode cX7_hangs 38 = .ok (.aload_n 0, 1) := by decide +kernel
theorem dX7_hangs_39 : decode cX7_hangs 39 = .ok (.getfield 18, 3) := by decide +kernel
theorem dX7_hangs_42 : decode cX7_hangs 42 = .ok (.iload_n 1, 1) := by decide +kernel
theorem dX7_hangs_43 : decode cX7_hangs 43 = .ok (.aaload, 1) := by decide +kernel
theorem dX7_hangs_44 : decode cX7_hangs 44 = .ok (.iload_n 2, 1) := by decide +kernel
theorem dX7_hangs_45 : decode cX7_hangs 45 = .ok (.aload_n 0, 1) := by decide +kernel
theorem dX7_hangs_46 : decode cX7_hangs 46 = .ok (.getfield 13, 3) := by decide +kernel
theorem dX7_hangs_49 : decode cX7_hangs 49 = .ok (.iload_n 2, 1) := by decide +kernel
theorem dX7_hangs_50 : decode cX7_hangs 50 = .ok (.iaload, 1) := by decide +kernel
theorem dX7_hangs_51 : decode cX7_hangs 51 = .ok (.invokevirtual 247, 3) := by decide +kernel
theorem dX7_hangs_54 : decode cX7_hangs 54 = .ok (.ireturn, 1) := by decide +kernel
theorem dX7_hangs_55 : decode cX7_hangs 55 = .ok (.aload_n 0, 1) := by decide +kernel
theorem dX7_hangs_56 : decode cX7_hangs 56 = .ok (.getfield 63, 3) := by decide +kernel
theorem dX7_hangs_59 : decode cX7_hangs 59 = .ok (.aload_n 0, 1) := by decide +kernel
theorem dX7_hangs_60 : decode cX7_hangs 60 = .ok (.getfield 18, 3) := by decide +kernel
theorem dX7_hangs_63 : decode cX7_hangs 63 = .ok (.iload_n 1, 1) := by decide +kernel
theorem dX7_hangs_64 : decode cX7_hangs 64 = .ok (.aaload, 1) := by decide +kernel
theorem dX7_hangs_65 : decode cX7_hangs 65 = .ok (.iload_n 2, 1) := by decide +kernel
theorem dX7_hangs_66 : decode cX7_hangs 66 = .ok (.aload_n 0, 1) := by decide +kernel
theorem dX7_hangs_67 : decode cX7_hangs 67 = .ok (.getfield 13, 3) := by decide +kernel
theorem dX7_hangs_70 : decode cX7_hangs 70 = .ok (.iload_n 2, 1) := by decide +kernel
theorem dX7_hangs_71 : decode cX7_hangs 71 = .ok (.iaload, 1) := by decide +kernel
theorem dX7_hangs_72 : decode cX7_hangs 72 = .ok (.invokevirtual 251, 3) := by decide +kernel
theorem dX7_hangs_75 : decode cX7_hangs 75 = .ok (.istore 4, 2) := by decide +kernel
theorem dX7_hangs_77 : decode cX7_hangs 77 = .ok (.iload 4, 2) := by decide +kernel
theorem dX7_hangs_79 : decode cX7_hangs 79 = .ok (.iconst (-1), 1) := by decide +kernel
theorem dX7_hangs_80 : decode cX7_hangs 80 = .ok (.if_icmp .ne 5, 3) := by decide +kernel
theorem dX7_hangs_83 : decode cX7_hangs 83 = .ok (.iconst (-1), 1) := by decide +kernel
theorem dX7_hangs_84 : decode cX7_hangs 84 = .ok (.ireturn, 1) := by decide +kernel
theorem dX7_hangs_85 : decode cX7_hangs 85 = .ok (.iload_n 3, 1) := by decide +kernel
theorem dX7_hangs_86 : decode cX7_hangs 86 = .ok (.iconst 1, 1) := by decide +kernel
theorem dX7_hangs_87 : decode cX7_hangs 87 = .ok (.if_icmp .ne 11, 3) := by decide +kernel
theorem dX7_hangs_90 : decode cX7_hangs 90 = .ok (.iload 4, 2) := by decide +kernel
theorem dX7_hangs_92 : decode cX7_hangs 92 = .ok (.bipush 16, 2) := by decide +kernel
theorem dX7_hangs_94 : decode cX7_hangs 94 = .ok (.idiv, 1) := by decide +kernel
theorem dX7_hangs_95 : decode cX7_hangs 95 = .ok (.goto 8, 3) := by decide +kernel
theorem dX7_hangs_98 : decode cX7_hangs 98 = .ok (.iload 4, 2) := by decide +kernel
theorem dX7_hangs_100 : decode cX7_hangs 100 = .ok (.bipush 16, 2) := by decide +kernel
theorem dX7_hangs_102 : decode cX7_hangs 102 = .ok (.irem, 1) := by decide +kernel
theorem dX7_hangs_103 : decode cX7_hangs 103 = .ok (.ireturn, 1) := by decide +kernel
theorem dX7_wild_0 : decode cX7_wild 0 = .ok (.aload_n 0, 1) := by decide +kernel
theorem dX7_wild_1 : decode cX7_wild 1 = .ok (.iload_n 1, 1) := by decide +kernel
theorem dX7_wild_2 : decode cX7_wild 2 = .ok (.invokevirtual 82, 3) := by decide +kernel
theorem dX7_wild_5 : decode cX7_wild 5 = .ok (.ifCond .ne 6, 3) := by decide +kernel
theorem dX7_wild_8 : decode cX7_wild 8 = .ok (.bipush (-101), 2) := by decide +kernel
theorem dX7_wild_10 : decode cX7_wild 10 = .ok (.ireturn, 1) := by decide +kernel
theorem dX7_wild_11 : decode cX7_wild 11 = .ok (.iconst 0, 1) := by decide +kernel
theorem dX7_wild_12 : decode cX7_wild 12 = .ok (.istore_n 2, 1) := by decide +kernel
theorem dX7_wild_13 : decode cX7_wild 13 = .ok (.iconst 0, 1) := by decide +kernel
theorem dX7_wild_14 : decode cX7_wild 14 = .ok (.istore_n 3, 1) := by decide +kernel
theorem dX7_wild_15 : decode cX7_wild 15 = .ok (.iload_n 3, 1) := by decide +kernel
theorem dX7_wild_16 : decode cX7_wild 16 = .ok (.aload_n 0, 1) := by decide +kernel
theorem dX7_wild_17 : decode cX7_wild 17 = .ok (.getfield 71, 3) := by decide +kernel
theorem dX7_wild_20 : decode cX7_wild 20 = .ok (.if_icmp .ge 36, 3) := by decide +kernel
theorem dX7_wild_23 : decode cX7_wild 23 = .ok (.aload_n 0, 1) := by decide +kernel
theorem dX7_wild_24 : decode cX7_wild 24 = .ok (.getfield 45, 3) := by decide +kernel
theorem dX7_wild_27 : decode cX7_wild 27 = .ok (.iload_n 1, 1) := by decide +kernel
theorem dX7_wild_28 : decode cX7_wild 28 = .ok (.aload_n 0, 1) := by decide +kernel
theorem dX7_wild_29 : decode cX7_wild 29 = .ok (.getfield 9, 3) := by decide +kernel
theorem dX7_wild_32 : decode cX7_wild 32 = .ok (.iload_n 3, 1) := by decide +kernel
theorem dX7_wild_33 : decode cX7_wild 33 = .ok (.iaload, 1) := by decide +kernel
theorem dX7_wild_34 : decode cX7_wild 34 = .ok (.sipush 999, 3) := by decide +kernel
theorem dX7_wild_37 : decode cX7_wild 37 = .ok (.invokevirtual 169, 3) := by decide +kernel
theorem dX7_wild_40 : decode cX7_wild 40 = .ok (.iload_n 2, 1) := by decide +kernel
theorem dX7_wild_41 : decode cX7_wild 41 = .ok (.aload_n 0, 1) := by decide +kernel
theorem dX7_wild_42 : decode cX7_wild 42 = .ok (.getfield 45, 3) := by decide +kernel
theorem dX7_wild_45 : decode cX7_wild 45 = .ok (.getfield 173, 3) := by decide +kernel
theorem dX7_wild_48 : decode cX7_wild 48 = .ok (.ior, 1) := by decide +kernel
theorem dX7_wild_49 : decode cX7_wild 49 = .ok (.istore_n 2, 1) := by decide +kernel
theorem dX7_wild_50 : decode cX7_wild 50 = .ok (.iinc 3 1, 3) := by decide +kernel
theorem dX7_wild_53 : decode cX7_wild 53 = .ok (.goto (-38), 3) := by decide +kernel
theorem dX7_wild_56 : decode cX7_wild 56 = .ok (.aload_n 0, 1) := by decide +kernel
theorem dX7_wild_57 : decode cX7_wild 57 = .ok (.getfield 33, 3) := by decide +kernel
theorem dX7_wild_60 : decode cX7_wild 60 = .ok (.iload_n 1, 1) := by decide +kernel
theorem dX7_wild_61 : decode cX7_wild 61 = .ok (.invokevirtual 254, 3) := by decide +kernel
theorem dX7_wild_64 : decode cX7_wild 64 = .ok (.iload_n 2, 1) := by decide +kernel
theorem dX7_wild_65 : decode cX7_wild 65 = .ok (.iconst (-1), 1) := by decide +kernel
theorem dX7_wild_66 : decode cX7_wild 66 = .ok (.ixor, 1) := by decide +kernel
theorem dX7_wild_67 : decode cX7_wild 67 = .ok (.iand, 1) := by decide +kernel
theorem dX7_wild_68 : decode cX7_wild 68 = .ok (.ireturn, 1) := by decide +kernel
theorem dX7_lost_0 : decode cX7_lost 0 = .ok (.aload_n 0, 1) := by decide +kernel
theorem dX7_lost_1 : decode cX7_lost 1 = .ok (.iload_n 1, 1) := by decide +kernel
theorem dX7_lost_2 : decode cX7_lost 2 = .ok (.invokevirtual 182, 3) := by decide +kernel
theorem dX7_lost_5 : decode cX7_lost 5 = .ok (.ifCond .eq 11, 3) := by decide +kernel
theorem dX7_lost_8 : decode cX7_lost 8 = .ok (.aload_n 0, 1) := by decide +kernel
theorem dX7_lost_9 : decode cX7_lost 9 = .ok (.iload_n 2, 1) := by decide +kernel
theorem dX7_lost_10 : decode cX7_lost 10 = .ok (.invokevirtual 75, 3) := by decide +kernel
theorem dX7_lost_13 : decode cX7_lost 13 = .ok (.ifCond .ne 6, 3) := by decide +kernel
theorem dX7_lost_16 : decode cX7_lost 16 = .ok (.bipush (-101), 2) := by decide +kernel
theorem dX7_lost_18 : decode cX7_lost 18 = .ok (.ireturn, 1) := by decide +kernel
theorem dX7_lost_19 : decode cX7_lost 19 = .ok (.iconst 0, 1) := by decide +kernel
theorem dX7_lost_20 : decode cX7_lost 20 = .ok (.istore_n 3, 1) := by decide +kernel
theorem dX7_lost_21 : decode cX7_lost 21 = .ok (.iconst 0, 1) := by decide +kernel
theorem dX7_lost_22 : decode cX7_lost 22 = .ok (.istore 4, 2) := by decide +kernel
theorem dX7_lost_24 : decode cX7_lost 24 = .ok (.iload 4, 2) := by decide +kernel
theorem dX7_lost_26 : decode cX7_lost 26 = .ok (.aload_n 0, 1) := by decide +kernel
theorem dX7_lost_27 : decode cX7_lost 27 = .ok (.getfield 79, 3) := by decide +kernel
theorem dX7_lost_30 : decode cX7_lost 30 = .ok (.if_icmp .ge 66, 3) := by decide +kernel
theorem dX7_lost_33 : decode cX7_lost 33 = .ok (.aload_n 0, 1) := by decide +kernel
theorem dX7_lost_34 : decode cX7_lost 34 = .ok (.getfield 54, 3) := by decide +kernel
theorem dX7_lost_37 : decode cX7_lost 37 = .ok (.aload_n 0, 1) := by decide +kernel
theorem dX7_lost_38 : decode cX7_lost 38 = .ok (.getfield 18, 3) := by decide +kernel
theorem dX7_lost_41 : decode cX7_lost 41 = .ok (.iload_n 1, 1) := by decide +kernel
theorem dX7_lost_42 : decode cX7_lost 42 = .ok (.aaload, 1) := by decide +kernel
theorem dX7_lost_43 : decode cX7_lost 43 = .ok (.iload 4, 2) := by decide +kernel
theorem dX7_lost_45 : decode cX7_lost 45 = .ok (.invokevirtual 191, 3) := by decide +kernel
theorem dX7_lost_48 : decode cX7_lost 48 = .ok (.aload_n 0, 1) := by decide +kernel
theorem dX7_lost_49 : decode cX7_lost 49 = .ok (.getfield 63, 3) := by decide +kernel
theorem dX7_lost_52 : decode cX7_lost 52 = .ok (.aload_n 0, 1) := by decide +kernel
theorem dX7_lost_53 : decode cX7_lost 53 = .ok (.getfield 13, 3) := by decide +kernel
theorem dX7_lost_56 : decode cX7_lost 56 = .ok (.iload 4, 2) := by decide +kernel
theorem dX7_lost_58 : decode cX7_lost 58 = .ok (.iaload, 1) := by decide +kernel
theorem dX7_lost_59 : decode cX7_lost 59 = .ok (.invokevirtual 213, 3) := by decide +kernel
theorem dX7_lost_62 : decode cX7_lost 62 = .ok (.iload_n 3, 1) := by decide +kernel
theorem dX7_lost_63 : decode cX7_lost 63 = .ok (.aload_n 0, 1) := by decide +kernel
theorem dX7_lost_64 : decode cX7_lost 64 = .ok (.getfield 54, 3) := by decide +kernel
theorem dX7_lost_67 : decode cX7_lost 67 = .ok (.aload_n 0, 1) := by decide +kernel
theorem dX7_lost_68 : decode cX7_lost 68 = .ok (.getfield 54, 3) := by decide +kernel
theorem dX7_lost_71 : decode cX7_lost 71 = .ok (.iload_n 2, 1) := by decide +kernel
theorem dX7_lost_72 : decode cX7_lost 72 = .ok (.invokevirtual 238, 3) := by decide +kernel
theorem dX7_lost_75 : decode cX7_lost 75 = .ok (.invokevirtual 257, 3) := by decide +kernel
theorem dX7_lost_78 : decode cX7_lost 78 = .ok (.aload_n 0, 1) := by decide +kernel
theorem dX7_lost_79 : decode cX7_lost 79 = .ok (.getfield 63, 3) := by decide +kernel
theorem dX7_lost_82 : decode cX7_lost 82 = .ok (.getfield 260, 3) := by decide +kernel
theorem dX7_lost_85 : decode cX7_lost 85 = .ok (.iconst (-1), 1) := by decide +kernel
theorem dX7_lost_86 : decode cX7_lost 86 = .ok (.ixor, 1) := by decide +kernel
theorem dX7_lost_87 : decode cX7_lost 87 = .ok (.iand, 1) := by decide +kernel
theorem dX7_lost_88 : decode cX7_lost 88 = .ok (.ior, 1) := by decide +kernel
theorem dX7_lost_89 : decode cX7_lost 89 = .ok (.istore_n 3, 1) := by decide +kernel
theorem dX7_lost_90 : decode cX7_lost 90 = .ok (.iinc 4 1, 3) := by decide +kernel
theorem dX7_lost_93 : decode cX7_lost 93 = .ok (.goto (-69), 3) := by decide +kernel
theorem dX7_lost_96 : decode cX7_lost 96 = .ok (.iload_n 3, 1) := by decide +kernel
theorem dX7_lost_97 : decode cX7_lost 97 = .ok (.ireturn, 1) := by decide +kernel
theorem dX7_safe_0 : decode cX7_safe 0 = .ok (.aload_n 0, 1) := by decide +kernel
theorem dX7_safe_1 : decode cX7_safe 1 = .ok (.iload_n 1, 1) := by decide +kernel
theorem dX7_safe_2 : decode cX7_safe 2 = .ok (.invokevirtual 182, 3) := by decide +kernel
theorem dX7_safe_5 : decode cX7_safe 5 = .ok (.ifCond .ne 6, 3) := by decide +kernel
theorem dX7_safe_8 : decode cX7_safe 8 = .ok (.bipush (-101), 2) := by decide +kernel
theorem dX7_safe_10 : decode cX7_safe 10 = .ok (.ireturn, 1) := by decide +kernel
theorem dX7_safe_11 : decode cX7_safe 11 = .ok (.iconst 0, 1) := by decide +kernel
theorem dX7_safe_12 : decode cX7_safe 12 = .ok (.istore_n 2, 1) := by decide +kernel
theorem dX7_safe_13 : decode cX7_safe 13 = .ok (.iconst 0, 1) := by decide +kernel
theorem dX7_safe_14 : decode cX7_safe 14 = .ok (.istore_n 3, 1) := by decide +kernel
theorem dX7_safe_15 : decode cX7_safe 15 = .ok (.iload_n 3, 1) := by decide +kernel
theorem dX7_safe_16 : decode cX7_safe 16 = .ok (.aload_n 0, 1) := by decide +kernel
theorem dX7_safe_17 : decode cX7_safe 17 = .ok (.getfield 79, 3) := by decide +kernel
theorem dX7_safe_20 : decode cX7_safe 20 = .ok (.if_icmp .ge 64, 3) := by decide +kernel
theorem dX7_safe_23 : decode cX7_safe 23 = .ok (.aload_n 0, 1) := by decide +kernel
theorem dX7_safe_24 : decode cX7_safe 24 = .ok (.getfield 63, 3) := by decide +kernel
theorem dX7_safe_27 : decode cX7_safe 27 = .ok (.aload_n 0, 1) := by decide +kernel
theorem dX7_safe_28 : decode cX7_safe 28 = .ok (.getfield 18, 3) := by decide +kernel
theorem dX7_safe_31 : decode cX7_safe 31 = .ok (.iload_n 1, 1) := by decide +kernel
theorem dX7_safe_32 : decode cX7_safe 32 = .ok (.aaload, 1) := by decide +kernel
theorem dX7_safe_33 : decode cX7_safe 33 = .ok (.iload_n 3, 1) := by decide +kernel
theorem dX7_safe_34 : decode cX7_safe 34 = .ok (.aload_n 0, 1) := by decide +kernel
theorem dX7_safe_35 : decode cX7_safe 35 = .ok (.getfield 13, 3) := by decide +kernel
theorem dX7_safe_38 : decode cX7_safe 38 = .ok (.iload_n 3, 1) := by decide +kernel
theorem dX7_safe_39 : decode cX7_safe 39 = .ok (.iaload, 1) := by decide +kernel
theorem dX7_safe_40 : decode cX7_safe 40 = .ok (.invokevirtual 247, 3) := by decide +kernel
theorem dX7_safe_43 : decode cX7_safe 43 = .ok (.iconst (-1), 1) := by decide +kernel
theorem dX7_safe_44 : decode cX7_safe 44 = .ok (.if_icmp .ne 34, 3) := by decide +kernel
theorem dX7_safe_47 : decode cX7_safe 47 = .ok (.aload_n 0, 1) := by decide +kernel
theorem dX7_safe_48 : decode cX7_safe 48 = .ok (.getfield 63, 3) := by decide +kernel
theorem dX7_safe_51 : decode cX7_safe 51 = .ok (.aload_n 0, 1) := by decide +kernel
theorem dX7_safe_52 : decode cX7_safe 52 = .ok (.getfield 18, 3) := by decide +kernel
theorem dX7_safe_55 : decode cX7_safe 55 = .ok (.iload_n 1, 1) := by decide +kernel
theorem dX7_safe_56 : decode cX7_safe 56 = .ok (.aaload, 1) := by decide +kernel
theorem dX7_safe_57 : decode cX7_safe 57 = .ok (.iload_n 3, 1) := by decide +kernel
theorem dX7_safe_58 : decode cX7_safe 58 = .ok (.aload_n 0, 1) := by decide +kernel
theorem dX7_safe_59 : decode cX7_safe 59 = .ok (.getfield 13, 3) := by decide +kernel
theorem dX7_safe_62 : decode cX7_safe 62 = .ok (.iload_n 3, 1) := by decide +kernel
theorem dX7_safe_63 : decode cX7_safe 63 = .ok (.iaload, 1) := by decide +kernel
theorem dX7_safe_64 : decode cX7_safe 64 = .ok (.invokevirtual 251, 3) := by decide +kernel
theorem dX7_safe_67 : decode cX7_safe 67 = .ok (.iconst (-1), 1) := by decide +kernel
theorem dX7_safe_68 : decode cX7_safe 68 = .ok (.if_icmp .ne 10, 3) := by decide +kernel
theorem dX7_safe_71 : decode cX7_safe 71 = .ok (.iload_n 2, 1) := by decide +kernel
theorem dX7_safe_72 : decode cX7_safe 72 = .ok (.iload_n 3, 1) := by decide +kernel
theorem dX7_safe_73 : decode cX7_safe 73 = .ok (.invokestatic 195, 3) := by decide +kernel
theorem dX7_safe_76 : decode cX7_safe 76 = .ok (.ior, 1) := by decide +kernel
theorem dX7_safe_77 : decode cX7_safe 77 = .ok (.istore_n 2, 1) := by decide +kernel
theorem dX7_safe_78 : decode cX7_safe 78 = .ok (.iinc 3 1, 3) := by decide +kernel
theorem dX7_safe_81 : decode cX7_safe 81 = .ok (.goto (-66), 3) := by decide +kernel
theorem dX7_safe_84 : decode cX7_safe 84 = .ok (.iload_n 2, 1) := by decide +kernel
theorem dX7_safe_85 : decode cX7_safe 85 = .ok (.ireturn, 1) := by decide +kernel
theorem dX7_image_0 : decode cX7_image 0 = .ok (.aload_n 0, 1) := by decide +kernel
theorem dX7_image_1 : decode cX7_image 1 = .ok (.getfield 37, 3) := by decide +kernel
theorem dX7_image_4 : decode cX7_image 4 = .ok (.aload_n 0, 1) := by decide +kernel
theorem dX7_image_5 : decode cX7_image 5 = .ok (.getfield 33, 3) := by decide +kernel
theorem dX7_image_8 : decode cX7_image 8 = .ok (.invokevirtual 263, 3) := by decide +kernel
theorem dX7_image_11 : decode cX7_image 11 = .ok (.aload_n 0, 1) := by decide +kernel
theorem dX7_image_12 : decode cX7_image 12 = .ok (.iconst 1, 1) := by decide +kernel
theorem dX7_image_13 : decode cX7_image 13 = .ok (.putfield 266, 3) := by decide +kernel
theorem dX7_image_16 : decode cX7_image 16 = .ok (.aload_n 0, 1) := by decide +kernel
theorem dX7_image_17 : decode cX7_image 17 = .ok (.getfield 37, 3) := by decide +kernel
theorem dX7_image_20 : decode cX7_image 20 = .ok (.getfield 85, 3) := by decide +kernel
theorem dX7_image_23 : decode cX7_image 23 = .ok (.ireturn, 1) := by decide +kernel
theorem dX7_restore_0 : decode cX7_restore 0 = .ok (.aload_n 0, 1) := by decide +kernel
theorem dX7_restore_1 : decode cX7_restore 1 = .ok (.getfield 266, 3) := by decide +kernel
theorem dX7_restore_4 : decode cX7_restore 4 = .ok (.ifCond .ne 6, 3) := by decide +kernel
theorem dX7_restore_7 : decode cX7_restore 7 = .ok (.bipush (-103), 2) := by decide +kernel
theorem dX7_restore_9 : decode cX7_restore 9 = .ok (.ireturn, 1) := by decide +kernel
theorem dX7_restore_10 : decode cX7_restore 10 = .ok (.aload_n 0, 1) := by decide +kernel
theorem dX7_restore_11 : decode cX7_restore 11 = .ok (.getfield 33, 3) := by decide +kernel
theorem dX7_restore_14 : decode cX7_restore 14 = .ok (.aload_n 0, 1) := by decide +kernel
theorem dX7_restore_15 : decode cX7_restore 15 = .ok (.getfield 37, 3) := by decide +kernel
theorem dX7_restore_18 : decode cX7_restore 18 = .ok (.invokevirtual 263, 3) := by decide +kernel
theorem dX7_restore_21 : decode cX7_restore 21 = .ok (.aload_n 0, 1) := by decide +kernel
theorem dX7_restore_22 : decode cX7_restore 22 = .ok (.getfield 33, 3) := by decide +kernel
theorem dX7_restore_25 : decode cX7_restore 25 = .ok (.getfield 85, 3) := by decide +kernel
theorem dX7_restore_28 : decode cX7_restore 28 = .ok (.ireturn, 1) := by decide +kernel
theorem dX7_count_0 : decode cX7_count 0 = .ok (.iload_n 1, 1) := by decide +kernel
theorem dX7_count_1 : decode cX7_count 1 = .ok (.iconst 5, 1) := by decide +kernel
theorem dX7_count_2 : decode cX7_count 2 = .ok (.invokestatic 67, 3) := by decide +kernel
theorem dX7_count_5 : decode cX7_count 5 = .ok (.ifCond .eq 11, 3) := by decide +kernel
theorem dX7_count_8 : decode cX7_count 8 = .ok (.aload_n 0, 1) := by decide +kernel
theorem dX7_count_9 : decode cX7_count 9 = .ok (.iload_n 1, 1) := by decide +kernel
theorem dX7_count_10 : decode cX7_count 10 = .ok (.invokevirtual 269, 3) := by decide +kernel
theorem dX7_count_13 : decode cX7_count 13 = .ok (.goto 5, 3) := by decide +kernel
theorem dX7_count_16 : decode cX7_count 16 = .ok (.bipush (-102), 2) := by decide +kernel
theorem dX7_count_18 : decode cX7_count 18 = .ok (.ireturn, 1) := by decide +kernel
theorem dX7_digest_0 : decode cX7_digest 0 = .ok (.ldc2_w 272, 3) := by decide +kernel
theorem dX7_digest_3 : decode cX7_digest 3 = .ok (.lstore_n 1, 1) := by decide +kernel
theorem dX7_digest_4 : decode cX7_digest 4 = .ok (.iconst 0, 1) := by decide +kernel
theorem dX7_digest_5 : decode cX7_digest 5 = .ok (.istore_n 3, 1) := by decide +kernel
theorem dX7_digest_6 : decode cX7_digest 6 = .ok (.iload_n 3, 1) := by decide +kernel
theorem dX7_digest_7 : decode cX7_digest 7 = .ok (.aload_n 0, 1) := by decide +kernel
theorem dX7_digest_8 : decode cX7_digest 8 = .ok (.getfield 71, 3) := by decide +kernel
theorem dX7_digest_11 : decode cX7_digest 11 = .ok (.if_icmp .ge 20, 3) := by decide +kernel
theorem dX7_digest_14 : decode cX7_digest 14 = .ok (.lload_n 1, 1) := by decide +kernel
theorem dX7_digest_15 : decode cX7_digest 15 = .ok (.aload_n 0, 1) := by decide +kernel
theorem dX7_digest_16 : decode cX7_digest 16 = .ok (.getfield 9, 3) := by decide +kernel
theorem dX7_digest_19 : decode cX7_digest 19 = .ok (.iload_n 3, 1) := by decide +kernel
theorem dX7_digest_20 : decode cX7_digest 20 = .ok (.iaload, 1) := by decide +kernel
theorem dX7_digest_21 : decode cX7_digest 21 = .ok (.invokestatic 274, 3) := by decide +kernel
theorem dX7_digest_24 : decode cX7_digest 24 = .ok (.lstore_n 1, 1) := by decide +kernel
theorem dX7_digest_25 : decode cX7_digest 25 = .ok (.iinc 3 1, 3) := by decide +kernel
theorem dX7_digest_28 : decode cX7_digest 28 = .ok (.goto (-22), 3) := by decide +kernel
theorem dX7_digest_31 : decode cX7_digest 31 = .ok (.iconst 0, 1) := by decide +kernel
theorem dX7_digest_32 : decode cX7_digest 32 = .ok (.istore_n 3, 1) := by decide +kernel
theorem dX7_digest_33 : decode cX7_digest 33 = .ok (.iload_n 3, 1) := by decide +kernel
theorem dX7_digest_34 : decode cX7_digest 34 = .ok (.aload_n 0, 1) := by decide +kernel
theorem dX7_digest_35 : decode cX7_digest 35 = .ok (.getfield 79, 3) := by decide +kernel
theorem dX7_digest_38 : decode cX7_digest 38 = .ok (.if_icmp .ge 44, 3) := by decide +kernel
theorem dX7_digest_41 : decode cX7_digest 41 = .ok (.lload_n 1, 1) := by decide +kernel
theorem dX7_digest_42 : decode cX7_digest 42 = .ok (.aload_n 0, 1) := by decide +kernel
theorem dX7_digest_43 : decode cX7_digest 43 = .ok (.getfield 13, 3) := by decide +kernel
theorem dX7_digest_46 : decode cX7_digest 46 = .ok (.iload_n 3, 1) := by decide +kernel
theorem dX7_digest_47 : decode cX7_digest 47 = .ok (.iaload, 1) := by decide +kernel
theorem dX7_digest_48 : decode cX7_digest 48 = .ok (.invokestatic 274, 3) := by decide +kernel
theorem dX7_digest_51 : decode cX7_digest 51 = .ok (.aload_n 0, 1) := by decide +kernel
theorem dX7_digest_52 : decode cX7_digest 52 = .ok (.getfield 33, 3) := by decide +kernel
theorem dX7_digest_55 : decode cX7_digest 55 = .ok (.getfield 144, 3) := by decide +kernel
theorem dX7_digest_58 : decode cX7_digest 58 = .ok (.iload_n 3, 1) := by decide +kernel
theorem dX7_digest_59 : decode cX7_digest 59 = .ok (.iaload, 1) := by decide +kernel
theorem dX7_digest_60 : decode cX7_digest 60 = .ok (.invokestatic 274, 3) := by decide +kernel
theorem dX7_digest_63 : decode cX7_digest 63 = .ok (.aload_n 0, 1) := by decide +kernel
theorem dX7_digest_64 : decode cX7_digest 64 = .ok (.getfield 33, 3) := by decide +kernel
theorem dX7_digest_67 : decode cX7_digest 67 = .ok (.getfield 147, 3) := by decide +kernel
theorem dX7_digest_70 : decode cX7_digest 70 = .ok (.iload_n 3, 1) := by decide +kernel
theorem dX7_digest_71 : decode cX7_digest 71 = .ok (.iaload, 1) := by decide +kernel
theorem dX7_digest_72 : decode cX7_digest 72 = .ok (.invokestatic 274, 3) := by decide +kernel
theorem dX7_digest_75 : decode cX7_digest 75 = .ok (.lstore_n 1, 1) := by decide +kernel
theorem dX7_digest_76 : decode cX7_digest 76 = .ok (.iinc 3 1, 3) := by decide +kernel
theorem dX7_digest_79 : decode cX7_digest 79 = .ok (.goto (-46), 3) := by decide +kernel
theorem dX7_digest_82 : decode cX7_digest 82 = .ok (.iconst 0, 1) := by decide +kernel
theorem dX7_digest_83 : decode cX7_digest 83 = .ok (.istore_n 3, 1) := by decide +kernel
theorem dX7_digest_84 : decode cX7_digest 84 = .ok (.iload_n 3, 1) := by decide +kernel
theorem dX7_digest_85 : decode cX7_digest 85 = .ok (.aload_n 0, 1) := by decide +kernel
theorem dX7_digest_86 : decode cX7_digest 86 = .ok (.getfield 33, 3) := by decide +kernel
theorem dX7_digest_89 : decode cX7_digest 89 = .ok (.getfield 85, 3) := by decide +kernel
theorem dX7_digest_92 : decode cX7_digest 92 = .ok (.if_icmp .ge 44, 3) := by decide +kernel
theorem dX7_digest_95 : decode cX7_digest 95 = .ok (.iconst 0, 1) := by decide +kernel
theorem dX7_digest_96 : decode cX7_digest 96 = .ok (.istore 4, 2) := by decide +kernel
theorem dX7_digest_98 : decode cX7_digest 98 = .ok (.iload 4, 2) := by decide +kernel
theorem dX7_digest_100 : decode cX7_digest 100 = .ok (.bipush 10, 2) := by decide +kernel
theorem dX7_digest_102 : decode cX7_digest 102 = .ok (.if_icmp .ge 28, 3) := by decide +kernel
theorem dX7_digest_105 : decode cX7_digest 105 = .ok (.lload_n 1, 1) := by decide +kernel
theorem dX7_digest_106 : decode cX7_digest 106 = .ok (.aload_n 0, 1) := by decide +kernel
theorem dX7_digest_107 : decode cX7_digest 107 = .ok (.getfield 33, 3) := by decide +kernel
theorem dX7_digest_110 : decode cX7_digest 110 = .ok (.getfield 88, 3) := by decide +kernel
theorem dX7_digest_113 : decode cX7_digest 113 = .ok (.iload_n 3, 1) := by decide +kernel
theorem dX7_digest_114 : decode cX7_digest 114 = .ok (.aaload, 1) := by decide +kernel
theorem dX7_digest_115 : decode cX7_digest 115 = .ok (.iload 4, 2) := by decide +kernel
theorem dX7_digest_117 : decode cX7_digest 117 = .ok (.invokevirtual 104, 3) := by decide +kernel
theorem dX7_digest_120 : decode cX7_digest 120 = .ok (.invokestatic 274, 3) := by decide +kernel
theorem dX7_digest_123 : decode cX7_digest 123 = .ok (.lstore_n 1, 1) := by decide +kernel
theorem dX7_digest_124 : decode cX7_digest 124 = .ok (.iinc 4 1, 3) := by decide +kernel
theorem dX7_digest_127 : decode cX7_digest 127 = .ok (.goto (-29), 3) := by decide +kernel
theorem dX7_digest_130 : decode cX7_digest 130 = .ok (.iinc 3 1, 3) := by decide +kernel
theorem dX7_digest_133 : decode cX7_digest 133 = .ok (.goto (-49), 3) := by decide +kernel
theorem dX7_digest_136 : decode cX7_digest 136 = .ok (.iconst 0, 1) := by decide +kernel
theorem dX7_digest_137 : decode cX7_digest 137 = .ok (.istore_n 3, 1) := by decide +kernel
theorem dX7_digest_138 : decode cX7_digest 138 = .ok (.iload_n 3, 1) := by decide +kernel
theorem dX7_digest_139 : decode cX7_digest 139 = .ok (.aload_n 0, 1) := by decide +kernel
theorem dX7_digest_140 : decode cX7_digest 140 = .ok (.getfield 162, 3) := by decide +kernel
theorem dX7_digest_143 : decode cX7_digest 143 = .ok (.if_icmp .ge 21, 3) := by decide +kernel
theorem dX7_digest_146 : decode cX7_digest 146 = .ok (.aload_n 0, 1) := by decide +kernel
theorem dX7_digest_147 : decode cX7_digest 147 = .ok (.lload_n 1, 1) := by decide +kernel
theorem dX7_digest_148 : decode cX7_digest 148 = .ok (.aload_n 0, 1) := by decide +kernel
theorem dX7_digest_149 : decode cX7_digest 149 = .ok (.getfield 18, 3) := by decide +kernel
theorem dX7_digest_152 : decode cX7_digest 152 = .ok (.iload_n 3, 1) := by decide +kernel
theorem dX7_digest_153 : decode cX7_digest 153 = .ok (.aaload, 1) := by decide +kernel
theorem dX7_digest_154 : decode cX7_digest 154 = .ok (.invokevirtual 278, 3) := by decide +kernel
theorem dX7_digest_157 : decode cX7_digest 157 = .ok (.lstore_n 1, 1) := by decide +kernel
theorem dX7_digest_158 : decode cX7_digest 158 = .ok (.iinc 3 1, 3) := by decide +kernel
theorem dX7_digest_161 : decode cX7_digest 161 = .ok (.goto (-23), 3) := by decide +kernel
theorem dX7_digest_164 : decode cX7_digest 164 = .ok (.iconst 0, 1) := by decide +kernel
theorem dX7_digest_165 : decode cX7_digest 165 = .ok (.istore_n 3, 1) := by decide +kernel
theorem dX7_digest_166 : decode cX7_digest 166 = .ok (.iload_n 3, 1) := by decide +kernel
theorem dX7_digest_167 : decode cX7_digest 167 = .ok (.aload_n 0, 1) := by decide +kernel
theorem dX7_digest_168 : decode cX7_digest 168 = .ok (.getfield 26, 3) := by decide +kernel
theorem dX7_digest_171 : decode cX7_digest 171 = .ok (.getfield 154, 3) := by decide +kernel
theorem dX7_digest_174 : decode cX7_digest 174 = .ok (.if_icmp .ge 23, 3) := by decide +kernel
theorem dX7_digest_177 : decode cX7_digest 177 = .ok (.lload_n 1, 1) := by decide +kernel
theorem dX7_digest_178 : decode cX7_digest 178 = .ok (.aload_n 0, 1) := by decide +kernel
theorem dX7_digest_179 : decode cX7_digest 179 = .ok (.getfield 26, 3) := by decide +kernel
theorem dX7_digest_182 : decode cX7_digest 182 = .ok (.getfield 282, 3) := by decide +kernel
theorem dX7_digest_185 : decode cX7_digest 185 = .ok (.iload_n 3, 1) := by decide +kernel
theorem dX7_digest_186 : decode cX7_digest 186 = .ok (.iaload, 1) := by decide +kernel
theorem dX7_digest_187 : decode cX7_digest 187 = .ok (.invokestatic 274, 3) := by decide +kernel
theorem dX7_digest_190 : decode cX7_digest 190 = .ok (.lstore_n 1, 1) := by decide +kernel
theorem dX7_digest_191 : decode cX7_digest 191 = .ok (.iinc 3 1, 3) := by decide +kernel
theorem dX7_digest_194 : decode cX7_digest 194 = .ok (.goto (-28), 3) := by decide +kernel
theorem dX7_digest_197 : decode cX7_digest 197 = .ok (.iconst 0, 1) := by decide +kernel
theorem dX7_digest_198 : decode cX7_digest 198 = .ok (.istore_n 3, 1) := by decide +kernel
theorem dX7_digest_199 : decode cX7_digest 199 = .ok (.iload_n 3, 1) := by decide +kernel
theorem dX7_digest_200 : decode cX7_digest 200 = .ok (.bipush 6, 2) := by decide +kernel
theorem dX7_digest_202 : decode cX7_digest 202 = .ok (.if_icmp .ge 19, 3) := by decide +kernel
theorem dX7_digest_205 : decode cX7_digest 205 = .ok (.lload_n 1, 1) := by decide +kernel
theorem dX7_digest_206 : decode cX7_digest 206 = .ok (.aload_n 0, 1) := by decide +kernel
theorem dX7_digest_207 : decode cX7_digest 207 = .ok (.iload_n 3, 1) := by decide +kernel
theorem dX7_digest_208 : decode cX7_digest 208 = .ok (.invokevirtual 269, 3) := by decide +kernel
theorem dX7_digest_211 : decode cX7_digest 211 = .ok (.invokestatic 274, 3) := by decide +kernel
theorem dX7_digest_214 : decode cX7_digest 214 = .ok (.lstore_n 1, 1) := by decide +kernel
theorem dX7_digest_215 : decode cX7_digest 215 = .ok (.iinc 3 1, 3) := by decide +kernel
theorem dX7_digest_218 : decode cX7_digest 218 = .ok (.goto (-19), 3) := by decide +kernel
theorem dX7_digest_221 : decode cX7_digest 221 = .ok (.lload_n 1, 1) := by decide +kernel
theorem dX7_digest_222 : decode cX7_digest 222 = .ok (.lreturn, 1) := by decide +kernel
theorem dX7_mixedWithLaw_0 : decode cX7_mixedWithLaw 0 = .ok (.lload_n 1, 1) := by decide +kernel
theorem dX7_mixedWithLaw_1 : decode cX7_mixedWithLaw 1 = .ok (.lstore 4, 2) := by decide +kernel
theorem dX7_mixedWithLaw_3 : decode cX7_mixedWithLaw 3 = .ok (.iconst 0, 1) := by decide +kernel
theorem dX7_mixedWithLaw_4 : decode cX7_mixedWithLaw 4 = .ok (.istore 6, 2) := by decide +kernel
theorem dX7_mixedWithLaw_6 : decode cX7_mixedWithLaw 6 = .ok (.iload 6, 2) := by decide +kernel
theorem dX7_mixedWithLaw_8 : decode cX7_mixedWithLaw 8 = .ok (.aload_n 0, 1) := by decide +kernel
theorem dX7_mixedWithLaw_9 : decode cX7_mixedWithLaw 9 = .ok (.getfield 33, 3) := by decide +kernel
theorem dX7_mixedWithLaw_12 : decode cX7_mixedWithLaw 12 = .ok (.getfield 85, 3) := by decide +kernel
theorem dX7_mixedWithLaw_15 : decode cX7_mixedWithLaw 15 = .ok (.if_icmp .ge 26, 3) := by decide +kernel
theorem dX7_mixedWithLaw_18 : decode cX7_mixedWithLaw 18 = .ok (.lload 4, 2) := by decide +kernel
theorem dX7_mixedWithLaw_20 : decode cX7_mixedWithLaw 20 = .ok (.aload_n 0, 1) := by decide +kernel
theorem dX7_mixedWithLaw_21 : decode cX7_mixedWithLaw 21 = .ok (.getfield 54, 3) := by decide +kernel
theorem dX7_mixedWithLaw_24 : decode cX7_mixedWithLaw 24 = .ok (.aload_n 3, 1) := by decide +kernel
theorem dX7_mixedWithLaw_25 : decode cX7_mixedWithLaw 25 = .ok (.iload 6, 2) := by decide +kernel
theorem dX7_mixedWithLaw_27 : decode cX7_mixedWithLaw 27 = .ok (.invokevirtual 184, 3) := by decide +kernel
theorem dX7_mixedWithLaw_30 : decode cX7_mixedWithLaw 30 = .ok (.invokestatic 274, 3) := by decide +kernel
theorem dX7_mixedWithLaw_33 : decode cX7_mixedWithLaw 33 = .ok (.lstore 4, 2) := by decide +kernel
theorem dX7_mixedWithLaw_35 : decode cX7_mixedWithLaw 35 = .ok (.iinc 6 1, 3) := by decide +kernel
theorem dX7_mixedWithLaw_38 : decode cX7_mixedWithLaw 38 = .ok (.goto (-32), 3) := by decide +kernel
theorem dX7_mixedWithLaw_41 : decode cX7_mixedWithLaw 41 = .ok (.iconst 0, 1) := by decide +kernel
theorem dX7_mixedWithLaw_42 : decode cX7_mixedWithLaw 42 = .ok (.istore 6, 2) := by decide +kernel
theorem dX7_mixedWithLaw_44 : decode cX7_mixedWithLaw 44 = .ok (.iload 6, 2) := by decide +kernel
theorem dX7_mixedWithLaw_46 : decode cX7_mixedWithLaw 46 = .ok (.aload_n 0, 1) := by decide +kernel
theorem dX7_mixedWithLaw_47 : decode cX7_mixedWithLaw 47 = .ok (.getfield 79, 3) := by decide +kernel
theorem dX7_mixedWithLaw_50 : decode cX7_mixedWithLaw 50 = .ok (.if_icmp .ge 74, 3) := by decide +kernel
theorem dX7_mixedWithLaw_53 : decode cX7_mixedWithLaw 53 = .ok (.aload_n 0, 1) := by decide +kernel
theorem dX7_mixedWithLaw_54 : decode cX7_mixedWithLaw 54 = .ok (.getfield 54, 3) := by decide +kernel
theorem dX7_mixedWithLaw_57 : decode cX7_mixedWithLaw 57 = .ok (.aload_n 3, 1) := by decide +kernel
theorem dX7_mixedWithLaw_58 : decode cX7_mixedWithLaw 58 = .ok (.iload 6, 2) := by decide +kernel
theorem dX7_mixedWithLaw_60 : decode cX7_mixedWithLaw 60 = .ok (.invokevirtual 191, 3) := by decide +kernel
theorem dX7_mixedWithLaw_63 : decode cX7_mixedWithLaw 63 = .ok (.aload_n 0, 1) := by decide +kernel
theorem dX7_mixedWithLaw_64 : decode cX7_mixedWithLaw 64 = .ok (.getfield 63, 3) := by decide +kernel
theorem dX7_mixedWithLaw_67 : decode cX7_mixedWithLaw 67 = .ok (.aload_n 0, 1) := by decide +kernel
theorem dX7_mixedWithLaw_68 : decode cX7_mixedWithLaw 68 = .ok (.getfield 13, 3) := by decide +kernel
theorem dX7_mixedWithLaw_71 : decode cX7_mixedWithLaw 71 = .ok (.iload 6, 2) := by decide +kernel
theorem dX7_mixedWithLaw_73 : decode cX7_mixedWithLaw 73 = .ok (.iaload, 1) := by decide +kernel
theorem dX7_mixedWithLaw_74 : decode cX7_mixedWithLaw 74 = .ok (.invokevirtual 213, 3) := by decide +kernel
theorem dX7_mixedWithLaw_77 : decode cX7_mixedWithLaw 77 = .ok (.lload 4, 2) := by decide +kernel
theorem dX7_mixedWithLaw_79 : decode cX7_mixedWithLaw 79 = .ok (.aload_n 0, 1) := by decide +kernel
theorem dX7_mixedWithLaw_80 : decode cX7_mixedWithLaw 80 = .ok (.getfield 63, 3) := by decide +kernel
theorem dX7_mixedWithLaw_83 : decode cX7_mixedWithLaw 83 = .ok (.getfield 217, 3) := by decide +kernel
theorem dX7_mixedWithLaw_86 : decode cX7_mixedWithLaw 86 = .ok (.invokestatic 274, 3) := by decide +kernel
theorem dX7_mixedWithLaw_89 : decode cX7_mixedWithLaw 89 = .ok (.aload_n 0, 1) := by decide +kernel
theorem dX7_mixedWithLaw_90 : decode cX7_mixedWithLaw 90 = .ok (.getfield 63, 3) := by decide +kernel
theorem dX7_mixedWithLaw_93 : decode cX7_mixedWithLaw 93 = .ok (.getfield 220, 3) := by decide +kernel
theorem dX7_mixedWithLaw_96 : decode cX7_mixedWithLaw 96 = .ok (.invokestatic 274, 3) := by decide +kernel
theorem dX7_mixedWithLaw_99 : decode cX7_mixedWithLaw 99 = .ok (.lstore 4, 2) := by decide +kernel
theorem dX7_mixedWithLaw_101 : decode cX7_mixedWithLaw 101 = .ok (.lload 4, 2) := by decide +kernel
theorem dX7_mixedWithLaw_103 : decode cX7_mixedWithLaw 103 = .ok (.aload_n 0, 1) := by decide +kernel
theorem dX7_mixedWithLaw_104 : decode cX7_mixedWithLaw 104 = .ok (.getfield 63, 3) := by decide +kernel
theorem dX7_mixedWithLaw_107 : decode cX7_mixedWithLaw 107 = .ok (.invokevirtual 226, 3) := by decide +kernel
theorem dX7_mixedWithLaw_110 : decode cX7_mixedWithLaw 110 = .ok (.invokestatic 229, 3) := by decide +kernel
theorem dX7_mixedWithLaw_113 : decode cX7_mixedWithLaw 113 = .ok (.invokestatic 274, 3) := by decide +kernel
theorem dX7_mixedWithLaw_116 : decode cX7_mixedWithLaw 116 = .ok (.lstore 4, 2) := by decide +kernel
theorem dX7_mixedWithLaw_118 : decode cX7_mixedWithLaw 118 = .ok (.iinc 6 1, 3) := by decide +kernel
theorem dX7_mixedWithLaw_121 : decode cX7_mixedWithLaw 121 = .ok (.goto (-77), 3) := by decide +kernel
theorem dX7_mixedWithLaw_124 : decode cX7_mixedWithLaw 124 = .ok (.lload 4, 2) := by decide +kernel
theorem dX7_mixedWithLaw_126 : decode cX7_mixedWithLaw 126 = .ok (.lreturn, 1) := by decide +kernel
theorem dX7_tally_0 : decode cX7_tally 0 = .ok (.iload_n 1, 1) := by decide +kernel
theorem dX7_tally_1 : decode cX7_tally 1 = .ok (.tableswitch 66 0 4 #[35, 40, 45, 53, 58], 35) := by decide +kernel
theorem dX7_tally_36 : decode cX7_tally 36 = .ok (.aload_n 0, 1) := by decide +kernel
theorem dX7_tally_37 : decode cX7_tally 37 = .ok (.getfield 71, 3) := by decide +kernel
theorem dX7_tally_40 : decode cX7_tally 40 = .ok (.ireturn, 1) := by decide +kernel
theorem dX7_tally_41 : decode cX7_tally 41 = .ok (.aload_n 0, 1) := by decide +kernel
theorem dX7_tally_42 : decode cX7_tally 42 = .ok (.getfield 79, 3) := by decide +kernel
theorem dX7_tally_45 : decode cX7_tally 45 = .ok (.ireturn, 1) := by decide +kernel
theorem dX7_tally_46 : decode cX7_tally 46 = .ok (.aload_n 0, 1) := by decide +kernel
theorem dX7_tally_47 : decode cX7_tally 47 = .ok (.getfield 33, 3) := by decide +kernel
theorem dX7_tally_50 : decode cX7_tally 50 = .ok (.getfield 85, 3) := by decide +kernel
theorem dX7_tally_53 : decode cX7_tally 53 = .ok (.ireturn, 1) := by decide +kernel
theorem dX7_tally_54 : decode cX7_tally 54 = .ok (.aload_n 0, 1) := by decide +kernel
theorem dX7_tally_55 : decode cX7_tally 55 = .ok (.getfield 162, 3) := by decide +kernel
theorem dX7_tally_58 : decode cX7_tally 58 = .ok (.ireturn, 1) := by decide +kernel
theorem dX7_tally_59 : decode cX7_tally 59 = .ok (.aload_n 0, 1) := by decide +kernel
theorem dX7_tally_60 : decode cX7_tally 60 = .ok (.getfield 26, 3) := by decide +kernel
theorem dX7_tally_63 : decode cX7_tally 63 = .ok (.getfield 154, 3) := by decide +kernel
theorem dX7_tally_66 : decode cX7_tally 66 = .ok (.ireturn, 1) := by decide +kernel
theorem dX7_tally_67 : decode cX7_tally 67 = .ok (.aload_n 0, 1) := by decide +kernel
theorem dX7_tally_68 : decode cX7_tally 68 = .ok (.getfield 33, 3) := by decide +kernel
theorem dX7_tally_71 : decode cX7_tally 71 = .ok (.invokevirtual 285, 3) := by decide +kernel
theorem dX7_tally_74 : decode cX7_tally 74 = .ok (.ireturn, 1) := by decide +kernel
theorem dX7_ownerBy_0 : decode cX7_ownerBy 0 = .ok (.aload_n 0, 1) := by decide +kernel
theorem dX7_ownerBy_1 : decode cX7_ownerBy 1 = .ok (.getfield 54, 3) := by decide +kernel
theorem dX7_ownerBy_4 : decode cX7_ownerBy 4 = .ok (.aload_n 1, 1) := by decide +kernel
theorem dX7_ownerBy_5 : decode cX7_ownerBy 5 = .ok (.iload_n 2, 1) := by decide +kernel
theorem dX7_ownerBy_6 : decode cX7_ownerBy 6 = .ok (.invokevirtual 191, 3) := by decide +kernel
theorem dX7_ownerBy_9 : decode cX7_ownerBy 9 = .ok (.aload_n 0, 1) := by decide +kernel
theorem dX7_ownerBy_10 : decode cX7_ownerBy 10 = .ok (.getfield 63, 3) := by decide +kernel
theorem dX7_ownerBy_13 : decode cX7_ownerBy 13 = .ok (.aload_n 0, 1) := by decide +kernel
theorem dX7_ownerBy_14 : decode cX7_ownerBy 14 = .ok (.getfield 13, 3) := by decide +kernel
theorem dX7_ownerBy_17 : decode cX7_ownerBy 17 = .ok (.iload_n 2, 1) := by decide +kernel
theorem dX7_ownerBy_18 : decode cX7_ownerBy 18 = .ok (.iaload, 1) := by decide +kernel
theorem dX7_ownerBy_19 : decode cX7_ownerBy 19 = .ok (.invokevirtual 213, 3) := by decide +kernel
theorem dX7_ownerBy_22 : decode cX7_ownerBy 22 = .ok (.aload_n 0, 1) := by decide +kernel
theorem dX7_ownerBy_23 : decode cX7_ownerBy 23 = .ok (.getfield 63, 3) := by decide +kernel
theorem dX7_ownerBy_26 : decode cX7_ownerBy 26 = .ok (.getfield 217, 3) := by decide +kernel
theorem dX7_ownerBy_29 : decode cX7_ownerBy 29 = .ok (.ireturn, 1) := by decide +kernel
theorem dX7_nameOf_0 : decode cX7_nameOf 0 = .ok (.aload_n 0, 1) := by decide +kernel
theorem dX7_nameOf_1 : decode cX7_nameOf 1 = .ok (.iload_n 1, 1) := by decide +kernel
theorem dX7_nameOf_2 : decode cX7_nameOf 2 = .ok (.invokevirtual 75, 3) := by decide +kernel
theorem dX7_nameOf_5 : decode cX7_nameOf 5 = .ok (.ifCond .eq 12, 3) := by decide +kernel
theorem dX7_nameOf_8 : decode cX7_nameOf 8 = .ok (.aload_n 0, 1) := by decide +kernel
theorem dX7_nameOf_9 : decode cX7_nameOf 9 = .ok (.getfield 9, 3) := by decide +kernel
theorem dX7_nameOf_12 : decode cX7_nameOf 12 = .ok (.iload_n 1, 1) := by decide +kernel
theorem dX7_nameOf_13 : decode cX7_nameOf 13 = .ok (.iaload, 1) := by decide +kernel
theorem dX7_nameOf_14 : decode cX7_nameOf 14 = .ok (.goto 4, 3) := by decide +kernel
theorem dX7_nameOf_17 : decode cX7_nameOf 17 = .ok (.iconst (-1), 1) := by decide +kernel
theorem dX7_nameOf_18 : decode cX7_nameOf 18 = .ok (.ireturn, 1) := by decide +kernel
theorem dX7_isPerson_0 : decode cX7_isPerson 0 = .ok (.iload_n 1, 1) := by decide +kernel
theorem dX7_isPerson_1 : decode cX7_isPerson 1 = .ok (.ifCond .lt 15, 3) := by decide +kernel
theorem dX7_isPerson_4 : decode cX7_isPerson 4 = .ok (.iload_n 1, 1) := by decide +kernel
theorem dX7_isPerson_5 : decode cX7_isPerson 5 = .ok (.aload_n 0, 1) := by decide +kernel
theorem dX7_isPerson_6 : decode cX7_isPerson 6 = .ok (.getfield 71, 3) := by decide +kernel
theorem dX7_isPerson_9 : decode cX7_isPerson 9 = .ok (.if_icmp .ge 7, 3) := by decide +kernel
theorem dX7_isPerson_12 : decode cX7_isPerson 12 = .ok (.iconst 1, 1) := by decide +kernel
theorem dX7_isPerson_13 : decode cX7_isPerson 13 = .ok (.goto 4, 3) := by decide +kernel
theorem dX7_isPerson_16 : decode cX7_isPerson 16 = .ok (.iconst 0, 1) := by decide +kernel
theorem dX7_isPerson_17 : decode cX7_isPerson 17 = .ok (.ireturn, 1) := by decide +kernel
theorem dX7_isField_0 : decode cX7_isField 0 = .ok (.iload_n 1, 1) := by decide +kernel
theorem dX7_isField_1 : decode cX7_isField 1 = .ok (.ifCond .lt 15, 3) := by decide +kernel
theorem dX7_isField_4 : decode cX7_isField 4 = .ok (.iload_n 1, 1) := by decide +kernel
theorem dX7_isField_5 : decode cX7_isField 5 = .ok (.aload_n 0, 1) := by decide +kernel
theorem dX7_isField_6 : decode cX7_isField 6 = .ok (.getfield 79, 3) := by decide +kernel
theorem dX7_isField_9 : decode cX7_isField 9 = .ok (.if_icmp .ge 7, 3) := by decide +kernel
theorem dX7_isField_12 : decode cX7_isField 12 = .ok (.iconst 1, 1) := by decide +kernel
theorem dX7_isField_13 : decode cX7_isField 13 = .ok (.goto 4, 3) := by decide +kernel
theorem dX7_isField_16 : decode cX7_isField 16 = .ok (.iconst 0, 1) := by decide +kernel
theorem dX7_isField_17 : decode cX7_isField 17 = .ok (.ireturn, 1) := by decide +kernel
theorem dX7_isDeed_0 : decode cX7_isDeed 0 = .ok (.iload_n 1, 1) := by decide +kernel
theorem dX7_isDeed_1 : decode cX7_isDeed 1 = .ok (.ifCond .lt 18, 3) := by decide +kernel
theorem dX7_isDeed_4 : decode cX7_isDeed 4 = .ok (.iload_n 1, 1) := by decide +kernel
theorem dX7_isDeed_5 : decode cX7_isDeed 5 = .ok (.aload_n 0, 1) := by decide +kernel
theorem dX7_isDeed_6 : decode cX7_isDeed 6 = .ok (.getfield 33, 3) := by decide +kernel
theorem dX7_isDeed_9 : decode cX7_isDeed 9 = .ok (.getfield 85, 3) := by decide +kernel
theorem dX7_isDeed_12 : decode cX7_isDeed 12 = .ok (.if_icmp .ge 7, 3) := by decide +kernel
theorem dX7_isDeed_15 : decode cX7_isDeed 15 = .ok (.iconst 1, 1) := by decide +kernel
theorem dX7_isDeed_16 : decode cX7_isDeed 16 = .ok (.goto 4, 3) := by decide +kernel
theorem dX7_isDeed_19 : decode cX7_isDeed 19 = .ok (.iconst 0, 1) := by decide +kernel
theorem dX7_isDeed_20 : decode cX7_isDeed 20 = .ok (.ireturn, 1) := by decide +kernel
theorem dX7_isLaw_0 : decode cX7_isLaw 0 = .ok (.iload_n 1, 1) := by decide +kernel
theorem dX7_isLaw_1 : decode cX7_isLaw 1 = .ok (.ifCond .lt 15, 3) := by decide +kernel
theorem dX7_isLaw_4 : decode cX7_isLaw 4 = .ok (.iload_n 1, 1) := by decide +kernel
theorem dX7_isLaw_5 : decode cX7_isLaw 5 = .ok (.aload_n 0, 1) := by decide +kernel
theorem dX7_isLaw_6 : decode cX7_isLaw 6 = .ok (.getfield 162, 3) := by decide +kernel
theorem dX7_isLaw_9 : decode cX7_isLaw 9 = .ok (.if_icmp .ge 7, 3) := by decide +kernel
theorem dX7_isLaw_12 : decode cX7_isLaw 12 = .ok (.iconst 1, 1) := by decide +kernel
theorem dX7_isLaw_13 : decode cX7_isLaw 13 = .ok (.goto 4, 3) := by decide +kernel
theorem dX7_isLaw_16 : decode cX7_isLaw 16 = .ok (.iconst 0, 1) := by decide +kernel
theorem dX7_isLaw_17 : decode cX7_isLaw 17 = .ok (.ireturn, 1) := by decide +kernel
theorem dX7_isWrittenName_0 : decode cX7_isWrittenName 0 = .ok (.iload_n 0, 1) := by decide +kernel
theorem dX7_isWrittenName_1 : decode cX7_isWrittenName 1 = .ok (.iconst (-1), 1) := by decide +kernel
theorem dX7_isWrittenName_2 : decode cX7_isWrittenName 2 = .ok (.if_icmp .eq 12, 3) := by decide +kernel
theorem dX7_isWrittenName_5 : decode cX7_isWrittenName 5 = .ok (.iload_n 0, 1) := by decide +kernel
theorem dX7_isWrittenName_6 : decode cX7_isWrittenName 6 = .ok (.bipush 9, 2) := by decide +kernel
theorem dX7_isWrittenName_8 : decode cX7_isWrittenName 8 = .ok (.invokestatic 67, 3) := by decide +kernel
theorem dX7_isWrittenName_11 : decode cX7_isWrittenName 11 = .ok (.ifCond .eq 7, 3) := by decide +kernel
theorem dX7_isWrittenName_14 : decode cX7_isWrittenName 14 = .ok (.iconst 1, 1) := by decide +kernel
theorem dX7_isWrittenName_15 : decode cX7_isWrittenName 15 = .ok (.goto 4, 3) := by decide +kernel
theorem dX7_isWrittenName_18 : decode cX7_isWrittenName 18 = .ok (.iconst 0, 1) := by decide +kernel
theorem dX7_isWrittenName_19 : decode cX7_isWrittenName 19 = .ok (.ireturn, 1) := by decide +kernel
theorem dX7_isPlace_0 : decode cX7_isPlace 0 = .ok (.iload_n 0, 1) := by decide +kernel
theorem dX7_isPlace_1 : decode cX7_isPlace 1 = .ok (.bipush 10, 2) := by decide +kernel
theorem dX7_isPlace_3 : decode cX7_isPlace 3 = .ok (.if_icmp .lt 13, 3) := by decide +kernel
theorem dX7_isPlace_6 : decode cX7_isPlace 6 = .ok (.iload_n 0, 1) := by decide +kernel
theorem dX7_isPlace_7 : decode cX7_isPlace 7 = .ok (.bipush 26, 2) := by decide +kernel
theorem dX7_isPlace_9 : decode cX7_isPlace 9 = .ok (.if_icmp .ge 7, 3) := by decide +kernel
theorem dX7_isPlace_12 : decode cX7_isPlace 12 = .ok (.iconst 1, 1) := by decide +kernel
theorem dX7_isPlace_13 : decode cX7_isPlace 13 = .ok (.goto 4, 3) := by decide +kernel
theorem dX7_isPlace_16 : decode cX7_isPlace 16 = .ok (.iconst 0, 1) := by decide +kernel
theorem dX7_isPlace_17 : decode cX7_isPlace 17 = .ok (.ireturn, 1) := by decide +kernel
theorem dX7_isWithin_0 : decode cX7_isWithin 0 = .ok (.iload_n 0, 1) := by decide +kernel
theorem dX7_isWithin_1 : decode cX7_isWithin 1 = .ok (.ifCond .lt 12, 3) := by decide +kernel
theorem dX7_isWithin_4 : decode cX7_isWithin 4 = .ok (.iload_n 0, 1) := by decide +kernel
theorem dX7_isWithin_5 : decode cX7_isWithin 5 = .ok (.iload_n 1, 1) := by decide +kernel
theorem dX7_isWithin_6 : decode cX7_isWithin 6 = .ok (.if_icmp .gt 7, 3) := by decide +kernel
theorem dX7_isWithin_9 : decode cX7_isWithin 9 = .ok (.iconst 1, 1) := by decide +kernel
theorem dX7_isWithin_10 : decode cX7_isWithin 10 = .ok (.goto 4, 3) := by decide +kernel
theorem dX7_isWithin_13 : decode cX7_isWithin 13 = .ok (.iconst 0, 1) := by decide +kernel
theorem dX7_isWithin_14 : decode cX7_isWithin 14 = .ok (.ireturn, 1) := by decide +kernel
theorem dX7_mixed_0 : decode cX7_mixed 0 = .ok (.ldc2_w 288, 3) := by decide +kernel
theorem dX7_mixed_3 : decode cX7_mixed 3 = .ok (.lload_n 0, 1) := by decide +kernel
theorem dX7_mixed_4 : decode cX7_mixed 4 = .ok (.lmul, 1) := by decide +kernel
theorem dX7_mixed_5 : decode cX7_mixed 5 = .ok (.iload_n 2, 1) := by decide +kernel
theorem dX7_mixed_6 : decode cX7_mixed 6 = .ok (.i2l, 1) := by decide +kernel
theorem dX7_mixed_7 : decode cX7_mixed 7 = .ok (.ladd, 1) := by decide +kernel
theorem dX7_mixed_8 : decode cX7_mixed 8 = .ok (.lreturn, 1) := by decide +kernel
theorem dX7_bit_0 : decode cX7_bit 0 = .ok (.iconst 1, 1) := by decide +kernel
theorem dX7_bit_1 : decode cX7_bit 1 = .ok (.iload_n 0, 1) := by decide +kernel
theorem dX7_bit_2 : decode cX7_bit 2 = .ok (.ishl, 1) := by decide +kernel
theorem dX7_bit_3 : decode cX7_bit 3 = .ok (.ireturn, 1) := by decide +kernel
theorem dX7_has_0 : decode cX7_has 0 = .ok (.iload_n 0, 1) := by decide +kernel
theorem dX7_has_1 : decode cX7_has 1 = .ok (.iload_n 1, 1) := by decide +kernel
theorem dX7_has_2 : decode cX7_has 2 = .ok (.iushr, 1) := by decide +kernel
theorem dX7_has_3 : decode cX7_has 3 = .ok (.iconst 1, 1) := by decide +kernel
theorem dX7_has_4 : decode cX7_has 4 = .ok (.iand, 1) := by decide +kernel
theorem dX7_has_5 : decode cX7_has 5 = .ok (.ifCond .eq 7, 3) := by decide +kernel
theorem dX7_has_8 : decode cX7_has 8 = .ok (.iconst 1, 1) := by decide +kernel
theorem dX7_has_9 : decode cX7_has 9 = .ok (.goto 4, 3) := by decide +kernel
theorem dX7_has_12 : decode cX7_has 12 = .ok (.iconst 0, 1) := by decide +kernel
theorem dX7_has_13 : decode cX7_has 13 = .ok (.ireturn, 1) := by decide +kernel
theorem dX7_lowest_0 : decode cX7_lowest 0 = .ok (.iload_n 0, 1) := by decide +kernel
theorem dX7_lowest_1 : decode cX7_lowest 1 = .ok (.invokestatic 290, 3) := by decide +kernel
theorem dX7_lowest_4 : decode cX7_lowest 4 = .ok (.bipush 15, 2) := by decide +kernel
theorem dX7_lowest_6 : decode cX7_lowest 6 = .ok (.invokestatic 293, 3) := by decide +kernel
theorem dX7_lowest_9 : decode cX7_lowest 9 = .ok (.ireturn, 1) := by decide +kernel
theorem dX8_init_0 : decode cX8_init 0 = .ok (.aload_n 0, 1) := by decide +kernel
theorem dX8_init_1 : decode cX8_init 1 = .ok (.invokespecial 1, 3) := by decide +kernel
theorem dX8_init_4 : decode cX8_init 4 = .ok (.aload_n 0, 1) := by decide +kernel
theorem dX8_init_5 : decode cX8_init 5 = .ok (.bipush 12, 2) := by decide +kernel
theorem dX8_init_7 : decode cX8_init 7 = .ok (.newarray .int, 2) := by decide +kernel
theorem dX8_init_9 : decode cX8_init 9 = .ok (.putfield 7, 3) := by decide +kernel
theorem dX8_init_12 : decode cX8_init 12 = .ok (.aload_n 0, 1) := by decide +kernel
theorem dX8_init_13 : decode cX8_init 13 = .ok (.bipush 6, 2) := by decide +kernel
theorem dX8_init_15 : decode cX8_init 15 = .ok (.newarray .int, 2) := by decide +kernel
theorem dX8_init_17 : decode cX8_init 17 = .ok (.putfield 13, 3) := by decide +kernel
theorem dX8_init_20 : decode cX8_init 20 = .ok (.aload_n 0, 1) := by decide +kernel
theorem dX8_init_21 : decode cX8_init 21 = .ok (.bipush 6, 2) := by decide +kernel
theorem dX8_init_23 : decode cX8_init 23 = .ok (.newarray .int, 2) := by decide +kernel
theorem dX8_init_25 : decode cX8_init 25 = .ok (.putfield 16, 3) := by decide +kernel
theorem dX8_init_28 : decode cX8_init 28 = .ok (.aload_n 0, 1) := by decide +kernel
theorem dX8_init_29 : decode cX8_init 29 = .ok (.bipush 6, 2) := by decide +kernel
theorem dX8_init_31 : decode cX8_init 31 = .ok (.newarray .int, 2) := by decide +kernel
theorem dX8_init_33 : decode cX8_init 33 = .ok (.putfield 19, 3) := by decide +kernel
theorem dX8_init_36 : decode cX8_init 36 = .ok (.aload_n 0, 1) := by decide +kernel
theorem dX8_init_37 : decode cX8_init 37 = .ok (.sipush 160, 3) := by decide +kernel
theorem dX8_init_40 : decode cX8_init 40 = .ok (.newarray .int, 2) := by decide +kernel
theorem dX8_init_42 : decode cX8_init 42 = .ok (.putfield 22, 3) := by decide +kernel
theorem dX8_init_45 : decode cX8_init 45 = .ok (.aload_n 0, 1) := by decide +kernel
theorem dX8_init_46 : decode cX8_init 46 = .ok (.bipush 16, 2) := by decide +kernel
theorem dX8_init_48 : decode cX8_init 48 = .ok (.newarray .int, 2) := by decide +kernel
theorem dX8_init_50 : decode cX8_init 50 = .ok (.putfield 25, 3) := by decide +kernel
theorem dX8_init_53 : decode cX8_init 53 = .ok (.aload_n 0, 1) := by decide +kernel
theorem dX8_init_54 : decode cX8_init 54 = .ok (.iconst 4, 1) := by decide +kernel
theorem dX8_init_55 : decode cX8_init 55 = .ok (.newarray .int, 2) := by decide +kernel
theorem dX8_init_57 : decode cX8_init 57 = .ok (.putfield 28, 3) := by decide +kernel
theorem dX8_init_60 : decode cX8_init 60 = .ok (.aload_n 0, 1) := by decide +kernel
theorem dX8_init_61 : decode cX8_init 61 = .ok (.iconst 4, 1) := by decide +kernel
theorem dX8_init_62 : decode cX8_init 62 = .ok (.newarray .int, 2) := by decide +kernel
theorem dX8_init_64 : decode cX8_init 64 = .ok (.putfield 31, 3) := by decide +kernel
theorem dX8_init_67 : decode cX8_init 67 = .ok (.aload_n 0, 1) := by decide +kernel
theorem dX8_init_68 : decode cX8_init 68 = .ok (.iconst 4, 1) := by decide +kernel
theorem dX8_init_69 : decode cX8_init 69 = .ok (.newarray .boolean, 2) := by decide +kernel
theorem dX8_init_71 : decode cX8_init 71 = .ok (.putfield 34, 3) := by decide +kernel
theorem dX8_init_74 : decode cX8_init 74 = .ok (.aload_n 0, 1) := by decide +kernel
theorem dX8_init_75 : decode cX8_init 75 = .ok (.iconst 4, 1) := by decide +kernel
theorem dX8_init_76 : decode cX8_init 76 = .ok (.newarray .boolean, 2) := by decide +kernel
theorem dX8_init_78 : decode cX8_init 78 = .ok (.putfield 38, 3) := by decide +kernel
theorem dX8_init_81 : decode cX8_init 81 = .ok (.aload_n 0, 1) := by decide +kernel
theorem dX8_init_82 : decode cX8_init 82 = .ok (.iconst 4, 1) := by decide +kernel
theorem dX8_init_83 : decode cX8_init 83 = .ok (.newarray .int, 2) := by decide +kernel
theorem dX8_init_85 : decode cX8_init 85 = .ok (.putfield 41, 3) := by decide +kernel
theorem dX8_init_88 : decode cX8_init 88 = .ok (.aload_n 0, 1) := by decide +kernel
theorem dX8_init_89 : decode cX8_init 89 = .ok (.bipush 16, 2) := by decide +kernel
theorem dX8_init_91 : decode cX8_init 91 = .ok (.newarray .int, 2) := by decide +kernel
theorem dX8_init_93 : decode cX8_init 93 = .ok (.putfield 44, 3) := by decide +kernel
theorem dX8_init_96 : decode cX8_init 96 = .ok (.aload_n 0, 1) := by decide +kernel
theorem dX8_init_97 : decode cX8_init 97 = .ok (.bipush 16, 2) := by decide +kernel
theorem dX8_init_99 : decode cX8_init 99 = .ok (.newarray .int, 2) := by decide +kernel
theorem dX8_init_101 : decode cX8_init 101 = .ok (.putfield 47, 3) := by decide +kernel
theorem dX8_init_104 : decode cX8_init 104 = .ok (.aload_n 0, 1) := by decide +kernel
theorem dX8_init_105 : decode cX8_init 105 = .ok (.sipush 160, 3) := by decide +kernel
theorem dX8_init_108 : decode cX8_init 108 = .ok (.newarray .int, 2) := by decide +kernel
theorem dX8_init_110 : decode cX8_init 110 = .ok (.putfield 50, 3) := by decide +kernel
theorem dX8_init_113 : decode cX8_init 113 = .ok (.aload_n 0, 1) := by decide +kernel
theorem dX8_init_114 : decode cX8_init 114 = .ok (.bipush 6, 2) := by decide +kernel
theorem dX8_init_116 : decode cX8_init 116 = .ok (.newarray .int, 2) := by decide +kernel
theorem dX8_init_118 : decode cX8_init 118 = .ok (.putfield 53, 3) := by decide +kernel
theorem dX8_init_121 : decode cX8_init 121 = .ok (.aload_n 0, 1) := by decide +kernel
theorem dX8_init_122 : decode cX8_init 122 = .ok (.bipush 6, 2) := by decide +kernel
theorem dX8_init_124 : decode cX8_init 124 = .ok (.newarray .int, 2) := by decide +kernel
theorem dX8_init_126 : decode cX8_init 126 = .ok (.putfield 56, 3) := by decide +kernel
theorem dX8_init_129 : decode cX8_init 129 = .ok (.aload_n 0, 1) := by decide +kernel
theorem dX8_init_130 : decode cX8_init 130 = .ok (.iconst (-1), 1) := by decide +kernel
theorem dX8_init_131 : decode cX8_init 131 = .ok (.putfield 59, 3) := by decide +kernel
theorem dX8_init_134 : decode cX8_init 134 = .ok (.return_, 1) := by decide +kernel
theorem dX8_in_0 : decode cX8_in 0 = .ok (.lload_n 0, 1) := by decide +kernel
theorem dX8_in_1 : decode cX8_in 1 = .ok (.lload_n 2, 1) := by decide +kernel
theorem dX8_in_2 : decode cX8_in 2 = .ok (.lcmp, 1) := by decide +kernel
theorem dX8_in_3 : decode cX8_in 3 = .ok (.ifCond .lt 14, 3) := by decide +kernel
theorem dX8_in_6 : decode cX8_in 6 = .ok (.lload_n 0, 1) := by decide +kernel
theorem dX8_in_7 : decode cX8_in 7 = .ok (.lload 4, 2) := by decide +kernel
theorem dX8_in_9 : decode cX8_in 9 = .ok (.lcmp, 1) := by decide +kernel
theorem dX8_in_10 : decode cX8_in 10 = .ok (.ifCond .gt 7, 3) := by decide +kernel
theorem dX8_in_13 : decode cX8_in 13 = .ok (.iconst 1, 1) := by decide +kernel
theorem dX8_in_14 : decode cX8_in 14 = .ok (.goto 4, 3) := by decide +kernel
theorem dX8_in_17 : decode cX8_in 17 = .ok (.iconst 0, 1) := by decide +kernel
theorem dX8_in_18 : decode cX8_in 18 = .ok (.ireturn, 1) := by decide +kernel
theorem dX8_has_0 : decode cX8_has 0 = .ok (.iload_n 0, 1) := by decide +kernel
theorem dX8_has_1 : decode cX8_has 1 = .ok (.iload_n 1, 1) := by decide +kernel
theorem dX8_has_2 : decode cX8_has 2 = .ok (.ishr, 1) := by decide +kernel
theorem dX8_has_3 : decode cX8_has 3 = .ok (.iconst 1, 1) := by decide +kernel
theorem dX8_has_4 : decode cX8_has 4 = .ok (.iand, 1) := by decide +kernel
theorem dX8_has_5 : decode cX8_has 5 = .ok (.iconst 1, 1) := by decide +kernel
theorem dX8_has_6 : decode cX8_has 6 = .ok (.if_icmp .ne 7, 3) := by decide +kernel
theorem dX8_has_9 : decode cX8_has 9 = .ok (.iconst 1, 1) := by decide +kernel
theorem dX8_has_10 : decode cX8_has 10 = .ok (.goto 4, 3) := by decide +kernel
theorem dX8_has_13 : decode cX8_has 13 = .ok (.iconst 0, 1) := by decide +kernel
theorem dX8_has_14 : decode cX8_has 14 = .ok (.ireturn, 1) := by decide +kernel
theorem dX8_bitsOf_0 : decode cX8_bitsOf 0 = .ok (.iconst 0, 1) := by decide +kernel
theorem dX8_bitsOf_1 : decode cX8_bitsOf 1 = .ok (.istore_n 1, 1) := by decide +kernel
theorem dX8_bitsOf_2 : decode cX8_bitsOf 2 = .ok (.iconst 0, 1) := by decide +kernel
theorem dX8_bitsOf_3 : decode cX8_bitsOf 3 = .ok (.istore_n 2, 1) := by decide +kernel
theorem dX8_bitsOf_4 : decode cX8_bitsOf 4 = .ok (.iload_n 2, 1) := by decide +kernel
theorem dX8_bitsOf_5 : decode cX8_bitsOf 5 = .ok (.bipush 16, 2) := by decide +kernel
theorem dX8_bitsOf_7 : decode cX8_bitsOf 7 = .ok (.if_icmp .ge 17, 3) := by decide +kernel
theorem dX8_bitsOf_10 : decode cX8_bitsOf 10 = .ok (.iload_n 1, 1) := by decide +kernel
theorem dX8_bitsOf_11 : decode cX8_bitsOf 11 = .ok (.iload_n 0, 1) := by decide +kernel
theorem dX8_bitsOf_12 : decode cX8_bitsOf 12 = .ok (.iload_n 2, 1) := by decide +kernel
theorem dX8_bitsOf_13 : decode cX8_bitsOf 13 = .ok (.ishr, 1) := by decide +kernel
theorem dX8_bitsOf_14 : decode cX8_bitsOf 14 = .ok (.iconst 1, 1) := by decide +kernel
theorem dX8_bitsOf_15 : decode cX8_bitsOf 15 = .ok (.iand, 1) := by decide +kernel
theorem dX8_bitsOf_16 : decode cX8_bitsOf 16 = .ok (.iadd, 1) := by decide +kernel
theorem dX8_bitsOf_17 : decode cX8_bitsOf 17 = .ok (.istore_n 1, 1) := by decide +kernel
theorem dX8_bitsOf_18 : decode cX8_bitsOf 18 = .ok (.iinc 2 1, 3) := by decide +kernel
theorem dX8_bitsOf_21 : decode cX8_bitsOf 21 = .ok (.goto (-17), 3) := by decide +kernel
theorem dX8_bitsOf_24 : decode cX8_bitsOf 24 = .ok (.iload_n 1, 1) := by decide +kernel
theorem dX8_bitsOf_25 : decode cX8_bitsOf 25 = .ok (.ireturn, 1) := by decide +kernel
theorem dX8_person_0 : decode cX8_person 0 = .ok (.iload_n 1, 1) := by decide +kernel
theorem dX8_person_1 : decode cX8_person 1 = .ok (.i2l, 1) := by decide +kernel
theorem dX8_person_2 : decode cX8_person 2 = .ok (.lconst 0, 1) := by decide +kernel
theorem dX8_person_3 : decode cX8_person 3 = .ok (.ldc2_w 63, 3) := by decide +kernel
theorem dX8_person_6 : decode cX8_person 6 = .ok (.invokestatic 65, 3) := by decide +kernel
theorem dX8_person_9 : decode cX8_person 9 = .ok (.ifCond .ne 6, 3) := by decide +kernel
theorem dX8_person_12 : decode cX8_person 12 = .ok (.bipush (-102), 2) := by decide +kernel
theorem dX8_person_14 : decode cX8_person 14 = .ok (.ireturn, 1) := by decide +kernel
theorem dX8_person_15 : decode cX8_person 15 = .ok (.aload_n 0, 1) := by decide +kernel
theorem dX8_person_16 : decode cX8_person 16 = .ok (.getfield 69, 3) := by decide +kernel
theorem dX8_person_19 : decode cX8_person 19 = .ok (.bipush 12, 2) := by decide +kernel
theorem dX8_person_21 : decode cX8_person 21 = .ok (.if_icmp .ne 6, 3) := by decide +kernel
theorem dX8_person_24 : decode cX8_person 24 = .ok (.bipush (-104), 2) := by decide +kernel
theorem dX8_person_26 : decode cX8_person 26 = .ok (.ireturn, 1) := by decide +kernel
theorem dX8_person_27 : decode cX8_person 27 = .ok (.aload_n 0, 1) := by decide +kernel
theorem dX8_person_28 : decode cX8_person 28 = .ok (.getfield 7, 3) := by decide +kernel
theorem dX8_person_31 : decode cX8_person 31 = .ok (.aload_n 0, 1) := by decide +kernel
theorem dX8_person_32 : decode cX8_person 32 = .ok (.getfield 69, 3) := by decide +kernel
theorem dX8_person_35 : decode cX8_person 35 = .ok (.iload_n 1, 1) := by decide +kernel
theorem dX8_person_36 : decode cX8_person 36 = .ok (.iastore, 1) := by decide +kernel
theorem dX8_person_37 : decode cX8_person 37 = .ok (.aload_n 0, 1) := by decide +kernel
theorem dX8_person_38 : decode cX8_person 38 = .ok (.dup, 1) := by decide +kernel
theorem dX8_person_39 : decode cX8_person 39 = .ok (.getfield 69, 3) := by decide +kernel
theorem dX8_person_42 : decode cX8_person 42 = .ok (.iconst 1, 1) := by decide +kernel
theorem dX8_person_43 : decode cX8_person 43 = .ok (.iadd, 1) := by decide +kernel
theorem dX8_person_44 : decode cX8_person 44 = .ok (.putfield 69, 3) := by decide +kernel
theorem dX8_person_47 : decode cX8_person 47 = .ok (.aload_n 0, 1) := by decide +kernel
theorem dX8_person_48 : decode cX8_person 48 = .ok (.getfield 69, 3) := by decide +kernel
theorem dX8_person_51 : decode cX8_person 51 = .ok (.iconst 1, 1) := by decide +kernel
theorem dX8_person_52 : decode cX8_person 52 = .ok (.isub, 1) := by decide +kernel
theorem dX8_person_53 : decode cX8_person 53 = .ok (.ireturn, 1) := by decide +kernel
theorem dX8_isPerson_0 : decode cX8_isPerson 0 = .ok (.iload_n 1, 1) := by decide +kernel
theorem dX8_isPerson_1 : decode cX8_isPerson 1 = .ok (.i2l, 1) := by decide +kernel
theorem dX8_isPerson_2 : decode cX8_isPerson 2 = .ok (.lconst 0, 1) := by decide +kernel
theorem dX8_isPerson_3 : decode cX8_isPerson 3 = .ok (.aload_n 0, 1) := by decide +kernel
theorem dX8_isPerson_4 : decode cX8_isPerson 4 = .ok (.getfield 69, 3) := by decide +kernel
theorem dX8_isPerson_7 : decode cX8_isPerson 7 = .ok (.iconst 1, 1) := by decide +kernel
theorem dX8_isPerson_8 : decode cX8_isPerson 8 = .ok (.isub, 1) := by decide +kernel
theorem dX8_isPerson_9 : decode cX8_isPerson 9 = .ok (.i2l, 1) := by decide +kernel
theorem dX8_isPerson_10 : decode cX8_isPerson 10 = .ok (.invokestatic 65, 3) := by decide +kernel
theorem dX8_isPerson_13 : decode cX8_isPerson 13 = .ok (.ireturn, 1) := by decide +kernel
theorem dX8_field_0 : decode cX8_field 0 = .ok (.aload_n 0, 1) := by decide +kernel
theorem dX8_field_1 : decode cX8_field 1 = .ok (.iload_n 1, 1) := by decide +kernel
theorem dX8_field_2 : decode cX8_field 2 = .ok (.invokevirtual 72, 3) := by decide +kernel
theorem dX8_field_5 : decode cX8_field 5 = .ok (.ifCond .ne 6, 3) := by decide +kernel
theorem dX8_field_8 : decode cX8_field 8 = .ok (.bipush (-101), 2) := by decide +kernel
theorem dX8_field_10 : decode cX8_field 10 = .ok (.ireturn, 1) := by decide +kernel
theorem dX8_field_11 : decode cX8_field 11 = .ok (.aload_n 0, 1) := by decide +kernel
theorem dX8_field_12 : decode cX8_field 12 = .ok (.getfield 76, 3) := by decide +kernel
theorem dX8_field_15 : decode cX8_field 15 = .ok (.bipush 6, 2) := by decide +kernel
theorem dX8_field_17 : decode cX8_field 17 = .ok (.if_icmp .ne 6, 3) := by decide +kernel
theorem dX8_field_20 : decode cX8_field 20 = .ok (.bipush (-104), 2) := by decide +kernel
theorem dX8_field_22 : decode cX8_field 22 = .ok (.ireturn, 1) := by decide +kernel
theorem dX8_field_23 : decode cX8_field 23 = .ok (.aload_n 0, 1) := by decide +kernel
theorem dX8_field_24 : decode cX8_field 24 = .ok (.getfield 13, 3) := by decide +kernel
theorem dX8_field_27 : decode cX8_field 27 = .ok (.aload_n 0, 1) := by decide +kernel
theorem dX8_field_28 : decode cX8_field 28 = .ok (.getfield 76, 3) := by decide +kernel
theorem dX8_field_31 : decode cX8_field 31 = .ok (.iload_n 1, 1) := by decide +kernel
theorem dX8_field_32 : decode cX8_field 32 = .ok (.iastore, 1) := by decide +kernel
theorem dX8_field_33 : decode cX8_field 33 = .ok (.aload_n 0, 1) := by decide +kernel
theorem dX8_field_34 : decode cX8_field 34 = .ok (.getfield 16, 3) := by decide +kernel
theorem dX8_field_37 : decode cX8_field 37 = .ok (.aload_n 0, 1) := by decide +kernel
theorem dX8_field_38 : decode cX8_field 38 = .ok (.getfield 76, 3) := by decide +kernel
theorem dX8_field_41 : decode cX8_field 41 = .ok (.iconst (-1), 1) := by decide +kernel
theorem dX8_field_42 : decode cX8_field 42 = .ok (.iastore, 1) := by decide +kernel
theorem dX8_field_43 : decode cX8_field 43 = .ok (.aload_n 0, 1) := by decide +kernel
theorem dX8_field_44 : decode cX8_field 44 = .ok (.getfield 19, 3) := by decide +kernel
theorem dX8_field_47 : decode cX8_field 47 = .ok (.aload_n 0, 1) := by decide +kernel
theorem dX8_field_48 : decode cX8_field 48 = .ok (.getfield 76, 3) := by decide +kernel
theorem dX8_field_51 : decode cX8_field 51 = .ok (.iconst 0, 1) := by decide +kernel
theorem dX8_field_52 : decode cX8_field 52 = .ok (.iastore, 1) := by decide +kernel
theorem dX8_field_53 : decode cX8_field 53 = .ok (.aload_n 0, 1) := by decide +kernel
theorem dX8_field_54 : decode cX8_field 54 = .ok (.dup, 1) := by decide +kernel
theorem dX8_field_55 : decode cX8_field 55 = .ok (.getfield 76, 3) := by decide +kernel
theorem dX8_field_58 : decode cX8_field 58 = .ok (.iconst 1, 1) := by decide +kernel
theorem dX8_field_59 : decode cX8_field 59 = .ok (.iadd, 1) := by decide +kernel
theorem dX8_field_60 : decode cX8_field 60 = .ok (.putfield 76, 3) := by decide +kernel
theorem dX8_field_63 : decode cX8_field 63 = .ok (.aload_n 0, 1) := by decide +kernel
theorem dX8_field_64 : decode cX8_field 64 = .ok (.getfield 76, 3) := by decide +kernel
theorem dX8_field_67 : decode cX8_field 67 = .ok (.iconst 1, 1) := by decide +kernel
theorem dX8_field_68 : decode cX8_field 68 = .ok (.isub, 1) := by decide +kernel
theorem dX8_field_69 : decode cX8_field 69 = .ok (.ireturn, 1) := by decide +kernel
theorem dX8_isField_0 : decode cX8_isField 0 = .ok (.iload_n 1, 1) := by decide +kernel
theorem dX8_isField_1 : decode cX8_isField 1 = .ok (.i2l, 1) := by decide +kernel
theorem dX8_isField_2 : decode cX8_isField 2 = .ok (.lconst 0, 1) := by decide +kernel
theorem dX8_isField_3 : decode cX8_isField 3 = .ok (.aload_n 0, 1) := by decide +kernel
theorem dX8_isField_4 : decode cX8_isField 4 = .ok (.getfield 76, 3) := by decide +kernel
theorem dX8_isField_7 : decode cX8_isField 7 = .ok (.iconst 1, 1) := by decide +kernel
theorem dX8_isField_8 : decode cX8_isField 8 = .ok (.isub, 1) := by decide +kernel
theorem dX8_isField_9 : decode cX8_isField 9 = .ok (.i2l, 1) := by decide +kernel
theorem dX8_isField_10 : decode cX8_isField 10 = .ok (.invokestatic 65, 3) := by decide +kernel
theorem dX8_isField_13 : decode cX8_isField 13 = .ok (.ireturn, 1) := by decide +kernel
theorem dX8_isDay_0 : decode cX8_isDay 0 = .ok (.iload_n 0, 1) := by decide +kernel
theorem dX8_isDay_1 : decode cX8_isDay 1 = .ok (.i2l, 1) := by decide +kernel
theorem dX8_isDay_2 : decode cX8_isDay 2 = .ok (.lconst 0, 1) := by decide +kernel
theorem dX8_isDay_3 : decode cX8_isDay 3 = .ok (.ldc2_w 79, 3) := by decide +kernel
theorem dX8_isDay_6 : decode cX8_isDay 6 = .ok (.invokestatic 65, 3) := by decide +kernel
theorem dX8_isDay_9 : decode cX8_isDay 9 = .ok (.ireturn, 1) := by decide +kernel
theorem dX8_lives_0 : decode cX8_lives 0 = .ok (.aload_n 0, 1) := by decide +kernel
theorem dX8_lives_1 : decode cX8_lives 1 = .ok (.iload_n 1, 1) := by decide +kernel
theorem dX8_lives_2 : decode cX8_lives 2 = .ok (.invokevirtual 81, 3) := by decide +kernel
theorem dX8_lives_5 : decode cX8_lives 5 = .ok (.ifCond .eq 16, 3) := by decide +kernel
theorem dX8_lives_8 : decode cX8_lives 8 = .ok (.iload_n 2, 1) := by decide +kernel
theorem dX8_lives_9 : decode cX8_lives 9 = .ok (.iconst (-1), 1) := by decide +kernel
theorem dX8_lives_10 : decode cX8_lives 10 = .ok (.if_icmp .eq 14, 3) := by decide +kernel
theorem dX8_lives_13 : decode cX8_lives 13 = .ok (.aload_n 0, 1) := by decide +kernel
theorem dX8_lives_14 : decode cX8_lives 14 = .ok (.iload_n 2, 1) := by decide +kernel
theorem dX8_lives_15 : decode cX8_lives 15 = .ok (.invokevirtual 72, 3) := by decide +kernel
theorem dX8_lives_18 : decode cX8_lives 18 = .ok (.ifCond .ne 6, 3) := by decide +kernel
theorem dX8_lives_21 : decode cX8_lives 21 = .ok (.bipush (-101), 2) := by decide +kernel
theorem dX8_lives_23 : decode cX8_lives 23 = .ok (.ireturn, 1) := by decide +kernel
theorem dX8_lives_24 : decode cX8_lives 24 = .ok (.iload_n 3, 1) := by decide +kernel
theorem dX8_lives_25 : decode cX8_lives 25 = .ok (.invokestatic 84, 3) := by decide +kernel
theorem dX8_lives_28 : decode cX8_lives 28 = .ok (.ifCond .ne 6, 3) := by decide +kernel
theorem dX8_lives_31 : decode cX8_lives 31 = .ok (.bipush (-102), 2) := by decide +kernel
theorem dX8_lives_33 : decode cX8_lives 33 = .ok (.ireturn, 1) := by decide +kernel
theorem dX8_lives_34 : decode cX8_lives 34 = .ok (.aload_n 0, 1) := by decide +kernel
theorem dX8_lives_35 : decode cX8_lives 35 = .ok (.getfield 16, 3) := by decide +kernel
theorem dX8_lives_38 : decode cX8_lives 38 = .ok (.iload_n 1, 1) := by decide +kernel
theorem dX8_lives_39 : decode cX8_lives 39 = .ok (.iaload, 1) := by decide +kernel
theorem dX8_lives_40 : decode cX8_lives 40 = .ok (.istore 4, 2) := by decide +kernel
theorem dX8_lives_42 : decode cX8_lives 42 = .ok (.aload_n 0, 1) := by decide +kernel
theorem dX8_lives_43 : decode cX8_lives 43 = .ok (.getfield 16, 3) := by decide +kernel
theorem dX8_lives_46 : decode cX8_lives 46 = .ok (.iload_n 1, 1) := by decide +kernel
theorem dX8_lives_47 : decode cX8_lives 47 = .ok (.iload_n 2, 1) := by decide +kernel
theorem dX8_lives_48 : decode cX8_lives 48 = .ok (.iastore, 1) := by decide +kernel
theorem dX8_lives_49 : decode cX8_lives 49 = .ok (.aload_n 0, 1) := by decide +kernel
theorem dX8_lives_50 : decode cX8_lives 50 = .ok (.getfield 19, 3) := by decide +kernel
theorem dX8_lives_53 : decode cX8_lives 53 = .ok (.iload_n 1, 1) := by decide +kernel
theorem dX8_lives_54 : decode cX8_lives 54 = .ok (.iload_n 2, 1) := by decide +kernel
theorem dX8_lives_55 : decode cX8_lives 55 = .ok (.iconst (-1), 1) := by decide +kernel
theorem dX8_lives_56 : decode cX8_lives 56 = .ok (.if_icmp .ne 7, 3) := by decide +kernel
theorem dX8_lives_59 : decode cX8_lives 59 = .ok (.iconst 0, 1) := by decide +kernel
theorem dX8_lives_60 : decode cX8_lives 60 = .ok (.goto 4, 3) := by decide +kernel
theorem dX8_lives_63 : decode cX8_lives 63 = .ok (.iload_n 3, 1) := by decide +kernel
theorem dX8_lives_64 : decode cX8_lives 64 = .ok (.iastore, 1) := by decide +kernel
theorem dX8_lives_65 : decode cX8_lives 65 = .ok (.iload 4, 2) := by decide +kernel
theorem dX8_lives_67 : decode cX8_lives 67 = .ok (.ireturn, 1) := by decide +kernel
theorem dX8_told_0 : decode cX8_told 0 = .ok (.aload_n 0, 1) := by decide +kernel
theorem dX8_told_1 : decode cX8_told 1 = .ok (.getfield 22, 3) := by decide +kernel
theorem dX8_told_4 : decode cX8_told 4 = .ok (.bipush 10, 2) := by decide +kernel
theorem dX8_told_6 : decode cX8_told 6 = .ok (.iload_n 1, 1) := by decide +kernel
theorem dX8_told_7 : decode cX8_told 7 = .ok (.imul, 1) := by decide +kernel
theorem dX8_told_8 : decode cX8_told 8 = .ok (.iload_n 2, 1) := by decide +kernel
theorem dX8_told_9 : decode cX8_told 9 = .ok (.iadd, 1) := by decide +kernel
theorem dX8_told_10 : decode cX8_told 10 = .ok (.iaload, 1) := by decide +kernel
theorem dX8_told_11 : decode cX8_told 11 = .ok (.ireturn, 1) := by decide +kernel
theorem dX8_deed_0 : decode cX8_deed 0 = .ok (.iload_n 1, 1) := by decide +kernel
theorem dX8_deed_1 : decode cX8_deed 1 = .ok (.i2l, 1) := by decide +kernel
theorem dX8_deed_2 : decode cX8_deed 2 = .ok (.lconst 0, 1) := by decide +kernel
theorem dX8_deed_3 : decode cX8_deed 3 = .ok (.ldc2_w 87, 3) := by decide +kernel
theorem dX8_deed_6 : decode cX8_deed 6 = .ok (.invokestatic 65, 3) := by decide +kernel
theorem dX8_deed_9 : decode cX8_deed 9 = .ok (.ifCond .ne 6, 3) := by decide +kernel
theorem dX8_deed_12 : decode cX8_deed 12 = .ok (.bipush (-102), 2) := by decide +kernel
theorem dX8_deed_14 : decode cX8_deed 14 = .ok (.ireturn, 1) := by decide +kernel
theorem dX8_deed_15 : decode cX8_deed 15 = .ok (.aload_n 0, 1) := by decide +kernel
theorem dX8_deed_16 : decode cX8_deed 16 = .ok (.iload_n 2, 1) := by decide +kernel
theorem dX8_deed_17 : decode cX8_deed 17 = .ok (.invokevirtual 81, 3) := by decide +kernel
theorem dX8_deed_20 : decode cX8_deed 20 = .ok (.ifCond .eq 26, 3) := by decide +kernel
theorem dX8_deed_23 : decode cX8_deed 23 = .ok (.aload_n 0, 1) := by decide +kernel
theorem dX8_deed_24 : decode cX8_deed 24 = .ok (.iload_n 3, 1) := by decide +kernel
theorem dX8_deed_25 : decode cX8_deed 25 = .ok (.invokevirtual 72, 3) := by decide +kernel
theorem dX8_deed_28 : decode cX8_deed 28 = .ok (.ifCond .eq 18, 3) := by decide +kernel
theorem dX8_deed_31 : decode cX8_deed 31 = .ok (.aload_n 0, 1) := by decide +kernel
theorem dX8_deed_32 : decode cX8_deed 32 = .ok (.iload 4, 2) := by decide +kernel
theorem dX8_deed_34 : decode cX8_deed 34 = .ok (.invokevirtual 72, 3) := by decide +kernel
theorem dX8_deed_37 : decode cX8_deed 37 = .ok (.ifCond .eq 9, 3) := by decide +kernel
theorem dX8_deed_40 : decode cX8_deed 40 = .ok (.iload_n 3, 1) := by decide +kernel
theorem dX8_deed_41 : decode cX8_deed 41 = .ok (.iload 4, 2) := by decide +kernel
theorem dX8_deed_43 : decode cX8_deed 43 = .ok (.if_icmp .ne 6, 3) := by decide +kernel
theorem dX8_deed_46 : decode cX8_deed 46 = .ok (.bipush (-101), 2) := by decide +kernel
theorem dX8_deed_48 : decode cX8_deed 48 = .ok (.ireturn, 1) := by decide +kernel
theorem dX8_deed_49 : decode cX8_deed 49 = .ok (.iload 5, 2) := by decide +kernel
theorem dX8_deed_51 : decode cX8_deed 51 = .ok (.invokestatic 84, 3) := by decide +kernel
theorem dX8_deed_54 : decode cX8_deed 54 = .ok (.ifCond .ne 6, 3) := by decide +kernel
theorem dX8_deed_57 : decode cX8_deed 57 = .ok (.bipush (-102), 2) := by decide +kernel
theorem dX8_deed_59 : decode cX8_deed 59 = .ok (.ireturn, 1) := by decide +kernel
theorem dX8_deed_60 : decode cX8_deed 60 = .ok (.aload_n 0, 1) := by decide +kernel
