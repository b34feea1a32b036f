theorem dX0_init_0 : decode cX0_init 0 = .ok (.aload_n 0, 1) := by decide +kernel
theorem dX0_init_1 : decode cX0_init 1 = .ok (.invokespecial 3, 3) := by decide +kernel
theorem dX0_init_4 : decode cX0_init 4 = .ok (.aload_n 0, 1) := by decide +kernel
theorem dX0_init_5 : decode cX0_init 5 = .ok (.bipush 16, 2) := by decide +kernel
theorem dX0_init_7 : decode cX0_init 7 = .ok (.anewarray 9, 3) := by decide +kernel
theorem dX0_init_10 : decode cX0_init 10 = .ok (.putfield 11, 3) := by decide +kernel
theorem dX0_init_13 : decode cX0_init 13 = .ok (.iconst 0, 1) := by decide +kernel
theorem dX0_init_14 : decode cX0_init 14 = .ok (.istore_n 1, 1) := by decide +kernel
theorem dX0_init_15 : decode cX0_init 15 = .ok (.iload_n 1, 1) := by decide +kernel
theorem dX0_init_16 : decode cX0_init 16 = .ok (.bipush 16, 2) := by decide +kernel
theorem dX0_init_18 : decode cX0_init 18 = .ok (.if_icmp .ge 22, 3) := by decide +kernel
theorem dX0_init_21 : decode cX0_init 21 = .ok (.aload_n 0, 1) := by decide +kernel
theorem dX0_init_22 : decode cX0_init 22 = .ok (.getfield 11, 3) := by decide +kernel
theorem dX0_init_25 : decode cX0_init 25 = .ok (.iload_n 1, 1) := by decide +kernel
theorem dX0_init_26 : decode cX0_init 26 = .ok (.new 9, 3) := by decide +kernel
theorem dX0_init_29 : decode cX0_init 29 = .ok (.dup, 1) := by decide +kernel
theorem dX0_init_30 : decode cX0_init 30 = .ok (.invokespecial 17, 3) := by decide +kernel
theorem dX0_init_33 : decode cX0_init 33 = .ok (.aastore, 1) := by decide +kernel
theorem dX0_init_34 : decode cX0_init 34 = .ok (.iinc 1 1, 3) := by decide +kernel
theorem dX0_init_37 : decode cX0_init 37 = .ok (.goto (-22), 3) := by decide +kernel
theorem dX0_init_40 : decode cX0_init 40 = .ok (.aload_n 0, 1) := by decide +kernel
theorem dX0_init_41 : decode cX0_init 41 = .ok (.bipush 6, 2) := by decide +kernel
theorem dX0_init_43 : decode cX0_init 43 = .ok (.newarray .int, 2) := by decide +kernel
theorem dX0_init_45 : decode cX0_init 45 = .ok (.putfield 18, 3) := by decide +kernel
theorem dX0_init_48 : decode cX0_init 48 = .ok (.iconst 0, 1) := by decide +kernel
theorem dX0_init_49 : decode cX0_init 49 = .ok (.istore_n 1, 1) := by decide +kernel
theorem dX0_init_50 : decode cX0_init 50 = .ok (.iload_n 1, 1) := by decide +kernel
theorem dX0_init_51 : decode cX0_init 51 = .ok (.bipush 6, 2) := by decide +kernel
theorem dX0_init_53 : decode cX0_init 53 = .ok (.if_icmp .ge 16, 3) := by decide +kernel
theorem dX0_init_56 : decode cX0_init 56 = .ok (.aload_n 0, 1) := by decide +kernel
theorem dX0_init_57 : decode cX0_init 57 = .ok (.getfield 18, 3) := by decide +kernel
theorem dX0_init_60 : decode cX0_init 60 = .ok (.iload_n 1, 1) := by decide +kernel
theorem dX0_init_61 : decode cX0_init 61 = .ok (.iconst (-1), 1) := by decide +kernel
theorem dX0_init_62 : decode cX0_init 62 = .ok (.iastore, 1) := by decide +kernel
theorem dX0_init_63 : decode cX0_init 63 = .ok (.iinc 1 1, 3) := by decide +kernel
theorem dX0_init_66 : decode cX0_init 66 = .ok (.goto (-16), 3) := by decide +kernel
theorem dX0_init_69 : decode cX0_init 69 = .ok (.aload_n 0, 1) := by decide +kernel
theorem dX0_init_70 : decode cX0_init 70 = .ok (.bipush 6, 2) := by decide +kernel
theorem dX0_init_72 : decode cX0_init 72 = .ok (.newarray .int, 2) := by decide +kernel
theorem dX0_init_74 : decode cX0_init 74 = .ok (.putfield 22, 3) := by decide +kernel
theorem dX0_init_77 : decode cX0_init 77 = .ok (.return_, 1) := by decide +kernel
theorem dX0_copy_0 : decode cX0_copy 0 = .ok (.aload_n 0, 1) := by decide +kernel
theorem dX0_copy_1 : decode cX0_copy 1 = .ok (.aload_n 1, 1) := by decide +kernel
theorem dX0_copy_2 : decode cX0_copy 2 = .ok (.getfield 25, 3) := by decide +kernel
theorem dX0_copy_5 : decode cX0_copy 5 = .ok (.putfield 25, 3) := by decide +kernel
theorem dX0_copy_8 : decode cX0_copy 8 = .ok (.iconst 0, 1) := by decide +kernel
theorem dX0_copy_9 : decode cX0_copy 9 = .ok (.istore_n 2, 1) := by decide +kernel
theorem dX0_copy_10 : decode cX0_copy 10 = .ok (.iload_n 2, 1) := by decide +kernel
theorem dX0_copy_11 : decode cX0_copy 11 = .ok (.aload_n 0, 1) := by decide +kernel
theorem dX0_copy_12 : decode cX0_copy 12 = .ok (.getfield 25, 3) := by decide +kernel
theorem dX0_copy_15 : decode cX0_copy 15 = .ok (.if_icmp .ge 24, 3) := by decide +kernel
theorem dX0_copy_18 : decode cX0_copy 18 = .ok (.aload_n 0, 1) := by decide +kernel
theorem dX0_copy_19 : decode cX0_copy 19 = .ok (.getfield 11, 3) := by decide +kernel
theorem dX0_copy_22 : decode cX0_copy 22 = .ok (.iload_n 2, 1) := by decide +kernel
theorem dX0_copy_23 : decode cX0_copy 23 = .ok (.aaload, 1) := by decide +kernel
theorem dX0_copy_24 : decode cX0_copy 24 = .ok (.aload_n 1, 1) := by decide +kernel
theorem dX0_copy_25 : decode cX0_copy 25 = .ok (.getfield 11, 3) := by decide +kernel
theorem dX0_copy_28 : decode cX0_copy 28 = .ok (.iload_n 2, 1) := by decide +kernel
theorem dX0_copy_29 : decode cX0_copy 29 = .ok (.aaload, 1) := by decide +kernel
theorem dX0_copy_30 : decode cX0_copy 30 = .ok (.invokevirtual 29, 3) := by decide +kernel
theorem dX0_copy_33 : decode cX0_copy 33 = .ok (.iinc 2 1, 3) := by decide +kernel
theorem dX0_copy_36 : decode cX0_copy 36 = .ok (.goto (-26), 3) := by decide +kernel
theorem dX0_copy_39 : decode cX0_copy 39 = .ok (.iconst 0, 1) := by decide +kernel
theorem dX0_copy_40 : decode cX0_copy 40 = .ok (.istore_n 2, 1) := by decide +kernel
theorem dX0_copy_41 : decode cX0_copy 41 = .ok (.iload_n 2, 1) := by decide +kernel
theorem dX0_copy_42 : decode cX0_copy 42 = .ok (.bipush 6, 2) := by decide +kernel
theorem dX0_copy_44 : decode cX0_copy 44 = .ok (.if_icmp .ge 33, 3) := by decide +kernel
theorem dX0_copy_47 : decode cX0_copy 47 = .ok (.aload_n 0, 1) := by decide +kernel
theorem dX0_copy_48 : decode cX0_copy 48 = .ok (.getfield 18, 3) := by decide +kernel
theorem dX0_copy_51 : decode cX0_copy 51 = .ok (.iload_n 2, 1) := by decide +kernel
theorem dX0_copy_52 : decode cX0_copy 52 = .ok (.aload_n 1, 1) := by decide +kernel
theorem dX0_copy_53 : decode cX0_copy 53 = .ok (.getfield 18, 3) := by decide +kernel
theorem dX0_copy_56 : decode cX0_copy 56 = .ok (.iload_n 2, 1) := by decide +kernel
theorem dX0_copy_57 : decode cX0_copy 57 = .ok (.iaload, 1) := by decide +kernel
theorem dX0_copy_58 : decode cX0_copy 58 = .ok (.iastore, 1) := by decide +kernel
theorem dX0_copy_59 : decode cX0_copy 59 = .ok (.aload_n 0, 1) := by decide +kernel
theorem dX0_copy_60 : decode cX0_copy 60 = .ok (.getfield 22, 3) := by decide +kernel
theorem dX0_copy_63 : decode cX0_copy 63 = .ok (.iload_n 2, 1) := by decide +kernel
theorem dX0_copy_64 : decode cX0_copy 64 = .ok (.aload_n 1, 1) := by decide +kernel
theorem dX0_copy_65 : decode cX0_copy 65 = .ok (.getfield 22, 3) := by decide +kernel
theorem dX0_copy_68 : decode cX0_copy 68 = .ok (.iload_n 2, 1) := by decide +kernel
theorem dX0_copy_69 : decode cX0_copy 69 = .ok (.iaload, 1) := by decide +kernel
theorem dX0_copy_70 : decode cX0_copy 70 = .ok (.iastore, 1) := by decide +kernel
theorem dX0_copy_71 : decode cX0_copy 71 = .ok (.iinc 2 1, 3) := by decide +kernel
theorem dX0_copy_74 : decode cX0_copy 74 = .ok (.goto (-33), 3) := by decide +kernel
theorem dX0_copy_77 : decode cX0_copy 77 = .ok (.return_, 1) := by decide +kernel
theorem dX0_ofField_0 : decode cX0_ofField 0 = .ok (.iconst 0, 1) := by decide +kernel
theorem dX0_ofField_1 : decode cX0_ofField 1 = .ok (.istore_n 2, 1) := by decide +kernel
theorem dX0_ofField_2 : decode cX0_ofField 2 = .ok (.iconst 0, 1) := by decide +kernel
theorem dX0_ofField_3 : decode cX0_ofField 3 = .ok (.istore_n 3, 1) := by decide +kernel
theorem dX0_ofField_4 : decode cX0_ofField 4 = .ok (.iload_n 3, 1) := by decide +kernel
theorem dX0_ofField_5 : decode cX0_ofField 5 = .ok (.aload_n 0, 1) := by decide +kernel
theorem dX0_ofField_6 : decode cX0_ofField 6 = .ok (.getfield 25, 3) := by decide +kernel
theorem dX0_ofField_9 : decode cX0_ofField 9 = .ok (.if_icmp .ge 29, 3) := by decide +kernel
theorem dX0_ofField_12 : decode cX0_ofField 12 = .ok (.aload_n 0, 1) := by decide +kernel
theorem dX0_ofField_13 : decode cX0_ofField 13 = .ok (.getfield 11, 3) := by decide +kernel
theorem dX0_ofField_16 : decode cX0_ofField 16 = .ok (.iload_n 3, 1) := by decide +kernel
theorem dX0_ofField_17 : decode cX0_ofField 17 = .ok (.aaload, 1) := by decide +kernel
theorem dX0_ofField_18 : decode cX0_ofField 18 = .ok (.getfield 33, 3) := by decide +kernel
theorem dX0_ofField_21 : decode cX0_ofField 21 = .ok (.iload_n 1, 1) := by decide +kernel
theorem dX0_ofField_22 : decode cX0_ofField 22 = .ok (.if_icmp .ne 10, 3) := by decide +kernel
theorem dX0_ofField_25 : decode cX0_ofField 25 = .ok (.iload_n 2, 1) := by decide +kernel
theorem dX0_ofField_26 : decode cX0_ofField 26 = .ok (.iload_n 3, 1) := by decide +kernel
theorem dX0_ofField_27 : decode cX0_ofField 27 = .ok (.invokestatic 36, 3) := by decide +kernel
theorem dX0_ofField_30 : decode cX0_ofField 30 = .ok (.ior, 1) := by decide +kernel
theorem dX0_ofField_31 : decode cX0_ofField 31 = .ok (.istore_n 2, 1) := by decide +kernel
theorem dX0_ofField_32 : decode cX0_ofField 32 = .ok (.iinc 3 1, 3) := by decide +kernel
theorem dX0_ofField_35 : decode cX0_ofField 35 = .ok (.goto (-31), 3) := by decide +kernel
theorem dX0_ofField_38 : decode cX0_ofField 38 = .ok (.iload_n 2, 1) := by decide +kernel
theorem dX0_ofField_39 : decode cX0_ofField 39 = .ok (.ireturn, 1) := by decide +kernel
theorem dX0_findable_0 : decode cX0_findable 0 = .ok (.iconst 0, 1) := by decide +kernel
theorem dX0_findable_1 : decode cX0_findable 1 = .ok (.istore_n 2, 1) := by decide +kernel
theorem dX0_findable_2 : decode cX0_findable 2 = .ok (.iconst 0, 1) := by decide +kernel
theorem dX0_findable_3 : decode cX0_findable 3 = .ok (.istore_n 3, 1) := by decide +kernel
theorem dX0_findable_4 : decode cX0_findable 4 = .ok (.iload_n 3, 1) := by decide +kernel
theorem dX0_findable_5 : decode cX0_findable 5 = .ok (.aload_n 0, 1) := by decide +kernel
theorem dX0_findable_6 : decode cX0_findable 6 = .ok (.getfield 25, 3) := by decide +kernel
theorem dX0_findable_9 : decode cX0_findable 9 = .ok (.if_icmp .ge 41, 3) := by decide +kernel
theorem dX0_findable_12 : decode cX0_findable 12 = .ok (.aload_n 0, 1) := by decide +kernel
theorem dX0_findable_13 : decode cX0_findable 13 = .ok (.getfield 11, 3) := by decide +kernel
theorem dX0_findable_16 : decode cX0_findable 16 = .ok (.iload_n 3, 1) := by decide +kernel
theorem dX0_findable_17 : decode cX0_findable 17 = .ok (.aaload, 1) := by decide +kernel
theorem dX0_findable_18 : decode cX0_findable 18 = .ok (.getfield 33, 3) := by decide +kernel
theorem dX0_findable_21 : decode cX0_findable 21 = .ok (.iload_n 1, 1) := by decide +kernel
theorem dX0_findable_22 : decode cX0_findable 22 = .ok (.if_icmp .ne 22, 3) := by decide +kernel
theorem dX0_findable_25 : decode cX0_findable 25 = .ok (.aload_n 0, 1) := by decide +kernel
theorem dX0_findable_26 : decode cX0_findable 26 = .ok (.getfield 11, 3) := by decide +kernel
theorem dX0_findable_29 : decode cX0_findable 29 = .ok (.iload_n 3, 1) := by decide +kernel
theorem dX0_findable_30 : decode cX0_findable 30 = .ok (.aaload, 1) := by decide +kernel
theorem dX0_findable_31 : decode cX0_findable 31 = .ok (.invokevirtual 40, 3) := by decide +kernel
theorem dX0_findable_34 : decode cX0_findable 34 = .ok (.ifCond .eq 10, 3) := by decide +kernel
theorem dX0_findable_37 : decode cX0_findable 37 = .ok (.iload_n 2, 1) := by decide +kernel
theorem dX0_findable_38 : decode cX0_findable 38 = .ok (.iload_n 3, 1) := by decide +kernel
theorem dX0_findable_39 : decode cX0_findable 39 = .ok (.invokestatic 36, 3) := by decide +kernel
theorem dX0_findable_42 : decode cX0_findable 42 = .ok (.ior, 1) := by decide +kernel
theorem dX0_findable_43 : decode cX0_findable 43 = .ok (.istore_n 2, 1) := by decide +kernel
theorem dX0_findable_44 : decode cX0_findable 44 = .ok (.iinc 3 1, 3) := by decide +kernel
theorem dX0_findable_47 : decode cX0_findable 47 = .ok (.goto (-43), 3) := by decide +kernel
theorem dX0_findable_50 : decode cX0_findable 50 = .ok (.iload_n 2, 1) := by decide +kernel
theorem dX0_findable_51 : decode cX0_findable 51 = .ok (.ireturn, 1) := by decide +kernel
theorem dX0_passingEntries_0 : decode cX0_passingEntries 0 = .ok (.iconst 0, 1) := by decide +kernel
theorem dX0_passingEntries_1 : decode cX0_passingEntries 1 = .ok (.istore_n 2, 1) := by decide +kernel
theorem dX0_passingEntries_2 : decode cX0_passingEntries 2 = .ok (.iconst 0, 1) := by decide +kernel
theorem dX0_passingEntries_3 : decode cX0_passingEntries 3 = .ok (.istore_n 3, 1) := by decide +kernel
theorem dX0_passingEntries_4 : decode cX0_passingEntries 4 = .ok (.iload_n 3, 1) := by decide +kernel
theorem dX0_passingEntries_5 : decode cX0_passingEntries 5 = .ok (.aload_n 0, 1) := by decide +kernel
theorem dX0_passingEntries_6 : decode cX0_passingEntries 6 = .ok (.getfield 25, 3) := by decide +kernel
theorem dX0_passingEntries_9 : decode cX0_passingEntries 9 = .ok (.if_icmp .ge 53, 3) := by decide +kernel
theorem dX0_passingEntries_12 : decode cX0_passingEntries 12 = .ok (.aload_n 0, 1) := by decide +kernel
theorem dX0_passingEntries_13 : decode cX0_passingEntries 13 = .ok (.getfield 11, 3) := by decide +kernel
theorem dX0_passingEntries_16 : decode cX0_passingEntries 16 = .ok (.iload_n 3, 1) := by decide +kernel
theorem dX0_passingEntries_17 : decode cX0_passingEntries 17 = .ok (.aaload, 1) := by decide +kernel
theorem dX0_passingEntries_18 : decode cX0_passingEntries 18 = .ok (.getfield 33, 3) := by decide +kernel
theorem dX0_passingEntries_21 : decode cX0_passingEntries 21 = .ok (.iload_n 1, 1) := by decide +kernel
theorem dX0_passingEntries_22 : decode cX0_passingEntries 22 = .ok (.if_icmp .ne 34, 3) := by decide +kernel
theorem dX0_passingEntries_25 : decode cX0_passingEntries 25 = .ok (.aload_n 0, 1) := by decide +kernel
theorem dX0_passingEntries_26 : decode cX0_passingEntries 26 = .ok (.getfield 11, 3) := by decide +kernel
theorem dX0_passingEntries_29 : decode cX0_passingEntries 29 = .ok (.iload_n 3, 1) := by decide +kernel
theorem dX0_passingEntries_30 : decode cX0_passingEntries 30 = .ok (.aaload, 1) := by decide +kernel
theorem dX0_passingEntries_31 : decode cX0_passingEntries 31 = .ok (.invokevirtual 44, 3) := by decide +kernel
theorem dX0_passingEntries_34 : decode cX0_passingEntries 34 = .ok (.ifCond .eq 22, 3) := by decide +kernel
theorem dX0_passingEntries_37 : decode cX0_passingEntries 37 = .ok (.aload_n 0, 1) := by decide +kernel
theorem dX0_passingEntries_38 : decode cX0_passingEntries 38 = .ok (.getfield 11, 3) := by decide +kernel
theorem dX0_passingEntries_41 : decode cX0_passingEntries 41 = .ok (.iload_n 3, 1) := by decide +kernel
theorem dX0_passingEntries_42 : decode cX0_passingEntries 42 = .ok (.aaload, 1) := by decide +kernel
theorem dX0_passingEntries_43 : decode cX0_passingEntries 43 = .ok (.invokevirtual 47, 3) := by decide +kernel
theorem dX0_passingEntries_46 : decode cX0_passingEntries 46 = .ok (.ifCond .eq 10, 3) := by decide +kernel
theorem dX0_passingEntries_49 : decode cX0_passingEntries 49 = .ok (.iload_n 2, 1) := by decide +kernel
theorem dX0_passingEntries_50 : decode cX0_passingEntries 50 = .ok (.iload_n 3, 1) := by decide +kernel
theorem dX0_passingEntries_51 : decode cX0_passingEntries 51 = .ok (.invokestatic 36, 3) := by decide +kernel
theorem dX0_passingEntries_54 : decode cX0_passingEntries 54 = .ok (.ior, 1) := by decide +kernel
theorem dX0_passingEntries_55 : decode cX0_passingEntries 55 = .ok (.istore_n 2, 1) := by decide +kernel
theorem dX0_passingEntries_56 : decode cX0_passingEntries 56 = .ok (.iinc 3 1, 3) := by decide +kernel
theorem dX0_passingEntries_59 : decode cX0_passingEntries 59 = .ok (.goto (-55), 3) := by decide +kernel
theorem dX0_passingEntries_62 : decode cX0_passingEntries 62 = .ok (.iload_n 2, 1) := by decide +kernel
theorem dX0_passingEntries_63 : decode cX0_passingEntries 63 = .ok (.ireturn, 1) := by decide +kernel
theorem dX0_enteredCount_0 : decode cX0_enteredCount 0 = .ok (.iconst 0, 1) := by decide +kernel
theorem dX0_enteredCount_1 : decode cX0_enteredCount 1 = .ok (.istore_n 1, 1) := by decide +kernel
theorem dX0_enteredCount_2 : decode cX0_enteredCount 2 = .ok (.iconst 0, 1) := by decide +kernel
theorem dX0_enteredCount_3 : decode cX0_enteredCount 3 = .ok (.istore_n 2, 1) := by decide +kernel
theorem dX0_enteredCount_4 : decode cX0_enteredCount 4 = .ok (.iload_n 2, 1) := by decide +kernel
theorem dX0_enteredCount_5 : decode cX0_enteredCount 5 = .ok (.aload_n 0, 1) := by decide +kernel
theorem dX0_enteredCount_6 : decode cX0_enteredCount 6 = .ok (.getfield 25, 3) := by decide +kernel
theorem dX0_enteredCount_9 : decode cX0_enteredCount 9 = .ok (.if_icmp .ge 24, 3) := by decide +kernel
theorem dX0_enteredCount_12 : decode cX0_enteredCount 12 = .ok (.aload_n 0, 1) := by decide +kernel
theorem dX0_enteredCount_13 : decode cX0_enteredCount 13 = .ok (.getfield 11, 3) := by decide +kernel
theorem dX0_enteredCount_16 : decode cX0_enteredCount 16 = .ok (.iload_n 2, 1) := by decide +kernel
theorem dX0_enteredCount_17 : decode cX0_enteredCount 17 = .ok (.aaload, 1) := by decide +kernel
theorem dX0_enteredCount_18 : decode cX0_enteredCount 18 = .ok (.invokevirtual 47, 3) := by decide +kernel
theorem dX0_enteredCount_21 : decode cX0_enteredCount 21 = .ok (.ifCond .eq 6, 3) := by decide +kernel
theorem dX0_enteredCount_24 : decode cX0_enteredCount 24 = .ok (.iinc 1 1, 3) := by decide +kernel
theorem dX0_enteredCount_27 : decode cX0_enteredCount 27 = .ok (.iinc 2 1, 3) := by decide +kernel
theorem dX0_enteredCount_30 : decode cX0_enteredCount 30 = .ok (.goto (-26), 3) := by decide +kernel
theorem dX0_enteredCount_33 : decode cX0_enteredCount 33 = .ok (.iload_n 1, 1) := by decide +kernel
theorem dX0_enteredCount_34 : decode cX0_enteredCount 34 = .ok (.ireturn, 1) := by decide +kernel
theorem dX0_isMadeAhead_0 : decode cX0_isMadeAhead 0 = .ok (.aload_n 0, 1) := by decide +kernel
theorem dX0_isMadeAhead_1 : decode cX0_isMadeAhead 1 = .ok (.getfield 11, 3) := by decide +kernel
theorem dX0_isMadeAhead_4 : decode cX0_isMadeAhead 4 = .ok (.iload_n 1, 1) := by decide +kernel
theorem dX0_isMadeAhead_5 : decode cX0_isMadeAhead 5 = .ok (.aaload, 1) := by decide +kernel
theorem dX0_isMadeAhead_6 : decode cX0_isMadeAhead 6 = .ok (.getfield 50, 3) := by decide +kernel
theorem dX0_isMadeAhead_9 : decode cX0_isMadeAhead 9 = .ok (.istore_n 3, 1) := by decide +kernel
theorem dX0_isMadeAhead_10 : decode cX0_isMadeAhead 10 = .ok (.aload_n 0, 1) := by decide +kernel
theorem dX0_isMadeAhead_11 : decode cX0_isMadeAhead 11 = .ok (.getfield 11, 3) := by decide +kernel
theorem dX0_isMadeAhead_14 : decode cX0_isMadeAhead 14 = .ok (.iload_n 2, 1) := by decide +kernel
theorem dX0_isMadeAhead_15 : decode cX0_isMadeAhead 15 = .ok (.aaload, 1) := by decide +kernel
theorem dX0_isMadeAhead_16 : decode cX0_isMadeAhead 16 = .ok (.getfield 50, 3) := by decide +kernel
theorem dX0_isMadeAhead_19 : decode cX0_isMadeAhead 19 = .ok (.istore 4, 2) := by decide +kernel
theorem dX0_isMadeAhead_21 : decode cX0_isMadeAhead 21 = .ok (.iload_n 3, 1) := by decide +kernel
theorem dX0_isMadeAhead_22 : decode cX0_isMadeAhead 22 = .ok (.iload 4, 2) := by decide +kernel
theorem dX0_isMadeAhead_24 : decode cX0_isMadeAhead 24 = .ok (.if_icmp .lt 14, 3) := by decide +kernel
theorem dX0_isMadeAhead_27 : decode cX0_isMadeAhead 27 = .ok (.iload_n 3, 1) := by decide +kernel
theorem dX0_isMadeAhead_28 : decode cX0_isMadeAhead 28 = .ok (.iload 4, 2) := by decide +kernel
theorem dX0_isMadeAhead_30 : decode cX0_isMadeAhead 30 = .ok (.if_icmp .ne 12, 3) := by decide +kernel
theorem dX0_isMadeAhead_33 : decode cX0_isMadeAhead 33 = .ok (.iload_n 1, 1) := by decide +kernel
theorem dX0_isMadeAhead_34 : decode cX0_isMadeAhead 34 = .ok (.iload_n 2, 1) := by decide +kernel
theorem dX0_isMadeAhead_35 : decode cX0_isMadeAhead 35 = .ok (.if_icmp .ge 7, 3) := by decide +kernel
theorem dX0_isMadeAhead_38 : decode cX0_isMadeAhead 38 = .ok (.iconst 1, 1) := by decide +kernel
theorem dX0_isMadeAhead_39 : decode cX0_isMadeAhead 39 = .ok (.goto 4, 3) := by decide +kernel
theorem dX0_isMadeAhead_42 : decode cX0_isMadeAhead 42 = .ok (.iconst 0, 1) := by decide +kernel
theorem dX0_isMadeAhead_43 : decode cX0_isMadeAhead 43 = .ok (.ireturn, 1) := by decide +kernel
theorem dX1_init_0 : decode cX1_init 0 = .ok (.aload_n 0, 1) := by decide +kernel
theorem dX1_init_1 : decode cX1_init 1 = .ok (.invokespecial 3, 3) := by decide +kernel
theorem dX1_init_4 : decode cX1_init 4 = .ok (.aload_n 0, 1) := by decide +kernel
theorem dX1_init_5 : decode cX1_init 5 = .ok (.aload_n 1, 1) := by decide +kernel
theorem dX1_init_6 : decode cX1_init 6 = .ok (.putfield 9, 3) := by decide +kernel
theorem dX1_init_9 : decode cX1_init 9 = .ok (.aload_n 0, 1) := by decide +kernel
theorem dX1_init_10 : decode cX1_init 10 = .ok (.aload_n 2, 1) := by decide +kernel
theorem dX1_init_11 : decode cX1_init 11 = .ok (.putfield 15, 3) := by decide +kernel
theorem dX1_init_14 : decode cX1_init 14 = .ok (.aload_n 0, 1) := by decide +kernel
theorem dX1_init_15 : decode cX1_init 15 = .ok (.aload_n 3, 1) := by decide +kernel
theorem dX1_init_16 : decode cX1_init 16 = .ok (.putfield 19, 3) := by decide +kernel
theorem dX1_init_19 : decode cX1_init 19 = .ok (.aload_n 0, 1) := by decide +kernel
theorem dX1_init_20 : decode cX1_init 20 = .ok (.bipush 16, 2) := by decide +kernel
theorem dX1_init_22 : decode cX1_init 22 = .ok (.newarray .int, 2) := by decide +kernel
theorem dX1_init_24 : decode cX1_init 24 = .ok (.putfield 23, 3) := by decide +kernel
theorem dX1_init_27 : decode cX1_init 27 = .ok (.aload_n 0, 1) := by decide +kernel
theorem dX1_init_28 : decode cX1_init 28 = .ok (.bipush 16, 2) := by decide +kernel
theorem dX1_init_30 : decode cX1_init 30 = .ok (.newarray .int, 2) := by decide +kernel
theorem dX1_init_32 : decode cX1_init 32 = .ok (.putfield 26, 3) := by decide +kernel
theorem dX1_init_35 : decode cX1_init 35 = .ok (.aload_n 0, 1) := by decide +kernel
theorem dX1_init_36 : decode cX1_init 36 = .ok (.bipush 16, 2) := by decide +kernel
theorem dX1_init_38 : decode cX1_init 38 = .ok (.newarray .int, 2) := by decide +kernel
theorem dX1_init_40 : decode cX1_init 40 = .ok (.putfield 29, 3) := by decide +kernel
theorem dX1_init_43 : decode cX1_init 43 = .ok (.aload_n 0, 1) := by decide +kernel
theorem dX1_init_44 : decode cX1_init 44 = .ok (.new 32, 3) := by decide +kernel
theorem dX1_init_47 : decode cX1_init 47 = .ok (.dup, 1) := by decide +kernel
theorem dX1_init_48 : decode cX1_init 48 = .ok (.invokespecial 34, 3) := by decide +kernel
theorem dX1_init_51 : decode cX1_init 51 = .ok (.putfield 35, 3) := by decide +kernel
theorem dX1_init_54 : decode cX1_init 54 = .ok (.return_, 1) := by decide +kernel
theorem dX1_open_0 : decode cX1_open 0 = .ok (.aload_n 0, 1) := by decide +kernel
theorem dX1_open_1 : decode cX1_open 1 = .ok (.aload_n 1, 1) := by decide +kernel
theorem dX1_open_2 : decode cX1_open 2 = .ok (.putfield 35, 3) := by decide +kernel
theorem dX1_open_5 : decode cX1_open 5 = .ok (.aload_n 0, 1) := by decide +kernel
theorem dX1_open_6 : decode cX1_open 6 = .ok (.aload_n 0, 1) := by decide +kernel
theorem dX1_open_7 : decode cX1_open 7 = .ok (.getfield 9, 3) := by decide +kernel
theorem dX1_open_10 : decode cX1_open 10 = .ok (.iload_n 2, 1) := by decide +kernel
theorem dX1_open_11 : decode cX1_open 11 = .ok (.invokevirtual 39, 3) := by decide +kernel
theorem dX1_open_14 : decode cX1_open 14 = .ok (.putfield 45, 3) := by decide +kernel
theorem dX1_open_17 : decode cX1_open 17 = .ok (.iconst 0, 1) := by decide +kernel
theorem dX1_open_18 : decode cX1_open 18 = .ok (.istore_n 3, 1) := by decide +kernel
theorem dX1_open_19 : decode cX1_open 19 = .ok (.iload_n 3, 1) := by decide +kernel
theorem dX1_open_20 : decode cX1_open 20 = .ok (.aload_n 0, 1) := by decide +kernel
theorem dX1_open_21 : decode cX1_open 21 = .ok (.getfield 9, 3) := by decide +kernel
theorem dX1_open_24 : decode cX1_open 24 = .ok (.getfield 49, 3) := by decide +kernel
theorem dX1_open_27 : decode cX1_open 27 = .ok (.if_icmp .ge 71, 3) := by decide +kernel
theorem dX1_open_30 : decode cX1_open 30 = .ok (.aload_n 0, 1) := by decide +kernel
theorem dX1_open_31 : decode cX1_open 31 = .ok (.getfield 45, 3) := by decide +kernel
theorem dX1_open_34 : decode cX1_open 34 = .ok (.iload_n 3, 1) := by decide +kernel
theorem dX1_open_35 : decode cX1_open 35 = .ok (.invokestatic 52, 3) := by decide +kernel
theorem dX1_open_38 : decode cX1_open 38 = .ok (.ifCond .eq 54, 3) := by decide +kernel
theorem dX1_open_41 : decode cX1_open 41 = .ok (.aload_n 0, 1) := by decide +kernel
theorem dX1_open_42 : decode cX1_open 42 = .ok (.getfield 23, 3) := by decide +kernel
theorem dX1_open_45 : decode cX1_open 45 = .ok (.iload_n 3, 1) := by decide +kernel
theorem dX1_open_46 : decode cX1_open 46 = .ok (.aload_n 0, 1) := by decide +kernel
theorem dX1_open_47 : decode cX1_open 47 = .ok (.iload_n 3, 1) := by decide +kernel
theorem dX1_open_48 : decode cX1_open 48 = .ok (.aload_n 0, 1) := by decide +kernel
theorem dX1_open_49 : decode cX1_open 49 = .ok (.getfield 45, 3) := by decide +kernel
theorem dX1_open_52 : decode cX1_open 52 = .ok (.invokevirtual 56, 3) := by decide +kernel
theorem dX1_open_55 : decode cX1_open 55 = .ok (.iastore, 1) := by decide +kernel
theorem dX1_open_56 : decode cX1_open 56 = .ok (.aload_n 0, 1) := by decide +kernel
theorem dX1_open_57 : decode cX1_open 57 = .ok (.getfield 26, 3) := by decide +kernel
theorem dX1_open_60 : decode cX1_open 60 = .ok (.iload_n 3, 1) := by decide +kernel
theorem dX1_open_61 : decode cX1_open 61 = .ok (.aload_n 0, 1) := by decide +kernel
theorem dX1_open_62 : decode cX1_open 62 = .ok (.getfield 35, 3) := by decide +kernel
theorem dX1_open_65 : decode cX1_open 65 = .ok (.invokevirtual 60, 3) := by decide +kernel
theorem dX1_open_68 : decode cX1_open 68 = .ok (.ifCond .eq 15, 3) := by decide +kernel
theorem dX1_open_71 : decode cX1_open 71 = .ok (.aload_n 0, 1) := by decide +kernel
theorem dX1_open_72 : decode cX1_open 72 = .ok (.aload_n 0, 1) := by decide +kernel
theorem dX1_open_73 : decode cX1_open 73 = .ok (.getfield 35, 3) := by decide +kernel
theorem dX1_open_76 : decode cX1_open 76 = .ok (.iload_n 3, 1) := by decide +kernel
theorem dX1_open_77 : decode cX1_open 77 = .ok (.invokevirtual 64, 3) := by decide +kernel
theorem dX1_open_80 : decode cX1_open 80 = .ok (.goto 4, 3) := by decide +kernel
theorem dX1_open_83 : decode cX1_open 83 = .ok (.iconst 0, 1) := by decide +kernel
theorem dX1_open_84 : decode cX1_open 84 = .ok (.iastore, 1) := by decide +kernel
theorem dX1_open_85 : decode cX1_open 85 = .ok (.aload_n 0, 1) := by decide +kernel
theorem dX1_open_86 : decode cX1_open 86 = .ok (.getfield 29, 3) := by decide +kernel
theorem dX1_open_89 : decode cX1_open 89 = .ok (.iload_n 3, 1) := by decide +kernel
theorem dX1_open_90 : decode cX1_open 90 = .ok (.iconst 0, 1) := by decide +kernel
theorem dX1_open_91 : decode cX1_open 91 = .ok (.iastore, 1) := by decide +kernel
theorem dX1_open_92 : decode cX1_open 92 = .ok (.iinc 3 1, 3) := by decide +kernel
theorem dX1_open_95 : decode cX1_open 95 = .ok (.goto (-76), 3) := by decide +kernel
theorem dX1_open_98 : decode cX1_open 98 = .ok (.iconst 0, 1) := by decide +kernel
theorem dX1_open_99 : decode cX1_open 99 = .ok (.istore_n 3, 1) := by decide +kernel
theorem dX1_open_100 : decode cX1_open 100 = .ok (.iload_n 3, 1) := by decide +kernel
theorem dX1_open_101 : decode cX1_open 101 = .ok (.aload_n 0, 1) := by decide +kernel
theorem dX1_open_102 : decode cX1_open 102 = .ok (.getfield 9, 3) := by decide +kernel
theorem dX1_open_105 : decode cX1_open 105 = .ok (.getfield 49, 3) := by decide +kernel
theorem dX1_open_108 : decode cX1_open 108 = .ok (.if_icmp .ge 62, 3) := by decide +kernel
theorem dX1_open_111 : decode cX1_open 111 = .ok (.iconst 0, 1) := by decide +kernel
theorem dX1_open_112 : decode cX1_open 112 = .ok (.istore 4, 2) := by decide +kernel
theorem dX1_open_114 : decode cX1_open 114 = .ok (.iload 4, 2) := by decide +kernel
theorem dX1_open_116 : decode cX1_open 116 = .ok (.aload_n 0, 1) := by decide +kernel
theorem dX1_open_117 : decode cX1_open 117 = .ok (.getfield 9, 3) := by decide +kernel
theorem dX1_open_120 : decode cX1_open 120 = .ok (.getfield 49, 3) := by decide +kernel
theorem dX1_open_123 : decode cX1_open 123 = .ok (.if_icmp .ge 41, 3) := by decide +kernel
theorem dX1_open_126 : decode cX1_open 126 = .ok (.aload_n 0, 1) := by decide +kernel
theorem dX1_open_127 : decode cX1_open 127 = .ok (.getfield 45, 3) := by decide +kernel
theorem dX1_open_130 : decode cX1_open 130 = .ok (.iload_n 3, 1) := by decide +kernel
theorem dX1_open_131 : decode cX1_open 131 = .ok (.invokestatic 52, 3) := by decide +kernel
theorem dX1_open_134 : decode cX1_open 134 = .ok (.ifCond .eq 24, 3) := by decide +kernel
theorem dX1_open_137 : decode cX1_open 137 = .ok (.aload_n 0, 1) := by decide +kernel
theorem dX1_open_138 : decode cX1_open 138 = .ok (.getfield 23, 3) := by decide +kernel
theorem dX1_open_141 : decode cX1_open 141 = .ok (.iload_n 3, 1) := by decide +kernel
theorem dX1_open_142 : decode cX1_open 142 = .ok (.iaload, 1) := by decide +kernel
theorem dX1_open_143 : decode cX1_open 143 = .ok (.iload 4, 2) := by decide +kernel
theorem dX1_open_145 : decode cX1_open 145 = .ok (.invokestatic 52, 3) := by decide +kernel
theorem dX1_open_148 : decode cX1_open 148 = .ok (.ifCond .eq 10, 3) := by decide +kernel
theorem dX1_open_151 : decode cX1_open 151 = .ok (.aload_n 0, 1) := by decide +kernel
theorem dX1_open_152 : decode cX1_open 152 = .ok (.iload 4, 2) := by decide +kernel
theorem dX1_open_154 : decode cX1_open 154 = .ok (.iload_n 3, 1) := by decide +kernel
theorem dX1_open_155 : decode cX1_open 155 = .ok (.invokevirtual 68, 3) := by decide +kernel
theorem dX1_open_158 : decode cX1_open 158 = .ok (.iinc 4 1, 3) := by decide +kernel
theorem dX1_open_161 : decode cX1_open 161 = .ok (.goto (-47), 3) := by decide +kernel
theorem dX1_open_164 : decode cX1_open 164 = .ok (.iinc 3 1, 3) := by decide +kernel
theorem dX1_open_167 : decode cX1_open 167 = .ok (.goto (-67), 3) := by decide +kernel
theorem dX1_open_170 : decode cX1_open 170 = .ok (.return_, 1) := by decide +kernel
theorem dX1_settle_0 : decode cX1_settle 0 = .ok (.aload_n 0, 1) := by decide +kernel
theorem dX1_settle_1 : decode cX1_settle 1 = .ok (.iload_n 1, 1) := by decide +kernel
theorem dX1_settle_2 : decode cX1_settle 2 = .ok (.iload_n 2, 1) := by decide +kernel
theorem dX1_settle_3 : decode cX1_settle 3 = .ok (.invokevirtual 72, 3) := by decide +kernel
theorem dX1_settle_6 : decode cX1_settle 6 = .ok (.ifCond .eq 34, 3) := by decide +kernel
theorem dX1_settle_9 : decode cX1_settle 9 = .ok (.aload_n 0, 1) := by decide +kernel
theorem dX1_settle_10 : decode cX1_settle 10 = .ok (.getfield 29, 3) := by decide +kernel
theorem dX1_settle_13 : decode cX1_settle 13 = .ok (.iload_n 1, 1) := by decide +kernel
theorem dX1_settle_14 : decode cX1_settle 14 = .ok (.dup2, 1) := by decide +kernel
theorem dX1_settle_15 : decode cX1_settle 15 = .ok (.iaload, 1) := by decide +kernel
theorem dX1_settle_16 : decode cX1_settle 16 = .ok (.iload_n 2, 1) := by decide +kernel
theorem dX1_settle_17 : decode cX1_settle 17 = .ok (.invokestatic 75, 3) := by decide +kernel
theorem dX1_settle_20 : decode cX1_settle 20 = .ok (.ior, 1) := by decide +kernel
theorem dX1_settle_21 : decode cX1_settle 21 = .ok (.iastore, 1) := by decide +kernel
theorem dX1_settle_22 : decode cX1_settle 22 = .ok (.aload_n 0, 1) := by decide +kernel
theorem dX1_settle_23 : decode cX1_settle 23 = .ok (.getfield 29, 3) := by decide +kernel
theorem dX1_settle_26 : decode cX1_settle 26 = .ok (.iload_n 2, 1) := by decide +kernel
theorem dX1_settle_27 : decode cX1_settle 27 = .ok (.dup2, 1) := by decide +kernel
theorem dX1_settle_28 : decode cX1_settle 28 = .ok (.iaload, 1) := by decide +kernel
theorem dX1_settle_29 : decode cX1_settle 29 = .ok (.iload_n 1, 1) := by decide +kernel
theorem dX1_settle_30 : decode cX1_settle 30 = .ok (.invokestatic 75, 3) := by decide +kernel
theorem dX1_settle_33 : decode cX1_settle 33 = .ok (.iconst (-1), 1) := by decide +kernel
theorem dX1_settle_34 : decode cX1_settle 34 = .ok (.ixor, 1) := by decide +kernel
theorem dX1_settle_35 : decode cX1_settle 35 = .ok (.iand, 1) := by decide +kernel
theorem dX1_settle_36 : decode cX1_settle 36 = .ok (.iastore, 1) := by decide +kernel
theorem dX1_settle_37 : decode cX1_settle 37 = .ok (.goto 31, 3) := by decide +kernel
theorem dX1_settle_40 : decode cX1_settle 40 = .ok (.aload_n 0, 1) := by decide +kernel
theorem dX1_settle_41 : decode cX1_settle 41 = .ok (.getfield 29, 3) := by decide +kernel
theorem dX1_settle_44 : decode cX1_settle 44 = .ok (.iload_n 1, 1) := by decide +kernel
theorem dX1_settle_45 : decode cX1_settle 45 = .ok (.dup2, 1) := by decide +kernel
theorem dX1_settle_46 : decode cX1_settle 46 = .ok (.iaload, 1) := by decide +kernel
theorem dX1_settle_47 : decode cX1_settle 47 = .ok (.iload_n 2, 1) := by decide +kernel
theorem dX1_settle_48 : decode cX1_settle 48 = .ok (.invokestatic 75, 3) := by decide +kernel
theorem dX1_settle_51 : decode cX1_settle 51 = .ok (.iconst (-1), 1) := by decide +kernel
theorem dX1_settle_52 : decode cX1_settle 52 = .ok (.ixor, 1) := by decide +kernel
theorem dX1_settle_53 : decode cX1_settle 53 = .ok (.iand, 1) := by decide +kernel
theorem dX1_settle_54 : decode cX1_settle 54 = .ok (.iastore, 1) := by decide +kernel
theorem dX1_settle_55 : decode cX1_settle 55 = .ok (.aload_n 0, 1) := by decide +kernel
theorem dX1_settle_56 : decode cX1_settle 56 = .ok (.getfield 29, 3) := by decide +kernel
theorem dX1_settle_59 : decode cX1_settle 59 = .ok (.iload_n 2, 1) := by decide +kernel
theorem dX1_settle_60 : decode cX1_settle 60 = .ok (.dup2, 1) := by decide +kernel
theorem dX1_settle_61 : decode cX1_settle 61 = .ok (.iaload, 1) := by decide +kernel
theorem dX1_settle_62 : decode cX1_settle 62 = .ok (.iload_n 1, 1) := by decide +kernel
theorem dX1_settle_63 : decode cX1_settle 63 = .ok (.invokestatic 75, 3) := by decide +kernel
theorem dX1_settle_66 : decode cX1_settle 66 = .ok (.ior, 1) := by decide +kernel
theorem dX1_settle_67 : decode cX1_settle 67 = .ok (.iastore, 1) := by decide +kernel
theorem dX1_settle_68 : decode cX1_settle 68 = .ok (.return_, 1) := by decide +kernel
theorem dX1_isOverturned_0 : decode cX1_isOverturned 0 = .ok (.aload_n 0, 1) := by decide +kernel
theorem dX1_isOverturned_1 : decode cX1_isOverturned 1 = .ok (.getfield 35, 3) := by decide +kernel
theorem dX1_isOverturned_4 : decode cX1_isOverturned 4 = .ok (.invokevirtual 78, 3) := by decide +kernel
theorem dX1_isOverturned_7 : decode cX1_isOverturned 7 = .ok (.ifCond .eq 14, 3) := by decide +kernel
theorem dX1_isOverturned_10 : decode cX1_isOverturned 10 = .ok (.aload_n 0, 1) := by decide +kernel
theorem dX1_isOverturned_11 : decode cX1_isOverturned 11 = .ok (.iload_n 2, 1) := by decide +kernel
theorem dX1_isOverturned_12 : decode cX1_isOverturned 12 = .ok (.iload_n 1, 1) := by decide +kernel
theorem dX1_isOverturned_13 : decode cX1_isOverturned 13 = .ok (.invokevirtual 81, 3) := by decide +kernel
theorem dX1_isOverturned_16 : decode cX1_isOverturned 16 = .ok (.ifCond .ne 5, 3) := by decide +kernel
theorem dX1_isOverturned_19 : decode cX1_isOverturned 19 = .ok (.iconst 0, 1) := by decide +kernel
theorem dX1_isOverturned_20 : decode cX1_isOverturned 20 = .ok (.ireturn, 1) := by decide +kernel
theorem dX1_isOverturned_21 : decode cX1_isOverturned 21 = .ok (.aload_n 0, 1) := by decide +kernel
theorem dX1_isOverturned_22 : decode cX1_isOverturned 22 = .ok (.getfield 35, 3) := by decide +kernel
theorem dX1_isOverturned_25 : decode cX1_isOverturned 25 = .ok (.invokevirtual 60, 3) := by decide +kernel
theorem dX1_isOverturned_28 : decode cX1_isOverturned 28 = .ok (.ifCond .eq 14, 3) := by decide +kernel
theorem dX1_isOverturned_31 : decode cX1_isOverturned 31 = .ok (.aload_n 0, 1) := by decide +kernel
theorem dX1_isOverturned_32 : decode cX1_isOverturned 32 = .ok (.iload_n 1, 1) := by decide +kernel
theorem dX1_isOverturned_33 : decode cX1_isOverturned 33 = .ok (.iload_n 2, 1) := by decide +kernel
theorem dX1_isOverturned_34 : decode cX1_isOverturned 34 = .ok (.invokevirtual 84, 3) := by decide +kernel
theorem dX1_isOverturned_37 : decode cX1_isOverturned 37 = .ok (.ifCond .ne 5, 3) := by decide +kernel
theorem dX1_isOverturned_40 : decode cX1_isOverturned 40 = .ok (.iconst 0, 1) := by decide +kernel
theorem dX1_isOverturned_41 : decode cX1_isOverturned 41 = .ok (.ireturn, 1) := by decide +kernel
theorem dX1_isOverturned_42 : decode cX1_isOverturned 42 = .ok (.aload_n 0, 1) := by decide +kernel
theorem dX1_isOverturned_43 : decode cX1_isOverturned 43 = .ok (.getfield 35, 3) := by decide +kernel
theorem dX1_isOverturned_46 : decode cX1_isOverturned 46 = .ok (.invokevirtual 78, 3) := by decide +kernel
theorem dX1_isOverturned_49 : decode cX1_isOverturned 49 = .ok (.ifCond .ne 13, 3) := by decide +kernel
theorem dX1_isOverturned_52 : decode cX1_isOverturned 52 = .ok (.aload_n 0, 1) := by decide +kernel
theorem dX1_isOverturned_53 : decode cX1_isOverturned 53 = .ok (.getfield 35, 3) := by decide +kernel
theorem dX1_isOverturned_56 : decode cX1_isOverturned 56 = .ok (.invokevirtual 60, 3) := by decide +kernel
theorem dX1_isOverturned_59 : decode cX1_isOverturned 59 = .ok (.ifCond .eq 7, 3) := by decide +kernel
theorem dX1_isOverturned_62 : decode cX1_isOverturned 62 = .ok (.iconst 1, 1) := by decide +kernel
theorem dX1_isOverturned_63 : decode cX1_isOverturned 63 = .ok (.goto 4, 3) := by decide +kernel
theorem dX1_isOverturned_66 : decode cX1_isOverturned 66 = .ok (.iconst 0, 1) := by decide +kernel
theorem dX1_isOverturned_67 : decode cX1_isOverturned 67 = .ok (.ireturn, 1) := by decide +kernel
theorem dX1_isEnteredAhead_0 : decode cX1_isEnteredAhead 0 = .ok (.aload_n 0, 1) := by decide +kernel
theorem dX1_isEnteredAhead_1 : decode cX1_isEnteredAhead 1 = .ok (.aload_n 0, 1) := by decide +kernel
theorem dX1_isEnteredAhead_2 : decode cX1_isEnteredAhead 2 = .ok (.getfield 9, 3) := by decide +kernel
theorem dX1_isEnteredAhead_5 : decode cX1_isEnteredAhead 5 = .ok (.getfield 87, 3) := by decide +kernel
theorem dX1_isEnteredAhead_8 : decode cX1_isEnteredAhead 8 = .ok (.iload_n 1, 1) := by decide +kernel
theorem dX1_isEnteredAhead_9 : decode cX1_isEnteredAhead 9 = .ok (.aaload, 1) := by decide +kernel
theorem dX1_isEnteredAhead_10 : decode cX1_isEnteredAhead 10 = .ok (.invokevirtual 91, 3) := by decide +kernel
theorem dX1_isEnteredAhead_13 : decode cX1_isEnteredAhead 13 = .ok (.istore_n 3, 1) := by decide +kernel
theorem dX1_isEnteredAhead_14 : decode cX1_isEnteredAhead 14 = .ok (.aload_n 0, 1) := by decide +kernel
theorem dX1_isEnteredAhead_15 : decode cX1_isEnteredAhead 15 = .ok (.aload_n 0, 1) := by decide +kernel
theorem dX1_isEnteredAhead_16 : decode cX1_isEnteredAhead 16 = .ok (.getfield 9, 3) := by decide +kernel
theorem dX1_isEnteredAhead_19 : decode cX1_isEnteredAhead 19 = .ok (.getfield 87, 3) := by decide +kernel
theorem dX1_isEnteredAhead_22 : decode cX1_isEnteredAhead 22 = .ok (.iload_n 2, 1) := by decide +kernel
theorem dX1_isEnteredAhead_23 : decode cX1_isEnteredAhead 23 = .ok (.aaload, 1) := by decide +kernel
theorem dX1_isEnteredAhead_24 : decode cX1_isEnteredAhead 24 = .ok (.invokevirtual 91, 3) := by decide +kernel
theorem dX1_isEnteredAhead_27 : decode cX1_isEnteredAhead 27 = .ok (.istore 4, 2) := by decide +kernel
theorem dX1_isEnteredAhead_29 : decode cX1_isEnteredAhead 29 = .ok (.iload_n 3, 1) := by decide +kernel
theorem dX1_isEnteredAhead_30 : decode cX1_isEnteredAhead 30 = .ok (.iload 4, 2) := by decide +kernel
theorem dX1_isEnteredAhead_32 : decode cX1_isEnteredAhead 32 = .ok (.if_icmp .lt 21, 3) := by decide +kernel
theorem dX1_isEnteredAhead_35 : decode cX1_isEnteredAhead 35 = .ok (.iload_n 3, 1) := by decide +kernel
theorem dX1_isEnteredAhead_36 : decode cX1_isEnteredAhead 36 = .ok (.iload 4, 2) := by decide +kernel
theorem dX1_isEnteredAhead_38 : decode cX1_isEnteredAhead 38 = .ok (.if_icmp .ne 19, 3) := by decide +kernel
theorem dX1_isEnteredAhead_41 : decode cX1_isEnteredAhead 41 = .ok (.iload_n 3, 1) := by decide +kernel
theorem dX1_isEnteredAhead_42 : decode cX1_isEnteredAhead 42 = .ok (.sipush 1000, 3) := by decide +kernel
theorem dX1_isEnteredAhead_45 : decode cX1_isEnteredAhead 45 = .ok (.if_icmp .eq 12, 3) := by decide +kernel
theorem dX1_isEnteredAhead_48 : decode cX1_isEnteredAhead 48 = .ok (.iload_n 1, 1) := by decide +kernel
theorem dX1_isEnteredAhead_49 : decode cX1_isEnteredAhead 49 = .ok (.iload_n 2, 1) := by decide +kernel
theorem dX1_isEnteredAhead_50 : decode cX1_isEnteredAhead 50 = .ok (.if_icmp .ge 7, 3) := by decide +kernel
theorem dX1_isEnteredAhead_53 : decode cX1_isEnteredAhead 53 = .ok (.iconst 1, 1) := by decide +kernel
theorem dX1_isEnteredAhead_54 : decode cX1_isEnteredAhead 54 = .ok (.goto 4, 3) := by decide +kernel
theorem dX1_isEnteredAhead_57 : decode cX1_isEnteredAhead 57 = .ok (.iconst 0, 1) := by decide +kernel
theorem dX1_isEnteredAhead_58 : decode cX1_isEnteredAhead 58 = .ok (.ireturn, 1) := by decide +kernel
theorem dX1_countedEntry_0 : decode cX1_countedEntry 0 = .ok (.aload_n 1, 1) := by decide +kernel
theorem dX1_countedEntry_1 : decode cX1_countedEntry 1 = .ok (.getfield 95, 3) := by decide +kernel
theorem dX1_countedEntry_4 : decode cX1_countedEntry 4 = .ok (.iconst (-1), 1) := by decide +kernel
theorem dX1_countedEntry_5 : decode cX1_countedEntry 5 = .ok (.if_icmp .eq 26, 3) := by decide +kernel
theorem dX1_countedEntry_8 : decode cX1_countedEntry 8 = .ok (.aload_n 1, 1) := by decide +kernel
theorem dX1_countedEntry_9 : decode cX1_countedEntry 9 = .ok (.getfield 95, 3) := by decide +kernel
theorem dX1_countedEntry_12 : decode cX1_countedEntry 12 = .ok (.aload_n 1, 1) := by decide +kernel
theorem dX1_countedEntry_13 : decode cX1_countedEntry 13 = .ok (.getfield 100, 3) := by decide +kernel
theorem dX1_countedEntry_16 : decode cX1_countedEntry 16 = .ok (.isub, 1) := by decide +kernel
theorem dX1_countedEntry_17 : decode cX1_countedEntry 17 = .ok (.aload_n 0, 1) := by decide +kernel
theorem dX1_countedEntry_18 : decode cX1_countedEntry 18 = .ok (.getfield 35, 3) := by decide +kernel
theorem dX1_countedEntry_21 : decode cX1_countedEntry 21 = .ok (.getfield 103, 3) := by decide +kernel
theorem dX1_countedEntry_24 : decode cX1_countedEntry 24 = .ok (.if_icmp .gt 7, 3) := by decide +kernel
theorem dX1_countedEntry_27 : decode cX1_countedEntry 27 = .ok (.iconst 1, 1) := by decide +kernel
theorem dX1_countedEntry_28 : decode cX1_countedEntry 28 = .ok (.goto 4, 3) := by decide +kernel
theorem dX1_countedEntry_31 : decode cX1_countedEntry 31 = .ok (.iconst 0, 1) := by decide +kernel
theorem dX1_countedEntry_32 : decode cX1_countedEntry 32 = .ok (.istore_n 2, 1) := by decide +kernel
theorem dX1_countedEntry_33 : decode cX1_countedEntry 33 = .ok (.iload_n 2, 1) := by decide +kernel
theorem dX1_countedEntry_34 : decode cX1_countedEntry 34 = .ok (.ifCond .eq 10, 3) := by decide +kernel
theorem dX1_countedEntry_37 : decode cX1_countedEntry 37 = .ok (.aload_n 1, 1) := by decide +kernel
theorem dX1_countedEntry_38 : decode cX1_countedEntry 38 = .ok (.getfield 95, 3) := by decide +kernel
theorem dX1_countedEntry_41 : decode cX1_countedEntry 41 = .ok (.goto 6, 3) := by decide +kernel
theorem dX1_countedEntry_44 : decode cX1_countedEntry 44 = .ok (.sipush 1000, 3) := by decide +kernel
theorem dX1_countedEntry_47 : decode cX1_countedEntry 47 = .ok (.ireturn, 1) := by decide +kernel
theorem dX1_isInnocent_0 : decode cX1_isInnocent 0 = .ok (.aload_n 0, 1) := by decide +kernel
theorem dX1_isInnocent_1 : decode cX1_isInnocent 1 = .ok (.getfield 9, 3) := by decide +kernel
theorem dX1_isInnocent_4 : decode cX1_isInnocent 4 = .ok (.getfield 87, 3) := by decide +kernel
theorem dX1_isInnocent_7 : decode cX1_isInnocent 7 = .ok (.iload_n 2, 1) := by decide +kernel
theorem dX1_isInnocent_8 : decode cX1_isInnocent 8 = .ok (.aaload, 1) := by decide +kernel
theorem dX1_isInnocent_9 : decode cX1_isInnocent 9 = .ok (.astore_n 3, 1) := by decide +kernel
theorem dX1_isInnocent_10 : decode cX1_isInnocent 10 = .ok (.aload_n 0, 1) := by decide +kernel
theorem dX1_isInnocent_11 : decode cX1_isInnocent 11 = .ok (.getfield 35, 3) := by decide +kernel
theorem dX1_isInnocent_14 : decode cX1_isInnocent 14 = .ok (.getfield 106, 3) := by decide +kernel
theorem dX1_isInnocent_17 : decode cX1_isInnocent 17 = .ok (.ifCond .ne 10, 3) := by decide +kernel
theorem dX1_isInnocent_20 : decode cX1_isInnocent 20 = .ok (.aload_n 3, 1) := by decide +kernel
theorem dX1_isInnocent_21 : decode cX1_isInnocent 21 = .ok (.invokevirtual 110, 3) := by decide +kernel
theorem dX1_isInnocent_24 : decode cX1_isInnocent 24 = .ok (.ifCond .eq 25, 3) := by decide +kernel
theorem dX1_isInnocent_27 : decode cX1_isInnocent 27 = .ok (.aload_n 3, 1) := by decide +kernel
theorem dX1_isInnocent_28 : decode cX1_isInnocent 28 = .ok (.getfield 113, 3) := by decide +kernel
theorem dX1_isInnocent_31 : decode cX1_isInnocent 31 = .ok (.aload_n 0, 1) := by decide +kernel
theorem dX1_isInnocent_32 : decode cX1_isInnocent 32 = .ok (.getfield 26, 3) := by decide +kernel
theorem dX1_isInnocent_35 : decode cX1_isInnocent 35 = .ok (.iload_n 2, 1) := by decide +kernel
theorem dX1_isInnocent_36 : decode cX1_isInnocent 36 = .ok (.iaload, 1) := by decide +kernel
theorem dX1_isInnocent_37 : decode cX1_isInnocent 37 = .ok (.ior, 1) := by decide +kernel
theorem dX1_isInnocent_38 : decode cX1_isInnocent 38 = .ok (.iload_n 1, 1) := by decide +kernel
theorem dX1_isInnocent_39 : decode cX1_isInnocent 39 = .ok (.invokestatic 52, 3) := by decide +kernel
theorem dX1_isInnocent_42 : decode cX1_isInnocent 42 = .ok (.ifCond .ne 7, 3) := by decide +kernel
theorem dX1_isInnocent_45 : decode cX1_isInnocent 45 = .ok (.iconst 1, 1) := by decide +kernel
theorem dX1_isInnocent_46 : decode cX1_isInnocent 46 = .ok (.goto 4, 3) := by decide +kernel
theorem dX1_isInnocent_49 : decode cX1_isInnocent 49 = .ok (.iconst 0, 1) := by decide +kernel
theorem dX1_isInnocent_50 : decode cX1_isInnocent 50 = .ok (.ireturn, 1) := by decide +kernel
theorem dX1_heldBy_0 : decode cX1_heldBy 0 = .ok (.aload_n 0, 1) := by decide +kernel
theorem dX1_heldBy_1 : decode cX1_heldBy 1 = .ok (.getfield 9, 3) := by decide +kernel
theorem dX1_heldBy_4 : decode cX1_heldBy 4 = .ok (.getfield 87, 3) := by decide +kernel
theorem dX1_heldBy_7 : decode cX1_heldBy 7 = .ok (.iload_n 2, 1) := by decide +kernel
theorem dX1_heldBy_8 : decode cX1_heldBy 8 = .ok (.aaload, 1) := by decide +kernel
theorem dX1_heldBy_9 : decode cX1_heldBy 9 = .ok (.astore_n 3, 1) := by decide +kernel
theorem dX1_heldBy_10 : decode cX1_heldBy 10 = .ok (.aload_n 0, 1) := by decide +kernel
theorem dX1_heldBy_11 : decode cX1_heldBy 11 = .ok (.iload_n 2, 1) := by decide +kernel
theorem dX1_heldBy_12 : decode cX1_heldBy 12 = .ok (.aload_n 0, 1) := by decide +kernel
theorem dX1_heldBy_13 : decode cX1_heldBy 13 = .ok (.getfield 9, 3) := by decide +kernel
theorem dX1_heldBy_16 : decode cX1_heldBy 16 = .ok (.aload_n 3, 1) := by decide +kernel
theorem dX1_heldBy_17 : decode cX1_heldBy 17 = .ok (.getfield 116, 3) := by decide +kernel
theorem dX1_heldBy_20 : decode cX1_heldBy 20 = .ok (.invokevirtual 39, 3) := by decide +kernel
theorem dX1_heldBy_23 : decode cX1_heldBy 23 = .ok (.invokevirtual 56, 3) := by decide +kernel
theorem dX1_heldBy_26 : decode cX1_heldBy 26 = .ok (.aload_n 3, 1) := by decide +kernel
theorem dX1_heldBy_27 : decode cX1_heldBy 27 = .ok (.getfield 113, 3) := by decide +kernel
theorem dX1_heldBy_30 : decode cX1_heldBy 30 = .ok (.aload_n 0, 1) := by decide +kernel
theorem dX1_heldBy_31 : decode cX1_heldBy 31 = .ok (.aload_n 1, 1) := by decide +kernel
theorem dX1_heldBy_32 : decode cX1_heldBy 32 = .ok (.iload_n 2, 1) := by decide +kernel
theorem dX1_heldBy_33 : decode cX1_heldBy 33 = .ok (.invokevirtual 64, 3) := by decide +kernel
theorem dX1_heldBy_36 : decode cX1_heldBy 36 = .ok (.ior, 1) := by decide +kernel
theorem dX1_heldBy_37 : decode cX1_heldBy 37 = .ok (.iand, 1) := by decide +kernel
theorem dX1_heldBy_38 : decode cX1_heldBy 38 = .ok (.ireturn, 1) := by decide +kernel
theorem dX1_madeAheadOf_0 : decode cX1_madeAheadOf 0 = .ok (.iconst 0, 1) := by decide +kernel
theorem dX1_madeAheadOf_1 : decode cX1_madeAheadOf 1 = .ok (.istore_n 3, 1) := by decide +kernel
theorem dX1_madeAheadOf_2 : decode cX1_madeAheadOf 2 = .ok (.iconst 0, 1) := by decide +kernel
theorem dX1_madeAheadOf_3 : decode cX1_madeAheadOf 3 = .ok (.istore 4, 2) := by decide +kernel
theorem dX1_madeAheadOf_5 : decode cX1_madeAheadOf 5 = .ok (.iload 4, 2) := by decide +kernel
theorem dX1_madeAheadOf_7 : decode cX1_madeAheadOf 7 = .ok (.aload_n 0, 1) := by decide +kernel
theorem dX1_madeAheadOf_8 : decode cX1_madeAheadOf 8 = .ok (.getfield 9, 3) := by decide +kernel
theorem dX1_madeAheadOf_11 : decode cX1_madeAheadOf 11 = .ok (.getfield 49, 3) := by decide +kernel
theorem dX1_madeAheadOf_14 : decode cX1_madeAheadOf 14 = .ok (.if_icmp .ge 39, 3) := by decide +kernel
theorem dX1_madeAheadOf_17 : decode cX1_madeAheadOf 17 = .ok (.iload_n 2, 1) := by decide +kernel
theorem dX1_madeAheadOf_18 : decode cX1_madeAheadOf 18 = .ok (.iload 4, 2) := by decide +kernel
theorem dX1_madeAheadOf_20 : decode cX1_madeAheadOf 20 = .ok (.invokestatic 52, 3) := by decide +kernel
theorem dX1_madeAheadOf_23 : decode cX1_madeAheadOf 23 = .ok (.ifCond .eq 24, 3) := by decide +kernel
theorem dX1_madeAheadOf_26 : decode cX1_madeAheadOf 26 = .ok (.aload_n 0, 1) := by decide +kernel
theorem dX1_madeAheadOf_27 : decode cX1_madeAheadOf 27 = .ok (.getfield 9, 3) := by decide +kernel
theorem dX1_madeAheadOf_30 : decode cX1_madeAheadOf 30 = .ok (.iload 4, 2) := by decide +kernel
theorem dX1_madeAheadOf_32 : decode cX1_madeAheadOf 32 = .ok (.iload_n 1, 1) := by decide +kernel
theorem dX1_madeAheadOf_33 : decode cX1_madeAheadOf 33 = .ok (.invokevirtual 119, 3) := by decide +kernel
theorem dX1_madeAheadOf_36 : decode cX1_madeAheadOf 36 = .ok (.ifCond .eq 11, 3) := by decide +kernel
theorem dX1_madeAheadOf_39 : decode cX1_madeAheadOf 39 = .ok (.iload_n 3, 1) := by decide +kernel
theorem dX1_madeAheadOf_40 : decode cX1_madeAheadOf 40 = .ok (.iload 4, 2) := by decide +kernel
theorem dX1_madeAheadOf_42 : decode cX1_madeAheadOf 42 = .ok (.invokestatic 75, 3) := by decide +kernel
theorem dX1_madeAheadOf_45 : decode cX1_madeAheadOf 45 = .ok (.ior, 1) := by decide +kernel
theorem dX1_madeAheadOf_46 : decode cX1_madeAheadOf 46 = .ok (.istore_n 3, 1) := by decide +kernel
theorem dX1_madeAheadOf_47 : decode cX1_madeAheadOf 47 = .ok (.iinc 4 1, 3) := by decide +kernel
theorem dX1_madeAheadOf_50 : decode cX1_madeAheadOf 50 = .ok (.goto (-45), 3) := by decide +kernel
theorem dX1_madeAheadOf_53 : decode cX1_madeAheadOf 53 = .ok (.iload_n 3, 1) := by decide +kernel
theorem dX1_madeAheadOf_54 : decode cX1_madeAheadOf 54 = .ok (.ireturn, 1) := by decide +kernel
theorem dX1_toldTo_0 : decode cX1_toldTo 0 = .ok (.aload_n 0, 1) := by decide +kernel
theorem dX1_toldTo_1 : decode cX1_toldTo 1 = .ok (.getfield 9, 3) := by decide +kernel
theorem dX1_toldTo_4 : decode cX1_toldTo 4 = .ok (.getfield 87, 3) := by decide +kernel
theorem dX1_toldTo_7 : decode cX1_toldTo 7 = .ok (.iload_n 2, 1) := by decide +kernel
theorem dX1_toldTo_8 : decode cX1_toldTo 8 = .ok (.aaload, 1) := by decide +kernel
theorem dX1_toldTo_9 : decode cX1_toldTo 9 = .ok (.astore_n 3, 1) := by decide +kernel
theorem dX1_toldTo_10 : decode cX1_toldTo 10 = .ok (.aload_n 1, 1) := by decide +kernel
theorem dX1_toldTo_11 : decode cX1_toldTo 11 = .ok (.getfield 122, 3) := by decide +kernel
theorem dX1_toldTo_14 : decode cX1_toldTo 14 = .ok (.ifCond .eq 11, 3) := by decide +kernel
theorem dX1_toldTo_17 : decode cX1_toldTo 17 = .ok (.aload_n 0, 1) := by decide +kernel
theorem dX1_toldTo_18 : decode cX1_toldTo 18 = .ok (.aload_n 3, 1) := by decide +kernel
theorem dX1_toldTo_19 : decode cX1_toldTo 19 = .ok (.invokevirtual 125, 3) := by decide +kernel
theorem dX1_toldTo_22 : decode cX1_toldTo 22 = .ok (.goto 4, 3) := by decide +kernel
theorem dX1_toldTo_25 : decode cX1_toldTo 25 = .ok (.iconst 0, 1) := by decide +kernel
theorem dX1_toldTo_26 : decode cX1_toldTo 26 = .ok (.istore 4, 2) := by decide +kernel
theorem dX1_toldTo_28 : decode cX1_toldTo 28 = .ok (.aload_n 1, 1) := by decide +kernel
theorem dX1_toldTo_29 : decode cX1_toldTo 29 = .ok (.getfield 128, 3) := by decide +kernel
theorem dX1_toldTo_32 : decode cX1_toldTo 32 = .ok (.bipush 97, 2) := by decide +kernel
theorem dX1_toldTo_34 : decode cX1_toldTo 34 = .ok (.if_icmp .ne 16, 3) := by decide +kernel
theorem dX1_toldTo_37 : decode cX1_toldTo 37 = .ok (.iload 4, 2) := by decide +kernel
theorem dX1_toldTo_39 : decode cX1_toldTo 39 = .ok (.aload_n 0, 1) := by decide +kernel
theorem dX1_toldTo_40 : decode cX1_toldTo 40 = .ok (.aload_n 3, 1) := by decide +kernel
theorem dX1_toldTo_41 : decode cX1_toldTo 41 = .ok (.invokevirtual 131, 3) := by decide +kernel
theorem dX1_toldTo_44 : decode cX1_toldTo 44 = .ok (.ior, 1) := by decide +kernel
theorem dX1_toldTo_45 : decode cX1_toldTo 45 = .ok (.istore 4, 2) := by decide +kernel
theorem dX1_toldTo_47 : decode cX1_toldTo 47 = .ok (.goto 67, 3) := by decide +kernel
theorem dX1_toldTo_50 : decode cX1_toldTo 50 = .ok (.aload_n 1, 1) := by decide +kernel
theorem dX1_toldTo_51 : decode cX1_toldTo 51 = .ok (.getfield 128, 3) := by decide +kernel
theorem dX1_toldTo_54 : decode cX1_toldTo 54 = .ok (.bipush 99, 2) := by decide +kernel
theorem dX1_toldTo_56 : decode cX1_toldTo 56 = .ok (.if_icmp .ne 58, 3) := by decide +kernel
theorem dX1_toldTo_59 : decode cX1_toldTo 59 = .ok (.aload_n 3, 1) := by decide +kernel
theorem dX1_toldTo_60 : decode cX1_toldTo 60 = .ok (.getfield 134, 3) := by decide +kernel
theorem dX1_toldTo_63 : decode cX1_toldTo 63 = .ok (.ifCond .lt 51, 3) := by decide +kernel
theorem dX1_toldTo_66 : decode cX1_toldTo 66 = .ok (.aload_n 3, 1) := by decide +kernel
theorem dX1_toldTo_67 : decode cX1_toldTo 67 = .ok (.getfield 134, 3) := by decide +kernel
theorem dX1_toldTo_70 : decode cX1_toldTo 70 = .ok (.aload_n 0, 1) := by decide +kernel
theorem dX1_toldTo_71 : decode cX1_toldTo 71 = .ok (.getfield 15, 3) := by decide +kernel
theorem dX1_toldTo_74 : decode cX1_toldTo 74 = .ok (.arraylength, 1) := by decide +kernel
theorem dX1_toldTo_75 : decode cX1_toldTo 75 = .ok (.if_icmp .ge 39, 3) := by decide +kernel
theorem dX1_toldTo_78 : decode cX1_toldTo 78 = .ok (.aload_n 0, 1) := by decide +kernel
theorem dX1_toldTo_79 : decode cX1_toldTo 79 = .ok (.getfield 19, 3) := by decide +kernel
theorem dX1_toldTo_82 : decode cX1_toldTo 82 = .ok (.aload_n 3, 1) := by decide +kernel
theorem dX1_toldTo_83 : decode cX1_toldTo 83 = .ok (.getfield 116, 3) := by decide +kernel
theorem dX1_toldTo_86 : decode cX1_toldTo 86 = .ok (.aload_n 0, 1) := by decide +kernel
theorem dX1_toldTo_87 : decode cX1_toldTo 87 = .ok (.getfield 15, 3) := by decide +kernel
theorem dX1_toldTo_90 : decode cX1_toldTo 90 = .ok (.aload_n 3, 1) := by decide +kernel
theorem dX1_toldTo_91 : decode cX1_toldTo 91 = .ok (.getfield 134, 3) := by decide +kernel
theorem dX1_toldTo_94 : decode cX1_toldTo 94 = .ok (.iaload, 1) := by decide +kernel
theorem dX1_toldTo_95 : decode cX1_toldTo 95 = .ok (.aload_n 3, 1) := by decide +kernel
theorem dX1_toldTo_96 : decode cX1_toldTo 96 = .ok (.getfield 100, 3) := by decide +kernel
theorem dX1_toldTo_99 : decode cX1_toldTo 99 = .ok (.invokevirtual 137, 3) := by decide +kernel
theorem dX1_toldTo_102 : decode cX1_toldTo 102 = .ok (.iload 4, 2) := by decide +kernel
theorem dX1_toldTo_104 : decode cX1_toldTo 104 = .ok (.aload_n 0, 1) := by decide +kernel
theorem dX1_toldTo_105 : decode cX1_toldTo 105 = .ok (.getfield 19, 3) := by decide +kernel
theorem dX1_toldTo_108 : decode cX1_toldTo 108 = .ok (.getfield 143, 3) := by decide +kernel
theorem dX1_toldTo_111 : decode cX1_toldTo 111 = .ok (.ior, 1) := by decide +kernel
theorem dX1_toldTo_112 : decode cX1_toldTo 112 = .ok (.istore 4, 2) := by decide +kernel
theorem dX1_toldTo_114 : decode cX1_toldTo 114 = .ok (.iload 4, 2) := by decide +kernel
theorem dX1_toldTo_116 : decode cX1_toldTo 116 = .ok (.ireturn, 1) := by decide +kernel
theorem dX1_livingThere_0 : decode cX1_livingThere 0 = .ok (.aload_n 0, 1) := by decide +kernel
theorem dX1_livingThere_1 : decode cX1_livingThere 1 = .ok (.getfield 9, 3) := by decide +kernel
theorem dX1_livingThere_4 : decode cX1_livingThere 4 = .ok (.getfield 146, 3) := by decide +kernel
theorem dX1_livingThere_7 : decode cX1_livingThere 7 = .ok (.aload_n 1, 1) := by decide +kernel
theorem dX1_livingThere_8 : decode cX1_livingThere 8 = .ok (.getfield 116, 3) := by decide +kernel
theorem dX1_livingThere_11 : decode cX1_livingThere 11 = .ok (.iaload, 1) := by decide +kernel
theorem dX1_livingThere_12 : decode cX1_livingThere 12 = .ok (.aload_n 1, 1) := by decide +kernel
theorem dX1_livingThere_13 : decode cX1_livingThere 13 = .ok (.getfield 100, 3) := by decide +kernel
theorem dX1_livingThere_16 : decode cX1_livingThere 16 = .ok (.if_icmp .le 5, 3) := by decide +kernel
theorem dX1_livingThere_19 : decode cX1_livingThere 19 = .ok (.iconst 0, 1) := by decide +kernel
theorem dX1_livingThere_20 : decode cX1_livingThere 20 = .ok (.ireturn, 1) := by decide +kernel
theorem dX1_livingThere_21 : decode cX1_livingThere 21 = .ok (.iconst 0, 1) := by decide +kernel
theorem dX1_livingThere_22 : decode cX1_livingThere 22 = .ok (.istore_n 2, 1) := by decide +kernel
theorem dX1_livingThere_23 : decode cX1_livingThere 23 = .ok (.iconst 0, 1) := by decide +kernel
theorem dX1_livingThere_24 : decode cX1_livingThere 24 = .ok (.istore_n 3, 1) := by decide +kernel
theorem dX1_livingThere_25 : decode cX1_livingThere 25 = .ok (.iload_n 3, 1) := by decide +kernel
theorem dX1_livingThere_26 : decode cX1_livingThere 26 = .ok (.aload_n 0, 1) := by decide +kernel
theorem dX1_livingThere_27 : decode cX1_livingThere 27 = .ok (.getfield 9, 3) := by decide +kernel
theorem dX1_livingThere_30 : decode cX1_livingThere 30 = .ok (.getfield 49, 3) := by decide +kernel
theorem dX1_livingThere_33 : decode cX1_livingThere 33 = .ok (.if_icmp .ge 43, 3) := by decide +kernel
theorem dX1_livingThere_36 : decode cX1_livingThere 36 = .ok (.aload_n 0, 1) := by decide +kernel
theorem dX1_livingThere_37 : decode cX1_livingThere 37 = .ok (.getfield 9, 3) := by decide +kernel
theorem dX1_livingThere_40 : decode cX1_livingThere 40 = .ok (.getfield 87, 3) := by decide +kernel
theorem dX1_livingThere_43 : decode cX1_livingThere 43 = .ok (.iload_n 3, 1) := by decide +kernel
theorem dX1_livingThere_44 : decode cX1_livingThere 44 = .ok (.aaload, 1) := by decide +kernel
theorem dX1_livingThere_45 : decode cX1_livingThere 45 = .ok (.getfield 149, 3) := by decide +kernel
theorem dX1_livingThere_48 : decode cX1_livingThere 48 = .ok (.aload_n 0, 1) := by decide +kernel
theorem dX1_livingThere_49 : decode cX1_livingThere 49 = .ok (.getfield 9, 3) := by decide +kernel
theorem dX1_livingThere_52 : decode cX1_livingThere 52 = .ok (.getfield 152, 3) := by decide +kernel
theorem dX1_livingThere_55 : decode cX1_livingThere 55 = .ok (.aload_n 1, 1) := by decide +kernel
theorem dX1_livingThere_56 : decode cX1_livingThere 56 = .ok (.getfield 116, 3) := by decide +kernel
theorem dX1_livingThere_59 : decode cX1_livingThere 59 = .ok (.iaload, 1) := by decide +kernel
theorem dX1_livingThere_60 : decode cX1_livingThere 60 = .ok (.if_icmp .ne 10, 3) := by decide +kernel
theorem dX1_livingThere_63 : decode cX1_livingThere 63 = .ok (.iload_n 2, 1) := by decide +kernel
theorem dX1_livingThere_64 : decode cX1_livingThere 64 = .ok (.iload_n 3, 1) := by decide +kernel
theorem dX1_livingThere_65 : decode cX1_livingThere 65 = .ok (.invokestatic 75, 3) := by decide +kernel
theorem dX1_livingThere_68 : decode cX1_livingThere 68 = .ok (.ior, 1) := by decide +kernel
theorem dX1_livingThere_69 : decode cX1_livingThere 69 = .ok (.istore_n 2, 1) := by decide +kernel
theorem dX1_livingThere_70 : decode cX1_livingThere 70 = .ok (.iinc 3 1, 3) := by decide +kernel
theorem dX1_livingThere_73 : decode cX1_livingThere 73 = .ok (.goto (-48), 3) := by decide +kernel
theorem dX1_livingThere_76 : decode cX1_livingThere 76 = .ok (.iload_n 2, 1) := by decide +kernel
theorem dX1_livingThere_77 : decode cX1_livingThere 77 = .ok (.ireturn, 1) := by decide +kernel
theorem dX1_enteredUntil_0 : decode cX1_enteredUntil 0 = .ok (.aload_n 0, 1) := by decide +kernel
theorem dX1_enteredUntil_1 : decode cX1_enteredUntil 1 = .ok (.getfield 9, 3) := by decide +kernel
theorem dX1_enteredUntil_4 : decode cX1_enteredUntil 4 = .ok (.aload_n 1, 1) := by decide +kernel
theorem dX1_enteredUntil_5 : decode cX1_enteredUntil 5 = .ok (.getfield 116, 3) := by decide +kernel
theorem dX1_enteredUntil_8 : decode cX1_enteredUntil 8 = .ok (.invokevirtual 155, 3) := by decide +kernel
theorem dX1_enteredUntil_11 : decode cX1_enteredUntil 11 = .ok (.istore_n 2, 1) := by decide +kernel
theorem dX1_enteredUntil_12 : decode cX1_enteredUntil 12 = .ok (.iconst 0, 1) := by decide +kernel
theorem dX1_enteredUntil_13 : decode cX1_enteredUntil 13 = .ok (.istore_n 3, 1) := by decide +kernel
theorem dX1_enteredUntil_14 : decode cX1_enteredUntil 14 = .ok (.iload_n 3, 1) := by decide +kernel
theorem dX1_enteredUntil_15 : decode cX1_enteredUntil 15 = .ok (.aload_n 0, 1) := by decide +kernel
theorem dX1_enteredUntil_16 : decode cX1_enteredUntil 16 = .ok (.getfield 9, 3) := by decide +kernel
theorem dX1_enteredUntil_19 : decode cX1_enteredUntil 19 = .ok (.getfield 49, 3) := by decide +kernel
theorem dX1_enteredUntil_22 : decode cX1_enteredUntil 22 = .ok (.if_icmp .ge 37, 3) := by decide +kernel
theorem dX1_enteredUntil_25 : decode cX1_enteredUntil 25 = .ok (.aload_n 0, 1) := by decide +kernel
theorem dX1_enteredUntil_26 : decode cX1_enteredUntil 26 = .ok (.getfield 9, 3) := by decide +kernel
theorem dX1_enteredUntil_29 : decode cX1_enteredUntil 29 = .ok (.getfield 87, 3) := by decide +kernel
theorem dX1_enteredUntil_32 : decode cX1_enteredUntil 32 = .ok (.iload_n 3, 1) := by decide +kernel
theorem dX1_enteredUntil_33 : decode cX1_enteredUntil 33 = .ok (.aaload, 1) := by decide +kernel
theorem dX1_enteredUntil_34 : decode cX1_enteredUntil 34 = .ok (.getfield 95, 3) := by decide +kernel
theorem dX1_enteredUntil_37 : decode cX1_enteredUntil 37 = .ok (.aload_n 1, 1) := by decide +kernel
theorem dX1_enteredUntil_38 : decode cX1_enteredUntil 38 = .ok (.getfield 100, 3) := by decide +kernel
theorem dX1_enteredUntil_41 : decode cX1_enteredUntil 41 = .ok (.if_icmp .le 12, 3) := by decide +kernel
theorem dX1_enteredUntil_44 : decode cX1_enteredUntil 44 = .ok (.iload_n 2, 1) := by decide +kernel
theorem dX1_enteredUntil_45 : decode cX1_enteredUntil 45 = .ok (.iload_n 3, 1) := by decide +kernel
theorem dX1_enteredUntil_46 : decode cX1_enteredUntil 46 = .ok (.invokestatic 75, 3) := by decide +kernel
theorem dX1_enteredUntil_49 : decode cX1_enteredUntil 49 = .ok (.iconst (-1), 1) := by decide +kernel
theorem dX1_enteredUntil_50 : decode cX1_enteredUntil 50 = .ok (.ixor, 1) := by decide +kernel
theorem dX1_enteredUntil_51 : decode cX1_enteredUntil 51 = .ok (.iand, 1) := by decide +kernel
theorem dX1_enteredUntil_52 : decode cX1_enteredUntil 52 = .ok (.istore_n 2, 1) := by decide +kernel
theorem dX1_enteredUntil_53 : decode cX1_enteredUntil 53 = .ok (.iinc 3 1, 3) := by decide +kernel
theorem dX1_enteredUntil_56 : decode cX1_enteredUntil 56 = .ok (.goto (-42), 3) := by decide +kernel
theorem dX1_enteredUntil_59 : decode cX1_enteredUntil 59 = .ok (.iload_n 2, 1) := by decide +kernel
theorem dX1_enteredUntil_60 : decode cX1_enteredUntil 60 = .ok (.ireturn, 1) := by decide +kernel
theorem dX1_isBeaten_0 : decode cX1_isBeaten 0 = .ok (.aload_n 0, 1) := by decide +kernel
theorem dX1_isBeaten_1 : decode cX1_isBeaten 1 = .ok (.getfield 29, 3) := by decide +kernel
theorem dX1_isBeaten_4 : decode cX1_isBeaten 4 = .ok (.iload_n 1, 1) := by decide +kernel
theorem dX1_isBeaten_5 : decode cX1_isBeaten 5 = .ok (.iaload, 1) := by decide +kernel
theorem dX1_isBeaten_6 : decode cX1_isBeaten 6 = .ok (.iload_n 2, 1) := by decide +kernel
theorem dX1_isBeaten_7 : decode cX1_isBeaten 7 = .ok (.iand, 1) := by decide +kernel
theorem dX1_isBeaten_8 : decode cX1_isBeaten 8 = .ok (.ifCond .eq 7, 3) := by decide +kernel
theorem dX1_isBeaten_11 : decode cX1_isBeaten 11 = .ok (.iconst 1, 1) := by decide +kernel
theorem dX1_isBeaten_12 : decode cX1_isBeaten 12 = .ok (.goto 4, 3) := by decide +kernel
theorem dX1_isBeaten_15 : decode cX1_isBeaten 15 = .ok (.iconst 0, 1) := by decide +kernel
theorem dX1_isBeaten_16 : decode cX1_isBeaten 16 = .ok (.ireturn, 1) := by decide +kernel
theorem dX1_firstOf_0 : decode cX1_firstOf 0 = .ok (.iconst (-1), 1) := by decide +kernel
theorem dX1_firstOf_1 : decode cX1_firstOf 1 = .ok (.istore_n 2, 1) := by decide +kernel
theorem dX1_firstOf_2 : decode cX1_firstOf 2 = .ok (.iconst (-1), 1) := by decide +kernel
theorem dX1_firstOf_3 : decode cX1_firstOf 3 = .ok (.istore_n 3, 1) := by decide +kernel
theorem dX1_firstOf_4 : decode cX1_firstOf 4 = .ok (.iconst 0, 1) := by decide +kernel
theorem dX1_firstOf_5 : decode cX1_firstOf 5 = .ok (.istore 4, 2) := by decide +kernel
theorem dX1_firstOf_7 : decode cX1_firstOf 7 = .ok (.iload 4, 2) := by decide +kernel
theorem dX1_firstOf_9 : decode cX1_firstOf 9 = .ok (.aload_n 0, 1) := by decide +kernel
theorem dX1_firstOf_10 : decode cX1_firstOf 10 = .ok (.getfield 9, 3) := by decide +kernel
theorem dX1_firstOf_13 : decode cX1_firstOf 13 = .ok (.getfield 49, 3) := by decide +kernel
theorem dX1_firstOf_16 : decode cX1_firstOf 16 = .ok (.if_icmp .ge 70, 3) := by decide +kernel
theorem dX1_firstOf_19 : decode cX1_firstOf 19 = .ok (.iload_n 1, 1) := by decide +kernel
theorem dX1_firstOf_20 : decode cX1_firstOf 20 = .ok (.iload 4, 2) := by decide +kernel
theorem dX1_firstOf_22 : decode cX1_firstOf 22 = .ok (.invokestatic 52, 3) := by decide +kernel
theorem dX1_firstOf_25 : decode cX1_firstOf 25 = .ok (.ifCond .eq 55, 3) := by decide +kernel
theorem dX1_firstOf_28 : decode cX1_firstOf 28 = .ok (.iload_n 2, 1) := by decide +kernel
theorem dX1_firstOf_29 : decode cX1_firstOf 29 = .ok (.iconst (-1), 1) := by decide +kernel
theorem dX1_firstOf_30 : decode cX1_firstOf 30 = .ok (.if_icmp .eq 16, 3) := by decide +kernel
theorem dX1_firstOf_33 : decode cX1_firstOf 33 = .ok (.aload_n 0, 1) := by decide +kernel
theorem dX1_firstOf_34 : decode cX1_firstOf 34 = .ok (.getfield 9, 3) := by decide +kernel
theorem dX1_firstOf_37 : decode cX1_firstOf 37 = .ok (.iload 4, 2) := by decide +kernel
theorem dX1_firstOf_39 : decode cX1_firstOf 39 = .ok (.iload_n 2, 1) := by decide +kernel
theorem dX1_firstOf_40 : decode cX1_firstOf 40 = .ok (.invokevirtual 119, 3) := by decide +kernel
theorem dX1_firstOf_43 : decode cX1_firstOf 43 = .ok (.ifCond .eq 6, 3) := by decide +kernel
theorem dX1_firstOf_46 : decode cX1_firstOf 46 = .ok (.iload 4, 2) := by decide +kernel
theorem dX1_firstOf_48 : decode cX1_firstOf 48 = .ok (.istore_n 2, 1) := by decide +kernel
theorem dX1_firstOf_49 : decode cX1_firstOf 49 = .ok (.aload_n 0, 1) := by decide +kernel
theorem dX1_firstOf_50 : decode cX1_firstOf 50 = .ok (.iload 4, 2) := by decide +kernel
theorem dX1_firstOf_52 : decode cX1_firstOf 52 = .ok (.iload_n 1, 1) := by decide +kernel
theorem dX1_firstOf_53 : decode cX1_firstOf 53 = .ok (.invokevirtual 158, 3) := by decide +kernel
theorem dX1_firstOf_56 : decode cX1_firstOf 56 = .ok (.ifCond .ne 24, 3) := by decide +kernel
theorem dX1_firstOf_59 : decode cX1_firstOf 59 = .ok (.iload_n 3, 1) := by decide +kernel
theorem dX1_firstOf_60 : decode cX1_firstOf 60 = .ok (.iconst (-1), 1) := by decide +kernel
theorem dX1_firstOf_61 : decode cX1_firstOf 61 = .ok (.if_icmp .eq 16, 3) := by decide +kernel
theorem dX1_firstOf_64 : decode cX1_firstOf 64 = .ok (.aload_n 0, 1) := by decide +kernel
theorem dX1_firstOf_65 : decode cX1_firstOf 65 = .ok (.getfield 9, 3) := by decide +kernel
theorem dX1_firstOf_68 : decode cX1_firstOf 68 = .ok (.iload 4, 2) := by decide +kernel
theorem dX1_firstOf_70 : decode cX1_firstOf 70 = .ok (.iload_n 3, 1) := by decide +kernel
theorem dX1_firstOf_71 : decode cX1_firstOf 71 = .ok (.invokevirtual 119, 3) := by decide +kernel
theorem dX1_firstOf_74 : decode cX1_firstOf 74 = .ok (.ifCond .eq 6, 3) := by decide +kernel
theorem dX1_firstOf_77 : decode cX1_firstOf 77 = .ok (.iload 4, 2) := by decide +kernel
theorem dX1_firstOf_79 : decode cX1_firstOf 79 = .ok (.istore_n 3, 1) := by decide +kernel
theorem dX1_firstOf_80 : decode cX1_firstOf 80 = .ok (.iinc 4 1, 3) := by decide +kernel
theorem dX1_firstOf_83 : decode cX1_firstOf 83 = .ok (.goto (-76), 3) := by decide +kernel
theorem dX1_firstOf_86 : decode cX1_firstOf 86 = .ok (.iload_n 3, 1) := by decide +kernel
theorem dX1_firstOf_87 : decode cX1_firstOf 87 = .ok (.iconst (-1), 1) := by decide +kernel
theorem dX1_firstOf_88 : decode cX1_firstOf 88 = .ok (.if_icmp .ne 7, 3) := by decide +kernel
theorem dX1_firstOf_91 : decode cX1_firstOf 91 = .ok (.iload_n 2, 1) := by decide +kernel
theorem dX1_firstOf_92 : decode cX1_firstOf 92 = .ok (.goto 4, 3) := by decide +kernel
theorem dX1_firstOf_95 : decode cX1_firstOf 95 = .ok (.iload_n 3, 1) := by decide +kernel
theorem dX1_firstOf_96 : decode cX1_firstOf 96 = .ok (.ireturn, 1) := by decide +kernel
theorem dX1_passingFrom_0 : decode cX1_passingFrom 0 = .ok (.iconst 0, 1) := by decide +kernel
theorem dX1_passingFrom_1 : decode cX1_passingFrom 1 = .ok (.istore_n 2, 1) := by decide +kernel
theorem dX1_passingFrom_2 : decode cX1_passingFrom 2 = .ok (.iconst 0, 1) := by decide +kernel
theorem dX1_passingFrom_3 : decode cX1_passingFrom 3 = .ok (.istore_n 3, 1) := by decide +kernel
theorem dX1_passingFrom_4 : decode cX1_passingFrom 4 = .ok (.iload_n 3, 1) := by decide +kernel
theorem dX1_passingFrom_5 : decode cX1_passingFrom 5 = .ok (.aload_n 0, 1) := by decide +kernel
theorem dX1_passingFrom_6 : decode cX1_passingFrom 6 = .ok (.getfield 9, 3) := by decide +kernel
theorem dX1_passingFrom_9 : decode cX1_passingFrom 9 = .ok (.getfield 49, 3) := by decide +kernel
theorem dX1_passingFrom_12 : decode cX1_passingFrom 12 = .ok (.if_icmp .ge 58, 3) := by decide +kernel
theorem dX1_passingFrom_15 : decode cX1_passingFrom 15 = .ok (.aload_n 0, 1) := by decide +kernel
theorem dX1_passingFrom_16 : decode cX1_passingFrom 16 = .ok (.getfield 45, 3) := by decide +kernel
theorem dX1_passingFrom_19 : decode cX1_passingFrom 19 = .ok (.iload_n 3, 1) := by decide +kernel
theorem dX1_passingFrom_20 : decode cX1_passingFrom 20 = .ok (.invokestatic 52, 3) := by decide +kernel
theorem dX1_passingFrom_23 : decode cX1_passingFrom 23 = .ok (.ifCond .eq 41, 3) := by decide +kernel
theorem dX1_passingFrom_26 : decode cX1_passingFrom 26 = .ok (.aload_n 0, 1) := by decide +kernel
theorem dX1_passingFrom_27 : decode cX1_passingFrom 27 = .ok (.getfield 9, 3) := by decide +kernel
theorem dX1_passingFrom_30 : decode cX1_passingFrom 30 = .ok (.getfield 87, 3) := by decide +kernel
theorem dX1_passingFrom_33 : decode cX1_passingFrom 33 = .ok (.iload_n 3, 1) := by decide +kernel
theorem dX1_passingFrom_34 : decode cX1_passingFrom 34 = .ok (.aaload, 1) := by decide +kernel
theorem dX1_passingFrom_35 : decode cX1_passingFrom 35 = .ok (.invokevirtual 161, 3) := by decide +kernel
theorem dX1_passingFrom_38 : decode cX1_passingFrom 38 = .ok (.ifCond .eq 26, 3) := by decide +kernel
theorem dX1_passingFrom_41 : decode cX1_passingFrom 41 = .ok (.aload_n 0, 1) := by decide +kernel
theorem dX1_passingFrom_42 : decode cX1_passingFrom 42 = .ok (.getfield 9, 3) := by decide +kernel
theorem dX1_passingFrom_45 : decode cX1_passingFrom 45 = .ok (.getfield 87, 3) := by decide +kernel
theorem dX1_passingFrom_48 : decode cX1_passingFrom 48 = .ok (.iload_n 3, 1) := by decide +kernel
theorem dX1_passingFrom_49 : decode cX1_passingFrom 49 = .ok (.aaload, 1) := by decide +kernel
theorem dX1_passingFrom_50 : decode cX1_passingFrom 50 = .ok (.getfield 134, 3) := by decide +kernel
theorem dX1_passingFrom_53 : decode cX1_passingFrom 53 = .ok (.iload_n 1, 1) := by decide +kernel
theorem dX1_passingFrom_54 : decode cX1_passingFrom 54 = .ok (.if_icmp .ne 10, 3) := by decide +kernel
theorem dX1_passingFrom_57 : decode cX1_passingFrom 57 = .ok (.iload_n 2, 1) := by decide +kernel
theorem dX1_passingFrom_58 : decode cX1_passingFrom 58 = .ok (.iload_n 3, 1) := by decide +kernel
theorem dX1_passingFrom_59 : decode cX1_passingFrom 59 = .ok (.invokestatic 75, 3) := by decide +kernel
theorem dX1_passingFrom_62 : decode cX1_passingFrom 62 = .ok (.ior, 1) := by decide +kernel
theorem dX1_passingFrom_63 : decode cX1_passingFrom 63 = .ok (.istore_n 2, 1) := by decide +kernel
theorem dX1_passingFrom_64 : decode cX1_passingFrom 64 = .ok (.iinc 3 1, 3) := by decide +kernel
theorem dX1_passingFrom_67 : decode cX1_passingFrom 67 = .ok (.goto (-63), 3) := by decide +kernel
theorem dX1_passingFrom_70 : decode cX1_passingFrom 70 = .ok (.iload_n 2, 1) := by decide +kernel
theorem dX1_passingFrom_71 : decode cX1_passingFrom 71 = .ok (.ireturn, 1) := by decide +kernel
theorem dX1_debtsOnDocket_0 : decode cX1_debtsOnDocket 0 = .ok (.iconst 0, 1) := by decide +kernel
theorem dX1_debtsOnDocket_1 : decode cX1_debtsOnDocket 1 = .ok (.istore_n 1, 1) := by decide +kernel
theorem dX1_debtsOnDocket_2 : decode cX1_debtsOnDocket 2 = .ok (.iconst 0, 1) := by decide +kernel
theorem dX1_debtsOnDocket_3 : decode cX1_debtsOnDocket 3 = .ok (.istore_n 2, 1) := by decide +kernel
theorem dX1_debtsOnDocket_4 : decode cX1_debtsOnDocket 4 = .ok (.iload_n 2, 1) := by decide +kernel
theorem dX1_debtsOnDocket_5 : decode cX1_debtsOnDocket 5 = .ok (.aload_n 0, 1) := by decide +kernel
theorem dX1_debtsOnDocket_6 : decode cX1_debtsOnDocket 6 = .ok (.getfield 9, 3) := by decide +kernel
theorem dX1_debtsOnDocket_9 : decode cX1_debtsOnDocket 9 = .ok (.getfield 49, 3) := by decide +kernel
theorem dX1_debtsOnDocket_12 : decode cX1_debtsOnDocket 12 = .ok (.if_icmp .ge 42, 3) := by decide +kernel
theorem dX1_debtsOnDocket_15 : decode cX1_debtsOnDocket 15 = .ok (.aload_n 0, 1) := by decide +kernel
theorem dX1_debtsOnDocket_16 : decode cX1_debtsOnDocket 16 = .ok (.getfield 45, 3) := by decide +kernel
theorem dX1_debtsOnDocket_19 : decode cX1_debtsOnDocket 19 = .ok (.iload_n 2, 1) := by decide +kernel
theorem dX1_debtsOnDocket_20 : decode cX1_debtsOnDocket 20 = .ok (.invokestatic 52, 3) := by decide +kernel
theorem dX1_debtsOnDocket_23 : decode cX1_debtsOnDocket 23 = .ok (.ifCond .eq 25, 3) := by decide +kernel
theorem dX1_debtsOnDocket_26 : decode cX1_debtsOnDocket 26 = .ok (.aload_n 0, 1) := by decide +kernel
theorem dX1_debtsOnDocket_27 : decode cX1_debtsOnDocket 27 = .ok (.getfield 9, 3) := by decide +kernel
theorem dX1_debtsOnDocket_30 : decode cX1_debtsOnDocket 30 = .ok (.getfield 87, 3) := by decide +kernel
theorem dX1_debtsOnDocket_33 : decode cX1_debtsOnDocket 33 = .ok (.iload_n 2, 1) := by decide +kernel
theorem dX1_debtsOnDocket_34 : decode cX1_debtsOnDocket 34 = .ok (.aaload, 1) := by decide +kernel
theorem dX1_debtsOnDocket_35 : decode cX1_debtsOnDocket 35 = .ok (.invokevirtual 161, 3) := by decide +kernel
theorem dX1_debtsOnDocket_38 : decode cX1_debtsOnDocket 38 = .ok (.ifCond .ne 10, 3) := by decide +kernel
theorem dX1_debtsOnDocket_41 : decode cX1_debtsOnDocket 41 = .ok (.iload_n 1, 1) := by decide +kernel
theorem dX1_debtsOnDocket_42 : decode cX1_debtsOnDocket 42 = .ok (.iload_n 2, 1) := by decide +kernel
theorem dX1_debtsOnDocket_43 : decode cX1_debtsOnDocket 43 = .ok (.invokestatic 75, 3) := by decide +kernel
theorem dX1_debtsOnDocket_46 : decode cX1_debtsOnDocket 46 = .ok (.ior, 1) := by decide +kernel
theorem dX1_debtsOnDocket_47 : decode cX1_debtsOnDocket 47 = .ok (.istore_n 1, 1) := by decide +kernel
theorem dX1_debtsOnDocket_48 : decode cX1_debtsOnDocket 48 = .ok (.iinc 2 1, 3) := by decide +kernel
theorem dX1_debtsOnDocket_51 : decode cX1_debtsOnDocket 51 = .ok (.goto (-47), 3) := by decide +kernel
theorem dX1_debtsOnDocket_54 : decode cX1_debtsOnDocket 54 = .ok (.iload_n 1, 1) := by decide +kernel
theorem dX1_debtsOnDocket_55 : decode cX1_debtsOnDocket 55 = .ok (.ireturn, 1) := by decide +kernel
theorem dX1_paidAmong_0 : decode cX1_paidAmong 0 = .ok (.iconst 0, 1) := by decide +kernel
theorem dX1_paidAmong_1 : decode cX1_paidAmong 1 = .ok (.istore_n 2, 1) := by decide +kernel
theorem dX1_paidAmong_2 : decode cX1_paidAmong 2 = .ok (.iconst 0, 1) := by decide +kernel
theorem dX1_paidAmong_3 : decode cX1_paidAmong 3 = .ok (.istore_n 3, 1) := by decide +kernel
theorem dX1_paidAmong_4 : decode cX1_paidAmong 4 = .ok (.iload_n 3, 1) := by decide +kernel
theorem dX1_paidAmong_5 : decode cX1_paidAmong 5 = .ok (.aload_n 0, 1) := by decide +kernel
theorem dX1_paidAmong_6 : decode cX1_paidAmong 6 = .ok (.getfield 9, 3) := by decide +kernel
theorem dX1_paidAmong_9 : decode cX1_paidAmong 9 = .ok (.getfield 49, 3) := by decide +kernel
theorem dX1_paidAmong_12 : decode cX1_paidAmong 12 = .ok (.if_icmp .ge 49, 3) := by decide +kernel
theorem dX1_paidAmong_15 : decode cX1_paidAmong 15 = .ok (.iload_n 1, 1) := by decide +kernel
theorem dX1_paidAmong_16 : decode cX1_paidAmong 16 = .ok (.iload_n 3, 1) := by decide +kernel
theorem dX1_paidAmong_17 : decode cX1_paidAmong 17 = .ok (.invokestatic 52, 3) := by decide +kernel
theorem dX1_paidAmong_20 : decode cX1_paidAmong 20 = .ok (.ifCond .eq 35, 3) := by decide +kernel
theorem dX1_paidAmong_23 : decode cX1_paidAmong 23 = .ok (.aload_n 0, 1) := by decide +kernel
theorem dX1_paidAmong_24 : decode cX1_paidAmong 24 = .ok (.getfield 35, 3) := by decide +kernel
theorem dX1_paidAmong_27 : decode cX1_paidAmong 27 = .ok (.getfield 106, 3) := by decide +kernel
theorem dX1_paidAmong_30 : decode cX1_paidAmong 30 = .ok (.ifCond .ne 18, 3) := by decide +kernel
theorem dX1_paidAmong_33 : decode cX1_paidAmong 33 = .ok (.aload_n 0, 1) := by decide +kernel
theorem dX1_paidAmong_34 : decode cX1_paidAmong 34 = .ok (.getfield 9, 3) := by decide +kernel
theorem dX1_paidAmong_37 : decode cX1_paidAmong 37 = .ok (.getfield 87, 3) := by decide +kernel
theorem dX1_paidAmong_40 : decode cX1_paidAmong 40 = .ok (.iload_n 3, 1) := by decide +kernel
theorem dX1_paidAmong_41 : decode cX1_paidAmong 41 = .ok (.aaload, 1) := by decide +kernel
theorem dX1_paidAmong_42 : decode cX1_paidAmong 42 = .ok (.invokevirtual 110, 3) := by decide +kernel
theorem dX1_paidAmong_45 : decode cX1_paidAmong 45 = .ok (.ifCond .eq 10, 3) := by decide +kernel
theorem dX1_paidAmong_48 : decode cX1_paidAmong 48 = .ok (.iload_n 2, 1) := by decide +kernel
theorem dX1_paidAmong_49 : decode cX1_paidAmong 49 = .ok (.iload_n 3, 1) := by decide +kernel
theorem dX1_paidAmong_50 : decode cX1_paidAmong 50 = .ok (.invokestatic 75, 3) := by decide +kernel
theorem dX1_paidAmong_53 : decode cX1_paidAmong 53 = .ok (.ior, 1) := by decide +kernel
theorem dX1_paidAmong_54 : decode cX1_paidAmong 54 = .ok (.istore_n 2, 1) := by decide +kernel
theorem dX1_paidAmong_55 : decode cX1_paidAmong 55 = .ok (.iinc 3 1, 3) := by decide +kernel
theorem dX1_paidAmong_58 : decode cX1_paidAmong 58 = .ok (.goto (-54), 3) := by decide +kernel
theorem dX1_paidAmong_61 : decode cX1_paidAmong 61 = .ok (.iload_n 2, 1) := by decide +kernel
theorem dX1_paidAmong_62 : decode cX1_paidAmong 62 = .ok (.ireturn, 1) := by decide +kernel
theorem dX1_ringsAmong_0 : decode cX1_ringsAmong 0 = .ok (.iconst 0, 1) := by decide +kernel
theorem dX1_ringsAmong_1 : decode cX1_ringsAmong 1 = .ok (.istore_n 2, 1) := by decide +kernel
theorem dX1_ringsAmong_2 : decode cX1_ringsAmong 2 = .ok (.iconst 0, 1) := by decide +kernel
theorem dX1_ringsAmong_3 : decode cX1_ringsAmong 3 = .ok (.istore_n 3, 1) := by decide +kernel
theorem dX1_ringsAmong_4 : decode cX1_ringsAmong 4 = .ok (.iload_n 3, 1) := by decide +kernel
theorem dX1_ringsAmong_5 : decode cX1_ringsAmong 5 = .ok (.aload_n 0, 1) := by decide +kernel
theorem dX1_ringsAmong_6 : decode cX1_ringsAmong 6 = .ok (.getfield 9, 3) := by decide +kernel
theorem dX1_ringsAmong_9 : decode cX1_ringsAmong 9 = .ok (.getfield 49, 3) := by decide +kernel
theorem dX1_ringsAmong_12 : decode cX1_ringsAmong 12 = .ok (.if_icmp .ge 118, 3) := by decide +kernel
theorem dX1_ringsAmong_15 : decode cX1_ringsAmong 15 = .ok (.iload_n 3, 1) := by decide +kernel
theorem dX1_ringsAmong_16 : decode cX1_ringsAmong 16 = .ok (.iconst 1, 1) := by decide +kernel
theorem dX1_ringsAmong_17 : decode cX1_ringsAmong 17 = .ok (.iadd, 1) := by decide +kernel
theorem dX1_ringsAmong_18 : decode cX1_ringsAmong 18 = .ok (.istore 4, 2) := by decide +kernel
theorem dX1_ringsAmong_20 : decode cX1_ringsAmong 20 = .ok (.iload 4, 2) := by decide +kernel
theorem dX1_ringsAmong_22 : decode cX1_ringsAmong 22 = .ok (.aload_n 0, 1) := by decide +kernel
theorem dX1_ringsAmong_23 : decode cX1_ringsAmong 23 = .ok (.getfield 9, 3) := by decide +kernel
theorem dX1_ringsAmong_26 : decode cX1_ringsAmong 26 = .ok (.getfield 49, 3) := by decide +kernel
theorem dX1_ringsAmong_29 : decode cX1_ringsAmong 29 = .ok (.if_icmp .ge 95, 3) := by decide +kernel
theorem dX1_ringsAmong_32 : decode cX1_ringsAmong 32 = .ok (.iload 4, 2) := by decide +kernel
theorem dX1_ringsAmong_34 : decode cX1_ringsAmong 34 = .ok (.iconst 1, 1) := by decide +kernel
theorem dX1_ringsAmong_35 : decode cX1_ringsAmong 35 = .ok (.iadd, 1) := by decide +kernel
theorem dX1_ringsAmong_36 : decode cX1_ringsAmong 36 = .ok (.istore 5, 2) := by decide +kernel
theorem dX1_ringsAmong_38 : decode cX1_ringsAmong 38 = .ok (.iload 5, 2) := by decide +kernel
theorem dX1_ringsAmong_40 : decode cX1_ringsAmong 40 = .ok (.aload_n 0, 1) := by decide +kernel
theorem dX1_ringsAmong_41 : decode cX1_ringsAmong 41 = .ok (.getfield 9, 3) := by decide +kernel
theorem dX1_ringsAmong_44 : decode cX1_ringsAmong 44 = .ok (.getfield 49, 3) := by decide +kernel
theorem dX1_ringsAmong_47 : decode cX1_ringsAmong 47 = .ok (.if_icmp .ge 71, 3) := by decide +kernel
theorem dX1_ringsAmong_50 : decode cX1_ringsAmong 50 = .ok (.iload_n 3, 1) := by decide +kernel
theorem dX1_ringsAmong_51 : decode cX1_ringsAmong 51 = .ok (.invokestatic 75, 3) := by decide +kernel
theorem dX1_ringsAmong_54 : decode cX1_ringsAmong 54 = .ok (.iload 4, 2) := by decide +kernel
theorem dX1_ringsAmong_56 : decode cX1_ringsAmong 56 = .ok (.invokestatic 75, 3) := by decide +kernel
theorem dX1_ringsAmong_59 : decode cX1_ringsAmong 59 = .ok (.ior, 1) := by decide +kernel
theorem dX1_ringsAmong_60 : decode cX1_ringsAmong 60 = .ok (.iload 5, 2) := by decide +kernel
theorem dX1_ringsAmong_62 : decode cX1_ringsAmong 62 = .ok (.invokestatic 75, 3) := by decide +kernel
theorem dX1_ringsAmong_65 : decode cX1_ringsAmong 65 = .ok (.ior, 1) := by decide +kernel
theorem dX1_ringsAmong_66 : decode cX1_ringsAmong 66 = .ok (.istore 6, 2) := by decide +kernel
theorem dX1_ringsAmong_68 : decode cX1_ringsAmong 68 = .ok (.iload_n 1, 1) := by decide +kernel
theorem dX1_ringsAmong_69 : decode cX1_ringsAmong 69 = .ok (.iload 6, 2) := by decide +kernel
theorem dX1_ringsAmong_71 : decode cX1_ringsAmong 71 = .ok (.iand, 1) := by decide +kernel
theorem dX1_ringsAmong_72 : decode cX1_ringsAmong 72 = .ok (.iload 6, 2) := by decide +kernel
theorem dX1_ringsAmong_74 : decode cX1_ringsAmong 74 = .ok (.if_icmp .ne 38, 3) := by decide +kernel
theorem dX1_ringsAmong_77 : decode cX1_ringsAmong 77 = .ok (.aload_n 0, 1) := by decide +kernel
theorem dX1_ringsAmong_78 : decode cX1_ringsAmong 78 = .ok (.iload_n 3, 1) := by decide +kernel
theorem dX1_ringsAmong_79 : decode cX1_ringsAmong 79 = .ok (.iload 6, 2) := by decide +kernel
theorem dX1_ringsAmong_81 : decode cX1_ringsAmong 81 = .ok (.invokevirtual 158, 3) := by decide +kernel
theorem dX1_ringsAmong_84 : decode cX1_ringsAmong 84 = .ok (.ifCond .eq 28, 3) := by decide +kernel
theorem dX1_ringsAmong_87 : decode cX1_ringsAmong 87 = .ok (.aload_n 0, 1) := by decide +kernel
theorem dX1_ringsAmong_88 : decode cX1_ringsAmong 88 = .ok (.iload 4, 2) := by decide +kernel
theorem dX1_ringsAmong_90 : decode cX1_ringsAmong 90 = .ok (.iload 6, 2) := by decide +kernel
theorem dX1_ringsAmong_92 : decode cX1_ringsAmong 92 = .ok (.invokevirtual 158, 3) := by decide +kernel
theorem dX1_ringsAmong_95 : decode cX1_ringsAmong 95 = .ok (.ifCond .eq 17, 3) := by decide +kernel
theorem dX1_ringsAmong_98 : decode cX1_ringsAmong 98 = .ok (.aload_n 0, 1) := by decide +kernel
theorem dX1_ringsAmong_99 : decode cX1_ringsAmong 99 = .ok (.iload 5, 2) := by decide +kernel
theorem dX1_ringsAmong_101 : decode cX1_ringsAmong 101 = .ok (.iload 6, 2) := by decide +kernel
theorem dX1_ringsAmong_103 : decode cX1_ringsAmong 103 = .ok (.invokevirtual 158, 3) := by decide +kernel
theorem dX1_ringsAmong_106 : decode cX1_ringsAmong 106 = .ok (.ifCond .eq 6, 3) := by decide +kernel
theorem dX1_ringsAmong_109 : decode cX1_ringsAmong 109 = .ok (.iinc 2 1, 3) := by decide +kernel
theorem dX1_ringsAmong_112 : decode cX1_ringsAmong 112 = .ok (.iinc 5 1, 3) := by decide +kernel
theorem dX1_ringsAmong_115 : decode cX1_ringsAmong 115 = .ok (.goto (-77), 3) := by decide +kernel
theorem dX1_ringsAmong_118 : decode cX1_ringsAmong 118 = .ok (.iinc 4 1, 3) := by decide +kernel
theorem dX1_ringsAmong_121 : decode cX1_ringsAmong 121 = .ok (.goto (-101), 3) := by decide +kernel
theorem dX1_ringsAmong_124 : decode cX1_ringsAmong 124 = .ok (.iinc 3 1, 3) := by decide +kernel
theorem dX1_ringsAmong_127 : decode cX1_ringsAmong 127 = .ok (.goto (-123), 3) := by decide +kernel
theorem dX1_ringsAmong_130 : decode cX1_ringsAmong 130 = .ok (.iload_n 2, 1) := by decide +kernel
theorem dX1_ringsAmong_131 : decode cX1_ringsAmong 131 = .ok (.ireturn, 1) := by decide +kernel
theorem dX2_init_0 : decode cX2_init 0 = .ok (.aload_n 0, 1) := by decide +kernel
theorem dX2_init_1 : decode cX2_init 1 = .ok (.invokespecial 3, 3) := by decide +kernel
theorem dX2_init_4 : decode cX2_init 4 = .ok (.aload_n 0, 1) := by decide +kernel
theorem dX2_init_5 : decode cX2_init 5 = .ok (.iconst (-1), 1) := by decide +kernel
theorem dX2_init_6 : decode cX2_init 6 = .ok (.putfield 9, 3) := by decide +kernel
theorem dX2_init_9 : decode cX2_init 9 = .ok (.aload_n 0, 1) := by decide +kernel
theorem dX2_init_10 : decode cX2_init 10 = .ok (.iconst (-1), 1) := by decide +kernel
theorem dX2_init_11 : decode cX2_init 11 = .ok (.putfield 15, 3) := by decide +kernel
theorem dX2_init_14 : decode cX2_init 14 = .ok (.aload_n 0, 1) := by decide +kernel
theorem dX2_init_15 : decode cX2_init 15 = .ok (.iconst (-1), 1) := by decide +kernel
theorem dX2_init_16 : decode cX2_init 16 = .ok (.putfield 18, 3) := by decide +kernel
theorem dX2_init_19 : decode cX2_init 19 = .ok (.return_, 1) := by decide +kernel
theorem dX2_begin_0 : decode cX2_begin 0 = .ok (.aload_n 0, 1) := by decide +kernel
theorem dX2_begin_1 : decode cX2_begin 1 = .ok (.iload_n 1, 1) := by decide +kernel
theorem dX2_begin_2 : decode cX2_begin 2 = .ok (.putfield 21, 3) := by decide +kernel
theorem dX2_begin_5 : decode cX2_begin 5 = .ok (.aload_n 0, 1) := by decide +kernel
theorem dX2_begin_6 : decode cX2_begin 6 = .ok (.iload_n 2, 1) := by decide +kernel
theorem dX2_begin_7 : decode cX2_begin 7 = .ok (.putfield 24, 3) := by decide +kernel
theorem dX2_begin_10 : decode cX2_begin 10 = .ok (.aload_n 0, 1) := by decide +kernel
theorem dX2_begin_11 : decode cX2_begin 11 = .ok (.iload_n 3, 1) := by decide +kernel
theorem dX2_begin_12 : decode cX2_begin 12 = .ok (.putfield 27, 3) := by decide +kernel
theorem dX2_begin_15 : decode cX2_begin 15 = .ok (.aload_n 0, 1) := by decide +kernel
theorem dX2_begin_16 : decode cX2_begin 16 = .ok (.iload 4, 2) := by decide +kernel
theorem dX2_begin_18 : decode cX2_begin 18 = .ok (.putfield 30, 3) := by decide +kernel
theorem dX2_begin_21 : decode cX2_begin 21 = .ok (.aload_n 0, 1) := by decide +kernel
theorem dX2_begin_22 : decode cX2_begin 22 = .ok (.iload 5, 2) := by decide +kernel
theorem dX2_begin_24 : decode cX2_begin 24 = .ok (.putfield 33, 3) := by decide +kernel
theorem dX2_begin_27 : decode cX2_begin 27 = .ok (.aload_n 0, 1) := by decide +kernel
theorem dX2_begin_28 : decode cX2_begin 28 = .ok (.iconst (-1), 1) := by decide +kernel
theorem dX2_begin_29 : decode cX2_begin 29 = .ok (.putfield 9, 3) := by decide +kernel
theorem dX2_begin_32 : decode cX2_begin 32 = .ok (.aload_n 0, 1) := by decide +kernel
theorem dX2_begin_33 : decode cX2_begin 33 = .ok (.iconst (-1), 1) := by decide +kernel
theorem dX2_begin_34 : decode cX2_begin 34 = .ok (.putfield 15, 3) := by decide +kernel
theorem dX2_begin_37 : decode cX2_begin 37 = .ok (.aload_n 0, 1) := by decide +kernel
theorem dX2_begin_38 : decode cX2_begin 38 = .ok (.iconst (-1), 1) := by decide +kernel
theorem dX2_begin_39 : decode cX2_begin 39 = .ok (.putfield 18, 3) := by decide +kernel
theorem dX2_begin_42 : decode cX2_begin 42 = .ok (.aload_n 0, 1) := by decide +kernel
theorem dX2_begin_43 : decode cX2_begin 43 = .ok (.iconst 0, 1) := by decide +kernel
theorem dX2_begin_44 : decode cX2_begin 44 = .ok (.putfield 36, 3) := by decide +kernel
theorem dX2_begin_47 : decode cX2_begin 47 = .ok (.aload_n 0, 1) := by decide +kernel
theorem dX2_begin_48 : decode cX2_begin 48 = .ok (.iconst 0, 1) := by decide +kernel
theorem dX2_begin_49 : decode cX2_begin 49 = .ok (.putfield 40, 3) := by decide +kernel
theorem dX2_begin_52 : decode cX2_begin 52 = .ok (.return_, 1) := by decide +kernel
theorem dX2_copy_0 : decode cX2_copy 0 = .ok (.aload_n 0, 1) := by decide +kernel
theorem dX2_copy_1 : decode cX2_copy 1 = .ok (.aload_n 1, 1) := by decide +kernel
theorem dX2_copy_2 : decode cX2_copy 2 = .ok (.getfield 21, 3) := by decide +kernel
theorem dX2_copy_5 : decode cX2_copy 5 = .ok (.aload_n 1, 1) := by decide +kernel
theorem dX2_copy_6 : decode cX2_copy 6 = .ok (.getfield 24, 3) := by decide +kernel
theorem dX2_copy_9 : decode cX2_copy 9 = .ok (.aload_n 1, 1) := by decide +kernel
theorem dX2_copy_10 : decode cX2_copy 10 = .ok (.getfield 27, 3) := by decide +kernel
theorem dX2_copy_13 : decode cX2_copy 13 = .ok (.aload_n 1, 1) := by decide +kernel
theorem dX2_copy_14 : decode cX2_copy 14 = .ok (.getfield 30, 3) := by decide +kernel
theorem dX2_copy_17 : decode cX2_copy 17 = .ok (.aload_n 1, 1) := by decide +kernel
theorem dX2_copy_18 : decode cX2_copy 18 = .ok (.getfield 33, 3) := by decide +kernel
theorem dX2_copy_21 : decode cX2_copy 21 = .ok (.invokevirtual 43, 3) := by decide +kernel
theorem dX2_copy_24 : decode cX2_copy 24 = .ok (.aload_n 0, 1) := by decide +kernel
theorem dX2_copy_25 : decode cX2_copy 25 = .ok (.aload_n 1, 1) := by decide +kernel
theorem dX2_copy_26 : decode cX2_copy 26 = .ok (.getfield 9, 3) := by decide +kernel
theorem dX2_copy_29 : decode cX2_copy 29 = .ok (.putfield 9, 3) := by decide +kernel
theorem dX2_copy_32 : decode cX2_copy 32 = .ok (.aload_n 0, 1) := by decide +kernel
theorem dX2_copy_33 : decode cX2_copy 33 = .ok (.aload_n 1, 1) := by decide +kernel
theorem dX2_copy_34 : decode cX2_copy 34 = .ok (.getfield 15, 3) := by decide +kernel
theorem dX2_copy_37 : decode cX2_copy 37 = .ok (.putfield 15, 3) := by decide +kernel
theorem dX2_copy_40 : decode cX2_copy 40 = .ok (.aload_n 0, 1) := by decide +kernel
theorem dX2_copy_41 : decode cX2_copy 41 = .ok (.aload_n 1, 1) := by decide +kernel
theorem dX2_copy_42 : decode cX2_copy 42 = .ok (.getfield 18, 3) := by decide +kernel
theorem dX2_copy_45 : decode cX2_copy 45 = .ok (.putfield 18, 3) := by decide +kernel
theorem dX2_copy_48 : decode cX2_copy 48 = .ok (.aload_n 0, 1) := by decide +kernel
theorem dX2_copy_49 : decode cX2_copy 49 = .ok (.aload_n 1, 1) := by decide +kernel
theorem dX2_copy_50 : decode cX2_copy 50 = .ok (.getfield 36, 3) := by decide +kernel
theorem dX2_copy_53 : decode cX2_copy 53 = .ok (.putfield 36, 3) := by decide +kernel
theorem dX2_copy_56 : decode cX2_copy 56 = .ok (.aload_n 0, 1) := by decide +kernel
theorem dX2_copy_57 : decode cX2_copy 57 = .ok (.aload_n 1, 1) := by decide +kernel
theorem dX2_copy_58 : decode cX2_copy 58 = .ok (.getfield 40, 3) := by decide +kernel
theorem dX2_copy_61 : decode cX2_copy 61 = .ok (.putfield 40, 3) := by decide +kernel
theorem dX2_copy_64 : decode cX2_copy 64 = .ok (.return_, 1) := by decide +kernel
theorem dX2_isOfKind_0 : decode cX2_isOfKind 0 = .ok (.iload_n 1, 1) := by decide +kernel
theorem dX2_isOfKind_1 : decode cX2_isOfKind 1 = .ok (.ifCond .eq 24, 3) := by decide +kernel
theorem dX2_isOfKind_4 : decode cX2_isOfKind 4 = .ok (.iload_n 1, 1) := by decide +kernel
theorem dX2_isOfKind_5 : decode cX2_isOfKind 5 = .ok (.aload_n 0, 1) := by decide +kernel
theorem dX2_isOfKind_6 : decode cX2_isOfKind 6 = .ok (.getfield 21, 3) := by decide +kernel
theorem dX2_isOfKind_9 : decode cX2_isOfKind 9 = .ok (.if_icmp .eq 16, 3) := by decide +kernel
theorem dX2_isOfKind_12 : decode cX2_isOfKind 12 = .ok (.iload_n 1, 1) := by decide +kernel
theorem dX2_isOfKind_13 : decode cX2_isOfKind 13 = .ok (.iconst 1, 1) := by decide +kernel
theorem dX2_isOfKind_14 : decode cX2_isOfKind 14 = .ok (.if_icmp .ne 15, 3) := by decide +kernel
theorem dX2_isOfKind_17 : decode cX2_isOfKind 17 = .ok (.aload_n 0, 1) := by decide +kernel
theorem dX2_isOfKind_18 : decode cX2_isOfKind 18 = .ok (.getfield 21, 3) := by decide +kernel
theorem dX2_isOfKind_21 : decode cX2_isOfKind 21 = .ok (.iconst 4, 1) := by decide +kernel
theorem dX2_isOfKind_22 : decode cX2_isOfKind 22 = .ok (.if_icmp .ne 7, 3) := by decide +kernel
theorem dX2_isOfKind_25 : decode cX2_isOfKind 25 = .ok (.iconst 1, 1) := by decide +kernel
theorem dX2_isOfKind_26 : decode cX2_isOfKind 26 = .ok (.goto 4, 3) := by decide +kernel
theorem dX2_isOfKind_29 : decode cX2_isOfKind 29 = .ok (.iconst 0, 1) := by decide +kernel
theorem dX2_isOfKind_30 : decode cX2_isOfKind 30 = .ok (.ireturn, 1) := by decide +kernel
theorem dX2_passes_0 : decode cX2_passes 0 = .ok (.aload_n 0, 1) := by decide +kernel
theorem dX2_passes_1 : decode cX2_passes 1 = .ok (.getfield 21, 3) := by decide +kernel
theorem dX2_passes_4 : decode cX2_passes 4 = .ok (.iconst 3, 1) := by decide +kernel
theorem dX2_passes_5 : decode cX2_passes 5 = .ok (.if_icmp .eq 7, 3) := by decide +kernel
theorem dX2_passes_8 : decode cX2_passes 8 = .ok (.iconst 1, 1) := by decide +kernel
theorem dX2_passes_9 : decode cX2_passes 9 = .ok (.goto 4, 3) := by decide +kernel
theorem dX2_passes_12 : decode cX2_passes 12 = .ok (.iconst 0, 1) := by decide +kernel
theorem dX2_passes_13 : decode cX2_passes 13 = .ok (.ireturn, 1) := by decide +kernel
theorem dX2_isPaid_0 : decode cX2_isPaid 0 = .ok (.aload_n 0, 1) := by decide +kernel
theorem dX2_isPaid_1 : decode cX2_isPaid 1 = .ok (.getfield 21, 3) := by decide +kernel
theorem dX2_isPaid_4 : decode cX2_isPaid 4 = .ok (.iconst 1, 1) := by decide +kernel
theorem dX2_isPaid_5 : decode cX2_isPaid 5 = .ok (.if_icmp .eq 19, 3) := by decide +kernel
theorem dX2_isPaid_8 : decode cX2_isPaid 8 = .ok (.aload_n 0, 1) := by decide +kernel
theorem dX2_isPaid_9 : decode cX2_isPaid 9 = .ok (.getfield 21, 3) := by decide +kernel
theorem dX2_isPaid_12 : decode cX2_isPaid 12 = .ok (.iconst 4, 1) := by decide +kernel
theorem dX2_isPaid_13 : decode cX2_isPaid 13 = .ok (.if_icmp .eq 11, 3) := by decide +kernel
theorem dX2_isPaid_16 : decode cX2_isPaid 16 = .ok (.aload_n 0, 1) := by decide +kernel
theorem dX2_isPaid_17 : decode cX2_isPaid 17 = .ok (.getfield 21, 3) := by decide +kernel
theorem dX2_isPaid_20 : decode cX2_isPaid 20 = .ok (.iconst 3, 1) := by decide +kernel
theorem dX2_isPaid_21 : decode cX2_isPaid 21 = .ok (.if_icmp .ne 7, 3) := by decide +kernel
theorem dX2_isPaid_24 : decode cX2_isPaid 24 = .ok (.iconst 1, 1) := by decide +kernel
theorem dX2_isPaid_25 : decode cX2_isPaid 25 = .ok (.goto 4, 3) := by decide +kernel
theorem dX2_isPaid_28 : decode cX2_isPaid 28 = .ok (.iconst 0, 1) := by decide +kernel
theorem dX2_isPaid_29 : decode cX2_isPaid 29 = .ok (.ireturn, 1) := by decide +kernel
theorem dX2_isEntered_0 : decode cX2_isEntered 0 = .ok (.aload_n 0, 1) := by decide +kernel
theorem dX2_isEntered_1 : decode cX2_isEntered 1 = .ok (.getfield 9, 3) := by decide +kernel
theorem dX2_isEntered_4 : decode cX2_isEntered 4 = .ok (.iconst (-1), 1) := by decide +kernel
theorem dX2_isEntered_5 : decode cX2_isEntered 5 = .ok (.if_icmp .eq 7, 3) := by decide +kernel
theorem dX2_isEntered_8 : decode cX2_isEntered 8 = .ok (.iconst 1, 1) := by decide +kernel
theorem dX2_isEntered_9 : decode cX2_isEntered 9 = .ok (.goto 4, 3) := by decide +kernel
theorem dX2_isEntered_12 : decode cX2_isEntered 12 = .ok (.iconst 0, 1) := by decide +kernel
theorem dX2_isEntered_13 : decode cX2_isEntered 13 = .ok (.ireturn, 1) := by decide +kernel
theorem dX2_canBeFound_0 : decode cX2_canBeFound 0 = .ok (.aload_n 0, 1) := by decide +kernel
theorem dX2_canBeFound_1 : decode cX2_canBeFound 1 = .ok (.getfield 9, 3) := by decide +kernel
theorem dX2_canBeFound_4 : decode cX2_canBeFound 4 = .ok (.iconst (-1), 1) := by decide +kernel
theorem dX2_canBeFound_5 : decode cX2_canBeFound 5 = .ok (.if_icmp .eq 22, 3) := by decide +kernel
theorem dX2_canBeFound_8 : decode cX2_canBeFound 8 = .ok (.aload_n 0, 1) := by decide +kernel
theorem dX2_canBeFound_9 : decode cX2_canBeFound 9 = .ok (.getfield 21, 3) := by decide +kernel
theorem dX2_canBeFound_12 : decode cX2_canBeFound 12 = .ok (.iconst 4, 1) := by decide +kernel
theorem dX2_canBeFound_13 : decode cX2_canBeFound 13 = .ok (.if_icmp .eq 14, 3) := by decide +kernel
theorem dX2_canBeFound_16 : decode cX2_canBeFound 16 = .ok (.aload_n 0, 1) := by decide +kernel
theorem dX2_canBeFound_17 : decode cX2_canBeFound 17 = .ok (.getfield 36, 3) := by decide +kernel
theorem dX2_canBeFound_20 : decode cX2_canBeFound 20 = .ok (.ifCond .ne 7, 3) := by decide +kernel
theorem dX2_canBeFound_23 : decode cX2_canBeFound 23 = .ok (.iconst 1, 1) := by decide +kernel
theorem dX2_canBeFound_24 : decode cX2_canBeFound 24 = .ok (.goto 4, 3) := by decide +kernel
theorem dX2_canBeFound_27 : decode cX2_canBeFound 27 = .ok (.iconst 0, 1) := by decide +kernel
theorem dX2_canBeFound_28 : decode cX2_canBeFound 28 = .ok (.ireturn, 1) := by decide +kernel
theorem dX2_tell_0 : decode cX2_tell 0 = .ok (.iload_n 1, 1) := by decide +kernel
theorem dX2_tell_1 : decode cX2_tell 1 = .ok (.tableswitch 104 0 8 #[51, 56, 61, 66, 71, 76, 81, 86, 91], 51) := by decide +kernel
theorem dX2_tell_52 : decode cX2_tell 52 = .ok (.aload_n 0, 1) := by decide +kernel
theorem dX2_tell_53 : decode cX2_tell 53 = .ok (.getfield 21, 3) := by decide +kernel
theorem dX2_tell_56 : decode cX2_tell 56 = .ok (.ireturn, 1) := by decide +kernel
theorem dX2_tell_57 : decode cX2_tell 57 = .ok (.aload_n 0, 1) := by decide +kernel
theorem dX2_tell_58 : decode cX2_tell 58 = .ok (.getfield 24, 3) := by decide +kernel
theorem dX2_tell_61 : decode cX2_tell 61 = .ok (.ireturn, 1) := by decide +kernel
theorem dX2_tell_62 : decode cX2_tell 62 = .ok (.aload_n 0, 1) := by decide +kernel
theorem dX2_tell_63 : decode cX2_tell 63 = .ok (.getfield 27, 3) := by decide +kernel
theorem dX2_tell_66 : decode cX2_tell 66 = .ok (.ireturn, 1) := by decide +kernel
theorem dX2_tell_67 : decode cX2_tell 67 = .ok (.aload_n 0, 1) := by decide +kernel
theorem dX2_tell_68 : decode cX2_tell 68 = .ok (.getfield 30, 3) := by decide +kernel
theorem dX2_tell_71 : decode cX2_tell 71 = .ok (.ireturn, 1) := by decide +kernel
theorem dX2_tell_72 : decode cX2_tell 72 = .ok (.aload_n 0, 1) := by decide +kernel
theorem dX2_tell_73 : decode cX2_tell 73 = .ok (.getfield 33, 3) := by decide +kernel
theorem dX2_tell_76 : decode cX2_tell 76 = .ok (.ireturn, 1) := by decide +kernel
theorem dX2_tell_77 : decode cX2_tell 77 = .ok (.aload_n 0, 1) := by decide +kernel
theorem dX2_tell_78 : decode cX2_tell 78 = .ok (.getfield 9, 3) := by decide +kernel
theorem dX2_tell_81 : decode cX2_tell 81 = .ok (.ireturn, 1) := by decide +kernel
theorem dX2_tell_82 : decode cX2_tell 82 = .ok (.aload_n 0, 1) := by decide +kernel
theorem dX2_tell_83 : decode cX2_tell 83 = .ok (.getfield 15, 3) := by decide +kernel
theorem dX2_tell_86 : decode cX2_tell 86 = .ok (.ireturn, 1) := by decide +kernel
theorem dX2_tell_87 : decode cX2_tell 87 = .ok (.aload_n 0, 1) := by decide +kernel
theorem dX2_tell_88 : decode cX2_tell 88 = .ok (.getfield 18, 3) := by decide +kernel
theorem dX2_tell_91 : decode cX2_tell 91 = .ok (.ireturn, 1) := by decide +kernel
theorem dX2_tell_92 : decode cX2_tell 92 = .ok (.aload_n 0, 1) := by decide +kernel
theorem dX2_tell_93 : decode cX2_tell 93 = .ok (.getfield 36, 3) := by decide +kernel
theorem dX2_tell_96 : decode cX2_tell 96 = .ok (.ifCond .eq 7, 3) := by decide +kernel
theorem dX2_tell_99 : decode cX2_tell 99 = .ok (.iconst 1, 1) := by decide +kernel
theorem dX2_tell_100 : decode cX2_tell 100 = .ok (.goto 4, 3) := by decide +kernel
theorem dX2_tell_103 : decode cX2_tell 103 = .ok (.iconst 0, 1) := by decide +kernel
theorem dX2_tell_104 : decode cX2_tell 104 = .ok (.ireturn, 1) := by decide +kernel
theorem dX2_tell_105 : decode cX2_tell 105 = .ok (.aload_n 0, 1) := by decide +kernel
theorem dX2_tell_106 : decode cX2_tell 106 = .ok (.getfield 40, 3) := by decide +kernel
theorem dX2_tell_109 : decode cX2_tell 109 = .ok (.ireturn, 1) := by decide +kernel
theorem dX3_init_0 : decode cX3_init 0 = .ok (.aload_n 0, 1) := by decide +kernel
theorem dX3_init_1 : decode cX3_init 1 = .ok (.invokespecial 3, 3) := by decide +kernel
theorem dX3_init_4 : decode cX3_init 4 = .ok (.aload_n 0, 1) := by decide +kernel
theorem dX3_init_5 : decode cX3_init 5 = .ok (.bipush 100, 2) := by decide +kernel
theorem dX3_init_7 : decode cX3_init 7 = .ok (.putfield 9, 3) := by decide +kernel
theorem dX3_init_10 : decode cX3_init 10 = .ok (.aload_n 0, 1) := by decide +kernel
theorem dX3_init_11 : decode cX3_init 11 = .ok (.bipush 120, 2) := by decide +kernel
theorem dX3_init_13 : decode cX3_init 13 = .ok (.putfield 15, 3) := by decide +kernel
theorem dX3_init_16 : decode cX3_init 16 = .ok (.aload_n 0, 1) := by decide +kernel
theorem dX3_init_17 : decode cX3_init 17 = .ok (.sipush 999, 3) := by decide +kernel
theorem dX3_init_20 : decode cX3_init 20 = .ok (.putfield 18, 3) := by decide +kernel
theorem dX3_init_23 : decode cX3_init 23 = .ok (.return_, 1) := by decide +kernel
theorem dX3_take_0 : decode cX3_take 0 = .ok (.iload_n 1, 1) := by decide +kernel
theorem dX3_take_1 : decode cX3_take 1 = .ok (.ifCond .ne 11, 3) := by decide +kernel
theorem dX3_take_4 : decode cX3_take 4 = .ok (.aload_n 0, 1) := by decide +kernel
theorem dX3_take_5 : decode cX3_take 5 = .ok (.iload_n 2, 1) := by decide +kernel
theorem dX3_take_6 : decode cX3_take 6 = .ok (.putfield 9, 3) := by decide +kernel
theorem dX3_take_9 : decode cX3_take 9 = .ok (.goto 70, 3) := by decide +kernel
theorem dX3_take_12 : decode cX3_take 12 = .ok (.iload_n 1, 1) := by decide +kernel
theorem dX3_take_13 : decode cX3_take 13 = .ok (.iconst 1, 1) := by decide +kernel
theorem dX3_take_14 : decode cX3_take 14 = .ok (.if_icmp .ne 11, 3) := by decide +kernel
theorem dX3_take_17 : decode cX3_take 17 = .ok (.aload_n 0, 1) := by decide +kernel
theorem dX3_take_18 : decode cX3_take 18 = .ok (.iload_n 2, 1) := by decide +kernel
theorem dX3_take_19 : decode cX3_take 19 = .ok (.putfield 15, 3) := by decide +kernel
theorem dX3_take_22 : decode cX3_take 22 = .ok (.goto 57, 3) := by decide +kernel
theorem dX3_take_25 : decode cX3_take 25 = .ok (.iload_n 2, 1) := by decide +kernel
theorem dX3_take_26 : decode cX3_take 26 = .ok (.bipush 108, 2) := by decide +kernel
theorem dX3_take_28 : decode cX3_take 28 = .ok (.if_icmp .ne 11, 3) := by decide +kernel
theorem dX3_take_31 : decode cX3_take 31 = .ok (.aload_n 0, 1) := by decide +kernel
theorem dX3_take_32 : decode cX3_take 32 = .ok (.iconst 1, 1) := by decide +kernel
theorem dX3_take_33 : decode cX3_take 33 = .ok (.putfield 21, 3) := by decide +kernel
theorem dX3_take_36 : decode cX3_take 36 = .ok (.goto 43, 3) := by decide +kernel
theorem dX3_take_39 : decode cX3_take 39 = .ok (.iload_n 2, 1) := by decide +kernel
theorem dX3_take_40 : decode cX3_take 40 = .ok (.bipush 103, 2) := by decide +kernel
theorem dX3_take_42 : decode cX3_take 42 = .ok (.if_icmp .ne 11, 3) := by decide +kernel
theorem dX3_take_45 : decode cX3_take 45 = .ok (.aload_n 0, 1) := by decide +kernel
theorem dX3_take_46 : decode cX3_take 46 = .ok (.iconst 1, 1) := by decide +kernel
theorem dX3_take_47 : decode cX3_take 47 = .ok (.putfield 25, 3) := by decide +kernel
theorem dX3_take_50 : decode cX3_take 50 = .ok (.goto 29, 3) := by decide +kernel
theorem dX3_take_53 : decode cX3_take 53 = .ok (.aload_n 0, 1) := by decide +kernel
theorem dX3_take_54 : decode cX3_take 54 = .ok (.iload_n 2, 1) := by decide +kernel
theorem dX3_take_55 : decode cX3_take 55 = .ok (.bipush 104, 2) := by decide +kernel
theorem dX3_take_57 : decode cX3_take 57 = .ok (.if_icmp .ne 7, 3) := by decide +kernel
theorem dX3_take_60 : decode cX3_take 60 = .ok (.iconst 0, 1) := by decide +kernel
theorem dX3_take_61 : decode cX3_take 61 = .ok (.goto 15, 3) := by decide +kernel
theorem dX3_take_64 : decode cX3_take 64 = .ok (.bipush 10, 2) := by decide +kernel
theorem dX3_take_66 : decode cX3_take 66 = .ok (.aload_n 0, 1) := by decide +kernel
theorem dX3_take_67 : decode cX3_take 67 = .ok (.getfield 18, 3) := by decide +kernel
theorem dX3_take_70 : decode cX3_take 70 = .ok (.imul, 1) := by decide +kernel
theorem dX3_take_71 : decode cX3_take 71 = .ok (.iload_n 2, 1) := by decide +kernel
theorem dX3_take_72 : decode cX3_take 72 = .ok (.iadd, 1) := by decide +kernel
theorem dX3_take_73 : decode cX3_take 73 = .ok (.bipush 48, 2) := by decide +kernel
theorem dX3_take_75 : decode cX3_take 75 = .ok (.isub, 1) := by decide +kernel
theorem dX3_take_76 : decode cX3_take 76 = .ok (.putfield 18, 3) := by decide +kernel
theorem dX3_take_79 : decode cX3_take 79 = .ok (.return_, 1) := by decide +kernel
theorem dX3_asksEntry_0 : decode cX3_asksEntry 0 = .ok (.aload_n 0, 1) := by decide +kernel
theorem dX3_asksEntry_1 : decode cX3_asksEntry 1 = .ok (.getfield 9, 3) := by decide +kernel
theorem dX3_asksEntry_4 : decode cX3_asksEntry 4 = .ok (.bipush 101, 2) := by decide +kernel
theorem dX3_asksEntry_6 : decode cX3_asksEntry 6 = .ok (.if_icmp .eq 12, 3) := by decide +kernel
theorem dX3_asksEntry_9 : decode cX3_asksEntry 9 = .ok (.aload_n 0, 1) := by decide +kernel
theorem dX3_asksEntry_10 : decode cX3_asksEntry 10 = .ok (.getfield 9, 3) := by decide +kernel
theorem dX3_asksEntry_13 : decode cX3_asksEntry 13 = .ok (.bipush 98, 2) := by decide +kernel
theorem dX3_asksEntry_15 : decode cX3_asksEntry 15 = .ok (.if_icmp .ne 7, 3) := by decide +kernel
theorem dX3_asksEntry_18 : decode cX3_asksEntry 18 = .ok (.iconst 1, 1) := by decide +kernel
theorem dX3_asksEntry_19 : decode cX3_asksEntry 19 = .ok (.goto 4, 3) := by decide +kernel
theorem dX3_asksEntry_22 : decode cX3_asksEntry 22 = .ok (.iconst 0, 1) := by decide +kernel
theorem dX3_asksEntry_23 : decode cX3_asksEntry 23 = .ok (.ireturn, 1) := by decide +kernel
theorem dX3_asksKnowing_0 : decode cX3_asksKnowing 0 = .ok (.aload_n 0, 1) := by decide +kernel
theorem dX3_asksKnowing_1 : decode cX3_asksKnowing 1 = .ok (.getfield 9, 3) := by decide +kernel
theorem dX3_asksKnowing_4 : decode cX3_asksKnowing 4 = .ok (.bipush 110, 2) := by decide +kernel
theorem dX3_asksKnowing_6 : decode cX3_asksKnowing 6 = .ok (.if_icmp .eq 12, 3) := by decide +kernel
theorem dX3_asksKnowing_9 : decode cX3_asksKnowing 9 = .ok (.aload_n 0, 1) := by decide +kernel
theorem dX3_asksKnowing_10 : decode cX3_asksKnowing 10 = .ok (.getfield 9, 3) := by decide +kernel
theorem dX3_asksKnowing_13 : decode cX3_asksKnowing 13 = .ok (.bipush 98, 2) := by decide +kernel
theorem dX3_asksKnowing_15 : decode cX3_asksKnowing 15 = .ok (.if_icmp .ne 7, 3) := by decide +kernel
theorem dX3_asksKnowing_18 : decode cX3_asksKnowing 18 = .ok (.iconst 1, 1) := by decide +kernel
theorem dX3_asksKnowing_19 : decode cX3_asksKnowing 19 = .ok (.goto 4, 3) := by decide +kernel
theorem dX3_asksKnowing_22 : decode cX3_asksKnowing 22 = .ok (.iconst 0, 1) := by decide +kernel
theorem dX3_asksKnowing_23 : decode cX3_asksKnowing 23 = .ok (.ireturn, 1) := by decide +kernel
theorem dX4_init_0 : decode cX4_init 0 = .ok (.aload_n 0, 1) := by decide +kernel
theorem dX4_init_1 : decode cX4_init 1 = .ok (.invokespecial 5, 3) := by decide +kernel
theorem dX4_init_4 : decode cX4_init 4 = .ok (.aload_n 0, 1) := by decide +kernel
theorem dX4_init_5 : decode cX4_init 5 = .ok (.bipush 16, 2) := by decide +kernel
theorem dX4_init_7 : decode cX4_init 7 = .ok (.newarray .int, 2) := by decide +kernel
theorem dX4_init_9 : decode cX4_init 9 = .ok (.putfield 11, 3) := by decide +kernel
theorem dX4_init_12 : decode cX4_init 12 = .ok (.return_, 1) := by decide +kernel
theorem dX4_append_0 : decode cX4_append 0 = .ok (.lload_n 1, 1) := by decide +kernel
theorem dX4_append_1 : decode cX4_append 1 = .ok (.invokestatic 15, 3) := by decide +kernel
theorem dX4_append_4 : decode cX4_append 4 = .ok (.istore_n 3, 1) := by decide +kernel
theorem dX4_append_5 : decode cX4_append 5 = .ok (.iload_n 3, 1) := by decide +kernel
theorem dX4_append_6 : decode cX4_append 6 = .ok (.iconst (-1), 1) := by decide +kernel
theorem dX4_append_7 : decode cX4_append 7 = .ok (.if_icmp .ne 6, 3) := by decide +kernel
theorem dX4_append_10 : decode cX4_append 10 = .ok (.bipush (-102), 2) := by decide +kernel
theorem dX4_append_12 : decode cX4_append 12 = .ok (.ireturn, 1) := by decide +kernel
theorem dX4_append_13 : decode cX4_append 13 = .ok (.aload_n 0, 1) := by decide +kernel
theorem dX4_append_14 : decode cX4_append 14 = .ok (.getfield 19, 3) := by decide +kernel
theorem dX4_append_17 : decode cX4_append 17 = .ok (.iload_n 3, 1) := by decide +kernel
theorem dX4_append_18 : decode cX4_append 18 = .ok (.iadd, 1) := by decide +kernel
theorem dX4_append_19 : decode cX4_append 19 = .ok (.bipush 16, 2) := by decide +kernel
theorem dX4_append_21 : decode cX4_append 21 = .ok (.if_icmp .le 6, 3) := by decide +kernel
theorem dX4_append_24 : decode cX4_append 24 = .ok (.bipush (-104), 2) := by decide +kernel
theorem dX4_append_26 : decode cX4_append 26 = .ok (.ireturn, 1) := by decide +kernel
theorem dX4_append_27 : decode cX4_append 27 = .ok (.iconst 0, 1) := by decide +kernel
theorem dX4_append_28 : decode cX4_append 28 = .ok (.istore 4, 2) := by decide +kernel
theorem dX4_append_30 : decode cX4_append 30 = .ok (.iload 4, 2) := by decide +kernel
theorem dX4_append_32 : decode cX4_append 32 = .ok (.iload_n 3, 1) := by decide +kernel
theorem dX4_append_33 : decode cX4_append 33 = .ok (.if_icmp .ge 27, 3) := by decide +kernel
theorem dX4_append_36 : decode cX4_append 36 = .ok (.aload_n 0, 1) := by decide +kernel
theorem dX4_append_37 : decode cX4_append 37 = .ok (.getfield 11, 3) := by decide +kernel
theorem dX4_append_40 : decode cX4_append 40 = .ok (.aload_n 0, 1) := by decide +kernel
theorem dX4_append_41 : decode cX4_append 41 = .ok (.getfield 19, 3) := by decide +kernel
theorem dX4_append_44 : decode cX4_append 44 = .ok (.iload 4, 2) := by decide +kernel
theorem dX4_append_46 : decode cX4_append 46 = .ok (.iadd, 1) := by decide +kernel
theorem dX4_append_47 : decode cX4_append 47 = .ok (.lload_n 1, 1) := by decide +kernel
theorem dX4_append_48 : decode cX4_append 48 = .ok (.iload 4, 2) := by decide +kernel
theorem dX4_append_50 : decode cX4_append 50 = .ok (.invokestatic 23, 3) := by decide +kernel
theorem dX4_append_53 : decode cX4_append 53 = .ok (.iastore, 1) := by decide +kernel
theorem dX4_append_54 : decode cX4_append 54 = .ok (.iinc 4 1, 3) := by decide +kernel
theorem dX4_append_57 : decode cX4_append 57 = .ok (.goto (-27), 3) := by decide +kernel
theorem dX4_append_60 : decode cX4_append 60 = .ok (.aload_n 0, 1) := by decide +kernel
theorem dX4_append_61 : decode cX4_append 61 = .ok (.dup, 1) := by decide +kernel
theorem dX4_append_62 : decode cX4_append 62 = .ok (.getfield 19, 3) := by decide +kernel
theorem dX4_append_65 : decode cX4_append 65 = .ok (.iload_n 3, 1) := by decide +kernel
theorem dX4_append_66 : decode cX4_append 66 = .ok (.iadd, 1) := by decide +kernel
theorem dX4_append_67 : decode cX4_append 67 = .ok (.putfield 19, 3) := by decide +kernel
theorem dX4_append_70 : decode cX4_append 70 = .ok (.aload_n 0, 1) := by decide +kernel
theorem dX4_append_71 : decode cX4_append 71 = .ok (.getfield 19, 3) := by decide +kernel
theorem dX4_append_74 : decode cX4_append 74 = .ok (.ireturn, 1) := by decide +kernel
theorem dX4_lengthOf_0 : decode cX4_lengthOf 0 = .ok (.iconst 0, 1) := by decide +kernel
theorem dX4_lengthOf_1 : decode cX4_lengthOf 1 = .ok (.istore_n 2, 1) := by decide +kernel
theorem dX4_lengthOf_2 : decode cX4_lengthOf 2 = .ok (.iconst 0, 1) := by decide +kernel
theorem dX4_lengthOf_3 : decode cX4_lengthOf 3 = .ok (.istore_n 3, 1) := by decide +kernel
theorem dX4_lengthOf_4 : decode cX4_lengthOf 4 = .ok (.iload_n 3, 1) := by decide +kernel
theorem dX4_lengthOf_5 : decode cX4_lengthOf 5 = .ok (.bipush 8, 2) := by decide +kernel
theorem dX4_lengthOf_7 : decode cX4_lengthOf 7 = .ok (.if_icmp .ge 43, 3) := by decide +kernel
theorem dX4_lengthOf_10 : decode cX4_lengthOf 10 = .ok (.lload_n 0, 1) := by decide +kernel
theorem dX4_lengthOf_11 : decode cX4_lengthOf 11 = .ok (.iload_n 3, 1) := by decide +kernel
theorem dX4_lengthOf_12 : decode cX4_lengthOf 12 = .ok (.invokestatic 23, 3) := by decide +kernel
theorem dX4_lengthOf_15 : decode cX4_lengthOf 15 = .ok (.istore 4, 2) := by decide +kernel
theorem dX4_lengthOf_17 : decode cX4_lengthOf 17 = .ok (.iload 4, 2) := by decide +kernel
theorem dX4_lengthOf_19 : decode cX4_lengthOf 19 = .ok (.bipush 126, 2) := by decide +kernel
theorem dX4_lengthOf_21 : decode cX4_lengthOf 21 = .ok (.if_icmp .gt 13, 3) := by decide +kernel
theorem dX4_lengthOf_24 : decode cX4_lengthOf 24 = .ok (.iload 4, 2) := by decide +kernel
theorem dX4_lengthOf_26 : decode cX4_lengthOf 26 = .ok (.ifCond .eq 10, 3) := by decide +kernel
theorem dX4_lengthOf_29 : decode cX4_lengthOf 29 = .ok (.iload_n 2, 1) := by decide +kernel
theorem dX4_lengthOf_30 : decode cX4_lengthOf 30 = .ok (.iload_n 3, 1) := by decide +kernel
theorem dX4_lengthOf_31 : decode cX4_lengthOf 31 = .ok (.if_icmp .ge 5, 3) := by decide +kernel
theorem dX4_lengthOf_34 : decode cX4_lengthOf 34 = .ok (.iconst (-1), 1) := by decide +kernel
theorem dX4_lengthOf_35 : decode cX4_lengthOf 35 = .ok (.ireturn, 1) := by decide +kernel
theorem dX4_lengthOf_36 : decode cX4_lengthOf 36 = .ok (.iload 4, 2) := by decide +kernel
theorem dX4_lengthOf_38 : decode cX4_lengthOf 38 = .ok (.ifCond .eq 6, 3) := by decide +kernel
theorem dX4_lengthOf_41 : decode cX4_lengthOf 41 = .ok (.iinc 2 1, 3) := by decide +kernel
theorem dX4_lengthOf_44 : decode cX4_lengthOf 44 = .ok (.iinc 3 1, 3) := by decide +kernel
theorem dX4_lengthOf_47 : decode cX4_lengthOf 47 = .ok (.goto (-43), 3) := by decide +kernel
theorem dX4_lengthOf_50 : decode cX4_lengthOf 50 = .ok (.iload_n 2, 1) := by decide +kernel
theorem dX4_lengthOf_51 : decode cX4_lengthOf 51 = .ok (.ireturn, 1) := by decide +kernel
theorem dX4_byteOf_0 : decode cX4_byteOf 0 = .ok (.lload_n 0, 1) := by decide +kernel
theorem dX4_byteOf_1 : decode cX4_byteOf 1 = .ok (.bipush 8, 2) := by decide +kernel
theorem dX4_byteOf_3 : decode cX4_byteOf 3 = .ok (.iload_n 2, 1) := by decide +kernel
theorem dX4_byteOf_4 : decode cX4_byteOf 4 = .ok (.imul, 1) := by decide +kernel
theorem dX4_byteOf_5 : decode cX4_byteOf 5 = .ok (.lushr, 1) := by decide +kernel
theorem dX4_byteOf_6 : decode cX4_byteOf 6 = .ok (.l2i, 1) := by decide +kernel
theorem dX4_byteOf_7 : decode cX4_byteOf 7 = .ok (.sipush 255, 3) := by decide +kernel
theorem dX4_byteOf_10 : decode cX4_byteOf 10 = .ok (.iand, 1) := by decide +kernel
theorem dX4_byteOf_11 : decode cX4_byteOf 11 = .ok (.ireturn, 1) := by decide +kernel
theorem dX4_faultPlace_0 : decode cX4_faultPlace 0 = .ok (.iconst 0, 1) := by decide +kernel
theorem dX4_faultPlace_1 : decode cX4_faultPlace 1 = .ok (.istore_n 1, 1) := by decide +kernel
theorem dX4_faultPlace_2 : decode cX4_faultPlace 2 = .ok (.iconst 0, 1) := by decide +kernel
theorem dX4_faultPlace_3 : decode cX4_faultPlace 3 = .ok (.istore_n 2, 1) := by decide +kernel
theorem dX4_faultPlace_4 : decode cX4_faultPlace 4 = .ok (.iload_n 2, 1) := by decide +kernel
theorem dX4_faultPlace_5 : decode cX4_faultPlace 5 = .ok (.aload_n 0, 1) := by decide +kernel
theorem dX4_faultPlace_6 : decode cX4_faultPlace 6 = .ok (.getfield 19, 3) := by decide +kernel
theorem dX4_faultPlace_9 : decode cX4_faultPlace 9 = .ok (.if_icmp .ge 27, 3) := by decide +kernel
theorem dX4_faultPlace_12 : decode cX4_faultPlace 12 = .ok (.iload_n 1, 1) := by decide +kernel
theorem dX4_faultPlace_13 : decode cX4_faultPlace 13 = .ok (.aload_n 0, 1) := by decide +kernel
theorem dX4_faultPlace_14 : decode cX4_faultPlace 14 = .ok (.getfield 11, 3) := by decide +kernel
theorem dX4_faultPlace_17 : decode cX4_faultPlace 17 = .ok (.iload_n 2, 1) := by decide +kernel
theorem dX4_faultPlace_18 : decode cX4_faultPlace 18 = .ok (.iaload, 1) := by decide +kernel
theorem dX4_faultPlace_19 : decode cX4_faultPlace 19 = .ok (.invokestatic 27, 3) := by decide +kernel
theorem dX4_faultPlace_22 : decode cX4_faultPlace 22 = .ok (.istore_n 1, 1) := by decide +kernel
theorem dX4_faultPlace_23 : decode cX4_faultPlace 23 = .ok (.iload_n 1, 1) := by decide +kernel
theorem dX4_faultPlace_24 : decode cX4_faultPlace 24 = .ok (.iconst (-1), 1) := by decide +kernel
theorem dX4_faultPlace_25 : decode cX4_faultPlace 25 = .ok (.if_icmp .ne 5, 3) := by decide +kernel
theorem dX4_faultPlace_28 : decode cX4_faultPlace 28 = .ok (.iload_n 2, 1) := by decide +kernel
theorem dX4_faultPlace_29 : decode cX4_faultPlace 29 = .ok (.ireturn, 1) := by decide +kernel
theorem dX4_faultPlace_30 : decode cX4_faultPlace 30 = .ok (.iinc 2 1, 3) := by decide +kernel
theorem dX4_faultPlace_33 : decode cX4_faultPlace 33 = .ok (.goto (-29), 3) := by decide +kernel
theorem dX4_faultPlace_36 : decode cX4_faultPlace 36 = .ok (.aload_n 0, 1) := by decide +kernel
theorem dX4_faultPlace_37 : decode cX4_faultPlace 37 = .ok (.getfield 19, 3) := by decide +kernel
theorem dX4_faultPlace_40 : decode cX4_faultPlace 40 = .ok (.ireturn, 1) := by decide +kernel
theorem dX4_isLaw_0 : decode cX4_isLaw 0 = .ok (.iconst 0, 1) := by decide +kernel
theorem dX4_isLaw_1 : decode cX4_isLaw 1 = .ok (.istore_n 1, 1) := by decide +kernel
theorem dX4_isLaw_2 : decode cX4_isLaw 2 = .ok (.iconst 0, 1) := by decide +kernel
theorem dX4_isLaw_3 : decode cX4_isLaw 3 = .ok (.istore_n 2, 1) := by decide +kernel
theorem dX4_isLaw_4 : decode cX4_isLaw 4 = .ok (.iload_n 2, 1) := by decide +kernel
theorem dX4_isLaw_5 : decode cX4_isLaw 5 = .ok (.aload_n 0, 1) := by decide +kernel
theorem dX4_isLaw_6 : decode cX4_isLaw 6 = .ok (.getfield 19, 3) := by decide +kernel
theorem dX4_isLaw_9 : decode cX4_isLaw 9 = .ok (.if_icmp .ge 20, 3) := by decide +kernel
theorem dX4_isLaw_12 : decode cX4_isLaw 12 = .ok (.iload_n 1, 1) := by decide +kernel
theorem dX4_isLaw_13 : decode cX4_isLaw 13 = .ok (.aload_n 0, 1) := by decide +kernel
theorem dX4_isLaw_14 : decode cX4_isLaw 14 = .ok (.getfield 11, 3) := by decide +kernel
theorem dX4_isLaw_17 : decode cX4_isLaw 17 = .ok (.iload_n 2, 1) := by decide +kernel
theorem dX4_isLaw_18 : decode cX4_isLaw 18 = .ok (.iaload, 1) := by decide +kernel
theorem dX4_isLaw_19 : decode cX4_isLaw 19 = .ok (.invokestatic 27, 3) := by decide +kernel
theorem dX4_isLaw_22 : decode cX4_isLaw 22 = .ok (.istore_n 1, 1) := by decide +kernel
theorem dX4_isLaw_23 : decode cX4_isLaw 23 = .ok (.iinc 2 1, 3) := by decide +kernel
theorem dX4_isLaw_26 : decode cX4_isLaw 26 = .ok (.goto (-22), 3) := by decide +kernel
theorem dX4_isLaw_29 : decode cX4_isLaw 29 = .ok (.iload_n 1, 1) := by decide +kernel
theorem dX4_isLaw_30 : decode cX4_isLaw 30 = .ok (.iconst 2, 1) := by decide +kernel
theorem dX4_isLaw_31 : decode cX4_isLaw 31 = .ok (.if_icmp .lt 12, 3) := by decide +kernel
theorem dX4_isLaw_34 : decode cX4_isLaw 34 = .ok (.iload_n 1, 1) := by decide +kernel
theorem dX4_isLaw_35 : decode cX4_isLaw 35 = .ok (.iconst 5, 1) := by decide +kernel
theorem dX4_isLaw_36 : decode cX4_isLaw 36 = .ok (.if_icmp .eq 7, 3) := by decide +kernel
theorem dX4_isLaw_39 : decode cX4_isLaw 39 = .ok (.iconst 1, 1) := by decide +kernel
theorem dX4_isLaw_40 : decode cX4_isLaw 40 = .ok (.goto 4, 3) := by decide +kernel
theorem dX4_isLaw_43 : decode cX4_isLaw 43 = .ok (.iconst 0, 1) := by decide +kernel
theorem dX4_isLaw_44 : decode cX4_isLaw 44 = .ok (.ireturn, 1) := by decide +kernel
theorem dX4_stageBehind_0 : decode cX4_stageBehind 0 = .ok (.iload_n 0, 1) := by decide +kernel
theorem dX4_stageBehind_1 : decode cX4_stageBehind 1 = .ok (.iconst (-1), 1) := by decide +kernel
theorem dX4_stageBehind_2 : decode cX4_stageBehind 2 = .ok (.if_icmp .ne 5, 3) := by decide +kernel
theorem dX4_stageBehind_5 : decode cX4_stageBehind 5 = .ok (.iconst (-1), 1) := by decide +kernel
theorem dX4_stageBehind_6 : decode cX4_stageBehind 6 = .ok (.ireturn, 1) := by decide +kernel
theorem dX4_stageBehind_7 : decode cX4_stageBehind 7 = .ok (.iload_n 0, 1) := by decide +kernel
theorem dX4_stageBehind_8 : decode cX4_stageBehind 8 = .ok (.ifCond .ne 33, 3) := by decide +kernel
theorem dX4_stageBehind_11 : decode cX4_stageBehind 11 = .ok (.iload_n 1, 1) := by decide +kernel
theorem dX4_stageBehind_12 : decode cX4_stageBehind 12 = .ok (.bipush 100, 2) := by decide +kernel
theorem dX4_stageBehind_14 : decode cX4_stageBehind 14 = .ok (.if_icmp .eq 21, 3) := by decide +kernel
theorem dX4_stageBehind_17 : decode cX4_stageBehind 17 = .ok (.iload_n 1, 1) := by decide +kernel
theorem dX4_stageBehind_18 : decode cX4_stageBehind 18 = .ok (.bipush 101, 2) := by decide +kernel
theorem dX4_stageBehind_20 : decode cX4_stageBehind 20 = .ok (.if_icmp .eq 15, 3) := by decide +kernel
theorem dX4_stageBehind_23 : decode cX4_stageBehind 23 = .ok (.iload_n 1, 1) := by decide +kernel
theorem dX4_stageBehind_24 : decode cX4_stageBehind 24 = .ok (.bipush 110, 2) := by decide +kernel
theorem dX4_stageBehind_26 : decode cX4_stageBehind 26 = .ok (.if_icmp .eq 9, 3) := by decide +kernel
theorem dX4_stageBehind_29 : decode cX4_stageBehind 29 = .ok (.iload_n 1, 1) := by decide +kernel
theorem dX4_stageBehind_30 : decode cX4_stageBehind 30 = .ok (.bipush 98, 2) := by decide +kernel
theorem dX4_stageBehind_32 : decode cX4_stageBehind 32 = .ok (.if_icmp .ne 7, 3) := by decide +kernel
theorem dX4_stageBehind_35 : decode cX4_stageBehind 35 = .ok (.iconst 1, 1) := by decide +kernel
theorem dX4_stageBehind_36 : decode cX4_stageBehind 36 = .ok (.goto 4, 3) := by decide +kernel
theorem dX4_stageBehind_39 : decode cX4_stageBehind 39 = .ok (.iconst (-1), 1) := by decide +kernel
theorem dX4_stageBehind_40 : decode cX4_stageBehind 40 = .ok (.ireturn, 1) := by decide +kernel
theorem dX4_stageBehind_41 : decode cX4_stageBehind 41 = .ok (.iload_n 0, 1) := by decide +kernel
theorem dX4_stageBehind_42 : decode cX4_stageBehind 42 = .ok (.iconst 1, 1) := by decide +kernel
theorem dX4_stageBehind_43 : decode cX4_stageBehind 43 = .ok (.if_icmp .ne 27, 3) := by decide +kernel
theorem dX4_stageBehind_46 : decode cX4_stageBehind 46 = .ok (.iload_n 1, 1) := by decide +kernel
theorem dX4_stageBehind_47 : decode cX4_stageBehind 47 = .ok (.bipush 97, 2) := by decide +kernel
theorem dX4_stageBehind_49 : decode cX4_stageBehind 49 = .ok (.if_icmp .eq 15, 3) := by decide +kernel
theorem dX4_stageBehind_52 : decode cX4_stageBehind 52 = .ok (.iload_n 1, 1) := by decide +kernel
theorem dX4_stageBehind_53 : decode cX4_stageBehind 53 = .ok (.bipush 99, 2) := by decide +kernel
theorem dX4_stageBehind_55 : decode cX4_stageBehind 55 = .ok (.if_icmp .eq 9, 3) := by decide +kernel
theorem dX4_stageBehind_58 : decode cX4_stageBehind 58 = .ok (.iload_n 1, 1) := by decide +kernel
theorem dX4_stageBehind_59 : decode cX4_stageBehind 59 = .ok (.bipush 120, 2) := by decide +kernel
theorem dX4_stageBehind_61 : decode cX4_stageBehind 61 = .ok (.if_icmp .ne 7, 3) := by decide +kernel
theorem dX4_stageBehind_64 : decode cX4_stageBehind 64 = .ok (.iconst 2, 1) := by decide +kernel
theorem dX4_stageBehind_65 : decode cX4_stageBehind 65 = .ok (.goto 4, 3) := by decide +kernel
theorem dX4_stageBehind_68 : decode cX4_stageBehind 68 = .ok (.iconst (-1), 1) := by decide +kernel
theorem dX4_stageBehind_69 : decode cX4_stageBehind 69 = .ok (.ireturn, 1) := by decide +kernel
theorem dX4_stageBehind_70 : decode cX4_stageBehind 70 = .ok (.iload_n 0, 1) := by decide +kernel
theorem dX4_stageBehind_71 : decode cX4_stageBehind 71 = .ok (.iconst 5, 1) := by decide +kernel
theorem dX4_stageBehind_72 : decode cX4_stageBehind 72 = .ok (.if_icmp .lt 29, 3) := by decide +kernel
theorem dX4_stageBehind_75 : decode cX4_stageBehind 75 = .ok (.iload_n 0, 1) := by decide +kernel
theorem dX4_stageBehind_76 : decode cX4_stageBehind 76 = .ok (.bipush 8, 2) := by decide +kernel
theorem dX4_stageBehind_78 : decode cX4_stageBehind 78 = .ok (.if_icmp .ge 21, 3) := by decide +kernel
theorem dX4_stageBehind_81 : decode cX4_stageBehind 81 = .ok (.iload_n 1, 1) := by decide +kernel
theorem dX4_stageBehind_82 : decode cX4_stageBehind 82 = .ok (.bipush 48, 2) := by decide +kernel
theorem dX4_stageBehind_84 : decode cX4_stageBehind 84 = .ok (.if_icmp .lt 15, 3) := by decide +kernel
theorem dX4_stageBehind_87 : decode cX4_stageBehind 87 = .ok (.iload_n 1, 1) := by decide +kernel
theorem dX4_stageBehind_88 : decode cX4_stageBehind 88 = .ok (.bipush 57, 2) := by decide +kernel
theorem dX4_stageBehind_90 : decode cX4_stageBehind 90 = .ok (.if_icmp .gt 9, 3) := by decide +kernel
theorem dX4_stageBehind_93 : decode cX4_stageBehind 93 = .ok (.iload_n 0, 1) := by decide +kernel
theorem dX4_stageBehind_94 : decode cX4_stageBehind 94 = .ok (.iconst 1, 1) := by decide +kernel
theorem dX4_stageBehind_95 : decode cX4_stageBehind 95 = .ok (.iadd, 1) := by decide +kernel
theorem dX4_stageBehind_96 : decode cX4_stageBehind 96 = .ok (.goto 4, 3) := by decide +kernel
theorem dX4_stageBehind_99 : decode cX4_stageBehind 99 = .ok (.iconst (-1), 1) := by decide +kernel
theorem dX4_stageBehind_100 : decode cX4_stageBehind 100 = .ok (.ireturn, 1) := by decide +kernel
theorem dX4_stageBehind_101 : decode cX4_stageBehind 101 = .ok (.iload_n 1, 1) := by decide +kernel
theorem dX4_stageBehind_102 : decode cX4_stageBehind 102 = .ok (.bipush 108, 2) := by decide +kernel
theorem dX4_stageBehind_104 : decode cX4_stageBehind 104 = .ok (.if_icmp .ne 10, 3) := by decide +kernel
theorem dX4_stageBehind_107 : decode cX4_stageBehind 107 = .ok (.iload_n 0, 1) := by decide +kernel
theorem dX4_stageBehind_108 : decode cX4_stageBehind 108 = .ok (.iconst 3, 1) := by decide +kernel
theorem dX4_stageBehind_109 : decode cX4_stageBehind 109 = .ok (.if_icmp .ge 5, 3) := by decide +kernel
theorem dX4_stageBehind_112 : decode cX4_stageBehind 112 = .ok (.iconst 3, 1) := by decide +kernel
theorem dX4_stageBehind_113 : decode cX4_stageBehind 113 = .ok (.ireturn, 1) := by decide +kernel
theorem dX4_stageBehind_114 : decode cX4_stageBehind 114 = .ok (.iload_n 1, 1) := by decide +kernel
theorem dX4_stageBehind_115 : decode cX4_stageBehind 115 = .ok (.bipush 103, 2) := by decide +kernel
theorem dX4_stageBehind_117 : decode cX4_stageBehind 117 = .ok (.if_icmp .ne 10, 3) := by decide +kernel
theorem dX4_stageBehind_120 : decode cX4_stageBehind 120 = .ok (.iload_n 0, 1) := by decide +kernel
theorem dX4_stageBehind_121 : decode cX4_stageBehind 121 = .ok (.iconst 4, 1) := by decide +kernel
theorem dX4_stageBehind_122 : decode cX4_stageBehind 122 = .ok (.if_icmp .ge 5, 3) := by decide +kernel
theorem dX4_stageBehind_125 : decode cX4_stageBehind 125 = .ok (.iconst 4, 1) := by decide +kernel
theorem dX4_stageBehind_126 : decode cX4_stageBehind 126 = .ok (.ireturn, 1) := by decide +kernel
theorem dX4_stageBehind_127 : decode cX4_stageBehind 127 = .ok (.iload_n 1, 1) := by decide +kernel
theorem dX4_stageBehind_128 : decode cX4_stageBehind 128 = .ok (.bipush 104, 2) := by decide +kernel
theorem dX4_stageBehind_130 : decode cX4_stageBehind 130 = .ok (.if_icmp .ne 7, 3) := by decide +kernel
theorem dX4_stageBehind_133 : decode cX4_stageBehind 133 = .ok (.iconst 5, 1) := by decide +kernel
theorem dX4_stageBehind_134 : decode cX4_stageBehind 134 = .ok (.goto 4, 3) := by decide +kernel
theorem dX4_stageBehind_137 : decode cX4_stageBehind 137 = .ok (.iconst (-1), 1) := by decide +kernel
theorem dX4_stageBehind_138 : decode cX4_stageBehind 138 = .ok (.ireturn, 1) := by decide +kernel
theorem dX4_readInto_0 : decode cX4_readInto 0 = .ok (.iconst 0, 1) := by decide +kernel
theorem dX4_readInto_1 : decode cX4_readInto 1 = .ok (.istore_n 2, 1) := by decide +kernel
theorem dX4_readInto_2 : decode cX4_readInto 2 = .ok (.iload_n 2, 1) := by decide +kernel
theorem dX4_readInto_3 : decode cX4_readInto 3 = .ok (.aload_n 0, 1) := by decide +kernel
theorem dX4_readInto_4 : decode cX4_readInto 4 = .ok (.getfield 19, 3) := by decide +kernel
theorem dX4_readInto_7 : decode cX4_readInto 7 = .ok (.if_icmp .ge 20, 3) := by decide +kernel
theorem dX4_readInto_10 : decode cX4_readInto 10 = .ok (.aload_n 1, 1) := by decide +kernel
theorem dX4_readInto_11 : decode cX4_readInto 11 = .ok (.iload_n 2, 1) := by decide +kernel
theorem dX4_readInto_12 : decode cX4_readInto 12 = .ok (.aload_n 0, 1) := by decide +kernel
theorem dX4_readInto_13 : decode cX4_readInto 13 = .ok (.getfield 11, 3) := by decide +kernel
theorem dX4_readInto_16 : decode cX4_readInto 16 = .ok (.iload_n 2, 1) := by decide +kernel
theorem dX4_readInto_17 : decode cX4_readInto 17 = .ok (.iaload, 1) := by decide +kernel
theorem dX4_readInto_18 : decode cX4_readInto 18 = .ok (.invokevirtual 31, 3) := by decide +kernel
theorem dX4_readInto_21 : decode cX4_readInto 21 = .ok (.iinc 2 1, 3) := by decide +kernel
theorem dX4_readInto_24 : decode cX4_readInto 24 = .ok (.goto (-22), 3) := by decide +kernel
theorem dX4_readInto_27 : decode cX4_readInto 27 = .ok (.return_, 1) := by decide +kernel
theorem dX5_init_0 : decode cX5_init 0 = .ok (.aload_n 0, 1) := by decide +kernel
theorem dX5_init_1 : decode cX5_init 1 = .ok (.invokespecial 3, 3) := by decide +kernel
theorem dX5_init_4 : decode cX5_init 4 = .ok (.aload_n 0, 1) := by decide +kernel
theorem dX5_init_5 : decode cX5_init 5 = .ok (.aload_n 1, 1) := by decide +kernel
theorem dX5_init_6 : decode cX5_init 6 = .ok (.putfield 9, 3) := by decide +kernel
theorem dX5_init_9 : decode cX5_init 9 = .ok (.return_, 1) := by decide +kernel
theorem dX5_run_0 : decode cX5_run 0 = .ok (.aload_n 0, 1) := by decide +kernel
theorem dX5_run_1 : decode cX5_run 1 = .ok (.aload_n 0, 1) := by decide +kernel
theorem dX5_run_2 : decode cX5_run 2 = .ok (.getfield 9, 3) := by decide +kernel
theorem dX5_run_5 : decode cX5_run 5 = .ok (.iload_n 1, 1) := by decide +kernel
theorem dX5_run_6 : decode cX5_run 6 = .ok (.invokevirtual 15, 3) := by decide +kernel
theorem dX5_run_9 : decode cX5_run 9 = .ok (.putfield 21, 3) := by decide +kernel
theorem dX5_run_12 : decode cX5_run 12 = .ok (.aload_n 0, 1) := by decide +kernel
theorem dX5_run_13 : decode cX5_run 13 = .ok (.iconst 0, 1) := by decide +kernel
theorem dX5_run_14 : decode cX5_run 14 = .ok (.putfield 24, 3) := by decide +kernel
theorem dX5_run_17 : decode cX5_run 17 = .ok (.aload_n 0, 1) := by decide +kernel
theorem dX5_run_18 : decode cX5_run 18 = .ok (.iconst 0, 1) := by decide +kernel
theorem dX5_run_19 : decode cX5_run 19 = .ok (.putfield 27, 3) := by decide +kernel
theorem dX5_run_22 : decode cX5_run 22 = .ok (.aload_n 0, 1) := by decide +kernel
theorem dX5_run_23 : decode cX5_run 23 = .ok (.iload_n 2, 1) := by decide +kernel
theorem dX5_run_24 : decode cX5_run 24 = .ok (.putfield 30, 3) := by decide +kernel
theorem dX5_run_27 : decode cX5_run 27 = .ok (.aload_n 0, 1) := by decide +kernel
theorem dX5_run_28 : decode cX5_run 28 = .ok (.getfield 21, 3) := by decide +kernel
theorem dX5_run_31 : decode cX5_run 31 = .ok (.istore 4, 2) := by decide +kernel
theorem dX5_run_33 : decode cX5_run 33 = .ok (.iload_n 3, 1) := by decide +kernel
theorem dX5_run_34 : decode cX5_run 34 = .ok (.istore 5, 2) := by decide +kernel
theorem dX5_run_36 : decode cX5_run 36 = .ok (.iconst 0, 1) := by decide +kernel
theorem dX5_run_37 : decode cX5_run 37 = .ok (.istore 6, 2) := by decide +kernel
theorem dX5_run_39 : decode cX5_run 39 = .ok (.iload 6, 2) := by decide +kernel
theorem dX5_run_41 : decode cX5_run 41 = .ok (.bipush 16, 2) := by decide +kernel
theorem dX5_run_43 : decode cX5_run 43 = .ok (.if_icmp .gt 101, 3) := by decide +kernel
theorem dX5_run_46 : decode cX5_run 46 = .ok (.aload_n 0, 1) := by decide +kernel
theorem dX5_run_47 : decode cX5_run 47 = .ok (.iload 4, 2) := by decide +kernel
theorem dX5_run_49 : decode cX5_run 49 = .ok (.iload_n 3, 1) := by decide +kernel
theorem dX5_run_50 : decode cX5_run 50 = .ok (.invokevirtual 33, 3) := by decide +kernel
theorem dX5_run_53 : decode cX5_run 53 = .ok (.istore 7, 2) := by decide +kernel
theorem dX5_run_55 : decode cX5_run 55 = .ok (.iload 7, 2) := by decide +kernel
theorem dX5_run_57 : decode cX5_run 57 = .ok (.iconst (-1), 1) := by decide +kernel
theorem dX5_run_58 : decode cX5_run 58 = .ok (.if_icmp .ne 7, 3) := by decide +kernel
theorem dX5_run_61 : decode cX5_run 61 = .ok (.iconst 0, 1) := by decide +kernel
theorem dX5_run_62 : decode cX5_run 62 = .ok (.goto 16, 3) := by decide +kernel
theorem dX5_run_65 : decode cX5_run 65 = .ok (.aload_n 0, 1) := by decide +kernel
theorem dX5_run_66 : decode cX5_run 66 = .ok (.getfield 9, 3) := by decide +kernel
theorem dX5_run_69 : decode cX5_run 69 = .ok (.getfield 37, 3) := by decide +kernel
theorem dX5_run_72 : decode cX5_run 72 = .ok (.iload 7, 2) := by decide +kernel
theorem dX5_run_74 : decode cX5_run 74 = .ok (.aaload, 1) := by decide +kernel
theorem dX5_run_75 : decode cX5_run 75 = .ok (.getfield 41, 3) := by decide +kernel
theorem dX5_run_78 : decode cX5_run 78 = .ok (.istore 8, 2) := by decide +kernel
theorem dX5_run_80 : decode cX5_run 80 = .ok (.aload_n 0, 1) := by decide +kernel
theorem dX5_run_81 : decode cX5_run 81 = .ok (.iload 8, 2) := by decide +kernel
theorem dX5_run_83 : decode cX5_run 83 = .ok (.iload 5, 2) := by decide +kernel
theorem dX5_run_85 : decode cX5_run 85 = .ok (.invokevirtual 46, 3) := by decide +kernel
theorem dX5_run_88 : decode cX5_run 88 = .ok (.iload 7, 2) := by decide +kernel
theorem dX5_run_90 : decode cX5_run 90 = .ok (.iconst (-1), 1) := by decide +kernel
theorem dX5_run_91 : decode cX5_run 91 = .ok (.if_icmp .ne 4, 3) := by decide +kernel
theorem dX5_run_94 : decode cX5_run 94 = .ok (.return_, 1) := by decide +kernel
theorem dX5_run_95 : decode cX5_run 95 = .ok (.iload 4, 2) := by decide +kernel
theorem dX5_run_97 : decode cX5_run 97 = .ok (.iload 7, 2) := by decide +kernel
theorem dX5_run_99 : decode cX5_run 99 = .ok (.invokestatic 50, 3) := by decide +kernel
theorem dX5_run_102 : decode cX5_run 102 = .ok (.iconst (-1), 1) := by decide +kernel
theorem dX5_run_103 : decode cX5_run 103 = .ok (.ixor, 1) := by decide +kernel
theorem dX5_run_104 : decode cX5_run 104 = .ok (.iand, 1) := by decide +kernel
theorem dX5_run_105 : decode cX5_run 105 = .ok (.istore 4, 2) := by decide +kernel
theorem dX5_run_107 : decode cX5_run 107 = .ok (.aload_n 0, 1) := by decide +kernel
theorem dX5_run_108 : decode cX5_run 108 = .ok (.dup, 1) := by decide +kernel
theorem dX5_run_109 : decode cX5_run 109 = .ok (.getfield 27, 3) := by decide +kernel
theorem dX5_run_112 : decode cX5_run 112 = .ok (.iconst 1, 1) := by decide +kernel
theorem dX5_run_113 : decode cX5_run 113 = .ok (.iadd, 1) := by decide +kernel
theorem dX5_run_114 : decode cX5_run 114 = .ok (.putfield 27, 3) := by decide +kernel
theorem dX5_run_117 : decode cX5_run 117 = .ok (.iload 8, 2) := by decide +kernel
theorem dX5_run_119 : decode cX5_run 119 = .ok (.istore 5, 2) := by decide +kernel
theorem dX5_run_121 : decode cX5_run 121 = .ok (.aload_n 0, 1) := by decide +kernel
theorem dX5_run_122 : decode cX5_run 122 = .ok (.aload_n 0, 1) := by decide +kernel
theorem dX5_run_123 : decode cX5_run 123 = .ok (.getfield 9, 3) := by decide +kernel
theorem dX5_run_126 : decode cX5_run 126 = .ok (.getfield 37, 3) := by decide +kernel
theorem dX5_run_129 : decode cX5_run 129 = .ok (.iload 7, 2) := by decide +kernel
theorem dX5_run_131 : decode cX5_run 131 = .ok (.aaload, 1) := by decide +kernel
theorem dX5_run_132 : decode cX5_run 132 = .ok (.getfield 53, 3) := by decide +kernel
theorem dX5_run_135 : decode cX5_run 135 = .ok (.putfield 30, 3) := by decide +kernel
theorem dX5_run_138 : decode cX5_run 138 = .ok (.iinc 6 1, 3) := by decide +kernel
theorem dX5_run_141 : decode cX5_run 141 = .ok (.goto (-102), 3) := by decide +kernel
theorem dX5_run_144 : decode cX5_run 144 = .ok (.return_, 1) := by decide +kernel
theorem dX5_lastTo_0 : decode cX5_lastTo 0 = .ok (.iconst (-1), 1) := by decide +kernel
theorem dX5_lastTo_1 : decode cX5_lastTo 1 = .ok (.istore_n 3, 1) := by decide +kernel
theorem dX5_lastTo_2 : decode cX5_lastTo 2 = .ok (.iconst (-1), 1) := by decide +kernel
theorem dX5_lastTo_3 : decode cX5_lastTo 3 = .ok (.istore 4, 2) := by decide +kernel
theorem dX5_lastTo_5 : decode cX5_lastTo 5 = .ok (.iconst 0, 1) := by decide +kernel
theorem dX5_lastTo_6 : decode cX5_lastTo 6 = .ok (.istore 5, 2) := by decide +kernel
theorem dX5_lastTo_8 : decode cX5_lastTo 8 = .ok (.iload 5, 2) := by decide +kernel
theorem dX5_lastTo_10 : decode cX5_lastTo 10 = .ok (.aload_n 0, 1) := by decide +kernel
theorem dX5_lastTo_11 : decode cX5_lastTo 11 = .ok (.getfield 9, 3) := by decide +kernel
theorem dX5_lastTo_14 : decode cX5_lastTo 14 = .ok (.getfield 56, 3) := by decide +kernel
theorem dX5_lastTo_17 : decode cX5_lastTo 17 = .ok (.if_icmp .ge 79, 3) := by decide +kernel
theorem dX5_lastTo_20 : decode cX5_lastTo 20 = .ok (.aload_n 0, 1) := by decide +kernel
theorem dX5_lastTo_21 : decode cX5_lastTo 21 = .ok (.getfield 9, 3) := by decide +kernel
theorem dX5_lastTo_24 : decode cX5_lastTo 24 = .ok (.getfield 37, 3) := by decide +kernel
theorem dX5_lastTo_27 : decode cX5_lastTo 27 = .ok (.iload 5, 2) := by decide +kernel
theorem dX5_lastTo_29 : decode cX5_lastTo 29 = .ok (.aaload, 1) := by decide +kernel
theorem dX5_lastTo_30 : decode cX5_lastTo 30 = .ok (.astore 6, 2) := by decide +kernel
theorem dX5_lastTo_32 : decode cX5_lastTo 32 = .ok (.iload_n 1, 1) := by decide +kernel
theorem dX5_lastTo_33 : decode cX5_lastTo 33 = .ok (.iload 5, 2) := by decide +kernel
theorem dX5_lastTo_35 : decode cX5_lastTo 35 = .ok (.invokestatic 59, 3) := by decide +kernel
theorem dX5_lastTo_38 : decode cX5_lastTo 38 = .ok (.ifCond .eq 52, 3) := by decide +kernel
theorem dX5_lastTo_41 : decode cX5_lastTo 41 = .ok (.aload 6, 2) := by decide +kernel
theorem dX5_lastTo_43 : decode cX5_lastTo 43 = .ok (.invokevirtual 63, 3) := by decide +kernel
theorem dX5_lastTo_46 : decode cX5_lastTo 46 = .ok (.ifCond .eq 44, 3) := by decide +kernel
theorem dX5_lastTo_49 : decode cX5_lastTo 49 = .ok (.aload 6, 2) := by decide +kernel
theorem dX5_lastTo_51 : decode cX5_lastTo 51 = .ok (.getfield 67, 3) := by decide +kernel
theorem dX5_lastTo_54 : decode cX5_lastTo 54 = .ok (.aload_n 0, 1) := by decide +kernel
theorem dX5_lastTo_55 : decode cX5_lastTo 55 = .ok (.getfield 30, 3) := by decide +kernel
theorem dX5_lastTo_58 : decode cX5_lastTo 58 = .ok (.if_icmp .ne 32, 3) := by decide +kernel
theorem dX5_lastTo_61 : decode cX5_lastTo 61 = .ok (.aload 6, 2) := by decide +kernel
theorem dX5_lastTo_63 : decode cX5_lastTo 63 = .ok (.getfield 41, 3) := by decide +kernel
theorem dX5_lastTo_66 : decode cX5_lastTo 66 = .ok (.iload_n 2, 1) := by decide +kernel
theorem dX5_lastTo_67 : decode cX5_lastTo 67 = .ok (.if_icmp .gt 23, 3) := by decide +kernel
theorem dX5_lastTo_70 : decode cX5_lastTo 70 = .ok (.aload 6, 2) := by decide +kernel
theorem dX5_lastTo_72 : decode cX5_lastTo 72 = .ok (.getfield 41, 3) := by decide +kernel
theorem dX5_lastTo_75 : decode cX5_lastTo 75 = .ok (.iload 4, 2) := by decide +kernel
theorem dX5_lastTo_77 : decode cX5_lastTo 77 = .ok (.if_icmp .lt 13, 3) := by decide +kernel
theorem dX5_lastTo_80 : decode cX5_lastTo 80 = .ok (.iload 5, 2) := by decide +kernel
theorem dX5_lastTo_82 : decode cX5_lastTo 82 = .ok (.istore_n 3, 1) := by decide +kernel
theorem dX5_lastTo_83 : decode cX5_lastTo 83 = .ok (.aload 6, 2) := by decide +kernel
theorem dX5_lastTo_85 : decode cX5_lastTo 85 = .ok (.getfield 41, 3) := by decide +kernel
theorem dX5_lastTo_88 : decode cX5_lastTo 88 = .ok (.istore 4, 2) := by decide +kernel
theorem dX5_lastTo_90 : decode cX5_lastTo 90 = .ok (.iinc 5 1, 3) := by decide +kernel
theorem dX5_lastTo_93 : decode cX5_lastTo 93 = .ok (.goto (-85), 3) := by decide +kernel
theorem dX5_lastTo_96 : decode cX5_lastTo 96 = .ok (.iload_n 3, 1) := by decide +kernel
theorem dX5_lastTo_97 : decode cX5_lastTo 97 = .ok (.ireturn, 1) := by decide +kernel
theorem dX5_gather_0 : decode cX5_gather 0 = .ok (.iconst 0, 1) := by decide +kernel
theorem dX5_gather_1 : decode cX5_gather 1 = .ok (.istore_n 3, 1) := by decide +kernel
theorem dX5_gather_2 : decode cX5_gather 2 = .ok (.iload_n 3, 1) := by decide +kernel
theorem dX5_gather_3 : decode cX5_gather 3 = .ok (.aload_n 0, 1) := by decide +kernel
theorem dX5_gather_4 : decode cX5_gather 4 = .ok (.getfield 9, 3) := by decide +kernel
theorem dX5_gather_7 : decode cX5_gather 7 = .ok (.getfield 56, 3) := by decide +kernel
theorem dX5_gather_10 : decode cX5_gather 10 = .ok (.if_icmp .ge 74, 3) := by decide +kernel
theorem dX5_gather_13 : decode cX5_gather 13 = .ok (.aload_n 0, 1) := by decide +kernel
theorem dX5_gather_14 : decode cX5_gather 14 = .ok (.getfield 9, 3) := by decide +kernel
theorem dX5_gather_17 : decode cX5_gather 17 = .ok (.getfield 37, 3) := by decide +kernel
theorem dX5_gather_20 : decode cX5_gather 20 = .ok (.iload_n 3, 1) := by decide +kernel
theorem dX5_gather_21 : decode cX5_gather 21 = .ok (.aaload, 1) := by decide +kernel
theorem dX5_gather_22 : decode cX5_gather 22 = .ok (.astore 4, 2) := by decide +kernel
theorem dX5_gather_24 : decode cX5_gather 24 = .ok (.aload_n 0, 1) := by decide +kernel
theorem dX5_gather_25 : decode cX5_gather 25 = .ok (.getfield 21, 3) := by decide +kernel
theorem dX5_gather_28 : decode cX5_gather 28 = .ok (.iload_n 3, 1) := by decide +kernel
theorem dX5_gather_29 : decode cX5_gather 29 = .ok (.invokestatic 59, 3) := by decide +kernel
theorem dX5_gather_32 : decode cX5_gather 32 = .ok (.ifCond .eq 46, 3) := by decide +kernel
theorem dX5_gather_35 : decode cX5_gather 35 = .ok (.aload 4, 2) := by decide +kernel
theorem dX5_gather_37 : decode cX5_gather 37 = .ok (.getfield 53, 3) := by decide +kernel
theorem dX5_gather_40 : decode cX5_gather 40 = .ok (.aload_n 0, 1) := by decide +kernel
theorem dX5_gather_41 : decode cX5_gather 41 = .ok (.getfield 30, 3) := by decide +kernel
theorem dX5_gather_44 : decode cX5_gather 44 = .ok (.if_icmp .ne 34, 3) := by decide +kernel
theorem dX5_gather_47 : decode cX5_gather 47 = .ok (.aload 4, 2) := by decide +kernel
theorem dX5_gather_49 : decode cX5_gather 49 = .ok (.getfield 41, 3) := by decide +kernel
theorem dX5_gather_52 : decode cX5_gather 52 = .ok (.iload_n 1, 1) := by decide +kernel
theorem dX5_gather_53 : decode cX5_gather 53 = .ok (.if_icmp .lt 25, 3) := by decide +kernel
theorem dX5_gather_56 : decode cX5_gather 56 = .ok (.aload 4, 2) := by decide +kernel
theorem dX5_gather_58 : decode cX5_gather 58 = .ok (.getfield 41, 3) := by decide +kernel
theorem dX5_gather_61 : decode cX5_gather 61 = .ok (.iload_n 2, 1) := by decide +kernel
theorem dX5_gather_62 : decode cX5_gather 62 = .ok (.if_icmp .gt 16, 3) := by decide +kernel
theorem dX5_gather_65 : decode cX5_gather 65 = .ok (.aload_n 0, 1) := by decide +kernel
theorem dX5_gather_66 : decode cX5_gather 66 = .ok (.dup, 1) := by decide +kernel
theorem dX5_gather_67 : decode cX5_gather 67 = .ok (.getfield 24, 3) := by decide +kernel
theorem dX5_gather_70 : decode cX5_gather 70 = .ok (.iload_n 3, 1) := by decide +kernel
theorem dX5_gather_71 : decode cX5_gather 71 = .ok (.invokestatic 50, 3) := by decide +kernel
theorem dX5_gather_74 : decode cX5_gather 74 = .ok (.ior, 1) := by decide +kernel
theorem dX5_gather_75 : decode cX5_gather 75 = .ok (.putfield 24, 3) := by decide +kernel
theorem dX5_gather_78 : decode cX5_gather 78 = .ok (.iinc 3 1, 3) := by decide +kernel
theorem dX5_gather_81 : decode cX5_gather 81 = .ok (.goto (-79), 3) := by decide +kernel
theorem dX5_gather_84 : decode cX5_gather 84 = .ok (.return_, 1) := by decide +kernel
theorem dX6_init_0 : decode cX6_init 0 = .ok (.aload_n 0, 1) := by decide +kernel
theorem dX6_init_1 : decode cX6_init 1 = .ok (.invokespecial 3, 3) := by decide +kernel
theorem dX6_init_4 : decode cX6_init 4 = .ok (.aload_n 0, 1) := by decide +kernel
theorem dX6_init_5 : decode cX6_init 5 = .ok (.aload_n 1, 1) := by decide +kernel
theorem dX6_init_6 : decode cX6_init 6 = .ok (.putfield 9, 3) := by decide +kernel
theorem dX6_init_9 : decode cX6_init 9 = .ok (.aload_n 0, 1) := by decide +kernel
theorem dX6_init_10 : decode cX6_init 10 = .ok (.aload_n 2, 1) := by decide +kernel
theorem dX6_init_11 : decode cX6_init 11 = .ok (.putfield 15, 3) := by decide +kernel
theorem dX6_init_14 : decode cX6_init 14 = .ok (.aload_n 0, 1) := by decide +kernel
theorem dX6_init_15 : decode cX6_init 15 = .ok (.bipush 16, 2) := by decide +kernel
theorem dX6_init_17 : decode cX6_init 17 = .ok (.newarray .int, 2) := by decide +kernel
theorem dX6_init_19 : decode cX6_init 19 = .ok (.putfield 19, 3) := by decide +kernel
theorem dX6_init_22 : decode cX6_init 22 = .ok (.return_, 1) := by decide +kernel
theorem dX6_follow_0 : decode cX6_follow 0 = .ok (.aload_n 0, 1) := by decide +kernel
theorem dX6_follow_1 : decode cX6_follow 1 = .ok (.iload_n 1, 1) := by decide +kernel
theorem dX6_follow_2 : decode cX6_follow 2 = .ok (.putfield 23, 3) := by decide +kernel
theorem dX6_follow_5 : decode cX6_follow 5 = .ok (.aload_n 0, 1) := by decide +kernel
theorem dX6_follow_6 : decode cX6_follow 6 = .ok (.iload_n 1, 1) := by decide +kernel
theorem dX6_follow_7 : decode cX6_follow 7 = .ok (.invokestatic 27, 3) := by decide +kernel
theorem dX6_follow_10 : decode cX6_follow 10 = .ok (.putfield 31, 3) := by decide +kernel
theorem dX6_follow_13 : decode cX6_follow 13 = .ok (.aload_n 0, 1) := by decide +kernel
theorem dX6_follow_14 : decode cX6_follow 14 = .ok (.iconst 0, 1) := by decide +kernel
theorem dX6_follow_15 : decode cX6_follow 15 = .ok (.putfield 34, 3) := by decide +kernel
theorem dX6_follow_18 : decode cX6_follow 18 = .ok (.aload_n 0, 1) := by decide +kernel
theorem dX6_follow_19 : decode cX6_follow 19 = .ok (.iconst 0, 1) := by decide +kernel
theorem dX6_follow_20 : decode cX6_follow 20 = .ok (.putfield 37, 3) := by decide +kernel
theorem dX6_follow_23 : decode cX6_follow 23 = .ok (.iconst 0, 1) := by decide +kernel
theorem dX6_follow_24 : decode cX6_follow 24 = .ok (.istore_n 2, 1) := by decide +kernel
theorem dX6_follow_25 : decode cX6_follow 25 = .ok (.iload_n 2, 1) := by decide +kernel
theorem dX6_follow_26 : decode cX6_follow 26 = .ok (.bipush 16, 2) := by decide +kernel
theorem dX6_follow_28 : decode cX6_follow 28 = .ok (.if_icmp .ge 103, 3) := by decide +kernel
theorem dX6_follow_31 : decode cX6_follow 31 = .ok (.aload_n 0, 1) := by decide +kernel
theorem dX6_follow_32 : decode cX6_follow 32 = .ok (.getfield 15, 3) := by decide +kernel
theorem dX6_follow_35 : decode cX6_follow 35 = .ok (.aload_n 0, 1) := by decide +kernel
theorem dX6_follow_36 : decode cX6_follow 36 = .ok (.getfield 15, 3) := by decide +kernel
theorem dX6_follow_39 : decode cX6_follow 39 = .ok (.aload_n 0, 1) := by decide +kernel
theorem dX6_follow_40 : decode cX6_follow 40 = .ok (.getfield 23, 3) := by decide +kernel
theorem dX6_follow_43 : decode cX6_follow 43 = .ok (.invokevirtual 40, 3) := by decide +kernel
theorem dX6_follow_46 : decode cX6_follow 46 = .ok (.aload_n 0, 1) := by decide +kernel
theorem dX6_follow_47 : decode cX6_follow 47 = .ok (.getfield 34, 3) := by decide +kernel
theorem dX6_follow_50 : decode cX6_follow 50 = .ok (.iconst (-1), 1) := by decide +kernel
theorem dX6_follow_51 : decode cX6_follow 51 = .ok (.ixor, 1) := by decide +kernel
theorem dX6_follow_52 : decode cX6_follow 52 = .ok (.iand, 1) := by decide +kernel
theorem dX6_follow_53 : decode cX6_follow 53 = .ok (.invokevirtual 45, 3) := by decide +kernel
theorem dX6_follow_56 : decode cX6_follow 56 = .ok (.istore_n 3, 1) := by decide +kernel
theorem dX6_follow_57 : decode cX6_follow 57 = .ok (.iload_n 3, 1) := by decide +kernel
theorem dX6_follow_58 : decode cX6_follow 58 = .ok (.iconst (-1), 1) := by decide +kernel
theorem dX6_follow_59 : decode cX6_follow 59 = .ok (.if_icmp .ne 4, 3) := by decide +kernel
theorem dX6_follow_62 : decode cX6_follow 62 = .ok (.return_, 1) := by decide +kernel
theorem dX6_follow_63 : decode cX6_follow 63 = .ok (.aload_n 0, 1) := by decide +kernel
theorem dX6_follow_64 : decode cX6_follow 64 = .ok (.getfield 19, 3) := by decide +kernel
theorem dX6_follow_67 : decode cX6_follow 67 = .ok (.iload_n 2, 1) := by decide +kernel
theorem dX6_follow_68 : decode cX6_follow 68 = .ok (.iload_n 3, 1) := by decide +kernel
theorem dX6_follow_69 : decode cX6_follow 69 = .ok (.iastore, 1) := by decide +kernel
theorem dX6_follow_70 : decode cX6_follow 70 = .ok (.aload_n 0, 1) := by decide +kernel
theorem dX6_follow_71 : decode cX6_follow 71 = .ok (.dup, 1) := by decide +kernel
theorem dX6_follow_72 : decode cX6_follow 72 = .ok (.getfield 37, 3) := by decide +kernel
theorem dX6_follow_75 : decode cX6_follow 75 = .ok (.iconst 1, 1) := by decide +kernel
theorem dX6_follow_76 : decode cX6_follow 76 = .ok (.iadd, 1) := by decide +kernel
theorem dX6_follow_77 : decode cX6_follow 77 = .ok (.putfield 37, 3) := by decide +kernel
theorem dX6_follow_80 : decode cX6_follow 80 = .ok (.aload_n 0, 1) := by decide +kernel
theorem dX6_follow_81 : decode cX6_follow 81 = .ok (.dup, 1) := by decide +kernel
theorem dX6_follow_82 : decode cX6_follow 82 = .ok (.getfield 34, 3) := by decide +kernel
theorem dX6_follow_85 : decode cX6_follow 85 = .ok (.iload_n 3, 1) := by decide +kernel
theorem dX6_follow_86 : decode cX6_follow 86 = .ok (.invokestatic 27, 3) := by decide +kernel
theorem dX6_follow_89 : decode cX6_follow 89 = .ok (.ior, 1) := by decide +kernel
theorem dX6_follow_90 : decode cX6_follow 90 = .ok (.putfield 34, 3) := by decide +kernel
theorem dX6_follow_93 : decode cX6_follow 93 = .ok (.aload_n 0, 1) := by decide +kernel
theorem dX6_follow_94 : decode cX6_follow 94 = .ok (.aload_n 0, 1) := by decide +kernel
theorem dX6_follow_95 : decode cX6_follow 95 = .ok (.getfield 9, 3) := by decide +kernel
theorem dX6_follow_98 : decode cX6_follow 98 = .ok (.getfield 48, 3) := by decide +kernel
theorem dX6_follow_101 : decode cX6_follow 101 = .ok (.iload_n 3, 1) := by decide +kernel
theorem dX6_follow_102 : decode cX6_follow 102 = .ok (.aaload, 1) := by decide +kernel
theorem dX6_follow_103 : decode cX6_follow 103 = .ok (.getfield 54, 3) := by decide +kernel
theorem dX6_follow_106 : decode cX6_follow 106 = .ok (.putfield 23, 3) := by decide +kernel
theorem dX6_follow_109 : decode cX6_follow 109 = .ok (.aload_n 0, 1) := by decide +kernel
theorem dX6_follow_110 : decode cX6_follow 110 = .ok (.dup, 1) := by decide +kernel
theorem dX6_follow_111 : decode cX6_follow 111 = .ok (.getfield 31, 3) := by decide +kernel
theorem dX6_follow_114 : decode cX6_follow 114 = .ok (.aload_n 0, 1) := by decide +kernel
theorem dX6_follow_115 : decode cX6_follow 115 = .ok (.getfield 23, 3) := by decide +kernel
theorem dX6_follow_118 : decode cX6_follow 118 = .ok (.invokestatic 27, 3) := by decide +kernel
theorem dX6_follow_121 : decode cX6_follow 121 = .ok (.ior, 1) := by decide +kernel
theorem dX6_follow_122 : decode cX6_follow 122 = .ok (.putfield 31, 3) := by decide +kernel
theorem dX6_follow_125 : decode cX6_follow 125 = .ok (.iinc 2 1, 3) := by decide +kernel
theorem dX6_follow_128 : decode cX6_follow 128 = .ok (.goto (-103), 3) := by decide +kernel
theorem dX6_follow_131 : decode cX6_follow 131 = .ok (.return_, 1) := by decide +kernel
theorem dX6_usedAt_0 : decode cX6_usedAt 0 = .ok (.iload_n 1, 1) := by decide +kernel
theorem dX6_usedAt_1 : decode cX6_usedAt 1 = .ok (.ifCond .lt 20, 3) := by decide +kernel
theorem dX6_usedAt_4 : decode cX6_usedAt 4 = .ok (.iload_n 1, 1) := by decide +kernel
theorem dX6_usedAt_5 : decode cX6_usedAt 5 = .ok (.aload_n 0, 1) := by decide +kernel
theorem dX6_usedAt_6 : decode cX6_usedAt 6 = .ok (.getfield 37, 3) := by decide +kernel
theorem dX6_usedAt_9 : decode cX6_usedAt 9 = .ok (.if_icmp .ge 12, 3) := by decide +kernel
theorem dX6_usedAt_12 : decode cX6_usedAt 12 = .ok (.aload_n 0, 1) := by decide +kernel
theorem dX6_usedAt_13 : decode cX6_usedAt 13 = .ok (.getfield 19, 3) := by decide +kernel
theorem dX6_usedAt_16 : decode cX6_usedAt 16 = .ok (.iload_n 1, 1) := by decide +kernel
theorem dX6_usedAt_17 : decode cX6_usedAt 17 = .ok (.iaload, 1) := by decide +kernel
theorem dX6_usedAt_18 : decode cX6_usedAt 18 = .ok (.goto 4, 3) := by decide +kernel
theorem dX6_usedAt_21 : decode cX6_usedAt 21 = .ok (.iconst (-1), 1) := by decide +kernel
theorem dX6_usedAt_22 : decode cX6_usedAt 22 = .ok (.ireturn, 1) := by decide +kernel
theorem dX6_riding_0 : decode cX6_riding 0 = .ok (.aload_n 0, 1) := by decide +kernel
theorem dX6_riding_1 : decode cX6_riding 1 = .ok (.getfield 15, 3) := by decide +kernel
theorem dX6_riding_4 : decode cX6_riding 4 = .ok (.invokevirtual 59, 3) := by decide +kernel
theorem dX6_riding_7 : decode cX6_riding 7 = .ok (.istore_n 1, 1) := by decide +kernel
theorem dX6_riding_8 : decode cX6_riding 8 = .ok (.iconst 0, 1) := by decide +kernel
theorem dX6_riding_9 : decode cX6_riding 9 = .ok (.istore_n 2, 1) := by decide +kernel
theorem dX6_riding_10 : decode cX6_riding 10 = .ok (.iconst 0, 1) := by decide +kernel
theorem dX6_riding_11 : decode cX6_riding 11 = .ok (.istore_n 3, 1) := by decide +kernel
theorem dX6_riding_12 : decode cX6_riding 12 = .ok (.iload_n 3, 1) := by decide +kernel
theorem dX6_riding_13 : decode cX6_riding 13 = .ok (.aload_n 0, 1) := by decide +kernel
theorem dX6_riding_14 : decode cX6_riding 14 = .ok (.getfield 9, 3) := by decide +kernel
theorem dX6_riding_17 : decode cX6_riding 17 = .ok (.getfield 63, 3) := by decide +kernel
theorem dX6_riding_20 : decode cX6_riding 20 = .ok (.if_icmp .ge 75, 3) := by decide +kernel
theorem dX6_riding_23 : decode cX6_riding 23 = .ok (.aload_n 0, 1) := by decide +kernel
theorem dX6_riding_24 : decode cX6_riding 24 = .ok (.getfield 9, 3) := by decide +kernel
theorem dX6_riding_27 : decode cX6_riding 27 = .ok (.getfield 48, 3) := by decide +kernel
theorem dX6_riding_30 : decode cX6_riding 30 = .ok (.iload_n 3, 1) := by decide +kernel
theorem dX6_riding_31 : decode cX6_riding 31 = .ok (.aaload, 1) := by decide +kernel
theorem dX6_riding_32 : decode cX6_riding 32 = .ok (.getfield 66, 3) := by decide +kernel
theorem dX6_riding_35 : decode cX6_riding 35 = .ok (.istore 4, 2) := by decide +kernel
theorem dX6_riding_37 : decode cX6_riding 37 = .ok (.iload_n 1, 1) := by decide +kernel
theorem dX6_riding_38 : decode cX6_riding 38 = .ok (.iload_n 3, 1) := by decide +kernel
theorem dX6_riding_39 : decode cX6_riding 39 = .ok (.invokestatic 69, 3) := by decide +kernel
theorem dX6_riding_42 : decode cX6_riding 42 = .ok (.ifCond .eq 47, 3) := by decide +kernel
theorem dX6_riding_45 : decode cX6_riding 45 = .ok (.aload_n 0, 1) := by decide +kernel
theorem dX6_riding_46 : decode cX6_riding 46 = .ok (.getfield 31, 3) := by decide +kernel
theorem dX6_riding_49 : decode cX6_riding 49 = .ok (.iload 4, 2) := by decide +kernel
theorem dX6_riding_51 : decode cX6_riding 51 = .ok (.invokestatic 69, 3) := by decide +kernel
theorem dX6_riding_54 : decode cX6_riding 54 = .ok (.ifCond .eq 35, 3) := by decide +kernel
theorem dX6_riding_57 : decode cX6_riding 57 = .ok (.aload_n 0, 1) := by decide +kernel
theorem dX6_riding_58 : decode cX6_riding 58 = .ok (.getfield 15, 3) := by decide +kernel
theorem dX6_riding_61 : decode cX6_riding 61 = .ok (.iload_n 3, 1) := by decide +kernel
theorem dX6_riding_62 : decode cX6_riding 62 = .ok (.aload_n 0, 1) := by decide +kernel
theorem dX6_riding_63 : decode cX6_riding 63 = .ok (.getfield 34, 3) := by decide +kernel
theorem dX6_riding_66 : decode cX6_riding 66 = .ok (.aload_n 0, 1) := by decide +kernel
theorem dX6_riding_67 : decode cX6_riding 67 = .ok (.getfield 15, 3) := by decide +kernel
theorem dX6_riding_70 : decode cX6_riding 70 = .ok (.iload 4, 2) := by decide +kernel
theorem dX6_riding_72 : decode cX6_riding 72 = .ok (.invokevirtual 40, 3) := by decide +kernel
theorem dX6_riding_75 : decode cX6_riding 75 = .ok (.iand, 1) := by decide +kernel
theorem dX6_riding_76 : decode cX6_riding 76 = .ok (.invokevirtual 73, 3) := by decide +kernel
theorem dX6_riding_79 : decode cX6_riding 79 = .ok (.ifCond .ne 10, 3) := by decide +kernel
theorem dX6_riding_82 : decode cX6_riding 82 = .ok (.iload_n 2, 1) := by decide +kernel
theorem dX6_riding_83 : decode cX6_riding 83 = .ok (.iload_n 3, 1) := by decide +kernel
theorem dX6_riding_84 : decode cX6_riding 84 = .ok (.invokestatic 27, 3) := by decide +kernel
theorem dX6_riding_87 : decode cX6_riding 87 = .ok (.ior, 1) := by decide +kernel
theorem dX6_riding_88 : decode cX6_riding 88 = .ok (.istore_n 2, 1) := by decide +kernel
theorem dX6_riding_89 : decode cX6_riding 89 = .ok (.iinc 3 1, 3) := by decide +kernel
theorem dX6_riding_92 : decode cX6_riding 92 = .ok (.goto (-80), 3) := by decide +kernel
theorem dX6_riding_95 : decode cX6_riding 95 = .ok (.iload_n 2, 1) := by decide +kernel
theorem dX6_riding_96 : decode cX6_riding 96 = .ok (.ireturn, 1) := by decide +kernel
theorem dX6_ranked_0 : decode cX6_ranked 0 = .ok (.iload_n 1, 1) := by decide +kernel
theorem dX6_ranked_1 : decode cX6_ranked 1 = .ok (.istore_n 3, 1) := by decide +kernel
theorem dX6_ranked_2 : decode cX6_ranked 2 = .ok (.iconst 0, 1) := by decide +kernel
theorem dX6_ranked_3 : decode cX6_ranked 3 = .ok (.istore 4, 2) := by decide +kernel
theorem dX6_ranked_5 : decode cX6_ranked 5 = .ok (.iload 4, 2) := by decide +kernel
theorem dX6_ranked_7 : decode cX6_ranked 7 = .ok (.bipush 16, 2) := by decide +kernel
theorem dX6_ranked_9 : decode cX6_ranked 9 = .ok (.if_icmp .ge 44, 3) := by decide +kernel
theorem dX6_ranked_12 : decode cX6_ranked 12 = .ok (.aload_n 0, 1) := by decide +kernel
theorem dX6_ranked_13 : decode cX6_ranked 13 = .ok (.getfield 15, 3) := by decide +kernel
theorem dX6_ranked_16 : decode cX6_ranked 16 = .ok (.iload_n 3, 1) := by decide +kernel
theorem dX6_ranked_17 : decode cX6_ranked 17 = .ok (.invokevirtual 45, 3) := by decide +kernel
theorem dX6_ranked_20 : decode cX6_ranked 20 = .ok (.istore 5, 2) := by decide +kernel
theorem dX6_ranked_22 : decode cX6_ranked 22 = .ok (.iload 5, 2) := by decide +kernel
theorem dX6_ranked_24 : decode cX6_ranked 24 = .ok (.iconst (-1), 1) := by decide +kernel
theorem dX6_ranked_25 : decode cX6_ranked 25 = .ok (.if_icmp .eq 9, 3) := by decide +kernel
theorem dX6_ranked_28 : decode cX6_ranked 28 = .ok (.iload 4, 2) := by decide +kernel
theorem dX6_ranked_30 : decode cX6_ranked 30 = .ok (.iload_n 2, 1) := by decide +kernel
theorem dX6_ranked_31 : decode cX6_ranked 31 = .ok (.if_icmp .ne 6, 3) := by decide +kernel
theorem dX6_ranked_34 : decode cX6_ranked 34 = .ok (.iload 5, 2) := by decide +kernel
theorem dX6_ranked_36 : decode cX6_ranked 36 = .ok (.ireturn, 1) := by decide +kernel
theorem dX6_ranked_37 : decode cX6_ranked 37 = .ok (.iload_n 3, 1) := by decide +kernel
theorem dX6_ranked_38 : decode cX6_ranked 38 = .ok (.iload 5, 2) := by decide +kernel
theorem dX6_ranked_40 : decode cX6_ranked 40 = .ok (.invokestatic 27, 3) := by decide +kernel
theorem dX6_ranked_43 : decode cX6_ranked 43 = .ok (.iconst (-1), 1) := by decide +kernel
theorem dX6_ranked_44 : decode cX6_ranked 44 = .ok (.ixor, 1) := by decide +kernel
theorem dX6_ranked_45 : decode cX6_ranked 45 = .ok (.iand, 1) := by decide +kernel
theorem dX6_ranked_46 : decode cX6_ranked 46 = .ok (.istore_n 3, 1) := by decide +kernel
theorem dX6_ranked_47 : decode cX6_ranked 47 = .ok (.iinc 4 1, 3) := by decide +kernel
theorem dX6_ranked_50 : decode cX6_ranked 50 = .ok (.goto (-45), 3) := by decide +kernel
theorem dX6_ranked_53 : decode cX6_ranked 53 = .ok (.iconst (-1), 1) := by decide +kernel
theorem dX6_ranked_54 : decode cX6_ranked 54 = .ok (.ireturn, 1) := by decide +kernel
theorem dX6_hangingEntry_0 : decode cX6_hangingEntry 0 = .ok (.aload_n 0, 1) := by decide +kernel
theorem dX6_hangingEntry_1 : decode cX6_hangingEntry 1 = .ok (.getfield 15, 3) := by decide +kernel
theorem dX6_hangingEntry_4 : decode cX6_hangingEntry 4 = .ok (.aload_n 1, 1) := by decide +kernel
theorem dX6_hangingEntry_5 : decode cX6_hangingEntry 5 = .ok (.iload_n 2, 1) := by decide +kernel
theorem dX6_hangingEntry_6 : decode cX6_hangingEntry 6 = .ok (.invokevirtual 76, 3) := by decide +kernel
theorem dX6_hangingEntry_9 : decode cX6_hangingEntry 9 = .ok (.aload_n 0, 1) := by decide +kernel
theorem dX6_hangingEntry_10 : decode cX6_hangingEntry 10 = .ok (.iload_n 3, 1) := by decide +kernel
theorem dX6_hangingEntry_11 : decode cX6_hangingEntry 11 = .ok (.invokevirtual 80, 3) := by decide +kernel
theorem dX6_hangingEntry_14 : decode cX6_hangingEntry 14 = .ok (.aload_n 0, 1) := by decide +kernel
theorem dX6_hangingEntry_15 : decode cX6_hangingEntry 15 = .ok (.getfield 23, 3) := by decide +kernel
theorem dX6_hangingEntry_18 : decode cX6_hangingEntry 18 = .ok (.istore 4, 2) := by decide +kernel
theorem dX6_hangingEntry_20 : decode cX6_hangingEntry 20 = .ok (.iconst 0, 1) := by decide +kernel
theorem dX6_hangingEntry_21 : decode cX6_hangingEntry 21 = .ok (.istore 5, 2) := by decide +kernel
theorem dX6_hangingEntry_23 : decode cX6_hangingEntry 23 = .ok (.iload 5, 2) := by decide +kernel
theorem dX6_hangingEntry_25 : decode cX6_hangingEntry 25 = .ok (.aload_n 0, 1) := by decide +kernel
theorem dX6_hangingEntry_26 : decode cX6_hangingEntry 26 = .ok (.getfield 9, 3) := by decide +kernel
theorem dX6_hangingEntry_29 : decode cX6_hangingEntry 29 = .ok (.getfield 63, 3) := by decide +kernel
theorem dX6_hangingEntry_32 : decode cX6_hangingEntry 32 = .ok (.if_icmp .ge 84, 3) := by decide +kernel
theorem dX6_hangingEntry_35 : decode cX6_hangingEntry 35 = .ok (.aload_n 0, 1) := by decide +kernel
theorem dX6_hangingEntry_36 : decode cX6_hangingEntry 36 = .ok (.getfield 9, 3) := by decide +kernel
theorem dX6_hangingEntry_39 : decode cX6_hangingEntry 39 = .ok (.getfield 48, 3) := by decide +kernel
theorem dX6_hangingEntry_42 : decode cX6_hangingEntry 42 = .ok (.iload 5, 2) := by decide +kernel
theorem dX6_hangingEntry_44 : decode cX6_hangingEntry 44 = .ok (.aaload, 1) := by decide +kernel
theorem dX6_hangingEntry_45 : decode cX6_hangingEntry 45 = .ok (.astore 6, 2) := by decide +kernel
theorem dX6_hangingEntry_47 : decode cX6_hangingEntry 47 = .ok (.aload 6, 2) := by decide +kernel
theorem dX6_hangingEntry_49 : decode cX6_hangingEntry 49 = .ok (.getfield 84, 3) := by decide +kernel
theorem dX6_hangingEntry_52 : decode cX6_hangingEntry 52 = .ok (.iload_n 2, 1) := by decide +kernel
theorem dX6_hangingEntry_53 : decode cX6_hangingEntry 53 = .ok (.if_icmp .ne 57, 3) := by decide +kernel
theorem dX6_hangingEntry_56 : decode cX6_hangingEntry 56 = .ok (.aload 6, 2) := by decide +kernel
theorem dX6_hangingEntry_58 : decode cX6_hangingEntry 58 = .ok (.invokevirtual 87, 3) := by decide +kernel
theorem dX6_hangingEntry_61 : decode cX6_hangingEntry 61 = .ok (.ifCond .eq 49, 3) := by decide +kernel
