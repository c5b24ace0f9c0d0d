theorem dX0_init_0 : decode cX0_init 0 = .ok (.aload_n 0, 1) := by decide +kernel
theorem dX0_init_1 : decode cX0_init 1 = .ok (.invokespecial 3, 3) := by decide +kernel
theorem dX0_init_4 : decode cX0_init 4 = .ok (.aload_n 0, 1) := by decide +kernel
theorem dX0_init_5 : decode cX0_init 5 = .ok (.bipush 60, 2) := by decide +kernel
theorem dX0_init_7 : decode cX0_init 7 = .ok (.newarray .int, 2) := by decide +kernel
theorem dX0_init_9 : decode cX0_init 9 = .ok (.putfield 9, 3) := by decide +kernel
theorem dX0_init_12 : decode cX0_init 12 = .ok (.aload_n 0, 1) := by decide +kernel
theorem dX0_init_13 : decode cX0_init 13 = .ok (.sipush 180, 3) := by decide +kernel
theorem dX0_init_16 : decode cX0_init 16 = .ok (.newarray .int, 2) := by decide +kernel
theorem dX0_init_18 : decode cX0_init 18 = .ok (.putfield 15, 3) := by decide +kernel
theorem dX0_init_21 : decode cX0_init 21 = .ok (.aload_n 0, 1) := by decide +kernel
theorem dX0_init_22 : decode cX0_init 22 = .ok (.sipush 180, 3) := by decide +kernel
theorem dX0_init_25 : decode cX0_init 25 = .ok (.newarray .int, 2) := by decide +kernel
theorem dX0_init_27 : decode cX0_init 27 = .ok (.putfield 18, 3) := by decide +kernel
theorem dX0_init_30 : decode cX0_init 30 = .ok (.aload_n 0, 1) := by decide +kernel
theorem dX0_init_31 : decode cX0_init 31 = .ok (.sipush 1080, 3) := by decide +kernel
theorem dX0_init_34 : decode cX0_init 34 = .ok (.newarray .int, 2) := by decide +kernel
theorem dX0_init_36 : decode cX0_init 36 = .ok (.putfield 21, 3) := by decide +kernel
theorem dX0_init_39 : decode cX0_init 39 = .ok (.aload_n 0, 1) := by decide +kernel
theorem dX0_init_40 : decode cX0_init 40 = .ok (.sipush 180, 3) := by decide +kernel
theorem dX0_init_43 : decode cX0_init 43 = .ok (.newarray .long, 2) := by decide +kernel
theorem dX0_init_45 : decode cX0_init 45 = .ok (.putfield 24, 3) := by decide +kernel
theorem dX0_init_48 : decode cX0_init 48 = .ok (.aload_n 0, 1) := by decide +kernel
theorem dX0_init_49 : decode cX0_init 49 = .ok (.sipush 180, 3) := by decide +kernel
theorem dX0_init_52 : decode cX0_init 52 = .ok (.newarray .long, 2) := by decide +kernel
theorem dX0_init_54 : decode cX0_init 54 = .ok (.putfield 28, 3) := by decide +kernel
theorem dX0_init_57 : decode cX0_init 57 = .ok (.return_, 1) := by decide +kernel
theorem dX0_restart_0 : decode cX0_restart 0 = .ok (.aload_n 0, 1) := by decide +kernel
theorem dX0_restart_1 : decode cX0_restart 1 = .ok (.iload_n 1, 1) := by decide +kernel
theorem dX0_restart_2 : decode cX0_restart 2 = .ok (.putfield 31, 3) := by decide +kernel
theorem dX0_restart_5 : decode cX0_restart 5 = .ok (.aload_n 0, 1) := by decide +kernel
theorem dX0_restart_6 : decode cX0_restart 6 = .ok (.iload_n 2, 1) := by decide +kernel
theorem dX0_restart_7 : decode cX0_restart 7 = .ok (.putfield 35, 3) := by decide +kernel
theorem dX0_restart_10 : decode cX0_restart 10 = .ok (.aload_n 0, 1) := by decide +kernel
theorem dX0_restart_11 : decode cX0_restart 11 = .ok (.iload_n 3, 1) := by decide +kernel
theorem dX0_restart_12 : decode cX0_restart 12 = .ok (.putfield 38, 3) := by decide +kernel
theorem dX0_restart_15 : decode cX0_restart 15 = .ok (.aload_n 0, 1) := by decide +kernel
theorem dX0_restart_16 : decode cX0_restart 16 = .ok (.lconst 0, 1) := by decide +kernel
theorem dX0_restart_17 : decode cX0_restart 17 = .ok (.putfield 41, 3) := by decide +kernel
theorem dX0_restart_20 : decode cX0_restart 20 = .ok (.aload_n 0, 1) := by decide +kernel
theorem dX0_restart_21 : decode cX0_restart 21 = .ok (.iconst 0, 1) := by decide +kernel
theorem dX0_restart_22 : decode cX0_restart 22 = .ok (.putfield 45, 3) := by decide +kernel
theorem dX0_restart_25 : decode cX0_restart 25 = .ok (.aload_n 0, 1) := by decide +kernel
theorem dX0_restart_26 : decode cX0_restart 26 = .ok (.iconst 0, 1) := by decide +kernel
theorem dX0_restart_27 : decode cX0_restart 27 = .ok (.putfield 48, 3) := by decide +kernel
theorem dX0_restart_30 : decode cX0_restart 30 = .ok (.aload_n 0, 1) := by decide +kernel
theorem dX0_restart_31 : decode cX0_restart 31 = .ok (.iconst 0, 1) := by decide +kernel
theorem dX0_restart_32 : decode cX0_restart 32 = .ok (.putfield 51, 3) := by decide +kernel
theorem dX0_restart_35 : decode cX0_restart 35 = .ok (.iconst 0, 1) := by decide +kernel
theorem dX0_restart_36 : decode cX0_restart 36 = .ok (.istore 4, 2) := by decide +kernel
theorem dX0_restart_38 : decode cX0_restart 38 = .ok (.iload 4, 2) := by decide +kernel
theorem dX0_restart_40 : decode cX0_restart 40 = .ok (.bipush 60, 2) := by decide +kernel
theorem dX0_restart_42 : decode cX0_restart 42 = .ok (.if_icmp .ge 17, 3) := by decide +kernel
theorem dX0_restart_45 : decode cX0_restart 45 = .ok (.aload_n 0, 1) := by decide +kernel
theorem dX0_restart_46 : decode cX0_restart 46 = .ok (.getfield 9, 3) := by decide +kernel
theorem dX0_restart_49 : decode cX0_restart 49 = .ok (.iload 4, 2) := by decide +kernel
theorem dX0_restart_51 : decode cX0_restart 51 = .ok (.iconst 0, 1) := by decide +kernel
theorem dX0_restart_52 : decode cX0_restart 52 = .ok (.iastore, 1) := by decide +kernel
theorem dX0_restart_53 : decode cX0_restart 53 = .ok (.iinc 4 1, 3) := by decide +kernel
theorem dX0_restart_56 : decode cX0_restart 56 = .ok (.goto (-18), 3) := by decide +kernel
theorem dX0_restart_59 : decode cX0_restart 59 = .ok (.return_, 1) := by decide +kernel
theorem dX0_addEntry_0 : decode cX0_addEntry 0 = .ok (.aload_n 0, 1) := by decide +kernel
theorem dX0_addEntry_1 : decode cX0_addEntry 1 = .ok (.dup, 1) := by decide +kernel
theorem dX0_addEntry_2 : decode cX0_addEntry 2 = .ok (.getfield 41, 3) := by decide +kernel
theorem dX0_addEntry_5 : decode cX0_addEntry 5 = .ok (.iload_n 1, 1) := by decide +kernel
theorem dX0_addEntry_6 : decode cX0_addEntry 6 = .ok (.invokestatic 54, 3) := by decide +kernel
theorem dX0_addEntry_9 : decode cX0_addEntry 9 = .ok (.lor, 1) := by decide +kernel
theorem dX0_addEntry_10 : decode cX0_addEntry 10 = .ok (.putfield 41, 3) := by decide +kernel
theorem dX0_addEntry_13 : decode cX0_addEntry 13 = .ok (.return_, 1) := by decide +kernel
theorem dX0_addSense_0 : decode cX0_addSense 0 = .ok (.iload_n 1, 1) := by decide +kernel
theorem dX0_addSense_1 : decode cX0_addSense 1 = .ok (.invokestatic 58, 3) := by decide +kernel
theorem dX0_addSense_4 : decode cX0_addSense 4 = .ok (.ifCond .eq 13, 3) := by decide +kernel
theorem dX0_addSense_7 : decode cX0_addSense 7 = .ok (.aload_n 0, 1) := by decide +kernel
theorem dX0_addSense_8 : decode cX0_addSense 8 = .ok (.getfield 9, 3) := by decide +kernel
theorem dX0_addSense_11 : decode cX0_addSense 11 = .ok (.iload_n 1, 1) := by decide +kernel
theorem dX0_addSense_12 : decode cX0_addSense 12 = .ok (.iaload, 1) := by decide +kernel
theorem dX0_addSense_13 : decode cX0_addSense 13 = .ok (.iconst 3, 1) := by decide +kernel
theorem dX0_addSense_14 : decode cX0_addSense 14 = .ok (.if_icmp .lt 4, 3) := by decide +kernel
theorem dX0_addSense_17 : decode cX0_addSense 17 = .ok (.return_, 1) := by decide +kernel
theorem dX0_addSense_18 : decode cX0_addSense 18 = .ok (.aload_n 0, 1) := by decide +kernel
theorem dX0_addSense_19 : decode cX0_addSense 19 = .ok (.getfield 9, 3) := by decide +kernel
theorem dX0_addSense_22 : decode cX0_addSense 22 = .ok (.iload_n 1, 1) := by decide +kernel
theorem dX0_addSense_23 : decode cX0_addSense 23 = .ok (.dup2, 1) := by decide +kernel
theorem dX0_addSense_24 : decode cX0_addSense 24 = .ok (.iaload, 1) := by decide +kernel
theorem dX0_addSense_25 : decode cX0_addSense 25 = .ok (.iconst 1, 1) := by decide +kernel
theorem dX0_addSense_26 : decode cX0_addSense 26 = .ok (.iadd, 1) := by decide +kernel
theorem dX0_addSense_27 : decode cX0_addSense 27 = .ok (.iastore, 1) := by decide +kernel
theorem dX0_addSense_28 : decode cX0_addSense 28 = .ok (.aload_n 0, 1) := by decide +kernel
theorem dX0_addSense_29 : decode cX0_addSense 29 = .ok (.dup, 1) := by decide +kernel
theorem dX0_addSense_30 : decode cX0_addSense 30 = .ok (.getfield 45, 3) := by decide +kernel
theorem dX0_addSense_33 : decode cX0_addSense 33 = .ok (.iconst 1, 1) := by decide +kernel
theorem dX0_addSense_34 : decode cX0_addSense 34 = .ok (.iadd, 1) := by decide +kernel
theorem dX0_addSense_35 : decode cX0_addSense 35 = .ok (.putfield 45, 3) := by decide +kernel
theorem dX0_addSense_38 : decode cX0_addSense 38 = .ok (.aload_n 0, 1) := by decide +kernel
theorem dX0_addSense_39 : decode cX0_addSense 39 = .ok (.iload_n 1, 1) := by decide +kernel
theorem dX0_addSense_40 : decode cX0_addSense 40 = .ok (.aload_n 0, 1) := by decide +kernel
theorem dX0_addSense_41 : decode cX0_addSense 41 = .ok (.getfield 9, 3) := by decide +kernel
theorem dX0_addSense_44 : decode cX0_addSense 44 = .ok (.iload_n 1, 1) := by decide +kernel
theorem dX0_addSense_45 : decode cX0_addSense 45 = .ok (.iaload, 1) := by decide +kernel
theorem dX0_addSense_46 : decode cX0_addSense 46 = .ok (.iconst 1, 1) := by decide +kernel
theorem dX0_addSense_47 : decode cX0_addSense 47 = .ok (.isub, 1) := by decide +kernel
theorem dX0_addSense_48 : decode cX0_addSense 48 = .ok (.invokevirtual 62, 3) := by decide +kernel
theorem dX0_addSense_51 : decode cX0_addSense 51 = .ok (.istore_n 2, 1) := by decide +kernel
theorem dX0_addSense_52 : decode cX0_addSense 52 = .ok (.iload_n 2, 1) := by decide +kernel
theorem dX0_addSense_53 : decode cX0_addSense 53 = .ok (.iconst (-1), 1) := by decide +kernel
theorem dX0_addSense_54 : decode cX0_addSense 54 = .ok (.if_icmp .ne 4, 3) := by decide +kernel
theorem dX0_addSense_57 : decode cX0_addSense 57 = .ok (.return_, 1) := by decide +kernel
theorem dX0_addSense_58 : decode cX0_addSense 58 = .ok (.aload_n 0, 1) := by decide +kernel
theorem dX0_addSense_59 : decode cX0_addSense 59 = .ok (.getfield 15, 3) := by decide +kernel
theorem dX0_addSense_62 : decode cX0_addSense 62 = .ok (.iload_n 2, 1) := by decide +kernel
theorem dX0_addSense_63 : decode cX0_addSense 63 = .ok (.iconst (-1), 1) := by decide +kernel
theorem dX0_addSense_64 : decode cX0_addSense 64 = .ok (.iastore, 1) := by decide +kernel
theorem dX0_addSense_65 : decode cX0_addSense 65 = .ok (.aload_n 0, 1) := by decide +kernel
theorem dX0_addSense_66 : decode cX0_addSense 66 = .ok (.getfield 18, 3) := by decide +kernel
theorem dX0_addSense_69 : decode cX0_addSense 69 = .ok (.iload_n 2, 1) := by decide +kernel
theorem dX0_addSense_70 : decode cX0_addSense 70 = .ok (.iconst 0, 1) := by decide +kernel
theorem dX0_addSense_71 : decode cX0_addSense 71 = .ok (.iastore, 1) := by decide +kernel
theorem dX0_addSense_72 : decode cX0_addSense 72 = .ok (.aload_n 0, 1) := by decide +kernel
theorem dX0_addSense_73 : decode cX0_addSense 73 = .ok (.getfield 24, 3) := by decide +kernel
theorem dX0_addSense_76 : decode cX0_addSense 76 = .ok (.iload_n 2, 1) := by decide +kernel
theorem dX0_addSense_77 : decode cX0_addSense 77 = .ok (.lconst 0, 1) := by decide +kernel
theorem dX0_addSense_78 : decode cX0_addSense 78 = .ok (.lastore, 1) := by decide +kernel
theorem dX0_addSense_79 : decode cX0_addSense 79 = .ok (.aload_n 0, 1) := by decide +kernel
theorem dX0_addSense_80 : decode cX0_addSense 80 = .ok (.getfield 28, 3) := by decide +kernel
theorem dX0_addSense_83 : decode cX0_addSense 83 = .ok (.iload_n 2, 1) := by decide +kernel
theorem dX0_addSense_84 : decode cX0_addSense 84 = .ok (.lconst 0, 1) := by decide +kernel
theorem dX0_addSense_85 : decode cX0_addSense 85 = .ok (.lastore, 1) := by decide +kernel
theorem dX0_addSense_86 : decode cX0_addSense 86 = .ok (.return_, 1) := by decide +kernel
theorem dX0_tellField_0 : decode cX0_tellField 0 = .ok (.aload_n 0, 1) := by decide +kernel
theorem dX0_tellField_1 : decode cX0_tellField 1 = .ok (.iload_n 1, 1) := by decide +kernel
theorem dX0_tellField_2 : decode cX0_tellField 2 = .ok (.aload_n 0, 1) := by decide +kernel
theorem dX0_tellField_3 : decode cX0_tellField 3 = .ok (.iload_n 1, 1) := by decide +kernel
theorem dX0_tellField_4 : decode cX0_tellField 4 = .ok (.invokevirtual 66, 3) := by decide +kernel
theorem dX0_tellField_7 : decode cX0_tellField 7 = .ok (.iconst 1, 1) := by decide +kernel
theorem dX0_tellField_8 : decode cX0_tellField 8 = .ok (.isub, 1) := by decide +kernel
theorem dX0_tellField_9 : decode cX0_tellField 9 = .ok (.invokevirtual 62, 3) := by decide +kernel
theorem dX0_tellField_12 : decode cX0_tellField 12 = .ok (.istore_n 3, 1) := by decide +kernel
theorem dX0_tellField_13 : decode cX0_tellField 13 = .ok (.iload_n 3, 1) := by decide +kernel
theorem dX0_tellField_14 : decode cX0_tellField 14 = .ok (.iconst (-1), 1) := by decide +kernel
theorem dX0_tellField_15 : decode cX0_tellField 15 = .ok (.if_icmp .eq 10, 3) := by decide +kernel
theorem dX0_tellField_18 : decode cX0_tellField 18 = .ok (.aload_n 0, 1) := by decide +kernel
theorem dX0_tellField_19 : decode cX0_tellField 19 = .ok (.getfield 15, 3) := by decide +kernel
theorem dX0_tellField_22 : decode cX0_tellField 22 = .ok (.iload_n 3, 1) := by decide +kernel
theorem dX0_tellField_23 : decode cX0_tellField 23 = .ok (.iload_n 2, 1) := by decide +kernel
theorem dX0_tellField_24 : decode cX0_tellField 24 = .ok (.iastore, 1) := by decide +kernel
theorem dX0_tellField_25 : decode cX0_tellField 25 = .ok (.return_, 1) := by decide +kernel
theorem dX0_addWord_0 : decode cX0_addWord 0 = .ok (.aload_n 0, 1) := by decide +kernel
theorem dX0_addWord_1 : decode cX0_addWord 1 = .ok (.iload_n 1, 1) := by decide +kernel
theorem dX0_addWord_2 : decode cX0_addWord 2 = .ok (.aload_n 0, 1) := by decide +kernel
theorem dX0_addWord_3 : decode cX0_addWord 3 = .ok (.iload_n 1, 1) := by decide +kernel
theorem dX0_addWord_4 : decode cX0_addWord 4 = .ok (.invokevirtual 66, 3) := by decide +kernel
theorem dX0_addWord_7 : decode cX0_addWord 7 = .ok (.iconst 1, 1) := by decide +kernel
theorem dX0_addWord_8 : decode cX0_addWord 8 = .ok (.isub, 1) := by decide +kernel
theorem dX0_addWord_9 : decode cX0_addWord 9 = .ok (.invokevirtual 62, 3) := by decide +kernel
theorem dX0_addWord_12 : decode cX0_addWord 12 = .ok (.istore_n 3, 1) := by decide +kernel
theorem dX0_addWord_13 : decode cX0_addWord 13 = .ok (.iload_n 3, 1) := by decide +kernel
theorem dX0_addWord_14 : decode cX0_addWord 14 = .ok (.iconst (-1), 1) := by decide +kernel
theorem dX0_addWord_15 : decode cX0_addWord 15 = .ok (.if_icmp .eq 23, 3) := by decide +kernel
theorem dX0_addWord_18 : decode cX0_addWord 18 = .ok (.aload_n 0, 1) := by decide +kernel
theorem dX0_addWord_19 : decode cX0_addWord 19 = .ok (.getfield 18, 3) := by decide +kernel
theorem dX0_addWord_22 : decode cX0_addWord 22 = .ok (.iload_n 3, 1) := by decide +kernel
theorem dX0_addWord_23 : decode cX0_addWord 23 = .ok (.iaload, 1) := by decide +kernel
theorem dX0_addWord_24 : decode cX0_addWord 24 = .ok (.ifCond .lt 14, 3) := by decide +kernel
theorem dX0_addWord_27 : decode cX0_addWord 27 = .ok (.aload_n 0, 1) := by decide +kernel
theorem dX0_addWord_28 : decode cX0_addWord 28 = .ok (.getfield 18, 3) := by decide +kernel
theorem dX0_addWord_31 : decode cX0_addWord 31 = .ok (.iload_n 3, 1) := by decide +kernel
theorem dX0_addWord_32 : decode cX0_addWord 32 = .ok (.iaload, 1) := by decide +kernel
theorem dX0_addWord_33 : decode cX0_addWord 33 = .ok (.bipush 6, 2) := by decide +kernel
theorem dX0_addWord_35 : decode cX0_addWord 35 = .ok (.if_icmp .lt 4, 3) := by decide +kernel
theorem dX0_addWord_38 : decode cX0_addWord 38 = .ok (.return_, 1) := by decide +kernel
theorem dX0_addWord_39 : decode cX0_addWord 39 = .ok (.aload_n 0, 1) := by decide +kernel
theorem dX0_addWord_40 : decode cX0_addWord 40 = .ok (.getfield 21, 3) := by decide +kernel
theorem dX0_addWord_43 : decode cX0_addWord 43 = .ok (.iload_n 3, 1) := by decide +kernel
theorem dX0_addWord_44 : decode cX0_addWord 44 = .ok (.bipush 6, 2) := by decide +kernel
theorem dX0_addWord_46 : decode cX0_addWord 46 = .ok (.imul, 1) := by decide +kernel
theorem dX0_addWord_47 : decode cX0_addWord 47 = .ok (.aload_n 0, 1) := by decide +kernel
theorem dX0_addWord_48 : decode cX0_addWord 48 = .ok (.getfield 18, 3) := by decide +kernel
theorem dX0_addWord_51 : decode cX0_addWord 51 = .ok (.iload_n 3, 1) := by decide +kernel
theorem dX0_addWord_52 : decode cX0_addWord 52 = .ok (.iaload, 1) := by decide +kernel
theorem dX0_addWord_53 : decode cX0_addWord 53 = .ok (.iadd, 1) := by decide +kernel
theorem dX0_addWord_54 : decode cX0_addWord 54 = .ok (.iload_n 2, 1) := by decide +kernel
theorem dX0_addWord_55 : decode cX0_addWord 55 = .ok (.iastore, 1) := by decide +kernel
theorem dX0_addWord_56 : decode cX0_addWord 56 = .ok (.aload_n 0, 1) := by decide +kernel
theorem dX0_addWord_57 : decode cX0_addWord 57 = .ok (.getfield 18, 3) := by decide +kernel
theorem dX0_addWord_60 : decode cX0_addWord 60 = .ok (.iload_n 3, 1) := by decide +kernel
theorem dX0_addWord_61 : decode cX0_addWord 61 = .ok (.dup2, 1) := by decide +kernel
theorem dX0_addWord_62 : decode cX0_addWord 62 = .ok (.iaload, 1) := by decide +kernel
theorem dX0_addWord_63 : decode cX0_addWord 63 = .ok (.iconst 1, 1) := by decide +kernel
theorem dX0_addWord_64 : decode cX0_addWord 64 = .ok (.iadd, 1) := by decide +kernel
theorem dX0_addWord_65 : decode cX0_addWord 65 = .ok (.iastore, 1) := by decide +kernel
theorem dX0_addWord_66 : decode cX0_addWord 66 = .ok (.aload_n 0, 1) := by decide +kernel
theorem dX0_addWord_67 : decode cX0_addWord 67 = .ok (.getfield 24, 3) := by decide +kernel
theorem dX0_addWord_70 : decode cX0_addWord 70 = .ok (.iload_n 3, 1) := by decide +kernel
theorem dX0_addWord_71 : decode cX0_addWord 71 = .ok (.dup2, 1) := by decide +kernel
theorem dX0_addWord_72 : decode cX0_addWord 72 = .ok (.laload, 1) := by decide +kernel
theorem dX0_addWord_73 : decode cX0_addWord 73 = .ok (.iload_n 2, 1) := by decide +kernel
theorem dX0_addWord_74 : decode cX0_addWord 74 = .ok (.invokestatic 54, 3) := by decide +kernel
theorem dX0_addWord_77 : decode cX0_addWord 77 = .ok (.lor, 1) := by decide +kernel
theorem dX0_addWord_78 : decode cX0_addWord 78 = .ok (.lastore, 1) := by decide +kernel
theorem dX0_addWord_79 : decode cX0_addWord 79 = .ok (.aload_n 0, 1) := by decide +kernel
theorem dX0_addWord_80 : decode cX0_addWord 80 = .ok (.getfield 28, 3) := by decide +kernel
theorem dX0_addWord_83 : decode cX0_addWord 83 = .ok (.iload_n 3, 1) := by decide +kernel
theorem dX0_addWord_84 : decode cX0_addWord 84 = .ok (.dup2, 1) := by decide +kernel
theorem dX0_addWord_85 : decode cX0_addWord 85 = .ok (.laload, 1) := by decide +kernel
theorem dX0_addWord_86 : decode cX0_addWord 86 = .ok (.iload_n 2, 1) := by decide +kernel
theorem dX0_addWord_87 : decode cX0_addWord 87 = .ok (.invokestatic 54, 3) := by decide +kernel
theorem dX0_addWord_90 : decode cX0_addWord 90 = .ok (.lor, 1) := by decide +kernel
theorem dX0_addWord_91 : decode cX0_addWord 91 = .ok (.lastore, 1) := by decide +kernel
theorem dX0_addWord_92 : decode cX0_addWord 92 = .ok (.aload_n 0, 1) := by decide +kernel
theorem dX0_addWord_93 : decode cX0_addWord 93 = .ok (.dup, 1) := by decide +kernel
theorem dX0_addWord_94 : decode cX0_addWord 94 = .ok (.getfield 48, 3) := by decide +kernel
theorem dX0_addWord_97 : decode cX0_addWord 97 = .ok (.iconst 1, 1) := by decide +kernel
theorem dX0_addWord_98 : decode cX0_addWord 98 = .ok (.iadd, 1) := by decide +kernel
theorem dX0_addWord_99 : decode cX0_addWord 99 = .ok (.putfield 48, 3) := by decide +kernel
theorem dX0_addWord_102 : decode cX0_addWord 102 = .ok (.return_, 1) := by decide +kernel
theorem dX0_age_0 : decode cX0_age 0 = .ok (.aload_n 0, 1) := by decide +kernel
theorem dX0_age_1 : decode cX0_age 1 = .ok (.iload_n 1, 1) := by decide +kernel
theorem dX0_age_2 : decode cX0_age 2 = .ok (.invokevirtual 66, 3) := by decide +kernel
theorem dX0_age_5 : decode cX0_age 5 = .ok (.iconst 1, 1) := by decide +kernel
theorem dX0_age_6 : decode cX0_age 6 = .ok (.isub, 1) := by decide +kernel
theorem dX0_age_7 : decode cX0_age 7 = .ok (.istore_n 2, 1) := by decide +kernel
theorem dX0_age_8 : decode cX0_age 8 = .ok (.aload_n 0, 1) := by decide +kernel
theorem dX0_age_9 : decode cX0_age 9 = .ok (.iload_n 1, 1) := by decide +kernel
theorem dX0_age_10 : decode cX0_age 10 = .ok (.iload_n 2, 1) := by decide +kernel
theorem dX0_age_11 : decode cX0_age 11 = .ok (.invokevirtual 62, 3) := by decide +kernel
theorem dX0_age_14 : decode cX0_age 14 = .ok (.istore_n 3, 1) := by decide +kernel
theorem dX0_age_15 : decode cX0_age 15 = .ok (.iload_n 3, 1) := by decide +kernel
theorem dX0_age_16 : decode cX0_age 16 = .ok (.iconst (-1), 1) := by decide +kernel
theorem dX0_age_17 : decode cX0_age 17 = .ok (.if_icmp .ne 4, 3) := by decide +kernel
theorem dX0_age_20 : decode cX0_age 20 = .ok (.return_, 1) := by decide +kernel
theorem dX0_age_21 : decode cX0_age 21 = .ok (.aload_n 0, 1) := by decide +kernel
theorem dX0_age_22 : decode cX0_age 22 = .ok (.getfield 28, 3) := by decide +kernel
theorem dX0_age_25 : decode cX0_age 25 = .ok (.iload_n 3, 1) := by decide +kernel
theorem dX0_age_26 : decode cX0_age 26 = .ok (.dup2, 1) := by decide +kernel
theorem dX0_age_27 : decode cX0_age 27 = .ok (.laload, 1) := by decide +kernel
theorem dX0_age_28 : decode cX0_age 28 = .ok (.aload_n 0, 1) := by decide +kernel
theorem dX0_age_29 : decode cX0_age 29 = .ok (.iload_n 1, 1) := by decide +kernel
theorem dX0_age_30 : decode cX0_age 30 = .ok (.iload_n 2, 1) := by decide +kernel
theorem dX0_age_31 : decode cX0_age 31 = .ok (.aload_n 0, 1) := by decide +kernel
theorem dX0_age_32 : decode cX0_age 32 = .ok (.getfield 18, 3) := by decide +kernel
theorem dX0_age_35 : decode cX0_age 35 = .ok (.iload_n 3, 1) := by decide +kernel
theorem dX0_age_36 : decode cX0_age 36 = .ok (.iaload, 1) := by decide +kernel
theorem dX0_age_37 : decode cX0_age 37 = .ok (.iconst 1, 1) := by decide +kernel
theorem dX0_age_38 : decode cX0_age 38 = .ok (.isub, 1) := by decide +kernel
theorem dX0_age_39 : decode cX0_age 39 = .ok (.invokevirtual 70, 3) := by decide +kernel
theorem dX0_age_42 : decode cX0_age 42 = .ok (.invokestatic 54, 3) := by decide +kernel
theorem dX0_age_45 : decode cX0_age 45 = .ok (.ldc2_w 74, 3) := by decide +kernel
theorem dX0_age_48 : decode cX0_age 48 = .ok (.lxor, 1) := by decide +kernel
theorem dX0_age_49 : decode cX0_age 49 = .ok (.land, 1) := by decide +kernel
theorem dX0_age_50 : decode cX0_age 50 = .ok (.lastore, 1) := by decide +kernel
theorem dX0_age_51 : decode cX0_age 51 = .ok (.aload_n 0, 1) := by decide +kernel
theorem dX0_age_52 : decode cX0_age 52 = .ok (.dup, 1) := by decide +kernel
theorem dX0_age_53 : decode cX0_age 53 = .ok (.getfield 51, 3) := by decide +kernel
theorem dX0_age_56 : decode cX0_age 56 = .ok (.iconst 1, 1) := by decide +kernel
theorem dX0_age_57 : decode cX0_age 57 = .ok (.iadd, 1) := by decide +kernel
theorem dX0_age_58 : decode cX0_age 58 = .ok (.putfield 51, 3) := by decide +kernel
theorem dX0_age_61 : decode cX0_age 61 = .ok (.return_, 1) := by decide +kernel
theorem dX0_sensesOf_0 : decode cX0_sensesOf 0 = .ok (.iload_n 1, 1) := by decide +kernel
theorem dX0_sensesOf_1 : decode cX0_sensesOf 1 = .ok (.invokestatic 58, 3) := by decide +kernel
theorem dX0_sensesOf_4 : decode cX0_sensesOf 4 = .ok (.ifCond .eq 12, 3) := by decide +kernel
theorem dX0_sensesOf_7 : decode cX0_sensesOf 7 = .ok (.aload_n 0, 1) := by decide +kernel
theorem dX0_sensesOf_8 : decode cX0_sensesOf 8 = .ok (.getfield 9, 3) := by decide +kernel
theorem dX0_sensesOf_11 : decode cX0_sensesOf 11 = .ok (.iload_n 1, 1) := by decide +kernel
theorem dX0_sensesOf_12 : decode cX0_sensesOf 12 = .ok (.iaload, 1) := by decide +kernel
theorem dX0_sensesOf_13 : decode cX0_sensesOf 13 = .ok (.goto 4, 3) := by decide +kernel
theorem dX0_sensesOf_16 : decode cX0_sensesOf 16 = .ok (.iconst 0, 1) := by decide +kernel
theorem dX0_sensesOf_17 : decode cX0_sensesOf 17 = .ok (.ireturn, 1) := by decide +kernel
theorem dX0_fieldOf_0 : decode cX0_fieldOf 0 = .ok (.aload_n 0, 1) := by decide +kernel
theorem dX0_fieldOf_1 : decode cX0_fieldOf 1 = .ok (.iload_n 1, 1) := by decide +kernel
theorem dX0_fieldOf_2 : decode cX0_fieldOf 2 = .ok (.iload_n 2, 1) := by decide +kernel
theorem dX0_fieldOf_3 : decode cX0_fieldOf 3 = .ok (.invokevirtual 62, 3) := by decide +kernel
theorem dX0_fieldOf_6 : decode cX0_fieldOf 6 = .ok (.istore_n 3, 1) := by decide +kernel
theorem dX0_fieldOf_7 : decode cX0_fieldOf 7 = .ok (.iload_n 3, 1) := by decide +kernel
theorem dX0_fieldOf_8 : decode cX0_fieldOf 8 = .ok (.iconst (-1), 1) := by decide +kernel
theorem dX0_fieldOf_9 : decode cX0_fieldOf 9 = .ok (.if_icmp .ne 7, 3) := by decide +kernel
theorem dX0_fieldOf_12 : decode cX0_fieldOf 12 = .ok (.iconst (-1), 1) := by decide +kernel
theorem dX0_fieldOf_13 : decode cX0_fieldOf 13 = .ok (.goto 9, 3) := by decide +kernel
theorem dX0_fieldOf_16 : decode cX0_fieldOf 16 = .ok (.aload_n 0, 1) := by decide +kernel
theorem dX0_fieldOf_17 : decode cX0_fieldOf 17 = .ok (.getfield 15, 3) := by decide +kernel
theorem dX0_fieldOf_20 : decode cX0_fieldOf 20 = .ok (.iload_n 3, 1) := by decide +kernel
theorem dX0_fieldOf_21 : decode cX0_fieldOf 21 = .ok (.iaload, 1) := by decide +kernel
theorem dX0_fieldOf_22 : decode cX0_fieldOf 22 = .ok (.ireturn, 1) := by decide +kernel
theorem dX0_sizeOf_0 : decode cX0_sizeOf 0 = .ok (.aload_n 0, 1) := by decide +kernel
theorem dX0_sizeOf_1 : decode cX0_sizeOf 1 = .ok (.iload_n 1, 1) := by decide +kernel
theorem dX0_sizeOf_2 : decode cX0_sizeOf 2 = .ok (.iload_n 2, 1) := by decide +kernel
theorem dX0_sizeOf_3 : decode cX0_sizeOf 3 = .ok (.invokevirtual 62, 3) := by decide +kernel
theorem dX0_sizeOf_6 : decode cX0_sizeOf 6 = .ok (.istore_n 3, 1) := by decide +kernel
theorem dX0_sizeOf_7 : decode cX0_sizeOf 7 = .ok (.iload_n 3, 1) := by decide +kernel
theorem dX0_sizeOf_8 : decode cX0_sizeOf 8 = .ok (.iconst (-1), 1) := by decide +kernel
theorem dX0_sizeOf_9 : decode cX0_sizeOf 9 = .ok (.if_icmp .ne 7, 3) := by decide +kernel
theorem dX0_sizeOf_12 : decode cX0_sizeOf 12 = .ok (.iconst 0, 1) := by decide +kernel
theorem dX0_sizeOf_13 : decode cX0_sizeOf 13 = .ok (.goto 9, 3) := by decide +kernel
theorem dX0_sizeOf_16 : decode cX0_sizeOf 16 = .ok (.aload_n 0, 1) := by decide +kernel
theorem dX0_sizeOf_17 : decode cX0_sizeOf 17 = .ok (.getfield 18, 3) := by decide +kernel
theorem dX0_sizeOf_20 : decode cX0_sizeOf 20 = .ok (.iload_n 3, 1) := by decide +kernel
theorem dX0_sizeOf_21 : decode cX0_sizeOf 21 = .ok (.iaload, 1) := by decide +kernel
theorem dX0_sizeOf_22 : decode cX0_sizeOf 22 = .ok (.ireturn, 1) := by decide +kernel
theorem dX0_wordAt_0 : decode cX0_wordAt 0 = .ok (.aload_n 0, 1) := by decide +kernel
theorem dX0_wordAt_1 : decode cX0_wordAt 1 = .ok (.iload_n 1, 1) := by decide +kernel
theorem dX0_wordAt_2 : decode cX0_wordAt 2 = .ok (.iload_n 2, 1) := by decide +kernel
theorem dX0_wordAt_3 : decode cX0_wordAt 3 = .ok (.invokevirtual 62, 3) := by decide +kernel
theorem dX0_wordAt_6 : decode cX0_wordAt 6 = .ok (.istore 4, 2) := by decide +kernel
theorem dX0_wordAt_8 : decode cX0_wordAt 8 = .ok (.iload 4, 2) := by decide +kernel
theorem dX0_wordAt_10 : decode cX0_wordAt 10 = .ok (.iconst (-1), 1) := by decide +kernel
theorem dX0_wordAt_11 : decode cX0_wordAt 11 = .ok (.if_icmp .eq 24, 3) := by decide +kernel
theorem dX0_wordAt_14 : decode cX0_wordAt 14 = .ok (.iload_n 3, 1) := by decide +kernel
theorem dX0_wordAt_15 : decode cX0_wordAt 15 = .ok (.ifCond .lt 20, 3) := by decide +kernel
theorem dX0_wordAt_18 : decode cX0_wordAt 18 = .ok (.iload_n 3, 1) := by decide +kernel
theorem dX0_wordAt_19 : decode cX0_wordAt 19 = .ok (.bipush 6, 2) := by decide +kernel
theorem dX0_wordAt_21 : decode cX0_wordAt 21 = .ok (.if_icmp .ge 14, 3) := by decide +kernel
theorem dX0_wordAt_24 : decode cX0_wordAt 24 = .ok (.iload_n 3, 1) := by decide +kernel
theorem dX0_wordAt_25 : decode cX0_wordAt 25 = .ok (.aload_n 0, 1) := by decide +kernel
theorem dX0_wordAt_26 : decode cX0_wordAt 26 = .ok (.getfield 18, 3) := by decide +kernel
theorem dX0_wordAt_29 : decode cX0_wordAt 29 = .ok (.iload 4, 2) := by decide +kernel
theorem dX0_wordAt_31 : decode cX0_wordAt 31 = .ok (.iaload, 1) := by decide +kernel
theorem dX0_wordAt_32 : decode cX0_wordAt 32 = .ok (.if_icmp .lt 5, 3) := by decide +kernel
theorem dX0_wordAt_35 : decode cX0_wordAt 35 = .ok (.iconst (-1), 1) := by decide +kernel
theorem dX0_wordAt_36 : decode cX0_wordAt 36 = .ok (.ireturn, 1) := by decide +kernel
theorem dX0_wordAt_37 : decode cX0_wordAt 37 = .ok (.aload_n 0, 1) := by decide +kernel
theorem dX0_wordAt_38 : decode cX0_wordAt 38 = .ok (.getfield 21, 3) := by decide +kernel
theorem dX0_wordAt_41 : decode cX0_wordAt 41 = .ok (.iload 4, 2) := by decide +kernel
theorem dX0_wordAt_43 : decode cX0_wordAt 43 = .ok (.bipush 6, 2) := by decide +kernel
theorem dX0_wordAt_45 : decode cX0_wordAt 45 = .ok (.imul, 1) := by decide +kernel
theorem dX0_wordAt_46 : decode cX0_wordAt 46 = .ok (.iload_n 3, 1) := by decide +kernel
theorem dX0_wordAt_47 : decode cX0_wordAt 47 = .ok (.iadd, 1) := by decide +kernel
theorem dX0_wordAt_48 : decode cX0_wordAt 48 = .ok (.iaload, 1) := by decide +kernel
theorem dX0_wordAt_49 : decode cX0_wordAt 49 = .ok (.ireturn, 1) := by decide +kernel
theorem dX0_senseSet_0 : decode cX0_senseSet 0 = .ok (.aload_n 0, 1) := by decide +kernel
theorem dX0_senseSet_1 : decode cX0_senseSet 1 = .ok (.iload_n 1, 1) := by decide +kernel
theorem dX0_senseSet_2 : decode cX0_senseSet 2 = .ok (.iload_n 2, 1) := by decide +kernel
theorem dX0_senseSet_3 : decode cX0_senseSet 3 = .ok (.invokevirtual 62, 3) := by decide +kernel
theorem dX0_senseSet_6 : decode cX0_senseSet 6 = .ok (.istore 4, 2) := by decide +kernel
theorem dX0_senseSet_8 : decode cX0_senseSet 8 = .ok (.iload 4, 2) := by decide +kernel
theorem dX0_senseSet_10 : decode cX0_senseSet 10 = .ok (.iconst (-1), 1) := by decide +kernel
theorem dX0_senseSet_11 : decode cX0_senseSet 11 = .ok (.if_icmp .ne 5, 3) := by decide +kernel
theorem dX0_senseSet_14 : decode cX0_senseSet 14 = .ok (.lconst 0, 1) := by decide +kernel
theorem dX0_senseSet_15 : decode cX0_senseSet 15 = .ok (.lreturn, 1) := by decide +kernel
theorem dX0_senseSet_16 : decode cX0_senseSet 16 = .ok (.iload_n 3, 1) := by decide +kernel
theorem dX0_senseSet_17 : decode cX0_senseSet 17 = .ok (.ifCond .eq 13, 3) := by decide +kernel
theorem dX0_senseSet_20 : decode cX0_senseSet 20 = .ok (.aload_n 0, 1) := by decide +kernel
theorem dX0_senseSet_21 : decode cX0_senseSet 21 = .ok (.getfield 24, 3) := by decide +kernel
theorem dX0_senseSet_24 : decode cX0_senseSet 24 = .ok (.iload 4, 2) := by decide +kernel
theorem dX0_senseSet_26 : decode cX0_senseSet 26 = .ok (.laload, 1) := by decide +kernel
theorem dX0_senseSet_27 : decode cX0_senseSet 27 = .ok (.goto 10, 3) := by decide +kernel
theorem dX0_senseSet_30 : decode cX0_senseSet 30 = .ok (.aload_n 0, 1) := by decide +kernel
theorem dX0_senseSet_31 : decode cX0_senseSet 31 = .ok (.getfield 28, 3) := by decide +kernel
theorem dX0_senseSet_34 : decode cX0_senseSet 34 = .ok (.iload 4, 2) := by decide +kernel
theorem dX0_senseSet_36 : decode cX0_senseSet 36 = .ok (.laload, 1) := by decide +kernel
theorem dX0_senseSet_37 : decode cX0_senseSet 37 = .ok (.lreturn, 1) := by decide +kernel
theorem dX0_entrySet_0 : decode cX0_entrySet 0 = .ok (.iload_n 1, 1) := by decide +kernel
theorem dX0_entrySet_1 : decode cX0_entrySet 1 = .ok (.invokestatic 58, 3) := by decide +kernel
theorem dX0_entrySet_4 : decode cX0_entrySet 4 = .ok (.ifCond .ne 5, 3) := by decide +kernel
theorem dX0_entrySet_7 : decode cX0_entrySet 7 = .ok (.lconst 0, 1) := by decide +kernel
theorem dX0_entrySet_8 : decode cX0_entrySet 8 = .ok (.lreturn, 1) := by decide +kernel
theorem dX0_entrySet_9 : decode cX0_entrySet 9 = .ok (.lconst 0, 1) := by decide +kernel
theorem dX0_entrySet_10 : decode cX0_entrySet 10 = .ok (.lstore_n 3, 1) := by decide +kernel
theorem dX0_entrySet_11 : decode cX0_entrySet 11 = .ok (.iconst 0, 1) := by decide +kernel
theorem dX0_entrySet_12 : decode cX0_entrySet 12 = .ok (.istore 5, 2) := by decide +kernel
theorem dX0_entrySet_14 : decode cX0_entrySet 14 = .ok (.iload 5, 2) := by decide +kernel
theorem dX0_entrySet_16 : decode cX0_entrySet 16 = .ok (.iconst 3, 1) := by decide +kernel
theorem dX0_entrySet_17 : decode cX0_entrySet 17 = .ok (.if_icmp .ge 52, 3) := by decide +kernel
theorem dX0_entrySet_20 : decode cX0_entrySet 20 = .ok (.iload 5, 2) := by decide +kernel
theorem dX0_entrySet_22 : decode cX0_entrySet 22 = .ok (.aload_n 0, 1) := by decide +kernel
theorem dX0_entrySet_23 : decode cX0_entrySet 23 = .ok (.getfield 9, 3) := by decide +kernel
theorem dX0_entrySet_26 : decode cX0_entrySet 26 = .ok (.iload_n 1, 1) := by decide +kernel
theorem dX0_entrySet_27 : decode cX0_entrySet 27 = .ok (.iaload, 1) := by decide +kernel
theorem dX0_entrySet_28 : decode cX0_entrySet 28 = .ok (.if_icmp .ge 41, 3) := by decide +kernel
theorem dX0_entrySet_31 : decode cX0_entrySet 31 = .ok (.iload_n 1, 1) := by decide +kernel
theorem dX0_entrySet_32 : decode cX0_entrySet 32 = .ok (.iconst 3, 1) := by decide +kernel
theorem dX0_entrySet_33 : decode cX0_entrySet 33 = .ok (.imul, 1) := by decide +kernel
theorem dX0_entrySet_34 : decode cX0_entrySet 34 = .ok (.iload 5, 2) := by decide +kernel
theorem dX0_entrySet_36 : decode cX0_entrySet 36 = .ok (.iadd, 1) := by decide +kernel
theorem dX0_entrySet_37 : decode cX0_entrySet 37 = .ok (.istore 6, 2) := by decide +kernel
theorem dX0_entrySet_39 : decode cX0_entrySet 39 = .ok (.lload_n 3, 1) := by decide +kernel
theorem dX0_entrySet_40 : decode cX0_entrySet 40 = .ok (.iload_n 2, 1) := by decide +kernel
theorem dX0_entrySet_41 : decode cX0_entrySet 41 = .ok (.ifCond .eq 13, 3) := by decide +kernel
theorem dX0_entrySet_44 : decode cX0_entrySet 44 = .ok (.aload_n 0, 1) := by decide +kernel
theorem dX0_entrySet_45 : decode cX0_entrySet 45 = .ok (.getfield 24, 3) := by decide +kernel
theorem dX0_entrySet_48 : decode cX0_entrySet 48 = .ok (.iload 6, 2) := by decide +kernel
theorem dX0_entrySet_50 : decode cX0_entrySet 50 = .ok (.laload, 1) := by decide +kernel
theorem dX0_entrySet_51 : decode cX0_entrySet 51 = .ok (.goto 10, 3) := by decide +kernel
theorem dX0_entrySet_54 : decode cX0_entrySet 54 = .ok (.aload_n 0, 1) := by decide +kernel
theorem dX0_entrySet_55 : decode cX0_entrySet 55 = .ok (.getfield 28, 3) := by decide +kernel
theorem dX0_entrySet_58 : decode cX0_entrySet 58 = .ok (.iload 6, 2) := by decide +kernel
theorem dX0_entrySet_60 : decode cX0_entrySet 60 = .ok (.laload, 1) := by decide +kernel
theorem dX0_entrySet_61 : decode cX0_entrySet 61 = .ok (.lor, 1) := by decide +kernel
theorem dX0_entrySet_62 : decode cX0_entrySet 62 = .ok (.lstore_n 3, 1) := by decide +kernel
theorem dX0_entrySet_63 : decode cX0_entrySet 63 = .ok (.iinc 5 1, 3) := by decide +kernel
theorem dX0_entrySet_66 : decode cX0_entrySet 66 = .ok (.goto (-52), 3) := by decide +kernel
theorem dX0_entrySet_69 : decode cX0_entrySet 69 = .ok (.lload_n 3, 1) := by decide +kernel
theorem dX0_entrySet_70 : decode cX0_entrySet 70 = .ok (.lreturn, 1) := by decide +kernel
theorem dX0_supersedes_0 : decode cX0_supersedes 0 = .ok (.aload_n 2, 1) := by decide +kernel
theorem dX0_supersedes_1 : decode cX0_supersedes 1 = .ok (.ifnull 25, 3) := by decide +kernel
theorem dX0_supersedes_4 : decode cX0_supersedes 4 = .ok (.aload_n 2, 1) := by decide +kernel
theorem dX0_supersedes_5 : decode cX0_supersedes 5 = .ok (.getfield 31, 3) := by decide +kernel
theorem dX0_supersedes_8 : decode cX0_supersedes 8 = .ok (.aload_n 0, 1) := by decide +kernel
theorem dX0_supersedes_9 : decode cX0_supersedes 9 = .ok (.getfield 31, 3) := by decide +kernel
theorem dX0_supersedes_12 : decode cX0_supersedes 12 = .ok (.if_icmp .ne 14, 3) := by decide +kernel
theorem dX0_supersedes_15 : decode cX0_supersedes 15 = .ok (.aload_n 2, 1) := by decide +kernel
theorem dX0_supersedes_16 : decode cX0_supersedes 16 = .ok (.getfield 35, 3) := by decide +kernel
theorem dX0_supersedes_19 : decode cX0_supersedes 19 = .ok (.aload_n 0, 1) := by decide +kernel
theorem dX0_supersedes_20 : decode cX0_supersedes 20 = .ok (.getfield 35, 3) := by decide +kernel
theorem dX0_supersedes_23 : decode cX0_supersedes 23 = .ok (.if_icmp .eq 5, 3) := by decide +kernel
theorem dX0_supersedes_26 : decode cX0_supersedes 26 = .ok (.iconst 0, 1) := by decide +kernel
theorem dX0_supersedes_27 : decode cX0_supersedes 27 = .ok (.ireturn, 1) := by decide +kernel
theorem dX0_supersedes_28 : decode cX0_supersedes 28 = .ok (.aload_n 0, 1) := by decide +kernel
theorem dX0_supersedes_29 : decode cX0_supersedes 29 = .ok (.getfield 38, 3) := by decide +kernel
theorem dX0_supersedes_32 : decode cX0_supersedes 32 = .ok (.aload_n 2, 1) := by decide +kernel
theorem dX0_supersedes_33 : decode cX0_supersedes 33 = .ok (.getfield 38, 3) := by decide +kernel
theorem dX0_supersedes_36 : decode cX0_supersedes 36 = .ok (.if_icmp .gt 19, 3) := by decide +kernel
theorem dX0_supersedes_39 : decode cX0_supersedes 39 = .ok (.aload_n 0, 1) := by decide +kernel
theorem dX0_supersedes_40 : decode cX0_supersedes 40 = .ok (.getfield 38, 3) := by decide +kernel
theorem dX0_supersedes_43 : decode cX0_supersedes 43 = .ok (.aload_n 2, 1) := by decide +kernel
theorem dX0_supersedes_44 : decode cX0_supersedes 44 = .ok (.getfield 38, 3) := by decide +kernel
theorem dX0_supersedes_47 : decode cX0_supersedes 47 = .ok (.if_icmp .ne 12, 3) := by decide +kernel
theorem dX0_supersedes_50 : decode cX0_supersedes 50 = .ok (.iload_n 1, 1) := by decide +kernel
theorem dX0_supersedes_51 : decode cX0_supersedes 51 = .ok (.iload_n 3, 1) := by decide +kernel
theorem dX0_supersedes_52 : decode cX0_supersedes 52 = .ok (.if_icmp .le 7, 3) := by decide +kernel
theorem dX0_supersedes_55 : decode cX0_supersedes 55 = .ok (.iconst 1, 1) := by decide +kernel
theorem dX0_supersedes_56 : decode cX0_supersedes 56 = .ok (.goto 4, 3) := by decide +kernel
theorem dX0_supersedes_59 : decode cX0_supersedes 59 = .ok (.iconst 0, 1) := by decide +kernel
theorem dX0_supersedes_60 : decode cX0_supersedes 60 = .ok (.ireturn, 1) := by decide +kernel
theorem dX0_placeOf_0 : decode cX0_placeOf 0 = .ok (.iload_n 1, 1) := by decide +kernel
theorem dX0_placeOf_1 : decode cX0_placeOf 1 = .ok (.invokestatic 58, 3) := by decide +kernel
theorem dX0_placeOf_4 : decode cX0_placeOf 4 = .ok (.ifCond .eq 30, 3) := by decide +kernel
theorem dX0_placeOf_7 : decode cX0_placeOf 7 = .ok (.iload_n 2, 1) := by decide +kernel
theorem dX0_placeOf_8 : decode cX0_placeOf 8 = .ok (.ifCond .lt 26, 3) := by decide +kernel
theorem dX0_placeOf_11 : decode cX0_placeOf 11 = .ok (.iload_n 2, 1) := by decide +kernel
theorem dX0_placeOf_12 : decode cX0_placeOf 12 = .ok (.iconst 3, 1) := by decide +kernel
theorem dX0_placeOf_13 : decode cX0_placeOf 13 = .ok (.if_icmp .ge 21, 3) := by decide +kernel
theorem dX0_placeOf_16 : decode cX0_placeOf 16 = .ok (.iload_n 2, 1) := by decide +kernel
theorem dX0_placeOf_17 : decode cX0_placeOf 17 = .ok (.aload_n 0, 1) := by decide +kernel
theorem dX0_placeOf_18 : decode cX0_placeOf 18 = .ok (.getfield 9, 3) := by decide +kernel
theorem dX0_placeOf_21 : decode cX0_placeOf 21 = .ok (.iload_n 1, 1) := by decide +kernel
theorem dX0_placeOf_22 : decode cX0_placeOf 22 = .ok (.iaload, 1) := by decide +kernel
theorem dX0_placeOf_23 : decode cX0_placeOf 23 = .ok (.if_icmp .ge 11, 3) := by decide +kernel
theorem dX0_placeOf_26 : decode cX0_placeOf 26 = .ok (.iload_n 1, 1) := by decide +kernel
theorem dX0_placeOf_27 : decode cX0_placeOf 27 = .ok (.iconst 3, 1) := by decide +kernel
theorem dX0_placeOf_28 : decode cX0_placeOf 28 = .ok (.imul, 1) := by decide +kernel
theorem dX0_placeOf_29 : decode cX0_placeOf 29 = .ok (.iload_n 2, 1) := by decide +kernel
theorem dX0_placeOf_30 : decode cX0_placeOf 30 = .ok (.iadd, 1) := by decide +kernel
theorem dX0_placeOf_31 : decode cX0_placeOf 31 = .ok (.goto 4, 3) := by decide +kernel
theorem dX0_placeOf_34 : decode cX0_placeOf 34 = .ok (.iconst (-1), 1) := by decide +kernel
theorem dX0_placeOf_35 : decode cX0_placeOf 35 = .ok (.ireturn, 1) := by decide +kernel
theorem dX1_init_0 : decode cX1_init 0 = .ok (.aload_n 0, 1) := by decide +kernel
theorem dX1_init_1 : decode cX1_init 1 = .ok (.invokespecial 3, 3) := by decide +kernel
theorem dX1_init_4 : decode cX1_init 4 = .ok (.aload_n 0, 1) := by decide +kernel
theorem dX1_init_5 : decode cX1_init 5 = .ok (.bipush 8, 2) := by decide +kernel
theorem dX1_init_7 : decode cX1_init 7 = .ok (.newarray .long, 2) := by decide +kernel
theorem dX1_init_9 : decode cX1_init 9 = .ok (.putfield 9, 3) := by decide +kernel
theorem dX1_init_12 : decode cX1_init 12 = .ok (.aload_n 0, 1) := by decide +kernel
theorem dX1_init_13 : decode cX1_init 13 = .ok (.iconst 4, 1) := by decide +kernel
theorem dX1_init_14 : decode cX1_init 14 = .ok (.newarray .long, 2) := by decide +kernel
theorem dX1_init_16 : decode cX1_init 16 = .ok (.putfield 15, 3) := by decide +kernel
theorem dX1_init_19 : decode cX1_init 19 = .ok (.return_, 1) := by decide +kernel
theorem dX1_least_0 : decode cX1_least 0 = .ok (.aload_n 0, 1) := by decide +kernel
theorem dX1_least_1 : decode cX1_least 1 = .ok (.aload_n 1, 1) := by decide +kernel
theorem dX1_least_2 : decode cX1_least 2 = .ok (.iload_n 3, 1) := by decide +kernel
theorem dX1_least_3 : decode cX1_least 3 = .ok (.invokevirtual 18, 3) := by decide +kernel
theorem dX1_least_6 : decode cX1_least 6 = .ok (.istore 6, 2) := by decide +kernel
theorem dX1_least_8 : decode cX1_least 8 = .ok (.iconst (-1), 1) := by decide +kernel
theorem dX1_least_9 : decode cX1_least 9 = .ok (.istore 7, 2) := by decide +kernel
theorem dX1_least_11 : decode cX1_least 11 = .ok (.bipush 9, 2) := by decide +kernel
theorem dX1_least_13 : decode cX1_least 13 = .ok (.istore 8, 2) := by decide +kernel
theorem dX1_least_15 : decode cX1_least 15 = .ok (.iconst 0, 1) := by decide +kernel
theorem dX1_least_16 : decode cX1_least 16 = .ok (.istore 9, 2) := by decide +kernel
theorem dX1_least_18 : decode cX1_least 18 = .ok (.iload 9, 2) := by decide +kernel
theorem dX1_least_20 : decode cX1_least 20 = .ok (.sipush 256, 3) := by decide +kernel
theorem dX1_least_23 : decode cX1_least 23 = .ok (.if_icmp .ge 55, 3) := by decide +kernel
theorem dX1_least_26 : decode cX1_least 26 = .ok (.iload 9, 2) := by decide +kernel
theorem dX1_least_28 : decode cX1_least 28 = .ok (.invokestatic 22, 3) := by decide +kernel
theorem dX1_least_31 : decode cX1_least 31 = .ok (.istore 10, 2) := by decide +kernel
theorem dX1_least_33 : decode cX1_least 33 = .ok (.iload 9, 2) := by decide +kernel
theorem dX1_least_35 : decode cX1_least 35 = .ok (.iload 6, 2) := by decide +kernel
theorem dX1_least_37 : decode cX1_least 37 = .ok (.iconst (-1), 1) := by decide +kernel
theorem dX1_least_38 : decode cX1_least 38 = .ok (.ixor, 1) := by decide +kernel
theorem dX1_least_39 : decode cX1_least 39 = .ok (.iand, 1) := by decide +kernel
theorem dX1_least_40 : decode cX1_least 40 = .ok (.ifCond .ne 32, 3) := by decide +kernel
theorem dX1_least_43 : decode cX1_least 43 = .ok (.iload 10, 2) := by decide +kernel
theorem dX1_least_45 : decode cX1_least 45 = .ok (.iload 8, 2) := by decide +kernel
theorem dX1_least_47 : decode cX1_least 47 = .ok (.if_icmp .ge 25, 3) := by decide +kernel
theorem dX1_least_50 : decode cX1_least 50 = .ok (.aload_n 0, 1) := by decide +kernel
theorem dX1_least_51 : decode cX1_least 51 = .ok (.aload_n 1, 1) := by decide +kernel
theorem dX1_least_52 : decode cX1_least 52 = .ok (.iload 9, 2) := by decide +kernel
theorem dX1_least_54 : decode cX1_least 54 = .ok (.iload_n 2, 1) := by decide +kernel
theorem dX1_least_55 : decode cX1_least 55 = .ok (.iload_n 3, 1) := by decide +kernel
theorem dX1_least_56 : decode cX1_least 56 = .ok (.lload 4, 2) := by decide +kernel
theorem dX1_least_58 : decode cX1_least 58 = .ok (.invokevirtual 28, 3) := by decide +kernel
theorem dX1_least_61 : decode cX1_least 61 = .ok (.ifCond .eq 11, 3) := by decide +kernel
theorem dX1_least_64 : decode cX1_least 64 = .ok (.iload 9, 2) := by decide +kernel
theorem dX1_least_66 : decode cX1_least 66 = .ok (.istore 7, 2) := by decide +kernel
theorem dX1_least_68 : decode cX1_least 68 = .ok (.iload 10, 2) := by decide +kernel
theorem dX1_least_70 : decode cX1_least 70 = .ok (.istore 8, 2) := by decide +kernel
theorem dX1_least_72 : decode cX1_least 72 = .ok (.iinc 9 1, 3) := by decide +kernel
theorem dX1_least_75 : decode cX1_least 75 = .ok (.goto (-57), 3) := by decide +kernel
theorem dX1_least_78 : decode cX1_least 78 = .ok (.iload 7, 2) := by decide +kernel
theorem dX1_least_80 : decode cX1_least 80 = .ok (.ireturn, 1) := by decide +kernel
theorem dX1_usefulBooks_0 : decode cX1_usefulBooks 0 = .ok (.iconst 0, 1) := by decide +kernel
theorem dX1_usefulBooks_1 : decode cX1_usefulBooks 1 = .ok (.istore_n 3, 1) := by decide +kernel
theorem dX1_usefulBooks_2 : decode cX1_usefulBooks 2 = .ok (.iconst 0, 1) := by decide +kernel
theorem dX1_usefulBooks_3 : decode cX1_usefulBooks 3 = .ok (.istore 4, 2) := by decide +kernel
theorem dX1_usefulBooks_5 : decode cX1_usefulBooks 5 = .ok (.iload 4, 2) := by decide +kernel
theorem dX1_usefulBooks_7 : decode cX1_usefulBooks 7 = .ok (.bipush 8, 2) := by decide +kernel
theorem dX1_usefulBooks_9 : decode cX1_usefulBooks 9 = .ok (.if_icmp .ge 38, 3) := by decide +kernel
theorem dX1_usefulBooks_12 : decode cX1_usefulBooks 12 = .ok (.aload_n 1, 1) := by decide +kernel
theorem dX1_usefulBooks_13 : decode cX1_usefulBooks 13 = .ok (.iload 4, 2) := by decide +kernel
theorem dX1_usefulBooks_15 : decode cX1_usefulBooks 15 = .ok (.invokevirtual 32, 3) := by decide +kernel
theorem dX1_usefulBooks_18 : decode cX1_usefulBooks 18 = .ok (.astore 5, 2) := by decide +kernel
theorem dX1_usefulBooks_20 : decode cX1_usefulBooks 20 = .ok (.aload 5, 2) := by decide +kernel
theorem dX1_usefulBooks_22 : decode cX1_usefulBooks 22 = .ok (.ifnull 19, 3) := by decide +kernel
theorem dX1_usefulBooks_25 : decode cX1_usefulBooks 25 = .ok (.aload 5, 2) := by decide +kernel
theorem dX1_usefulBooks_27 : decode cX1_usefulBooks 27 = .ok (.getfield 38, 3) := by decide +kernel
theorem dX1_usefulBooks_30 : decode cX1_usefulBooks 30 = .ok (.iload_n 2, 1) := by decide +kernel
theorem dX1_usefulBooks_31 : decode cX1_usefulBooks 31 = .ok (.if_icmp .eq 10, 3) := by decide +kernel
theorem dX1_usefulBooks_34 : decode cX1_usefulBooks 34 = .ok (.iload_n 3, 1) := by decide +kernel
theorem dX1_usefulBooks_35 : decode cX1_usefulBooks 35 = .ok (.iconst 1, 1) := by decide +kernel
theorem dX1_usefulBooks_36 : decode cX1_usefulBooks 36 = .ok (.iload 4, 2) := by decide +kernel
theorem dX1_usefulBooks_38 : decode cX1_usefulBooks 38 = .ok (.ishl, 1) := by decide +kernel
theorem dX1_usefulBooks_39 : decode cX1_usefulBooks 39 = .ok (.ior, 1) := by decide +kernel
theorem dX1_usefulBooks_40 : decode cX1_usefulBooks 40 = .ok (.istore_n 3, 1) := by decide +kernel
theorem dX1_usefulBooks_41 : decode cX1_usefulBooks 41 = .ok (.iinc 4 1, 3) := by decide +kernel
theorem dX1_usefulBooks_44 : decode cX1_usefulBooks 44 = .ok (.goto (-39), 3) := by decide +kernel
theorem dX1_usefulBooks_47 : decode cX1_usefulBooks 47 = .ok (.iload_n 3, 1) := by decide +kernel
theorem dX1_usefulBooks_48 : decode cX1_usefulBooks 48 = .ok (.ireturn, 1) := by decide +kernel
theorem dX1_allCome_0 : decode cX1_allCome 0 = .ok (.iload_n 3, 1) := by decide +kernel
theorem dX1_allCome_1 : decode cX1_allCome 1 = .ok (.invokestatic 44, 3) := by decide +kernel
theorem dX1_allCome_4 : decode cX1_allCome 4 = .ok (.ifCond .ne 5, 3) := by decide +kernel
theorem dX1_allCome_7 : decode cX1_allCome 7 = .ok (.iconst 0, 1) := by decide +kernel
theorem dX1_allCome_8 : decode cX1_allCome 8 = .ok (.ireturn, 1) := by decide +kernel
theorem dX1_allCome_9 : decode cX1_allCome 9 = .ok (.iconst 0, 1) := by decide +kernel
theorem dX1_allCome_10 : decode cX1_allCome 10 = .ok (.istore 7, 2) := by decide +kernel
theorem dX1_allCome_12 : decode cX1_allCome 12 = .ok (.iload 7, 2) := by decide +kernel
theorem dX1_allCome_14 : decode cX1_allCome 14 = .ok (.bipush 8, 2) := by decide +kernel
theorem dX1_allCome_16 : decode cX1_allCome 16 = .ok (.if_icmp .ge 24, 3) := by decide +kernel
theorem dX1_allCome_19 : decode cX1_allCome 19 = .ok (.aload_n 0, 1) := by decide +kernel
theorem dX1_allCome_20 : decode cX1_allCome 20 = .ok (.getfield 9, 3) := by decide +kernel
theorem dX1_allCome_23 : decode cX1_allCome 23 = .ok (.iload 7, 2) := by decide +kernel
theorem dX1_allCome_25 : decode cX1_allCome 25 = .ok (.aload_n 0, 1) := by decide +kernel
theorem dX1_allCome_26 : decode cX1_allCome 26 = .ok (.aload_n 1, 1) := by decide +kernel
theorem dX1_allCome_27 : decode cX1_allCome 27 = .ok (.iload_n 2, 1) := by decide +kernel
theorem dX1_allCome_28 : decode cX1_allCome 28 = .ok (.iload 7, 2) := by decide +kernel
theorem dX1_allCome_30 : decode cX1_allCome 30 = .ok (.invokevirtual 48, 3) := by decide +kernel
theorem dX1_allCome_33 : decode cX1_allCome 33 = .ok (.lastore, 1) := by decide +kernel
theorem dX1_allCome_34 : decode cX1_allCome 34 = .ok (.iinc 7 1, 3) := by decide +kernel
theorem dX1_allCome_37 : decode cX1_allCome 37 = .ok (.goto (-25), 3) := by decide +kernel
theorem dX1_allCome_40 : decode cX1_allCome 40 = .ok (.iconst 0, 1) := by decide +kernel
theorem dX1_allCome_41 : decode cX1_allCome 41 = .ok (.istore 7, 2) := by decide +kernel
theorem dX1_allCome_43 : decode cX1_allCome 43 = .ok (.iload 7, 2) := by decide +kernel
theorem dX1_allCome_45 : decode cX1_allCome 45 = .ok (.iconst 4, 1) := by decide +kernel
theorem dX1_allCome_46 : decode cX1_allCome 46 = .ok (.if_icmp .ge 30, 3) := by decide +kernel
theorem dX1_allCome_49 : decode cX1_allCome 49 = .ok (.aload_n 0, 1) := by decide +kernel
theorem dX1_allCome_50 : decode cX1_allCome 50 = .ok (.getfield 15, 3) := by decide +kernel
theorem dX1_allCome_53 : decode cX1_allCome 53 = .ok (.iload 7, 2) := by decide +kernel
theorem dX1_allCome_55 : decode cX1_allCome 55 = .ok (.iload 7, 2) := by decide +kernel
theorem dX1_allCome_57 : decode cX1_allCome 57 = .ok (.iload 4, 2) := by decide +kernel
theorem dX1_allCome_59 : decode cX1_allCome 59 = .ok (.if_icmp .ne 9, 3) := by decide +kernel
theorem dX1_allCome_62 : decode cX1_allCome 62 = .ok (.ldc2_w 52, 3) := by decide +kernel
theorem dX1_allCome_65 : decode cX1_allCome 65 = .ok (.goto 4, 3) := by decide +kernel
theorem dX1_allCome_68 : decode cX1_allCome 68 = .ok (.lconst 0, 1) := by decide +kernel
theorem dX1_allCome_69 : decode cX1_allCome 69 = .ok (.lastore, 1) := by decide +kernel
theorem dX1_allCome_70 : decode cX1_allCome 70 = .ok (.iinc 7 1, 3) := by decide +kernel
theorem dX1_allCome_73 : decode cX1_allCome 73 = .ok (.goto (-30), 3) := by decide +kernel
theorem dX1_allCome_76 : decode cX1_allCome 76 = .ok (.iconst 1, 1) := by decide +kernel
theorem dX1_allCome_77 : decode cX1_allCome 77 = .ok (.istore 7, 2) := by decide +kernel
theorem dX1_allCome_79 : decode cX1_allCome 79 = .ok (.iconst 0, 1) := by decide +kernel
theorem dX1_allCome_80 : decode cX1_allCome 80 = .ok (.istore 8, 2) := by decide +kernel
theorem dX1_allCome_82 : decode cX1_allCome 82 = .ok (.iload 8, 2) := by decide +kernel
theorem dX1_allCome_84 : decode cX1_allCome 84 = .ok (.sipush 240, 3) := by decide +kernel
theorem dX1_allCome_87 : decode cX1_allCome 87 = .ok (.if_icmp .ge 21, 3) := by decide +kernel
theorem dX1_allCome_90 : decode cX1_allCome 90 = .ok (.iload 7, 2) := by decide +kernel
theorem dX1_allCome_92 : decode cX1_allCome 92 = .ok (.ifCond .eq 16, 3) := by decide +kernel
theorem dX1_allCome_95 : decode cX1_allCome 95 = .ok (.aload_n 0, 1) := by decide +kernel
theorem dX1_allCome_96 : decode cX1_allCome 96 = .ok (.aload_n 1, 1) := by decide +kernel
theorem dX1_allCome_97 : decode cX1_allCome 97 = .ok (.invokevirtual 54, 3) := by decide +kernel
theorem dX1_allCome_100 : decode cX1_allCome 100 = .ok (.istore 7, 2) := by decide +kernel
theorem dX1_allCome_102 : decode cX1_allCome 102 = .ok (.iinc 8 1, 3) := by decide +kernel
theorem dX1_allCome_105 : decode cX1_allCome 105 = .ok (.goto (-23), 3) := by decide +kernel
theorem dX1_allCome_108 : decode cX1_allCome 108 = .ok (.lload 5, 2) := by decide +kernel
theorem dX1_allCome_110 : decode cX1_allCome 110 = .ok (.aload_n 0, 1) := by decide +kernel
theorem dX1_allCome_111 : decode cX1_allCome 111 = .ok (.getfield 15, 3) := by decide +kernel
theorem dX1_allCome_114 : decode cX1_allCome 114 = .ok (.iload_n 3, 1) := by decide +kernel
theorem dX1_allCome_115 : decode cX1_allCome 115 = .ok (.laload, 1) := by decide +kernel
theorem dX1_allCome_116 : decode cX1_allCome 116 = .ok (.ldc2_w 58, 3) := by decide +kernel
theorem dX1_allCome_119 : decode cX1_allCome 119 = .ok (.lxor, 1) := by decide +kernel
theorem dX1_allCome_120 : decode cX1_allCome 120 = .ok (.land, 1) := by decide +kernel
theorem dX1_allCome_121 : decode cX1_allCome 121 = .ok (.lconst 0, 1) := by decide +kernel
theorem dX1_allCome_122 : decode cX1_allCome 122 = .ok (.lcmp, 1) := by decide +kernel
theorem dX1_allCome_123 : decode cX1_allCome 123 = .ok (.ifCond .ne 7, 3) := by decide +kernel
theorem dX1_allCome_126 : decode cX1_allCome 126 = .ok (.iconst 1, 1) := by decide +kernel
theorem dX1_allCome_127 : decode cX1_allCome 127 = .ok (.goto 4, 3) := by decide +kernel
theorem dX1_allCome_130 : decode cX1_allCome 130 = .ok (.iconst 0, 1) := by decide +kernel
theorem dX1_allCome_131 : decode cX1_allCome 131 = .ok (.ireturn, 1) := by decide +kernel
theorem dX1_countingHeads_0 : decode cX1_countingHeads 0 = .ok (.aload_n 1, 1) := by decide +kernel
theorem dX1_countingHeads_1 : decode cX1_countingHeads 1 = .ok (.iload_n 3, 1) := by decide +kernel
theorem dX1_countingHeads_2 : decode cX1_countingHeads 2 = .ok (.invokevirtual 60, 3) := by decide +kernel
theorem dX1_countingHeads_5 : decode cX1_countingHeads 5 = .ok (.astore 4, 2) := by decide +kernel
theorem dX1_countingHeads_7 : decode cX1_countingHeads 7 = .ok (.aload 4, 2) := by decide +kernel
theorem dX1_countingHeads_9 : decode cX1_countingHeads 9 = .ok (.ifnull 11, 3) := by decide +kernel
theorem dX1_countingHeads_12 : decode cX1_countingHeads 12 = .ok (.iload_n 2, 1) := by decide +kernel
theorem dX1_countingHeads_13 : decode cX1_countingHeads 13 = .ok (.iload_n 3, 1) := by decide +kernel
theorem dX1_countingHeads_14 : decode cX1_countingHeads 14 = .ok (.iushr, 1) := by decide +kernel
theorem dX1_countingHeads_15 : decode cX1_countingHeads 15 = .ok (.iconst 1, 1) := by decide +kernel
theorem dX1_countingHeads_16 : decode cX1_countingHeads 16 = .ok (.iand, 1) := by decide +kernel
theorem dX1_countingHeads_17 : decode cX1_countingHeads 17 = .ok (.ifCond .ne 5, 3) := by decide +kernel
theorem dX1_countingHeads_20 : decode cX1_countingHeads 20 = .ok (.lconst 0, 1) := by decide +kernel
theorem dX1_countingHeads_21 : decode cX1_countingHeads 21 = .ok (.lreturn, 1) := by decide +kernel
theorem dX1_countingHeads_22 : decode cX1_countingHeads 22 = .ok (.aload 4, 2) := by decide +kernel
theorem dX1_countingHeads_24 : decode cX1_countingHeads 24 = .ok (.getfield 63, 3) := by decide +kernel
theorem dX1_countingHeads_27 : decode cX1_countingHeads 27 = .ok (.lstore 5, 2) := by decide +kernel
theorem dX1_countingHeads_29 : decode cX1_countingHeads 29 = .ok (.iconst 0, 1) := by decide +kernel
theorem dX1_countingHeads_30 : decode cX1_countingHeads 30 = .ok (.istore 7, 2) := by decide +kernel
theorem dX1_countingHeads_32 : decode cX1_countingHeads 32 = .ok (.iload 7, 2) := by decide +kernel
theorem dX1_countingHeads_34 : decode cX1_countingHeads 34 = .ok (.bipush 8, 2) := by decide +kernel
theorem dX1_countingHeads_36 : decode cX1_countingHeads 36 = .ok (.if_icmp .ge 70, 3) := by decide +kernel
theorem dX1_countingHeads_39 : decode cX1_countingHeads 39 = .ok (.aload_n 1, 1) := by decide +kernel
theorem dX1_countingHeads_40 : decode cX1_countingHeads 40 = .ok (.iload 7, 2) := by decide +kernel
theorem dX1_countingHeads_42 : decode cX1_countingHeads 42 = .ok (.invokevirtual 60, 3) := by decide +kernel
theorem dX1_countingHeads_45 : decode cX1_countingHeads 45 = .ok (.astore 8, 2) := by decide +kernel
theorem dX1_countingHeads_47 : decode cX1_countingHeads 47 = .ok (.aload 8, 2) := by decide +kernel
theorem dX1_countingHeads_49 : decode cX1_countingHeads 49 = .ok (.ifnull 16, 3) := by decide +kernel
theorem dX1_countingHeads_52 : decode cX1_countingHeads 52 = .ok (.iload_n 2, 1) := by decide +kernel
theorem dX1_countingHeads_53 : decode cX1_countingHeads 53 = .ok (.iload 7, 2) := by decide +kernel
theorem dX1_countingHeads_55 : decode cX1_countingHeads 55 = .ok (.iushr, 1) := by decide +kernel
theorem dX1_countingHeads_56 : decode cX1_countingHeads 56 = .ok (.iconst 1, 1) := by decide +kernel
theorem dX1_countingHeads_57 : decode cX1_countingHeads 57 = .ok (.iand, 1) := by decide +kernel
theorem dX1_countingHeads_58 : decode cX1_countingHeads 58 = .ok (.ifCond .eq 7, 3) := by decide +kernel
theorem dX1_countingHeads_61 : decode cX1_countingHeads 61 = .ok (.iconst 1, 1) := by decide +kernel
theorem dX1_countingHeads_62 : decode cX1_countingHeads 62 = .ok (.goto 4, 3) := by decide +kernel
theorem dX1_countingHeads_65 : decode cX1_countingHeads 65 = .ok (.iconst 0, 1) := by decide +kernel
theorem dX1_countingHeads_66 : decode cX1_countingHeads 66 = .ok (.istore 9, 2) := by decide +kernel
theorem dX1_countingHeads_68 : decode cX1_countingHeads 68 = .ok (.iload 9, 2) := by decide +kernel
theorem dX1_countingHeads_70 : decode cX1_countingHeads 70 = .ok (.ifCond .eq 30, 3) := by decide +kernel
theorem dX1_countingHeads_73 : decode cX1_countingHeads 73 = .ok (.aload 8, 2) := by decide +kernel
theorem dX1_countingHeads_75 : decode cX1_countingHeads 75 = .ok (.iload 7, 2) := by decide +kernel
theorem dX1_countingHeads_77 : decode cX1_countingHeads 77 = .ok (.aload 4, 2) := by decide +kernel
theorem dX1_countingHeads_79 : decode cX1_countingHeads 79 = .ok (.iload_n 3, 1) := by decide +kernel
theorem dX1_countingHeads_80 : decode cX1_countingHeads 80 = .ok (.invokevirtual 67, 3) := by decide +kernel
theorem dX1_countingHeads_83 : decode cX1_countingHeads 83 = .ok (.ifCond .eq 17, 3) := by decide +kernel
theorem dX1_countingHeads_86 : decode cX1_countingHeads 86 = .ok (.lload 5, 2) := by decide +kernel
theorem dX1_countingHeads_88 : decode cX1_countingHeads 88 = .ok (.aload 8, 2) := by decide +kernel
theorem dX1_countingHeads_90 : decode cX1_countingHeads 90 = .ok (.getfield 63, 3) := by decide +kernel
theorem dX1_countingHeads_93 : decode cX1_countingHeads 93 = .ok (.ldc2_w 58, 3) := by decide +kernel
theorem dX1_countingHeads_96 : decode cX1_countingHeads 96 = .ok (.lxor, 1) := by decide +kernel
theorem dX1_countingHeads_97 : decode cX1_countingHeads 97 = .ok (.land, 1) := by decide +kernel
theorem dX1_countingHeads_98 : decode cX1_countingHeads 98 = .ok (.lstore 5, 2) := by decide +kernel
theorem dX1_countingHeads_100 : decode cX1_countingHeads 100 = .ok (.iinc 7 1, 3) := by decide +kernel
theorem dX1_countingHeads_103 : decode cX1_countingHeads 103 = .ok (.goto (-71), 3) := by decide +kernel
theorem dX1_countingHeads_106 : decode cX1_countingHeads 106 = .ok (.lload 5, 2) := by decide +kernel
theorem dX1_countingHeads_108 : decode cX1_countingHeads 108 = .ok (.lreturn, 1) := by decide +kernel
theorem dX1_widen_0 : decode cX1_widen 0 = .ok (.iconst 0, 1) := by decide +kernel
theorem dX1_widen_1 : decode cX1_widen 1 = .ok (.istore_n 2, 1) := by decide +kernel
theorem dX1_widen_2 : decode cX1_widen 2 = .ok (.iconst 0, 1) := by decide +kernel
theorem dX1_widen_3 : decode cX1_widen 3 = .ok (.istore_n 3, 1) := by decide +kernel
theorem dX1_widen_4 : decode cX1_widen 4 = .ok (.iload_n 3, 1) := by decide +kernel
theorem dX1_widen_5 : decode cX1_widen 5 = .ok (.bipush 8, 2) := by decide +kernel
theorem dX1_widen_7 : decode cX1_widen 7 = .ok (.if_icmp .ge 149, 3) := by decide +kernel
theorem dX1_widen_10 : decode cX1_widen 10 = .ok (.aload_n 1, 1) := by decide +kernel
theorem dX1_widen_11 : decode cX1_widen 11 = .ok (.iload_n 3, 1) := by decide +kernel
theorem dX1_widen_12 : decode cX1_widen 12 = .ok (.invokevirtual 60, 3) := by decide +kernel
theorem dX1_widen_15 : decode cX1_widen 15 = .ok (.astore 4, 2) := by decide +kernel
theorem dX1_widen_17 : decode cX1_widen 17 = .ok (.aload 4, 2) := by decide +kernel
theorem dX1_widen_19 : decode cX1_widen 19 = .ok (.ifnull 131, 3) := by decide +kernel
theorem dX1_widen_22 : decode cX1_widen 22 = .ok (.aload_n 0, 1) := by decide +kernel
theorem dX1_widen_23 : decode cX1_widen 23 = .ok (.getfield 9, 3) := by decide +kernel
theorem dX1_widen_26 : decode cX1_widen 26 = .ok (.iload_n 3, 1) := by decide +kernel
theorem dX1_widen_27 : decode cX1_widen 27 = .ok (.laload, 1) := by decide +kernel
theorem dX1_widen_28 : decode cX1_widen 28 = .ok (.lconst 0, 1) := by decide +kernel
theorem dX1_widen_29 : decode cX1_widen 29 = .ok (.lcmp, 1) := by decide +kernel
theorem dX1_widen_30 : decode cX1_widen 30 = .ok (.ifCond .eq 120, 3) := by decide +kernel
theorem dX1_widen_33 : decode cX1_widen 33 = .ok (.aload 4, 2) := by decide +kernel
theorem dX1_widen_35 : decode cX1_widen 35 = .ok (.getfield 38, 3) := by decide +kernel
theorem dX1_widen_38 : decode cX1_widen 38 = .ok (.invokestatic 44, 3) := by decide +kernel
theorem dX1_widen_41 : decode cX1_widen 41 = .ok (.ifCond .eq 109, 3) := by decide +kernel
theorem dX1_widen_44 : decode cX1_widen 44 = .ok (.aload 4, 2) := by decide +kernel
theorem dX1_widen_46 : decode cX1_widen 46 = .ok (.getfield 71, 3) := by decide +kernel
theorem dX1_widen_49 : decode cX1_widen 49 = .ok (.invokestatic 44, 3) := by decide +kernel
theorem dX1_widen_52 : decode cX1_widen 52 = .ok (.ifCond .ne 6, 3) := by decide +kernel
theorem dX1_widen_55 : decode cX1_widen 55 = .ok (.goto 95, 3) := by decide +kernel
theorem dX1_widen_58 : decode cX1_widen 58 = .ok (.aload_n 0, 1) := by decide +kernel
theorem dX1_widen_59 : decode cX1_widen 59 = .ok (.getfield 15, 3) := by decide +kernel
theorem dX1_widen_62 : decode cX1_widen 62 = .ok (.aload 4, 2) := by decide +kernel
theorem dX1_widen_64 : decode cX1_widen 64 = .ok (.getfield 38, 3) := by decide +kernel
theorem dX1_widen_67 : decode cX1_widen 67 = .ok (.laload, 1) := by decide +kernel
theorem dX1_widen_68 : decode cX1_widen 68 = .ok (.lstore 5, 2) := by decide +kernel
theorem dX1_widen_70 : decode cX1_widen 70 = .ok (.aload_n 0, 1) := by decide +kernel
theorem dX1_widen_71 : decode cX1_widen 71 = .ok (.getfield 15, 3) := by decide +kernel
theorem dX1_widen_74 : decode cX1_widen 74 = .ok (.aload 4, 2) := by decide +kernel
theorem dX1_widen_76 : decode cX1_widen 76 = .ok (.getfield 71, 3) := by decide +kernel
theorem dX1_widen_79 : decode cX1_widen 79 = .ok (.laload, 1) := by decide +kernel
theorem dX1_widen_80 : decode cX1_widen 80 = .ok (.lstore 7, 2) := by decide +kernel
theorem dX1_widen_82 : decode cX1_widen 82 = .ok (.lload 7, 2) := by decide +kernel
theorem dX1_widen_84 : decode cX1_widen 84 = .ok (.lconst 0, 1) := by decide +kernel
theorem dX1_widen_85 : decode cX1_widen 85 = .ok (.lcmp, 1) := by decide +kernel
theorem dX1_widen_86 : decode cX1_widen 86 = .ok (.ifCond .eq 40, 3) := by decide +kernel
theorem dX1_widen_89 : decode cX1_widen 89 = .ok (.aload_n 0, 1) := by decide +kernel
theorem dX1_widen_90 : decode cX1_widen 90 = .ok (.getfield 15, 3) := by decide +kernel
theorem dX1_widen_93 : decode cX1_widen 93 = .ok (.aload 4, 2) := by decide +kernel
theorem dX1_widen_95 : decode cX1_widen 95 = .ok (.getfield 38, 3) := by decide +kernel
theorem dX1_widen_98 : decode cX1_widen 98 = .ok (.dup2, 1) := by decide +kernel
theorem dX1_widen_99 : decode cX1_widen 99 = .ok (.laload, 1) := by decide +kernel
theorem dX1_widen_100 : decode cX1_widen 100 = .ok (.aload 4, 2) := by decide +kernel
theorem dX1_widen_102 : decode cX1_widen 102 = .ok (.aload_n 0, 1) := by decide +kernel
theorem dX1_widen_103 : decode cX1_widen 103 = .ok (.getfield 9, 3) := by decide +kernel
theorem dX1_widen_106 : decode cX1_widen 106 = .ok (.iload_n 3, 1) := by decide +kernel
theorem dX1_widen_107 : decode cX1_widen 107 = .ok (.laload, 1) := by decide +kernel
theorem dX1_widen_108 : decode cX1_widen 108 = .ok (.lload 5, 2) := by decide +kernel
theorem dX1_widen_110 : decode cX1_widen 110 = .ok (.ldc2_w 58, 3) := by decide +kernel
theorem dX1_widen_113 : decode cX1_widen 113 = .ok (.lxor, 1) := by decide +kernel
theorem dX1_widen_114 : decode cX1_widen 114 = .ok (.land, 1) := by decide +kernel
theorem dX1_widen_115 : decode cX1_widen 115 = .ok (.lload 7, 2) := by decide +kernel
theorem dX1_widen_117 : decode cX1_widen 117 = .ok (.aload_n 1, 1) := by decide +kernel
theorem dX1_widen_118 : decode cX1_widen 118 = .ok (.getfield 74, 3) := by decide +kernel
theorem dX1_widen_121 : decode cX1_widen 121 = .ok (.invokestatic 78, 3) := by decide +kernel
theorem dX1_widen_124 : decode cX1_widen 124 = .ok (.lor, 1) := by decide +kernel
theorem dX1_widen_125 : decode cX1_widen 125 = .ok (.lastore, 1) := by decide +kernel
theorem dX1_widen_126 : decode cX1_widen 126 = .ok (.iload_n 2, 1) := by decide +kernel
theorem dX1_widen_127 : decode cX1_widen 127 = .ok (.aload_n 0, 1) := by decide +kernel
theorem dX1_widen_128 : decode cX1_widen 128 = .ok (.getfield 15, 3) := by decide +kernel
theorem dX1_widen_131 : decode cX1_widen 131 = .ok (.aload 4, 2) := by decide +kernel
theorem dX1_widen_133 : decode cX1_widen 133 = .ok (.getfield 38, 3) := by decide +kernel
theorem dX1_widen_136 : decode cX1_widen 136 = .ok (.laload, 1) := by decide +kernel
theorem dX1_widen_137 : decode cX1_widen 137 = .ok (.lload 5, 2) := by decide +kernel
theorem dX1_widen_139 : decode cX1_widen 139 = .ok (.lcmp, 1) := by decide +kernel
theorem dX1_widen_140 : decode cX1_widen 140 = .ok (.ifCond .eq 7, 3) := by decide +kernel
theorem dX1_widen_143 : decode cX1_widen 143 = .ok (.iconst 1, 1) := by decide +kernel
theorem dX1_widen_144 : decode cX1_widen 144 = .ok (.goto 4, 3) := by decide +kernel
theorem dX1_widen_147 : decode cX1_widen 147 = .ok (.iconst 0, 1) := by decide +kernel
theorem dX1_widen_148 : decode cX1_widen 148 = .ok (.ior, 1) := by decide +kernel
theorem dX1_widen_149 : decode cX1_widen 149 = .ok (.istore_n 2, 1) := by decide +kernel
theorem dX1_widen_150 : decode cX1_widen 150 = .ok (.iinc 3 1, 3) := by decide +kernel
theorem dX1_widen_153 : decode cX1_widen 153 = .ok (.goto (-149), 3) := by decide +kernel
theorem dX1_widen_156 : decode cX1_widen 156 = .ok (.iload_n 2, 1) := by decide +kernel
theorem dX1_widen_157 : decode cX1_widen 157 = .ok (.ireturn, 1) := by decide +kernel
theorem dX1_leadingInto_0 : decode cX1_leadingInto 0 = .ok (.lconst 0, 1) := by decide +kernel
theorem dX1_leadingInto_1 : decode cX1_leadingInto 1 = .ok (.lstore 6, 2) := by decide +kernel
theorem dX1_leadingInto_3 : decode cX1_leadingInto 3 = .ok (.iconst 0, 1) := by decide +kernel
theorem dX1_leadingInto_4 : decode cX1_leadingInto 4 = .ok (.istore 8, 2) := by decide +kernel
theorem dX1_leadingInto_6 : decode cX1_leadingInto 6 = .ok (.iload 8, 2) := by decide +kernel
theorem dX1_leadingInto_8 : decode cX1_leadingInto 8 = .ok (.bipush 60, 2) := by decide +kernel
theorem dX1_leadingInto_10 : decode cX1_leadingInto 10 = .ok (.if_icmp .ge 49, 3) := by decide +kernel
theorem dX1_leadingInto_13 : decode cX1_leadingInto 13 = .ok (.lload_n 1, 1) := by decide +kernel
theorem dX1_leadingInto_14 : decode cX1_leadingInto 14 = .ok (.lconst 0, 1) := by decide +kernel
theorem dX1_leadingInto_15 : decode cX1_leadingInto 15 = .ok (.lcmp, 1) := by decide +kernel
theorem dX1_leadingInto_16 : decode cX1_leadingInto 16 = .ok (.ifCond .eq 43, 3) := by decide +kernel
theorem dX1_leadingInto_19 : decode cX1_leadingInto 19 = .ok (.lload_n 1, 1) := by decide +kernel
theorem dX1_leadingInto_20 : decode cX1_leadingInto 20 = .ok (.iload 8, 2) := by decide +kernel
theorem dX1_leadingInto_22 : decode cX1_leadingInto 22 = .ok (.invokestatic 82, 3) := by decide +kernel
theorem dX1_leadingInto_25 : decode cX1_leadingInto 25 = .ok (.ifCond .eq 28, 3) := by decide +kernel
theorem dX1_leadingInto_28 : decode cX1_leadingInto 28 = .ok (.aload_n 0, 1) := by decide +kernel
theorem dX1_leadingInto_29 : decode cX1_leadingInto 29 = .ok (.iload 8, 2) := by decide +kernel
theorem dX1_leadingInto_31 : decode cX1_leadingInto 31 = .ok (.iload 5, 2) := by decide +kernel
theorem dX1_leadingInto_33 : decode cX1_leadingInto 33 = .ok (.invokevirtual 86, 3) := by decide +kernel
theorem dX1_leadingInto_36 : decode cX1_leadingInto 36 = .ok (.lload_n 3, 1) := by decide +kernel
theorem dX1_leadingInto_37 : decode cX1_leadingInto 37 = .ok (.land, 1) := by decide +kernel
theorem dX1_leadingInto_38 : decode cX1_leadingInto 38 = .ok (.lconst 0, 1) := by decide +kernel
theorem dX1_leadingInto_39 : decode cX1_leadingInto 39 = .ok (.lcmp, 1) := by decide +kernel
theorem dX1_leadingInto_40 : decode cX1_leadingInto 40 = .ok (.ifCond .eq 13, 3) := by decide +kernel
theorem dX1_leadingInto_43 : decode cX1_leadingInto 43 = .ok (.lload 6, 2) := by decide +kernel
theorem dX1_leadingInto_45 : decode cX1_leadingInto 45 = .ok (.iload 8, 2) := by decide +kernel
theorem dX1_leadingInto_47 : decode cX1_leadingInto 47 = .ok (.invokestatic 90, 3) := by decide +kernel
theorem dX1_leadingInto_50 : decode cX1_leadingInto 50 = .ok (.lor, 1) := by decide +kernel
theorem dX1_leadingInto_51 : decode cX1_leadingInto 51 = .ok (.lstore 6, 2) := by decide +kernel
theorem dX1_leadingInto_53 : decode cX1_leadingInto 53 = .ok (.iinc 8 1, 3) := by decide +kernel
theorem dX1_leadingInto_56 : decode cX1_leadingInto 56 = .ok (.goto (-50), 3) := by decide +kernel
theorem dX1_leadingInto_59 : decode cX1_leadingInto 59 = .ok (.lload 6, 2) := by decide +kernel
theorem dX1_leadingInto_61 : decode cX1_leadingInto 61 = .ok (.lreturn, 1) := by decide +kernel
theorem dX2_init_0 : decode cX2_init 0 = .ok (.aload_n 0, 1) := by decide +kernel
theorem dX2_init_1 : decode cX2_init 1 = .ok (.invokespecial 3, 3) := by decide +kernel
theorem dX2_init_4 : decode cX2_init 4 = .ok (.aload_n 0, 1) := by decide +kernel
theorem dX2_init_5 : decode cX2_init 5 = .ok (.bipush 30, 2) := by decide +kernel
theorem dX2_init_7 : decode cX2_init 7 = .ok (.newarray .int, 2) := by decide +kernel
theorem dX2_init_9 : decode cX2_init 9 = .ok (.putfield 9, 3) := by decide +kernel
theorem dX2_init_12 : decode cX2_init 12 = .ok (.aload_n 0, 1) := by decide +kernel
theorem dX2_init_13 : decode cX2_init 13 = .ok (.bipush 30, 2) := by decide +kernel
theorem dX2_init_15 : decode cX2_init 15 = .ok (.newarray .int, 2) := by decide +kernel
theorem dX2_init_17 : decode cX2_init 17 = .ok (.putfield 15, 3) := by decide +kernel
theorem dX2_init_20 : decode cX2_init 20 = .ok (.aload_n 0, 1) := by decide +kernel
theorem dX2_init_21 : decode cX2_init 21 = .ok (.bipush 30, 2) := by decide +kernel
theorem dX2_init_23 : decode cX2_init 23 = .ok (.newarray .int, 2) := by decide +kernel
theorem dX2_init_25 : decode cX2_init 25 = .ok (.putfield 18, 3) := by decide +kernel
theorem dX2_init_28 : decode cX2_init 28 = .ok (.aload_n 0, 1) := by decide +kernel
theorem dX2_init_29 : decode cX2_init 29 = .ok (.bipush 30, 2) := by decide +kernel
theorem dX2_init_31 : decode cX2_init 31 = .ok (.newarray .int, 2) := by decide +kernel
theorem dX2_init_33 : decode cX2_init 33 = .ok (.putfield 21, 3) := by decide +kernel
theorem dX2_init_36 : decode cX2_init 36 = .ok (.aload_n 0, 1) := by decide +kernel
theorem dX2_init_37 : decode cX2_init 37 = .ok (.iconst 0, 1) := by decide +kernel
theorem dX2_init_38 : decode cX2_init 38 = .ok (.putfield 24, 3) := by decide +kernel
theorem dX2_init_41 : decode cX2_init 41 = .ok (.return_, 1) := by decide +kernel
theorem dX2_holds_0 : decode cX2_holds 0 = .ok (.iconst 0, 1) := by decide +kernel
theorem dX2_holds_1 : decode cX2_holds 1 = .ok (.istore 5, 2) := by decide +kernel
theorem dX2_holds_3 : decode cX2_holds 3 = .ok (.iload 5, 2) := by decide +kernel
theorem dX2_holds_5 : decode cX2_holds 5 = .ok (.aload_n 0, 1) := by decide +kernel
theorem dX2_holds_6 : decode cX2_holds 6 = .ok (.getfield 24, 3) := by decide +kernel
theorem dX2_holds_9 : decode cX2_holds 9 = .ok (.if_icmp .ge 156, 3) := by decide +kernel
theorem dX2_holds_12 : decode cX2_holds 12 = .ok (.iload 5, 2) := by decide +kernel
theorem dX2_holds_14 : decode cX2_holds 14 = .ok (.bipush 30, 2) := by decide +kernel
theorem dX2_holds_16 : decode cX2_holds 16 = .ok (.if_icmp .ge 149, 3) := by decide +kernel
theorem dX2_holds_19 : decode cX2_holds 19 = .ok (.aload_n 0, 1) := by decide +kernel
theorem dX2_holds_20 : decode cX2_holds 20 = .ok (.getfield 9, 3) := by decide +kernel
theorem dX2_holds_23 : decode cX2_holds 23 = .ok (.iload 5, 2) := by decide +kernel
theorem dX2_holds_25 : decode cX2_holds 25 = .ok (.iaload, 1) := by decide +kernel
theorem dX2_holds_26 : decode cX2_holds 26 = .ok (.iload_n 1, 1) := by decide +kernel
theorem dX2_holds_27 : decode cX2_holds 27 = .ok (.if_icmp .ne 18, 3) := by decide +kernel
theorem dX2_holds_30 : decode cX2_holds 30 = .ok (.aload_n 0, 1) := by decide +kernel
theorem dX2_holds_31 : decode cX2_holds 31 = .ok (.getfield 15, 3) := by decide +kernel
theorem dX2_holds_34 : decode cX2_holds 34 = .ok (.iload 5, 2) := by decide +kernel
theorem dX2_holds_36 : decode cX2_holds 36 = .ok (.iaload, 1) := by decide +kernel
theorem dX2_holds_37 : decode cX2_holds 37 = .ok (.iload_n 2, 1) := by decide +kernel
theorem dX2_holds_38 : decode cX2_holds 38 = .ok (.if_icmp .ne 7, 3) := by decide +kernel
theorem dX2_holds_41 : decode cX2_holds 41 = .ok (.iconst 1, 1) := by decide +kernel
theorem dX2_holds_42 : decode cX2_holds 42 = .ok (.goto 4, 3) := by decide +kernel
theorem dX2_holds_45 : decode cX2_holds 45 = .ok (.iconst 0, 1) := by decide +kernel
theorem dX2_holds_46 : decode cX2_holds 46 = .ok (.istore 6, 2) := by decide +kernel
theorem dX2_holds_48 : decode cX2_holds 48 = .ok (.aload_n 0, 1) := by decide +kernel
theorem dX2_holds_49 : decode cX2_holds 49 = .ok (.getfield 18, 3) := by decide +kernel
theorem dX2_holds_52 : decode cX2_holds 52 = .ok (.iload 5, 2) := by decide +kernel
theorem dX2_holds_54 : decode cX2_holds 54 = .ok (.iaload, 1) := by decide +kernel
theorem dX2_holds_55 : decode cX2_holds 55 = .ok (.iload_n 3, 1) := by decide +kernel
theorem dX2_holds_56 : decode cX2_holds 56 = .ok (.if_icmp .ne 19, 3) := by decide +kernel
theorem dX2_holds_59 : decode cX2_holds 59 = .ok (.aload_n 0, 1) := by decide +kernel
theorem dX2_holds_60 : decode cX2_holds 60 = .ok (.getfield 21, 3) := by decide +kernel
theorem dX2_holds_63 : decode cX2_holds 63 = .ok (.iload 5, 2) := by decide +kernel
theorem dX2_holds_65 : decode cX2_holds 65 = .ok (.iaload, 1) := by decide +kernel
theorem dX2_holds_66 : decode cX2_holds 66 = .ok (.iload 4, 2) := by decide +kernel
theorem dX2_holds_68 : decode cX2_holds 68 = .ok (.if_icmp .ne 7, 3) := by decide +kernel
theorem dX2_holds_71 : decode cX2_holds 71 = .ok (.iconst 1, 1) := by decide +kernel
theorem dX2_holds_72 : decode cX2_holds 72 = .ok (.goto 4, 3) := by decide +kernel
theorem dX2_holds_75 : decode cX2_holds 75 = .ok (.iconst 0, 1) := by decide +kernel
theorem dX2_holds_76 : decode cX2_holds 76 = .ok (.istore 7, 2) := by decide +kernel
theorem dX2_holds_78 : decode cX2_holds 78 = .ok (.aload_n 0, 1) := by decide +kernel
theorem dX2_holds_79 : decode cX2_holds 79 = .ok (.getfield 9, 3) := by decide +kernel
theorem dX2_holds_82 : decode cX2_holds 82 = .ok (.iload 5, 2) := by decide +kernel
theorem dX2_holds_84 : decode cX2_holds 84 = .ok (.iaload, 1) := by decide +kernel
theorem dX2_holds_85 : decode cX2_holds 85 = .ok (.iload_n 3, 1) := by decide +kernel
theorem dX2_holds_86 : decode cX2_holds 86 = .ok (.if_icmp .ne 19, 3) := by decide +kernel
theorem dX2_holds_89 : decode cX2_holds 89 = .ok (.aload_n 0, 1) := by decide +kernel
theorem dX2_holds_90 : decode cX2_holds 90 = .ok (.getfield 15, 3) := by decide +kernel
theorem dX2_holds_93 : decode cX2_holds 93 = .ok (.iload 5, 2) := by decide +kernel
theorem dX2_holds_95 : decode cX2_holds 95 = .ok (.iaload, 1) := by decide +kernel
theorem dX2_holds_96 : decode cX2_holds 96 = .ok (.iload 4, 2) := by decide +kernel
theorem dX2_holds_98 : decode cX2_holds 98 = .ok (.if_icmp .ne 7, 3) := by decide +kernel
theorem dX2_holds_101 : decode cX2_holds 101 = .ok (.iconst 1, 1) := by decide +kernel
theorem dX2_holds_102 : decode cX2_holds 102 = .ok (.goto 4, 3) := by decide +kernel
theorem dX2_holds_105 : decode cX2_holds 105 = .ok (.iconst 0, 1) := by decide +kernel
theorem dX2_holds_106 : decode cX2_holds 106 = .ok (.istore 8, 2) := by decide +kernel
theorem dX2_holds_108 : decode cX2_holds 108 = .ok (.aload_n 0, 1) := by decide +kernel
theorem dX2_holds_109 : decode cX2_holds 109 = .ok (.getfield 18, 3) := by decide +kernel
theorem dX2_holds_112 : decode cX2_holds 112 = .ok (.iload 5, 2) := by decide +kernel
theorem dX2_holds_114 : decode cX2_holds 114 = .ok (.iaload, 1) := by decide +kernel
theorem dX2_holds_115 : decode cX2_holds 115 = .ok (.iload_n 1, 1) := by decide +kernel
theorem dX2_holds_116 : decode cX2_holds 116 = .ok (.if_icmp .ne 18, 3) := by decide +kernel
theorem dX2_holds_119 : decode cX2_holds 119 = .ok (.aload_n 0, 1) := by decide +kernel
theorem dX2_holds_120 : decode cX2_holds 120 = .ok (.getfield 21, 3) := by decide +kernel
theorem dX2_holds_123 : decode cX2_holds 123 = .ok (.iload 5, 2) := by decide +kernel
theorem dX2_holds_125 : decode cX2_holds 125 = .ok (.iaload, 1) := by decide +kernel
theorem dX2_holds_126 : decode cX2_holds 126 = .ok (.iload_n 2, 1) := by decide +kernel
theorem dX2_holds_127 : decode cX2_holds 127 = .ok (.if_icmp .ne 7, 3) := by decide +kernel
theorem dX2_holds_130 : decode cX2_holds 130 = .ok (.iconst 1, 1) := by decide +kernel
theorem dX2_holds_131 : decode cX2_holds 131 = .ok (.goto 4, 3) := by decide +kernel
theorem dX2_holds_134 : decode cX2_holds 134 = .ok (.iconst 0, 1) := by decide +kernel
theorem dX2_holds_135 : decode cX2_holds 135 = .ok (.istore 9, 2) := by decide +kernel
theorem dX2_holds_137 : decode cX2_holds 137 = .ok (.iload 6, 2) := by decide +kernel
theorem dX2_holds_139 : decode cX2_holds 139 = .ok (.ifCond .eq 8, 3) := by decide +kernel
theorem dX2_holds_142 : decode cX2_holds 142 = .ok (.iload 7, 2) := by decide +kernel
theorem dX2_holds_144 : decode cX2_holds 144 = .ok (.ifCond .ne 13, 3) := by decide +kernel
theorem dX2_holds_147 : decode cX2_holds 147 = .ok (.iload 8, 2) := by decide +kernel
theorem dX2_holds_149 : decode cX2_holds 149 = .ok (.ifCond .eq 10, 3) := by decide +kernel
theorem dX2_holds_152 : decode cX2_holds 152 = .ok (.iload 9, 2) := by decide +kernel
theorem dX2_holds_154 : decode cX2_holds 154 = .ok (.ifCond .eq 5, 3) := by decide +kernel
theorem dX2_holds_157 : decode cX2_holds 157 = .ok (.iconst 1, 1) := by decide +kernel
theorem dX2_holds_158 : decode cX2_holds 158 = .ok (.ireturn, 1) := by decide +kernel
theorem dX2_holds_159 : decode cX2_holds 159 = .ok (.iinc 5 1, 3) := by decide +kernel
theorem dX2_holds_162 : decode cX2_holds 162 = .ok (.goto (-159), 3) := by decide +kernel
theorem dX2_holds_165 : decode cX2_holds 165 = .ok (.iconst 0, 1) := by decide +kernel
theorem dX2_holds_166 : decode cX2_holds 166 = .ok (.ireturn, 1) := by decide +kernel
theorem dX2_add_0 : decode cX2_add 0 = .ok (.aload_n 0, 1) := by decide +kernel
theorem dX2_add_1 : decode cX2_add 1 = .ok (.getfield 24, 3) := by decide +kernel
theorem dX2_add_4 : decode cX2_add 4 = .ok (.ifCond .lt 12, 3) := by decide +kernel
theorem dX2_add_7 : decode cX2_add 7 = .ok (.aload_n 0, 1) := by decide +kernel
theorem dX2_add_8 : decode cX2_add 8 = .ok (.getfield 24, 3) := by decide +kernel
theorem dX2_add_11 : decode cX2_add 11 = .ok (.bipush 30, 2) := by decide +kernel
theorem dX2_add_13 : decode cX2_add 13 = .ok (.if_icmp .lt 7, 3) := by decide +kernel
theorem dX2_add_16 : decode cX2_add 16 = .ok (.sipush (-1004), 3) := by decide +kernel
theorem dX2_add_19 : decode cX2_add 19 = .ok (.ireturn, 1) := by decide +kernel
theorem dX2_add_20 : decode cX2_add 20 = .ok (.aload_n 0, 1) := by decide +kernel
theorem dX2_add_21 : decode cX2_add 21 = .ok (.getfield 9, 3) := by decide +kernel
theorem dX2_add_24 : decode cX2_add 24 = .ok (.aload_n 0, 1) := by decide +kernel
theorem dX2_add_25 : decode cX2_add 25 = .ok (.getfield 24, 3) := by decide +kernel
theorem dX2_add_28 : decode cX2_add 28 = .ok (.iload_n 1, 1) := by decide +kernel
theorem dX2_add_29 : decode cX2_add 29 = .ok (.iastore, 1) := by decide +kernel
theorem dX2_add_30 : decode cX2_add 30 = .ok (.aload_n 0, 1) := by decide +kernel
theorem dX2_add_31 : decode cX2_add 31 = .ok (.getfield 15, 3) := by decide +kernel
theorem dX2_add_34 : decode cX2_add 34 = .ok (.aload_n 0, 1) := by decide +kernel
theorem dX2_add_35 : decode cX2_add 35 = .ok (.getfield 24, 3) := by decide +kernel
theorem dX2_add_38 : decode cX2_add 38 = .ok (.iload_n 2, 1) := by decide +kernel
theorem dX2_add_39 : decode cX2_add 39 = .ok (.iastore, 1) := by decide +kernel
theorem dX2_add_40 : decode cX2_add 40 = .ok (.aload_n 0, 1) := by decide +kernel
theorem dX2_add_41 : decode cX2_add 41 = .ok (.getfield 18, 3) := by decide +kernel
theorem dX2_add_44 : decode cX2_add 44 = .ok (.aload_n 0, 1) := by decide +kernel
theorem dX2_add_45 : decode cX2_add 45 = .ok (.getfield 24, 3) := by decide +kernel
theorem dX2_add_48 : decode cX2_add 48 = .ok (.iload_n 3, 1) := by decide +kernel
theorem dX2_add_49 : decode cX2_add 49 = .ok (.iastore, 1) := by decide +kernel
theorem dX2_add_50 : decode cX2_add 50 = .ok (.aload_n 0, 1) := by decide +kernel
theorem dX2_add_51 : decode cX2_add 51 = .ok (.getfield 21, 3) := by decide +kernel
theorem dX2_add_54 : decode cX2_add 54 = .ok (.aload_n 0, 1) := by decide +kernel
theorem dX2_add_55 : decode cX2_add 55 = .ok (.getfield 24, 3) := by decide +kernel
theorem dX2_add_58 : decode cX2_add 58 = .ok (.iload 4, 2) := by decide +kernel
theorem dX2_add_60 : decode cX2_add 60 = .ok (.iastore, 1) := by decide +kernel
theorem dX2_add_61 : decode cX2_add 61 = .ok (.aload_n 0, 1) := by decide +kernel
theorem dX2_add_62 : decode cX2_add 62 = .ok (.dup, 1) := by decide +kernel
theorem dX2_add_63 : decode cX2_add 63 = .ok (.getfield 24, 3) := by decide +kernel
theorem dX2_add_66 : decode cX2_add 66 = .ok (.iconst 1, 1) := by decide +kernel
theorem dX2_add_67 : decode cX2_add 67 = .ok (.iadd, 1) := by decide +kernel
theorem dX2_add_68 : decode cX2_add 68 = .ok (.putfield 24, 3) := by decide +kernel
theorem dX2_add_71 : decode cX2_add 71 = .ok (.aload_n 0, 1) := by decide +kernel
theorem dX2_add_72 : decode cX2_add 72 = .ok (.getfield 24, 3) := by decide +kernel
theorem dX2_add_75 : decode cX2_add 75 = .ok (.ireturn, 1) := by decide +kernel
theorem dX2_judge_0 : decode cX2_judge 0 = .ok (.iload_n 1, 1) := by decide +kernel
theorem dX2_judge_1 : decode cX2_judge 1 = .ok (.ifCond .lt 17, 3) := by decide +kernel
theorem dX2_judge_4 : decode cX2_judge 4 = .ok (.iload_n 1, 1) := by decide +kernel
theorem dX2_judge_5 : decode cX2_judge 5 = .ok (.aload_n 0, 1) := by decide +kernel
theorem dX2_judge_6 : decode cX2_judge 6 = .ok (.getfield 24, 3) := by decide +kernel
theorem dX2_judge_9 : decode cX2_judge 9 = .ok (.if_icmp .ge 9, 3) := by decide +kernel
theorem dX2_judge_12 : decode cX2_judge 12 = .ok (.iload_n 1, 1) := by decide +kernel
theorem dX2_judge_13 : decode cX2_judge 13 = .ok (.bipush 30, 2) := by decide +kernel
theorem dX2_judge_15 : decode cX2_judge 15 = .ok (.if_icmp .lt 5, 3) := by decide +kernel
theorem dX2_judge_18 : decode cX2_judge 18 = .ok (.iconst 0, 1) := by decide +kernel
theorem dX2_judge_19 : decode cX2_judge 19 = .ok (.ireturn, 1) := by decide +kernel
theorem dX2_judge_20 : decode cX2_judge 20 = .ok (.aload_n 2, 1) := by decide +kernel
theorem dX2_judge_21 : decode cX2_judge 21 = .ok (.aload_n 0, 1) := by decide +kernel
theorem dX2_judge_22 : decode cX2_judge 22 = .ok (.getfield 9, 3) := by decide +kernel
theorem dX2_judge_25 : decode cX2_judge 25 = .ok (.iload_n 1, 1) := by decide +kernel
theorem dX2_judge_26 : decode cX2_judge 26 = .ok (.iaload, 1) := by decide +kernel
theorem dX2_judge_27 : decode cX2_judge 27 = .ok (.aload_n 0, 1) := by decide +kernel
theorem dX2_judge_28 : decode cX2_judge 28 = .ok (.getfield 15, 3) := by decide +kernel
theorem dX2_judge_31 : decode cX2_judge 31 = .ok (.iload_n 1, 1) := by decide +kernel
theorem dX2_judge_32 : decode cX2_judge 32 = .ok (.iaload, 1) := by decide +kernel
theorem dX2_judge_33 : decode cX2_judge 33 = .ok (.aload_n 0, 1) := by decide +kernel
theorem dX2_judge_34 : decode cX2_judge 34 = .ok (.getfield 18, 3) := by decide +kernel
theorem dX2_judge_37 : decode cX2_judge 37 = .ok (.iload_n 1, 1) := by decide +kernel
theorem dX2_judge_38 : decode cX2_judge 38 = .ok (.iaload, 1) := by decide +kernel
theorem dX2_judge_39 : decode cX2_judge 39 = .ok (.aload_n 0, 1) := by decide +kernel
theorem dX2_judge_40 : decode cX2_judge 40 = .ok (.getfield 21, 3) := by decide +kernel
theorem dX2_judge_43 : decode cX2_judge 43 = .ok (.iload_n 1, 1) := by decide +kernel
theorem dX2_judge_44 : decode cX2_judge 44 = .ok (.iaload, 1) := by decide +kernel
theorem dX2_judge_45 : decode cX2_judge 45 = .ok (.invokestatic 28, 3) := by decide +kernel
theorem dX2_judge_48 : decode cX2_judge 48 = .ok (.istore_n 3, 1) := by decide +kernel
theorem dX2_judge_49 : decode cX2_judge 49 = .ok (.aload_n 2, 1) := by decide +kernel
theorem dX2_judge_50 : decode cX2_judge 50 = .ok (.aload_n 0, 1) := by decide +kernel
theorem dX2_judge_51 : decode cX2_judge 51 = .ok (.getfield 18, 3) := by decide +kernel
theorem dX2_judge_54 : decode cX2_judge 54 = .ok (.iload_n 1, 1) := by decide +kernel
theorem dX2_judge_55 : decode cX2_judge 55 = .ok (.iaload, 1) := by decide +kernel
theorem dX2_judge_56 : decode cX2_judge 56 = .ok (.aload_n 0, 1) := by decide +kernel
theorem dX2_judge_57 : decode cX2_judge 57 = .ok (.getfield 21, 3) := by decide +kernel
theorem dX2_judge_60 : decode cX2_judge 60 = .ok (.iload_n 1, 1) := by decide +kernel
theorem dX2_judge_61 : decode cX2_judge 61 = .ok (.iaload, 1) := by decide +kernel
theorem dX2_judge_62 : decode cX2_judge 62 = .ok (.aload_n 0, 1) := by decide +kernel
theorem dX2_judge_63 : decode cX2_judge 63 = .ok (.getfield 9, 3) := by decide +kernel
theorem dX2_judge_66 : decode cX2_judge 66 = .ok (.iload_n 1, 1) := by decide +kernel
theorem dX2_judge_67 : decode cX2_judge 67 = .ok (.iaload, 1) := by decide +kernel
theorem dX2_judge_68 : decode cX2_judge 68 = .ok (.aload_n 0, 1) := by decide +kernel
theorem dX2_judge_69 : decode cX2_judge 69 = .ok (.getfield 15, 3) := by decide +kernel
theorem dX2_judge_72 : decode cX2_judge 72 = .ok (.iload_n 1, 1) := by decide +kernel
theorem dX2_judge_73 : decode cX2_judge 73 = .ok (.iaload, 1) := by decide +kernel
theorem dX2_judge_74 : decode cX2_judge 74 = .ok (.invokestatic 28, 3) := by decide +kernel
theorem dX2_judge_77 : decode cX2_judge 77 = .ok (.istore 4, 2) := by decide +kernel
theorem dX2_judge_79 : decode cX2_judge 79 = .ok (.iload_n 3, 1) := by decide +kernel
theorem dX2_judge_80 : decode cX2_judge 80 = .ok (.iload 4, 2) := by decide +kernel
theorem dX2_judge_82 : decode cX2_judge 82 = .ok (.invokestatic 32, 3) := by decide +kernel
theorem dX2_judge_85 : decode cX2_judge 85 = .ok (.ireturn, 1) := by decide +kernel
theorem dX2_judgeSide_0 : decode cX2_judgeSide 0 = .ok (.aload_n 0, 1) := by decide +kernel
theorem dX2_judgeSide_1 : decode cX2_judgeSide 1 = .ok (.iload_n 1, 1) := by decide +kernel
theorem dX2_judgeSide_2 : decode cX2_judgeSide 2 = .ok (.iload_n 2, 1) := by decide +kernel
theorem dX2_judgeSide_3 : decode cX2_judgeSide 3 = .ok (.iload_n 3, 1) := by decide +kernel
theorem dX2_judgeSide_4 : decode cX2_judgeSide 4 = .ok (.invokevirtual 38, 3) := by decide +kernel
theorem dX2_judgeSide_7 : decode cX2_judgeSide 7 = .ok (.iconst (-1), 1) := by decide +kernel
theorem dX2_judgeSide_8 : decode cX2_judgeSide 8 = .ok (.if_icmp .ne 5, 3) := by decide +kernel
theorem dX2_judgeSide_11 : decode cX2_judgeSide 11 = .ok (.iconst 0, 1) := by decide +kernel
theorem dX2_judgeSide_12 : decode cX2_judgeSide 12 = .ok (.ireturn, 1) := by decide +kernel
theorem dX2_judgeSide_13 : decode cX2_judgeSide 13 = .ok (.aload_n 0, 1) := by decide +kernel
theorem dX2_judgeSide_14 : decode cX2_judgeSide 14 = .ok (.iload_n 1, 1) := by decide +kernel
theorem dX2_judgeSide_15 : decode cX2_judgeSide 15 = .ok (.iload_n 2, 1) := by decide +kernel
theorem dX2_judgeSide_16 : decode cX2_judgeSide 16 = .ok (.iload_n 3, 1) := by decide +kernel
theorem dX2_judgeSide_17 : decode cX2_judgeSide 17 = .ok (.invokevirtual 44, 3) := by decide +kernel
theorem dX2_judgeSide_20 : decode cX2_judgeSide 20 = .ok (.iload 4, 2) := by decide +kernel
theorem dX2_judgeSide_22 : decode cX2_judgeSide 22 = .ok (.invokestatic 48, 3) := by decide +kernel
theorem dX2_judgeSide_25 : decode cX2_judgeSide 25 = .ok (.ifCond .eq 7, 3) := by decide +kernel
theorem dX2_judgeSide_28 : decode cX2_judgeSide 28 = .ok (.iconst 1, 1) := by decide +kernel
theorem dX2_judgeSide_29 : decode cX2_judgeSide 29 = .ok (.goto 4, 3) := by decide +kernel
theorem dX2_judgeSide_32 : decode cX2_judgeSide 32 = .ok (.iconst 2, 1) := by decide +kernel
theorem dX2_judgeSide_33 : decode cX2_judgeSide 33 = .ok (.ireturn, 1) := by decide +kernel
theorem dX3_init_0 : decode cX3_init 0 = .ok (.aload_n 0, 1) := by decide +kernel
theorem dX3_init_1 : decode cX3_init 1 = .ok (.invokespecial 3, 3) := by decide +kernel
theorem dX3_init_4 : decode cX3_init 4 = .ok (.aload_n 0, 1) := by decide +kernel
theorem dX3_init_5 : decode cX3_init 5 = .ok (.sipush 180, 3) := by decide +kernel
theorem dX3_init_8 : decode cX3_init 8 = .ok (.newarray .int, 2) := by decide +kernel
theorem dX3_init_10 : decode cX3_init 10 = .ok (.putfield 11, 3) := by decide +kernel
theorem dX3_init_13 : decode cX3_init 13 = .ok (.aload_n 0, 1) := by decide +kernel
theorem dX3_init_14 : decode cX3_init 14 = .ok (.sipush 180, 3) := by decide +kernel
theorem dX3_init_17 : decode cX3_init 17 = .ok (.newarray .int, 2) := by decide +kernel
theorem dX3_init_19 : decode cX3_init 19 = .ok (.putfield 15, 3) := by decide +kernel
theorem dX3_init_22 : decode cX3_init 22 = .ok (.aload_n 0, 1) := by decide +kernel
theorem dX3_init_23 : decode cX3_init 23 = .ok (.sipush 180, 3) := by decide +kernel
theorem dX3_init_26 : decode cX3_init 26 = .ok (.newarray .int, 2) := by decide +kernel
theorem dX3_init_28 : decode cX3_init 28 = .ok (.putfield 18, 3) := by decide +kernel
theorem dX3_init_31 : decode cX3_init 31 = .ok (.aload_n 0, 1) := by decide +kernel
theorem dX3_init_32 : decode cX3_init 32 = .ok (.bipush 10, 2) := by decide +kernel
theorem dX3_init_34 : decode cX3_init 34 = .ok (.newarray .int, 2) := by decide +kernel
theorem dX3_init_36 : decode cX3_init 36 = .ok (.putfield 21, 3) := by decide +kernel
theorem dX3_init_39 : decode cX3_init 39 = .ok (.aload_n 0, 1) := by decide +kernel
theorem dX3_init_40 : decode cX3_init 40 = .ok (.bipush 10, 2) := by decide +kernel
theorem dX3_init_42 : decode cX3_init 42 = .ok (.newarray .int, 2) := by decide +kernel
theorem dX3_init_44 : decode cX3_init 44 = .ok (.putfield 24, 3) := by decide +kernel
theorem dX3_init_47 : decode cX3_init 47 = .ok (.aload_n 0, 1) := by decide +kernel
theorem dX3_init_48 : decode cX3_init 48 = .ok (.bipush 60, 2) := by decide +kernel
theorem dX3_init_50 : decode cX3_init 50 = .ok (.newarray .int, 2) := by decide +kernel
theorem dX3_init_52 : decode cX3_init 52 = .ok (.putfield 27, 3) := by decide +kernel
theorem dX3_init_55 : decode cX3_init 55 = .ok (.aload_n 0, 1) := by decide +kernel
theorem dX3_init_56 : decode cX3_init 56 = .ok (.iconst 0, 1) := by decide +kernel
theorem dX3_init_57 : decode cX3_init 57 = .ok (.putfield 30, 3) := by decide +kernel
theorem dX3_init_60 : decode cX3_init 60 = .ok (.aload_n 0, 1) := by decide +kernel
theorem dX3_init_61 : decode cX3_init 61 = .ok (.iconst (-1), 1) := by decide +kernel
theorem dX3_init_62 : decode cX3_init 62 = .ok (.putfield 34, 3) := by decide +kernel
theorem dX3_init_65 : decode cX3_init 65 = .ok (.return_, 1) := by decide +kernel
theorem dX3_solve_0 : decode cX3_solve 0 = .ok (.aload_n 0, 1) := by decide +kernel
theorem dX3_solve_1 : decode cX3_solve 1 = .ok (.aload_n 1, 1) := by decide +kernel
theorem dX3_solve_2 : decode cX3_solve 2 = .ok (.getfield 37, 3) := by decide +kernel
theorem dX3_solve_5 : decode cX3_solve 5 = .ok (.bipush 10, 2) := by decide +kernel
theorem dX3_solve_7 : decode cX3_solve 7 = .ok (.invokestatic 40, 3) := by decide +kernel
theorem dX3_solve_10 : decode cX3_solve 10 = .ok (.putfield 30, 3) := by decide +kernel
theorem dX3_solve_13 : decode cX3_solve 13 = .ok (.aload_n 0, 1) := by decide +kernel
theorem dX3_solve_14 : decode cX3_solve 14 = .ok (.iload_n 2, 1) := by decide +kernel
theorem dX3_solve_15 : decode cX3_solve 15 = .ok (.putfield 34, 3) := by decide +kernel
theorem dX3_solve_18 : decode cX3_solve 18 = .ok (.iconst 0, 1) := by decide +kernel
theorem dX3_solve_19 : decode cX3_solve 19 = .ok (.istore 5, 2) := by decide +kernel
theorem dX3_solve_21 : decode cX3_solve 21 = .ok (.iload 5, 2) := by decide +kernel
theorem dX3_solve_23 : decode cX3_solve 23 = .ok (.aload_n 0, 1) := by decide +kernel
theorem dX3_solve_24 : decode cX3_solve 24 = .ok (.getfield 30, 3) := by decide +kernel
theorem dX3_solve_27 : decode cX3_solve 27 = .ok (.if_icmp .ge 66, 3) := by decide +kernel
theorem dX3_solve_30 : decode cX3_solve 30 = .ok (.aload_n 1, 1) := by decide +kernel
theorem dX3_solve_31 : decode cX3_solve 31 = .ok (.iload 5, 2) := by decide +kernel
theorem dX3_solve_33 : decode cX3_solve 33 = .ok (.invokevirtual 46, 3) := by decide +kernel
theorem dX3_solve_36 : decode cX3_solve 36 = .ok (.istore 6, 2) := by decide +kernel
theorem dX3_solve_38 : decode cX3_solve 38 = .ok (.aload_n 3, 1) := by decide +kernel
theorem dX3_solve_39 : decode cX3_solve 39 = .ok (.aload_n 3, 1) := by decide +kernel
theorem dX3_solve_40 : decode cX3_solve 40 = .ok (.aload_n 1, 1) := by decide +kernel
theorem dX3_solve_41 : decode cX3_solve 41 = .ok (.getfield 50, 3) := by decide +kernel
theorem dX3_solve_44 : decode cX3_solve 44 = .ok (.iload 6, 2) := by decide +kernel
theorem dX3_solve_46 : decode cX3_solve 46 = .ok (.iload_n 2, 1) := by decide +kernel
theorem dX3_solve_47 : decode cX3_solve 47 = .ok (.invokevirtual 51, 3) := by decide +kernel
theorem dX3_solve_50 : decode cX3_solve 50 = .ok (.invokevirtual 57, 3) := by decide +kernel
theorem dX3_solve_53 : decode cX3_solve 53 = .ok (.astore 7, 2) := by decide +kernel
theorem dX3_solve_55 : decode cX3_solve 55 = .ok (.iconst 0, 1) := by decide +kernel
theorem dX3_solve_56 : decode cX3_solve 56 = .ok (.istore 8, 2) := by decide +kernel
theorem dX3_solve_58 : decode cX3_solve 58 = .ok (.iload 8, 2) := by decide +kernel
theorem dX3_solve_60 : decode cX3_solve 60 = .ok (.bipush 18, 2) := by decide +kernel
theorem dX3_solve_62 : decode cX3_solve 62 = .ok (.if_icmp .ge 25, 3) := by decide +kernel
theorem dX3_solve_65 : decode cX3_solve 65 = .ok (.aload_n 0, 1) := by decide +kernel
theorem dX3_solve_66 : decode cX3_solve 66 = .ok (.iload 5, 2) := by decide +kernel
theorem dX3_solve_68 : decode cX3_solve 68 = .ok (.iload 8, 2) := by decide +kernel
theorem dX3_solve_70 : decode cX3_solve 70 = .ok (.aload 7, 2) := by decide +kernel
theorem dX3_solve_72 : decode cX3_solve 72 = .ok (.iload 6, 2) := by decide +kernel
theorem dX3_solve_74 : decode cX3_solve 74 = .ok (.aload_n 3, 1) := by decide +kernel
theorem dX3_solve_75 : decode cX3_solve 75 = .ok (.getfield 61, 3) := by decide +kernel
theorem dX3_solve_78 : decode cX3_solve 78 = .ok (.invokevirtual 65, 3) := by decide +kernel
theorem dX3_solve_81 : decode cX3_solve 81 = .ok (.iinc 8 1, 3) := by decide +kernel
theorem dX3_solve_84 : decode cX3_solve 84 = .ok (.goto (-26), 3) := by decide +kernel
theorem dX3_solve_87 : decode cX3_solve 87 = .ok (.iinc 5 1, 3) := by decide +kernel
theorem dX3_solve_90 : decode cX3_solve 90 = .ok (.goto (-69), 3) := by decide +kernel
theorem dX3_solve_93 : decode cX3_solve 93 = .ok (.aload_n 0, 1) := by decide +kernel
theorem dX3_solve_94 : decode cX3_solve 94 = .ok (.getfield 30, 3) := by decide +kernel
theorem dX3_solve_97 : decode cX3_solve 97 = .ok (.iconst 1, 1) := by decide +kernel
theorem dX3_solve_98 : decode cX3_solve 98 = .ok (.isub, 1) := by decide +kernel
theorem dX3_solve_99 : decode cX3_solve 99 = .ok (.istore 5, 2) := by decide +kernel
theorem dX3_solve_101 : decode cX3_solve 101 = .ok (.iload 5, 2) := by decide +kernel
theorem dX3_solve_103 : decode cX3_solve 103 = .ok (.ifCond .lt 17, 3) := by decide +kernel
theorem dX3_solve_106 : decode cX3_solve 106 = .ok (.aload_n 0, 1) := by decide +kernel
theorem dX3_solve_107 : decode cX3_solve 107 = .ok (.iload 5, 2) := by decide +kernel
theorem dX3_solve_109 : decode cX3_solve 109 = .ok (.aload 4, 2) := by decide +kernel
theorem dX3_solve_111 : decode cX3_solve 111 = .ok (.invokevirtual 69, 3) := by decide +kernel
theorem dX3_solve_114 : decode cX3_solve 114 = .ok (.iinc 5 (-1), 3) := by decide +kernel
theorem dX3_solve_117 : decode cX3_solve 117 = .ok (.goto (-16), 3) := by decide +kernel
theorem dX3_solve_120 : decode cX3_solve 120 = .ok (.iconst 0, 1) := by decide +kernel
theorem dX3_solve_121 : decode cX3_solve 121 = .ok (.istore 5, 2) := by decide +kernel
theorem dX3_solve_123 : decode cX3_solve 123 = .ok (.iload 5, 2) := by decide +kernel
theorem dX3_solve_125 : decode cX3_solve 125 = .ok (.aload_n 0, 1) := by decide +kernel
theorem dX3_solve_126 : decode cX3_solve 126 = .ok (.getfield 30, 3) := by decide +kernel
theorem dX3_solve_129 : decode cX3_solve 129 = .ok (.if_icmp .ge 17, 3) := by decide +kernel
theorem dX3_solve_132 : decode cX3_solve 132 = .ok (.aload_n 0, 1) := by decide +kernel
theorem dX3_solve_133 : decode cX3_solve 133 = .ok (.iload 5, 2) := by decide +kernel
theorem dX3_solve_135 : decode cX3_solve 135 = .ok (.aload 4, 2) := by decide +kernel
theorem dX3_solve_137 : decode cX3_solve 137 = .ok (.invokevirtual 73, 3) := by decide +kernel
theorem dX3_solve_140 : decode cX3_solve 140 = .ok (.iinc 5 1, 3) := by decide +kernel
theorem dX3_solve_143 : decode cX3_solve 143 = .ok (.goto (-20), 3) := by decide +kernel
theorem dX3_solve_146 : decode cX3_solve 146 = .ok (.return_, 1) := by decide +kernel
theorem dX3_offer_0 : decode cX3_offer 0 = .ok (.aload_n 0, 1) := by decide +kernel
theorem dX3_offer_1 : decode cX3_offer 1 = .ok (.iload_n 1, 1) := by decide +kernel
theorem dX3_offer_2 : decode cX3_offer 2 = .ok (.iload_n 2, 1) := by decide +kernel
theorem dX3_offer_3 : decode cX3_offer 3 = .ok (.invokevirtual 76, 3) := by decide +kernel
theorem dX3_offer_6 : decode cX3_offer 6 = .ok (.istore 6, 2) := by decide +kernel
theorem dX3_offer_8 : decode cX3_offer 8 = .ok (.iload 6, 2) := by decide +kernel
theorem dX3_offer_10 : decode cX3_offer 10 = .ok (.iconst (-1), 1) := by decide +kernel
theorem dX3_offer_11 : decode cX3_offer 11 = .ok (.if_icmp .ne 4, 3) := by decide +kernel
theorem dX3_offer_14 : decode cX3_offer 14 = .ok (.return_, 1) := by decide +kernel
theorem dX3_offer_15 : decode cX3_offer 15 = .ok (.aload_n 0, 1) := by decide +kernel
theorem dX3_offer_16 : decode cX3_offer 16 = .ok (.getfield 11, 3) := by decide +kernel
theorem dX3_offer_19 : decode cX3_offer 19 = .ok (.iload 6, 2) := by decide +kernel
theorem dX3_offer_21 : decode cX3_offer 21 = .ok (.iconst (-1), 1) := by decide +kernel
theorem dX3_offer_22 : decode cX3_offer 22 = .ok (.iastore, 1) := by decide +kernel
theorem dX3_offer_23 : decode cX3_offer 23 = .ok (.aload_n 0, 1) := by decide +kernel
theorem dX3_offer_24 : decode cX3_offer 24 = .ok (.getfield 15, 3) := by decide +kernel
theorem dX3_offer_27 : decode cX3_offer 27 = .ok (.iload 6, 2) := by decide +kernel
theorem dX3_offer_29 : decode cX3_offer 29 = .ok (.iconst (-1), 1) := by decide +kernel
theorem dX3_offer_30 : decode cX3_offer 30 = .ok (.iastore, 1) := by decide +kernel
theorem dX3_offer_31 : decode cX3_offer 31 = .ok (.aload_n 3, 1) := by decide +kernel
theorem dX3_offer_32 : decode cX3_offer 32 = .ok (.ifnonnull 4, 3) := by decide +kernel
theorem dX3_offer_35 : decode cX3_offer 35 = .ok (.return_, 1) := by decide +kernel
theorem dX3_offer_36 : decode cX3_offer 36 = .ok (.iload_n 2, 1) := by decide +kernel
theorem dX3_offer_37 : decode cX3_offer 37 = .ok (.bipush 6, 2) := by decide +kernel
theorem dX3_offer_39 : decode cX3_offer 39 = .ok (.idiv, 1) := by decide +kernel
theorem dX3_offer_40 : decode cX3_offer 40 = .ok (.istore 7, 2) := by decide +kernel
theorem dX3_offer_42 : decode cX3_offer 42 = .ok (.aload_n 3, 1) := by decide +kernel
theorem dX3_offer_43 : decode cX3_offer 43 = .ok (.iload 4, 2) := by decide +kernel
theorem dX3_offer_45 : decode cX3_offer 45 = .ok (.iload 7, 2) := by decide +kernel
theorem dX3_offer_47 : decode cX3_offer 47 = .ok (.iload_n 2, 1) := by decide +kernel
theorem dX3_offer_48 : decode cX3_offer 48 = .ok (.bipush 6, 2) := by decide +kernel
theorem dX3_offer_50 : decode cX3_offer 50 = .ok (.irem, 1) := by decide +kernel
theorem dX3_offer_51 : decode cX3_offer 51 = .ok (.invokevirtual 79, 3) := by decide +kernel
theorem dX3_offer_54 : decode cX3_offer 54 = .ok (.istore 8, 2) := by decide +kernel
theorem dX3_offer_56 : decode cX3_offer 56 = .ok (.aload_n 3, 1) := by decide +kernel
theorem dX3_offer_57 : decode cX3_offer 57 = .ok (.iload 4, 2) := by decide +kernel
theorem dX3_offer_59 : decode cX3_offer 59 = .ok (.iload 7, 2) := by decide +kernel
theorem dX3_offer_61 : decode cX3_offer 61 = .ok (.iload 5, 2) := by decide +kernel
theorem dX3_offer_63 : decode cX3_offer 63 = .ok (.invokevirtual 83, 3) := by decide +kernel
theorem dX3_offer_66 : decode cX3_offer 66 = .ok (.iload 8, 2) := by decide +kernel
theorem dX3_offer_68 : decode cX3_offer 68 = .ok (.invokestatic 87, 3) := by decide +kernel
theorem dX3_offer_71 : decode cX3_offer 71 = .ok (.ifCond .ne 4, 3) := by decide +kernel
theorem dX3_offer_74 : decode cX3_offer 74 = .ok (.return_, 1) := by decide +kernel
theorem dX3_offer_75 : decode cX3_offer 75 = .ok (.aload_n 0, 1) := by decide +kernel
theorem dX3_offer_76 : decode cX3_offer 76 = .ok (.getfield 11, 3) := by decide +kernel
theorem dX3_offer_79 : decode cX3_offer 79 = .ok (.iload 6, 2) := by decide +kernel
theorem dX3_offer_81 : decode cX3_offer 81 = .ok (.iload 8, 2) := by decide +kernel
theorem dX3_offer_83 : decode cX3_offer 83 = .ok (.iastore, 1) := by decide +kernel
theorem dX3_offer_84 : decode cX3_offer 84 = .ok (.aload_n 0, 1) := by decide +kernel
theorem dX3_offer_85 : decode cX3_offer 85 = .ok (.getfield 15, 3) := by decide +kernel
theorem dX3_offer_88 : decode cX3_offer 88 = .ok (.iload 6, 2) := by decide +kernel
theorem dX3_offer_90 : decode cX3_offer 90 = .ok (.aload_n 3, 1) := by decide +kernel
theorem dX3_offer_91 : decode cX3_offer 91 = .ok (.iload 4, 2) := by decide +kernel
theorem dX3_offer_93 : decode cX3_offer 93 = .ok (.iload 7, 2) := by decide +kernel
theorem dX3_offer_95 : decode cX3_offer 95 = .ok (.invokevirtual 91, 3) := by decide +kernel
theorem dX3_offer_98 : decode cX3_offer 98 = .ok (.iastore, 1) := by decide +kernel
theorem dX3_offer_99 : decode cX3_offer 99 = .ok (.return_, 1) := by decide +kernel
theorem dX3_sumUp_0 : decode cX3_sumUp 0 = .ok (.iload_n 1, 1) := by decide +kernel
theorem dX3_sumUp_1 : decode cX3_sumUp 1 = .ok (.ifCond .lt 9, 3) := by decide +kernel
theorem dX3_sumUp_4 : decode cX3_sumUp 4 = .ok (.iload_n 1, 1) := by decide +kernel
theorem dX3_sumUp_5 : decode cX3_sumUp 5 = .ok (.bipush 10, 2) := by decide +kernel
theorem dX3_sumUp_7 : decode cX3_sumUp 7 = .ok (.if_icmp .lt 4, 3) := by decide +kernel
theorem dX3_sumUp_10 : decode cX3_sumUp 10 = .ok (.return_, 1) := by decide +kernel
theorem dX3_sumUp_11 : decode cX3_sumUp 11 = .ok (.iconst (-1), 1) := by decide +kernel
theorem dX3_sumUp_12 : decode cX3_sumUp 12 = .ok (.istore_n 3, 1) := by decide +kernel
theorem dX3_sumUp_13 : decode cX3_sumUp 13 = .ok (.iconst 0, 1) := by decide +kernel
theorem dX3_sumUp_14 : decode cX3_sumUp 14 = .ok (.istore 4, 2) := by decide +kernel
theorem dX3_sumUp_16 : decode cX3_sumUp 16 = .ok (.iload 4, 2) := by decide +kernel
theorem dX3_sumUp_18 : decode cX3_sumUp 18 = .ok (.bipush 18, 2) := by decide +kernel
theorem dX3_sumUp_20 : decode cX3_sumUp 20 = .ok (.if_icmp .ge 75, 3) := by decide +kernel
theorem dX3_sumUp_23 : decode cX3_sumUp 23 = .ok (.aload_n 0, 1) := by decide +kernel
theorem dX3_sumUp_24 : decode cX3_sumUp 24 = .ok (.iload_n 1, 1) := by decide +kernel
theorem dX3_sumUp_25 : decode cX3_sumUp 25 = .ok (.iload 4, 2) := by decide +kernel
theorem dX3_sumUp_27 : decode cX3_sumUp 27 = .ok (.invokevirtual 76, 3) := by decide +kernel
theorem dX3_sumUp_30 : decode cX3_sumUp 30 = .ok (.istore 5, 2) := by decide +kernel
theorem dX3_sumUp_32 : decode cX3_sumUp 32 = .ok (.aload_n 0, 1) := by decide +kernel
theorem dX3_sumUp_33 : decode cX3_sumUp 33 = .ok (.iload 5, 2) := by decide +kernel
theorem dX3_sumUp_35 : decode cX3_sumUp 35 = .ok (.invokevirtual 94, 3) := by decide +kernel
theorem dX3_sumUp_38 : decode cX3_sumUp 38 = .ok (.iconst (-1), 1) := by decide +kernel
theorem dX3_sumUp_39 : decode cX3_sumUp 39 = .ok (.if_icmp .ne 6, 3) := by decide +kernel
theorem dX3_sumUp_42 : decode cX3_sumUp 42 = .ok (.goto 47, 3) := by decide +kernel
theorem dX3_sumUp_45 : decode cX3_sumUp 45 = .ok (.aload_n 2, 1) := by decide +kernel
theorem dX3_sumUp_46 : decode cX3_sumUp 46 = .ok (.aload_n 0, 1) := by decide +kernel
theorem dX3_sumUp_47 : decode cX3_sumUp 47 = .ok (.getfield 34, 3) := by decide +kernel
theorem dX3_sumUp_50 : decode cX3_sumUp 50 = .ok (.aload_n 0, 1) := by decide +kernel
theorem dX3_sumUp_51 : decode cX3_sumUp 51 = .ok (.iload 5, 2) := by decide +kernel
theorem dX3_sumUp_53 : decode cX3_sumUp 53 = .ok (.invokevirtual 94, 3) := by decide +kernel
theorem dX3_sumUp_56 : decode cX3_sumUp 56 = .ok (.aload_n 0, 1) := by decide +kernel
theorem dX3_sumUp_57 : decode cX3_sumUp 57 = .ok (.getfield 27, 3) := by decide +kernel
theorem dX3_sumUp_60 : decode cX3_sumUp 60 = .ok (.invokevirtual 97, 3) := by decide +kernel
theorem dX3_sumUp_63 : decode cX3_sumUp 63 = .ok (.aload_n 0, 1) := by decide +kernel
theorem dX3_sumUp_64 : decode cX3_sumUp 64 = .ok (.getfield 18, 3) := by decide +kernel
theorem dX3_sumUp_67 : decode cX3_sumUp 67 = .ok (.iload 5, 2) := by decide +kernel
theorem dX3_sumUp_69 : decode cX3_sumUp 69 = .ok (.aload_n 0, 1) := by decide +kernel
theorem dX3_sumUp_70 : decode cX3_sumUp 70 = .ok (.iload_n 1, 1) := by decide +kernel
theorem dX3_sumUp_71 : decode cX3_sumUp 71 = .ok (.iload 5, 2) := by decide +kernel
theorem dX3_sumUp_73 : decode cX3_sumUp 73 = .ok (.invokevirtual 103, 3) := by decide +kernel
theorem dX3_sumUp_76 : decode cX3_sumUp 76 = .ok (.iastore, 1) := by decide +kernel
theorem dX3_sumUp_77 : decode cX3_sumUp 77 = .ok (.iload_n 3, 1) := by decide +kernel
theorem dX3_sumUp_78 : decode cX3_sumUp 78 = .ok (.aload_n 0, 1) := by decide +kernel
theorem dX3_sumUp_79 : decode cX3_sumUp 79 = .ok (.getfield 18, 3) := by decide +kernel
theorem dX3_sumUp_82 : decode cX3_sumUp 82 = .ok (.iload 5, 2) := by decide +kernel
theorem dX3_sumUp_84 : decode cX3_sumUp 84 = .ok (.iaload, 1) := by decide +kernel
theorem dX3_sumUp_85 : decode cX3_sumUp 85 = .ok (.invokestatic 106, 3) := by decide +kernel
theorem dX3_sumUp_88 : decode cX3_sumUp 88 = .ok (.istore_n 3, 1) := by decide +kernel
theorem dX3_sumUp_89 : decode cX3_sumUp 89 = .ok (.iinc 4 1, 3) := by decide +kernel
theorem dX3_sumUp_92 : decode cX3_sumUp 92 = .ok (.goto (-76), 3) := by decide +kernel
theorem dX3_sumUp_95 : decode cX3_sumUp 95 = .ok (.aload_n 0, 1) := by decide +kernel
theorem dX3_sumUp_96 : decode cX3_sumUp 96 = .ok (.getfield 21, 3) := by decide +kernel
theorem dX3_sumUp_99 : decode cX3_sumUp 99 = .ok (.iload_n 1, 1) := by decide +kernel
theorem dX3_sumUp_100 : decode cX3_sumUp 100 = .ok (.iload_n 3, 1) := by decide +kernel
theorem dX3_sumUp_101 : decode cX3_sumUp 101 = .ok (.iconst (-1), 1) := by decide +kernel
theorem dX3_sumUp_102 : decode cX3_sumUp 102 = .ok (.if_icmp .ne 13, 3) := by decide +kernel
theorem dX3_sumUp_105 : decode cX3_sumUp 105 = .ok (.aload_n 0, 1) := by decide +kernel
theorem dX3_sumUp_106 : decode cX3_sumUp 106 = .ok (.iload_n 1, 1) := by decide +kernel
theorem dX3_sumUp_107 : decode cX3_sumUp 107 = .ok (.iconst 1, 1) := by decide +kernel
theorem dX3_sumUp_108 : decode cX3_sumUp 108 = .ok (.iadd, 1) := by decide +kernel
theorem dX3_sumUp_109 : decode cX3_sumUp 109 = .ok (.invokevirtual 109, 3) := by decide +kernel
theorem dX3_sumUp_112 : decode cX3_sumUp 112 = .ok (.goto 4, 3) := by decide +kernel
theorem dX3_sumUp_115 : decode cX3_sumUp 115 = .ok (.iload_n 3, 1) := by decide +kernel
theorem dX3_sumUp_116 : decode cX3_sumUp 116 = .ok (.iastore, 1) := by decide +kernel
theorem dX3_sumUp_117 : decode cX3_sumUp 117 = .ok (.return_, 1) := by decide +kernel
theorem dX3_mostBehind_0 : decode cX3_mostBehind 0 = .ok (.iconst (-1), 1) := by decide +kernel
theorem dX3_mostBehind_1 : decode cX3_mostBehind 1 = .ok (.istore_n 3, 1) := by decide +kernel
theorem dX3_mostBehind_2 : decode cX3_mostBehind 2 = .ok (.iconst 0, 1) := by decide +kernel
theorem dX3_mostBehind_3 : decode cX3_mostBehind 3 = .ok (.istore 4, 2) := by decide +kernel
theorem dX3_mostBehind_5 : decode cX3_mostBehind 5 = .ok (.iload 4, 2) := by decide +kernel
theorem dX3_mostBehind_7 : decode cX3_mostBehind 7 = .ok (.bipush 18, 2) := by decide +kernel
theorem dX3_mostBehind_9 : decode cX3_mostBehind 9 = .ok (.if_icmp .ge 49, 3) := by decide +kernel
theorem dX3_mostBehind_12 : decode cX3_mostBehind 12 = .ok (.aload_n 0, 1) := by decide +kernel
theorem dX3_mostBehind_13 : decode cX3_mostBehind 13 = .ok (.iload_n 1, 1) := by decide +kernel
theorem dX3_mostBehind_14 : decode cX3_mostBehind 14 = .ok (.iconst 1, 1) := by decide +kernel
theorem dX3_mostBehind_15 : decode cX3_mostBehind 15 = .ok (.iadd, 1) := by decide +kernel
theorem dX3_mostBehind_16 : decode cX3_mostBehind 16 = .ok (.iload 4, 2) := by decide +kernel
theorem dX3_mostBehind_18 : decode cX3_mostBehind 18 = .ok (.invokevirtual 76, 3) := by decide +kernel
theorem dX3_mostBehind_21 : decode cX3_mostBehind 21 = .ok (.istore 5, 2) := by decide +kernel
theorem dX3_mostBehind_23 : decode cX3_mostBehind 23 = .ok (.aload_n 0, 1) := by decide +kernel
theorem dX3_mostBehind_24 : decode cX3_mostBehind 24 = .ok (.iload 5, 2) := by decide +kernel
theorem dX3_mostBehind_26 : decode cX3_mostBehind 26 = .ok (.invokevirtual 94, 3) := by decide +kernel
theorem dX3_mostBehind_29 : decode cX3_mostBehind 29 = .ok (.iconst (-1), 1) := by decide +kernel
theorem dX3_mostBehind_30 : decode cX3_mostBehind 30 = .ok (.if_icmp .eq 22, 3) := by decide +kernel
theorem dX3_mostBehind_33 : decode cX3_mostBehind 33 = .ok (.iload_n 3, 1) := by decide +kernel
theorem dX3_mostBehind_34 : decode cX3_mostBehind 34 = .ok (.aload_n 0, 1) := by decide +kernel
theorem dX3_mostBehind_35 : decode cX3_mostBehind 35 = .ok (.iload_n 2, 1) := by decide +kernel
theorem dX3_mostBehind_36 : decode cX3_mostBehind 36 = .ok (.iload 5, 2) := by decide +kernel
theorem dX3_mostBehind_38 : decode cX3_mostBehind 38 = .ok (.invokevirtual 111, 3) := by decide +kernel
theorem dX3_mostBehind_41 : decode cX3_mostBehind 41 = .ok (.aload_n 0, 1) := by decide +kernel
theorem dX3_mostBehind_42 : decode cX3_mostBehind 42 = .ok (.iload 5, 2) := by decide +kernel
theorem dX3_mostBehind_44 : decode cX3_mostBehind 44 = .ok (.invokevirtual 114, 3) := by decide +kernel
theorem dX3_mostBehind_47 : decode cX3_mostBehind 47 = .ok (.iadd, 1) := by decide +kernel
theorem dX3_mostBehind_48 : decode cX3_mostBehind 48 = .ok (.invokestatic 106, 3) := by decide +kernel
theorem dX3_mostBehind_51 : decode cX3_mostBehind 51 = .ok (.istore_n 3, 1) := by decide +kernel
theorem dX3_mostBehind_52 : decode cX3_mostBehind 52 = .ok (.iinc 4 1, 3) := by decide +kernel
theorem dX3_mostBehind_55 : decode cX3_mostBehind 55 = .ok (.goto (-50), 3) := by decide +kernel
theorem dX3_mostBehind_58 : decode cX3_mostBehind 58 = .ok (.iload_n 3, 1) := by decide +kernel
theorem dX3_mostBehind_59 : decode cX3_mostBehind 59 = .ok (.iconst (-1), 1) := by decide +kernel
theorem dX3_mostBehind_60 : decode cX3_mostBehind 60 = .ok (.if_icmp .ne 13, 3) := by decide +kernel
theorem dX3_mostBehind_63 : decode cX3_mostBehind 63 = .ok (.aload_n 0, 1) := by decide +kernel
theorem dX3_mostBehind_64 : decode cX3_mostBehind 64 = .ok (.iload_n 1, 1) := by decide +kernel
theorem dX3_mostBehind_65 : decode cX3_mostBehind 65 = .ok (.iconst 1, 1) := by decide +kernel
theorem dX3_mostBehind_66 : decode cX3_mostBehind 66 = .ok (.iadd, 1) := by decide +kernel
theorem dX3_mostBehind_67 : decode cX3_mostBehind 67 = .ok (.invokevirtual 109, 3) := by decide +kernel
theorem dX3_mostBehind_70 : decode cX3_mostBehind 70 = .ok (.goto 4, 3) := by decide +kernel
theorem dX3_mostBehind_73 : decode cX3_mostBehind 73 = .ok (.iload_n 3, 1) := by decide +kernel
theorem dX3_mostBehind_74 : decode cX3_mostBehind 74 = .ok (.ireturn, 1) := by decide +kernel
theorem dX3_choose_0 : decode cX3_choose 0 = .ok (.iload_n 1, 1) := by decide +kernel
theorem dX3_choose_1 : decode cX3_choose 1 = .ok (.ifCond .lt 9, 3) := by decide +kernel
theorem dX3_choose_4 : decode cX3_choose 4 = .ok (.iload_n 1, 1) := by decide +kernel
theorem dX3_choose_5 : decode cX3_choose 5 = .ok (.bipush 10, 2) := by decide +kernel
theorem dX3_choose_7 : decode cX3_choose 7 = .ok (.if_icmp .lt 4, 3) := by decide +kernel
theorem dX3_choose_10 : decode cX3_choose 10 = .ok (.return_, 1) := by decide +kernel
theorem dX3_choose_11 : decode cX3_choose 11 = .ok (.iload_n 1, 1) := by decide +kernel
theorem dX3_choose_12 : decode cX3_choose 12 = .ok (.ifCond .eq 15, 3) := by decide +kernel
theorem dX3_choose_15 : decode cX3_choose 15 = .ok (.aload_n 0, 1) := by decide +kernel
theorem dX3_choose_16 : decode cX3_choose 16 = .ok (.getfield 24, 3) := by decide +kernel
theorem dX3_choose_19 : decode cX3_choose 19 = .ok (.iload_n 1, 1) := by decide +kernel
theorem dX3_choose_20 : decode cX3_choose 20 = .ok (.iconst 1, 1) := by decide +kernel
theorem dX3_choose_21 : decode cX3_choose 21 = .ok (.isub, 1) := by decide +kernel
theorem dX3_choose_22 : decode cX3_choose 22 = .ok (.iaload, 1) := by decide +kernel
theorem dX3_choose_23 : decode cX3_choose 23 = .ok (.iconst (-1), 1) := by decide +kernel
theorem dX3_choose_24 : decode cX3_choose 24 = .ok (.if_icmp .ne 7, 3) := by decide +kernel
theorem dX3_choose_27 : decode cX3_choose 27 = .ok (.iconst (-1), 1) := by decide +kernel
theorem dX3_choose_28 : decode cX3_choose 28 = .ok (.goto 18, 3) := by decide +kernel
theorem dX3_choose_31 : decode cX3_choose 31 = .ok (.aload_n 0, 1) := by decide +kernel
theorem dX3_choose_32 : decode cX3_choose 32 = .ok (.iload_n 1, 1) := by decide +kernel
theorem dX3_choose_33 : decode cX3_choose 33 = .ok (.iconst 1, 1) := by decide +kernel
theorem dX3_choose_34 : decode cX3_choose 34 = .ok (.isub, 1) := by decide +kernel
theorem dX3_choose_35 : decode cX3_choose 35 = .ok (.aload_n 0, 1) := by decide +kernel
theorem dX3_choose_36 : decode cX3_choose 36 = .ok (.getfield 24, 3) := by decide +kernel
theorem dX3_choose_39 : decode cX3_choose 39 = .ok (.iload_n 1, 1) := by decide +kernel
theorem dX3_choose_40 : decode cX3_choose 40 = .ok (.iconst 1, 1) := by decide +kernel
theorem dX3_choose_41 : decode cX3_choose 41 = .ok (.isub, 1) := by decide +kernel
theorem dX3_choose_42 : decode cX3_choose 42 = .ok (.iaload, 1) := by decide +kernel
theorem dX3_choose_43 : decode cX3_choose 43 = .ok (.invokevirtual 76, 3) := by decide +kernel
theorem dX3_choose_46 : decode cX3_choose 46 = .ok (.istore_n 3, 1) := by decide +kernel
theorem dX3_choose_47 : decode cX3_choose 47 = .ok (.iload_n 3, 1) := by decide +kernel
theorem dX3_choose_48 : decode cX3_choose 48 = .ok (.iconst (-1), 1) := by decide +kernel
theorem dX3_choose_49 : decode cX3_choose 49 = .ok (.if_icmp .eq 20, 3) := by decide +kernel
theorem dX3_choose_52 : decode cX3_choose 52 = .ok (.aload_n 2, 1) := by decide +kernel
theorem dX3_choose_53 : decode cX3_choose 53 = .ok (.aload_n 0, 1) := by decide +kernel
theorem dX3_choose_54 : decode cX3_choose 54 = .ok (.getfield 34, 3) := by decide +kernel
theorem dX3_choose_57 : decode cX3_choose 57 = .ok (.aload_n 0, 1) := by decide +kernel
theorem dX3_choose_58 : decode cX3_choose 58 = .ok (.iload_n 3, 1) := by decide +kernel
theorem dX3_choose_59 : decode cX3_choose 59 = .ok (.invokevirtual 94, 3) := by decide +kernel
theorem dX3_choose_62 : decode cX3_choose 62 = .ok (.aload_n 0, 1) := by decide +kernel
theorem dX3_choose_63 : decode cX3_choose 63 = .ok (.getfield 27, 3) := by decide +kernel
theorem dX3_choose_66 : decode cX3_choose 66 = .ok (.invokevirtual 97, 3) := by decide +kernel
theorem dX3_choose_69 : decode cX3_choose 69 = .ok (.iload_n 3, 1) := by decide +kernel
theorem dX3_choose_70 : decode cX3_choose 70 = .ok (.iconst (-1), 1) := by decide +kernel
theorem dX3_choose_71 : decode cX3_choose 71 = .ok (.if_icmp .ne 12, 3) := by decide +kernel
theorem dX3_choose_74 : decode cX3_choose 74 = .ok (.aload_n 0, 1) := by decide +kernel
theorem dX3_choose_75 : decode cX3_choose 75 = .ok (.getfield 21, 3) := by decide +kernel
theorem dX3_choose_78 : decode cX3_choose 78 = .ok (.iload_n 1, 1) := by decide +kernel
theorem dX3_choose_79 : decode cX3_choose 79 = .ok (.iaload, 1) := by decide +kernel
theorem dX3_choose_80 : decode cX3_choose 80 = .ok (.goto 8, 3) := by decide +kernel
theorem dX3_choose_83 : decode cX3_choose 83 = .ok (.aload_n 0, 1) := by decide +kernel
theorem dX3_choose_84 : decode cX3_choose 84 = .ok (.iload_n 3, 1) := by decide +kernel
theorem dX3_choose_85 : decode cX3_choose 85 = .ok (.invokevirtual 114, 3) := by decide +kernel
theorem dX3_choose_88 : decode cX3_choose 88 = .ok (.istore 4, 2) := by decide +kernel
theorem dX3_choose_90 : decode cX3_choose 90 = .ok (.aload_n 0, 1) := by decide +kernel
theorem dX3_choose_91 : decode cX3_choose 91 = .ok (.getfield 24, 3) := by decide +kernel
theorem dX3_choose_94 : decode cX3_choose 94 = .ok (.iload_n 1, 1) := by decide +kernel
theorem dX3_choose_95 : decode cX3_choose 95 = .ok (.iconst (-1), 1) := by decide +kernel
theorem dX3_choose_96 : decode cX3_choose 96 = .ok (.iastore, 1) := by decide +kernel
theorem dX3_choose_97 : decode cX3_choose 97 = .ok (.iconst 0, 1) := by decide +kernel
theorem dX3_choose_98 : decode cX3_choose 98 = .ok (.istore 5, 2) := by decide +kernel
theorem dX3_choose_100 : decode cX3_choose 100 = .ok (.iload 5, 2) := by decide +kernel
theorem dX3_choose_102 : decode cX3_choose 102 = .ok (.bipush 18, 2) := by decide +kernel
theorem dX3_choose_104 : decode cX3_choose 104 = .ok (.if_icmp .ge 65, 3) := by decide +kernel
theorem dX3_choose_107 : decode cX3_choose 107 = .ok (.aload_n 0, 1) := by decide +kernel
theorem dX3_choose_108 : decode cX3_choose 108 = .ok (.getfield 24, 3) := by decide +kernel
theorem dX3_choose_111 : decode cX3_choose 111 = .ok (.iload_n 1, 1) := by decide +kernel
theorem dX3_choose_112 : decode cX3_choose 112 = .ok (.iaload, 1) := by decide +kernel
theorem dX3_choose_113 : decode cX3_choose 113 = .ok (.iconst (-1), 1) := by decide +kernel
theorem dX3_choose_114 : decode cX3_choose 114 = .ok (.if_icmp .ne 55, 3) := by decide +kernel
theorem dX3_choose_117 : decode cX3_choose 117 = .ok (.aload_n 0, 1) := by decide +kernel
theorem dX3_choose_118 : decode cX3_choose 118 = .ok (.iload_n 1, 1) := by decide +kernel
theorem dX3_choose_119 : decode cX3_choose 119 = .ok (.iload 5, 2) := by decide +kernel
theorem dX3_choose_121 : decode cX3_choose 121 = .ok (.invokevirtual 76, 3) := by decide +kernel
theorem dX3_choose_124 : decode cX3_choose 124 = .ok (.istore 6, 2) := by decide +kernel
theorem dX3_choose_126 : decode cX3_choose 126 = .ok (.aload_n 0, 1) := by decide +kernel
theorem dX3_choose_127 : decode cX3_choose 127 = .ok (.iload 6, 2) := by decide +kernel
theorem dX3_choose_129 : decode cX3_choose 129 = .ok (.invokevirtual 94, 3) := by decide +kernel
theorem dX3_choose_132 : decode cX3_choose 132 = .ok (.iconst (-1), 1) := by decide +kernel
theorem dX3_choose_133 : decode cX3_choose 133 = .ok (.if_icmp .eq 30, 3) := by decide +kernel
theorem dX3_choose_136 : decode cX3_choose 136 = .ok (.aload_n 0, 1) := by decide +kernel
theorem dX3_choose_137 : decode cX3_choose 137 = .ok (.iload_n 3, 1) := by decide +kernel
theorem dX3_choose_138 : decode cX3_choose 138 = .ok (.iload 6, 2) := by decide +kernel
theorem dX3_choose_140 : decode cX3_choose 140 = .ok (.invokevirtual 111, 3) := by decide +kernel
theorem dX3_choose_143 : decode cX3_choose 143 = .ok (.aload_n 0, 1) := by decide +kernel
theorem dX3_choose_144 : decode cX3_choose 144 = .ok (.iload 6, 2) := by decide +kernel
theorem dX3_choose_146 : decode cX3_choose 146 = .ok (.invokevirtual 114, 3) := by decide +kernel
theorem dX3_choose_149 : decode cX3_choose 149 = .ok (.iadd, 1) := by decide +kernel
theorem dX3_choose_150 : decode cX3_choose 150 = .ok (.iload 4, 2) := by decide +kernel
theorem dX3_choose_152 : decode cX3_choose 152 = .ok (.if_icmp .ne 11, 3) := by decide +kernel
theorem dX3_choose_155 : decode cX3_choose 155 = .ok (.aload_n 0, 1) := by decide +kernel
theorem dX3_choose_156 : decode cX3_choose 156 = .ok (.getfield 24, 3) := by decide +kernel
theorem dX3_choose_159 : decode cX3_choose 159 = .ok (.iload_n 1, 1) := by decide +kernel
theorem dX3_choose_160 : decode cX3_choose 160 = .ok (.iload 5, 2) := by decide +kernel
theorem dX3_choose_162 : decode cX3_choose 162 = .ok (.iastore, 1) := by decide +kernel
theorem dX3_choose_163 : decode cX3_choose 163 = .ok (.iinc 5 1, 3) := by decide +kernel
theorem dX3_choose_166 : decode cX3_choose 166 = .ok (.goto (-66), 3) := by decide +kernel
theorem dX3_choose_169 : decode cX3_choose 169 = .ok (.return_, 1) := by decide +kernel
theorem dX3_tie_0 : decode cX3_tie 0 = .ok (.aload_n 0, 1) := by decide +kernel
theorem dX3_tie_1 : decode cX3_tie 1 = .ok (.iload_n 2, 1) := by decide +kernel
theorem dX3_tie_2 : decode cX3_tie 2 = .ok (.invokevirtual 94, 3) := by decide +kernel
theorem dX3_tie_5 : decode cX3_tie 5 = .ok (.istore_n 3, 1) := by decide +kernel
theorem dX3_tie_6 : decode cX3_tie 6 = .ok (.aload_n 0, 1) := by decide +kernel
theorem dX3_tie_7 : decode cX3_tie 7 = .ok (.iload_n 1, 1) := by decide +kernel
theorem dX3_tie_8 : decode cX3_tie 8 = .ok (.invokevirtual 94, 3) := by decide +kernel
theorem dX3_tie_11 : decode cX3_tie 11 = .ok (.iconst (-1), 1) := by decide +kernel
theorem dX3_tie_12 : decode cX3_tie 12 = .ok (.if_icmp .eq 10, 3) := by decide +kernel
theorem dX3_tie_15 : decode cX3_tie 15 = .ok (.iload_n 3, 1) := by decide +kernel
theorem dX3_tie_16 : decode cX3_tie 16 = .ok (.invokestatic 117, 3) := by decide +kernel
theorem dX3_tie_19 : decode cX3_tie 19 = .ok (.ifCond .ne 5, 3) := by decide +kernel
theorem dX3_tie_22 : decode cX3_tie 22 = .ok (.iconst 0, 1) := by decide +kernel
theorem dX3_tie_23 : decode cX3_tie 23 = .ok (.ireturn, 1) := by decide +kernel
theorem dX3_tie_24 : decode cX3_tie 24 = .ok (.aload_n 0, 1) := by decide +kernel
theorem dX3_tie_25 : decode cX3_tie 25 = .ok (.iload_n 1, 1) := by decide +kernel
theorem dX3_tie_26 : decode cX3_tie 26 = .ok (.invokevirtual 121, 3) := by decide +kernel
theorem dX3_tie_29 : decode cX3_tie 29 = .ok (.istore 4, 2) := by decide +kernel
theorem dX3_tie_31 : decode cX3_tie 31 = .ok (.aload_n 0, 1) := by decide +kernel
theorem dX3_tie_32 : decode cX3_tie 32 = .ok (.getfield 27, 3) := by decide +kernel
theorem dX3_tie_35 : decode cX3_tie 35 = .ok (.iload_n 3, 1) := by decide +kernel
theorem dX3_tie_36 : decode cX3_tie 36 = .ok (.iaload, 1) := by decide +kernel
theorem dX3_tie_37 : decode cX3_tie 37 = .ok (.iload 4, 2) := by decide +kernel
theorem dX3_tie_39 : decode cX3_tie 39 = .ok (.iconst (-1), 1) := by decide +kernel
theorem dX3_tie_40 : decode cX3_tie 40 = .ok (.if_icmp .eq 18, 3) := by decide +kernel
theorem dX3_tie_43 : decode cX3_tie 43 = .ok (.iload 4, 2) := by decide +kernel
theorem dX3_tie_45 : decode cX3_tie 45 = .ok (.aload_n 0, 1) := by decide +kernel
theorem dX3_tie_46 : decode cX3_tie 46 = .ok (.iload_n 2, 1) := by decide +kernel
theorem dX3_tie_47 : decode cX3_tie 47 = .ok (.invokevirtual 121, 3) := by decide +kernel
theorem dX3_tie_50 : decode cX3_tie 50 = .ok (.if_icmp .ne 8, 3) := by decide +kernel
theorem dX3_tie_53 : decode cX3_tie 53 = .ok (.bipush 10, 2) := by decide +kernel
theorem dX3_tie_55 : decode cX3_tie 55 = .ok (.goto 4, 3) := by decide +kernel
theorem dX3_tie_58 : decode cX3_tie 58 = .ok (.iconst 0, 1) := by decide +kernel
theorem dX3_tie_59 : decode cX3_tie 59 = .ok (.iadd, 1) := by decide +kernel
theorem dX3_tie_60 : decode cX3_tie 60 = .ok (.ireturn, 1) := by decide +kernel
theorem dX3_most_0 : decode cX3_most 0 = .ok (.iload_n 1, 1) := by decide +kernel
theorem dX3_most_1 : decode cX3_most 1 = .ok (.ifCond .lt 26, 3) := by decide +kernel
theorem dX3_most_4 : decode cX3_most 4 = .ok (.iload_n 1, 1) := by decide +kernel
theorem dX3_most_5 : decode cX3_most 5 = .ok (.aload_n 0, 1) := by decide +kernel
theorem dX3_most_6 : decode cX3_most 6 = .ok (.getfield 30, 3) := by decide +kernel
theorem dX3_most_9 : decode cX3_most 9 = .ok (.if_icmp .ge 18, 3) := by decide +kernel
theorem dX3_most_12 : decode cX3_most 12 = .ok (.iload_n 1, 1) := by decide +kernel
theorem dX3_most_13 : decode cX3_most 13 = .ok (.bipush 10, 2) := by decide +kernel
theorem dX3_most_15 : decode cX3_most 15 = .ok (.if_icmp .ge 12, 3) := by decide +kernel
theorem dX3_most_18 : decode cX3_most 18 = .ok (.aload_n 0, 1) := by decide +kernel
theorem dX3_most_19 : decode cX3_most 19 = .ok (.getfield 21, 3) := by decide +kernel
theorem dX3_most_22 : decode cX3_most 22 = .ok (.iload_n 1, 1) := by decide +kernel
theorem dX3_most_23 : decode cX3_most 23 = .ok (.iaload, 1) := by decide +kernel
theorem dX3_most_24 : decode cX3_most 24 = .ok (.goto 4, 3) := by decide +kernel
theorem dX3_most_27 : decode cX3_most 27 = .ok (.iconst 0, 1) := by decide +kernel
theorem dX3_most_28 : decode cX3_most 28 = .ok (.ireturn, 1) := by decide +kernel
theorem dX3_chosenWord_0 : decode cX3_chosenWord 0 = .ok (.aload_n 0, 1) := by decide +kernel
theorem dX3_chosenWord_1 : decode cX3_chosenWord 1 = .ok (.aload_n 0, 1) := by decide +kernel
theorem dX3_chosenWord_2 : decode cX3_chosenWord 2 = .ok (.iload_n 1, 1) := by decide +kernel
theorem dX3_chosenWord_3 : decode cX3_chosenWord 3 = .ok (.aload_n 0, 1) := by decide +kernel
theorem dX3_chosenWord_4 : decode cX3_chosenWord 4 = .ok (.iload_n 1, 1) := by decide +kernel
theorem dX3_chosenWord_5 : decode cX3_chosenWord 5 = .ok (.invokevirtual 124, 3) := by decide +kernel
theorem dX3_chosenWord_8 : decode cX3_chosenWord 8 = .ok (.invokevirtual 76, 3) := by decide +kernel
theorem dX3_chosenWord_11 : decode cX3_chosenWord 11 = .ok (.invokevirtual 94, 3) := by decide +kernel
theorem dX3_chosenWord_14 : decode cX3_chosenWord 14 = .ok (.ireturn, 1) := by decide +kernel
theorem dX3_chosenSense_0 : decode cX3_chosenSense 0 = .ok (.aload_n 0, 1) := by decide +kernel
theorem dX3_chosenSense_1 : decode cX3_chosenSense 1 = .ok (.iload_n 1, 1) := by decide +kernel
theorem dX3_chosenSense_2 : decode cX3_chosenSense 2 = .ok (.invokevirtual 124, 3) := by decide +kernel
theorem dX3_chosenSense_5 : decode cX3_chosenSense 5 = .ok (.istore_n 2, 1) := by decide +kernel
theorem dX3_chosenSense_6 : decode cX3_chosenSense 6 = .ok (.iload_n 2, 1) := by decide +kernel
theorem dX3_chosenSense_7 : decode cX3_chosenSense 7 = .ok (.iconst (-1), 1) := by decide +kernel
theorem dX3_chosenSense_8 : decode cX3_chosenSense 8 = .ok (.if_icmp .ne 7, 3) := by decide +kernel
theorem dX3_chosenSense_11 : decode cX3_chosenSense 11 = .ok (.iconst (-1), 1) := by decide +kernel
theorem dX3_chosenSense_12 : decode cX3_chosenSense 12 = .ok (.goto 7, 3) := by decide +kernel
theorem dX3_chosenSense_15 : decode cX3_chosenSense 15 = .ok (.iload_n 2, 1) := by decide +kernel
theorem dX3_chosenSense_16 : decode cX3_chosenSense 16 = .ok (.bipush 6, 2) := by decide +kernel
theorem dX3_chosenSense_18 : decode cX3_chosenSense 18 = .ok (.idiv, 1) := by decide +kernel
theorem dX3_chosenSense_19 : decode cX3_chosenSense 19 = .ok (.ireturn, 1) := by decide +kernel
theorem dX3_choiceOf_0 : decode cX3_choiceOf 0 = .ok (.iload_n 1, 1) := by decide +kernel
theorem dX3_choiceOf_1 : decode cX3_choiceOf 1 = .ok (.ifCond .lt 26, 3) := by decide +kernel
theorem dX3_choiceOf_4 : decode cX3_choiceOf 4 = .ok (.iload_n 1, 1) := by decide +kernel
theorem dX3_choiceOf_5 : decode cX3_choiceOf 5 = .ok (.aload_n 0, 1) := by decide +kernel
theorem dX3_choiceOf_6 : decode cX3_choiceOf 6 = .ok (.getfield 30, 3) := by decide +kernel
theorem dX3_choiceOf_9 : decode cX3_choiceOf 9 = .ok (.if_icmp .ge 18, 3) := by decide +kernel
theorem dX3_choiceOf_12 : decode cX3_choiceOf 12 = .ok (.iload_n 1, 1) := by decide +kernel
theorem dX3_choiceOf_13 : decode cX3_choiceOf 13 = .ok (.bipush 10, 2) := by decide +kernel
theorem dX3_choiceOf_15 : decode cX3_choiceOf 15 = .ok (.if_icmp .ge 12, 3) := by decide +kernel
theorem dX3_choiceOf_18 : decode cX3_choiceOf 18 = .ok (.aload_n 0, 1) := by decide +kernel
theorem dX3_choiceOf_19 : decode cX3_choiceOf 19 = .ok (.getfield 24, 3) := by decide +kernel
theorem dX3_choiceOf_22 : decode cX3_choiceOf 22 = .ok (.iload_n 1, 1) := by decide +kernel
theorem dX3_choiceOf_23 : decode cX3_choiceOf 23 = .ok (.iaload, 1) := by decide +kernel
theorem dX3_choiceOf_24 : decode cX3_choiceOf 24 = .ok (.goto 4, 3) := by decide +kernel
theorem dX3_choiceOf_27 : decode cX3_choiceOf 27 = .ok (.iconst (-1), 1) := by decide +kernel
theorem dX3_choiceOf_28 : decode cX3_choiceOf 28 = .ok (.ireturn, 1) := by decide +kernel
theorem dX3_slot_0 : decode cX3_slot 0 = .ok (.iload_n 1, 1) := by decide +kernel
theorem dX3_slot_1 : decode cX3_slot 1 = .ok (.ifCond .lt 36, 3) := by decide +kernel
theorem dX3_slot_4 : decode cX3_slot 4 = .ok (.iload_n 1, 1) := by decide +kernel
theorem dX3_slot_5 : decode cX3_slot 5 = .ok (.aload_n 0, 1) := by decide +kernel
theorem dX3_slot_6 : decode cX3_slot 6 = .ok (.getfield 30, 3) := by decide +kernel
theorem dX3_slot_9 : decode cX3_slot 9 = .ok (.if_icmp .ge 28, 3) := by decide +kernel
theorem dX3_slot_12 : decode cX3_slot 12 = .ok (.iload_n 1, 1) := by decide +kernel
theorem dX3_slot_13 : decode cX3_slot 13 = .ok (.bipush 10, 2) := by decide +kernel
theorem dX3_slot_15 : decode cX3_slot 15 = .ok (.if_icmp .ge 22, 3) := by decide +kernel
theorem dX3_slot_18 : decode cX3_slot 18 = .ok (.iload_n 2, 1) := by decide +kernel
theorem dX3_slot_19 : decode cX3_slot 19 = .ok (.ifCond .lt 18, 3) := by decide +kernel
theorem dX3_slot_22 : decode cX3_slot 22 = .ok (.iload_n 2, 1) := by decide +kernel
theorem dX3_slot_23 : decode cX3_slot 23 = .ok (.bipush 18, 2) := by decide +kernel
theorem dX3_slot_25 : decode cX3_slot 25 = .ok (.if_icmp .ge 12, 3) := by decide +kernel
theorem dX3_slot_28 : decode cX3_slot 28 = .ok (.iload_n 1, 1) := by decide +kernel
theorem dX3_slot_29 : decode cX3_slot 29 = .ok (.bipush 18, 2) := by decide +kernel
theorem dX3_slot_31 : decode cX3_slot 31 = .ok (.imul, 1) := by decide +kernel
theorem dX3_slot_32 : decode cX3_slot 32 = .ok (.iload_n 2, 1) := by decide +kernel
theorem dX3_slot_33 : decode cX3_slot 33 = .ok (.iadd, 1) := by decide +kernel
theorem dX3_slot_34 : decode cX3_slot 34 = .ok (.goto 4, 3) := by decide +kernel
theorem dX3_slot_37 : decode cX3_slot 37 = .ok (.iconst (-1), 1) := by decide +kernel
theorem dX3_slot_38 : decode cX3_slot 38 = .ok (.ireturn, 1) := by decide +kernel
theorem dX3_wordIn_0 : decode cX3_wordIn 0 = .ok (.iload_n 1, 1) := by decide +kernel
theorem dX3_wordIn_1 : decode cX3_wordIn 1 = .ok (.ifCond .lt 21, 3) := by decide +kernel
theorem dX3_wordIn_4 : decode cX3_wordIn 4 = .ok (.iload_n 1, 1) := by decide +kernel
theorem dX3_wordIn_5 : decode cX3_wordIn 5 = .ok (.aload_n 0, 1) := by decide +kernel
theorem dX3_wordIn_6 : decode cX3_wordIn 6 = .ok (.getfield 11, 3) := by decide +kernel
theorem dX3_wordIn_9 : decode cX3_wordIn 9 = .ok (.arraylength, 1) := by decide +kernel
theorem dX3_wordIn_10 : decode cX3_wordIn 10 = .ok (.if_icmp .ge 12, 3) := by decide +kernel
theorem dX3_wordIn_13 : decode cX3_wordIn 13 = .ok (.aload_n 0, 1) := by decide +kernel
theorem dX3_wordIn_14 : decode cX3_wordIn 14 = .ok (.getfield 11, 3) := by decide +kernel
theorem dX3_wordIn_17 : decode cX3_wordIn 17 = .ok (.iload_n 1, 1) := by decide +kernel
theorem dX3_wordIn_18 : decode cX3_wordIn 18 = .ok (.iaload, 1) := by decide +kernel
theorem dX3_wordIn_19 : decode cX3_wordIn 19 = .ok (.goto 4, 3) := by decide +kernel
theorem dX3_wordIn_22 : decode cX3_wordIn 22 = .ok (.iconst (-1), 1) := by decide +kernel
theorem dX3_wordIn_23 : decode cX3_wordIn 23 = .ok (.ireturn, 1) := by decide +kernel
theorem dX3_fieldIn_0 : decode cX3_fieldIn 0 = .ok (.iload_n 1, 1) := by decide +kernel
theorem dX3_fieldIn_1 : decode cX3_fieldIn 1 = .ok (.ifCond .lt 21, 3) := by decide +kernel
theorem dX3_fieldIn_4 : decode cX3_fieldIn 4 = .ok (.iload_n 1, 1) := by decide +kernel
theorem dX3_fieldIn_5 : decode cX3_fieldIn 5 = .ok (.aload_n 0, 1) := by decide +kernel
theorem dX3_fieldIn_6 : decode cX3_fieldIn 6 = .ok (.getfield 15, 3) := by decide +kernel
theorem dX3_fieldIn_9 : decode cX3_fieldIn 9 = .ok (.arraylength, 1) := by decide +kernel
theorem dX3_fieldIn_10 : decode cX3_fieldIn 10 = .ok (.if_icmp .ge 12, 3) := by decide +kernel
theorem dX3_fieldIn_13 : decode cX3_fieldIn 13 = .ok (.aload_n 0, 1) := by decide +kernel
theorem dX3_fieldIn_14 : decode cX3_fieldIn 14 = .ok (.getfield 15, 3) := by decide +kernel
theorem dX3_fieldIn_17 : decode cX3_fieldIn 17 = .ok (.iload_n 1, 1) := by decide +kernel
theorem dX3_fieldIn_18 : decode cX3_fieldIn 18 = .ok (.iaload, 1) := by decide +kernel
theorem dX3_fieldIn_19 : decode cX3_fieldIn 19 = .ok (.goto 4, 3) := by decide +kernel
theorem dX3_fieldIn_22 : decode cX3_fieldIn 22 = .ok (.iconst (-1), 1) := by decide +kernel
theorem dX3_fieldIn_23 : decode cX3_fieldIn 23 = .ok (.ireturn, 1) := by decide +kernel
theorem dX3_sumIn_0 : decode cX3_sumIn 0 = .ok (.iload_n 1, 1) := by decide +kernel
theorem dX3_sumIn_1 : decode cX3_sumIn 1 = .ok (.ifCond .lt 21, 3) := by decide +kernel
theorem dX3_sumIn_4 : decode cX3_sumIn 4 = .ok (.iload_n 1, 1) := by decide +kernel
theorem dX3_sumIn_5 : decode cX3_sumIn 5 = .ok (.aload_n 0, 1) := by decide +kernel
theorem dX3_sumIn_6 : decode cX3_sumIn 6 = .ok (.getfield 18, 3) := by decide +kernel
theorem dX3_sumIn_9 : decode cX3_sumIn 9 = .ok (.arraylength, 1) := by decide +kernel
theorem dX3_sumIn_10 : decode cX3_sumIn 10 = .ok (.if_icmp .ge 12, 3) := by decide +kernel
theorem dX3_sumIn_13 : decode cX3_sumIn 13 = .ok (.aload_n 0, 1) := by decide +kernel
theorem dX3_sumIn_14 : decode cX3_sumIn 14 = .ok (.getfield 18, 3) := by decide +kernel
theorem dX3_sumIn_17 : decode cX3_sumIn 17 = .ok (.iload_n 1, 1) := by decide +kernel
theorem dX3_sumIn_18 : decode cX3_sumIn 18 = .ok (.iaload, 1) := by decide +kernel
theorem dX3_sumIn_19 : decode cX3_sumIn 19 = .ok (.goto 4, 3) := by decide +kernel
theorem dX3_sumIn_22 : decode cX3_sumIn 22 = .ok (.iconst 0, 1) := by decide +kernel
theorem dX3_sumIn_23 : decode cX3_sumIn 23 = .ok (.ireturn, 1) := by decide +kernel
theorem dX4_init_0 : decode cX4_init 0 = .ok (.aload_n 0, 1) := by decide +kernel
theorem dX4_init_1 : decode cX4_init 1 = .ok (.invokespecial 3, 3) := by decide +kernel
theorem dX4_init_4 : decode cX4_init 4 = .ok (.aload_n 0, 1) := by decide +kernel
theorem dX4_init_5 : decode cX4_init 5 = .ok (.bipush 40, 2) := by decide +kernel
theorem dX4_init_7 : decode cX4_init 7 = .ok (.newarray .int, 2) := by decide +kernel
theorem dX4_init_9 : decode cX4_init 9 = .ok (.putfield 9, 3) := by decide +kernel
theorem dX4_init_12 : decode cX4_init 12 = .ok (.aload_n 0, 1) := by decide +kernel
theorem dX4_init_13 : decode cX4_init 13 = .ok (.bipush 40, 2) := by decide +kernel
theorem dX4_init_15 : decode cX4_init 15 = .ok (.newarray .int, 2) := by decide +kernel
theorem dX4_init_17 : decode cX4_init 17 = .ok (.putfield 15, 3) := by decide +kernel
theorem dX4_init_20 : decode cX4_init 20 = .ok (.aload_n 0, 1) := by decide +kernel
theorem dX4_init_21 : decode cX4_init 21 = .ok (.bipush 40, 2) := by decide +kernel
theorem dX4_init_23 : decode cX4_init 23 = .ok (.newarray .int, 2) := by decide +kernel
theorem dX4_init_25 : decode cX4_init 25 = .ok (.putfield 18, 3) := by decide +kernel
theorem dX4_init_28 : decode cX4_init 28 = .ok (.aload_n 0, 1) := by decide +kernel
theorem dX4_init_29 : decode cX4_init 29 = .ok (.bipush 40, 2) := by decide +kernel
theorem dX4_init_31 : decode cX4_init 31 = .ok (.newarray .int, 2) := by decide +kernel
theorem dX4_init_33 : decode cX4_init 33 = .ok (.putfield 21, 3) := by decide +kernel
theorem dX4_init_36 : decode cX4_init 36 = .ok (.aload_n 0, 1) := by decide +kernel
theorem dX4_init_37 : decode cX4_init 37 = .ok (.iconst 0, 1) := by decide +kernel
theorem dX4_init_38 : decode cX4_init 38 = .ok (.putfield 24, 3) := by decide +kernel
theorem dX4_init_41 : decode cX4_init 41 = .ok (.return_, 1) := by decide +kernel
theorem dX4_add_0 : decode cX4_add 0 = .ok (.aload_n 0, 1) := by decide +kernel
theorem dX4_add_1 : decode cX4_add 1 = .ok (.getfield 24, 3) := by decide +kernel
theorem dX4_add_4 : decode cX4_add 4 = .ok (.ifCond .lt 12, 3) := by decide +kernel
theorem dX4_add_7 : decode cX4_add 7 = .ok (.aload_n 0, 1) := by decide +kernel
theorem dX4_add_8 : decode cX4_add 8 = .ok (.getfield 24, 3) := by decide +kernel
theorem dX4_add_11 : decode cX4_add 11 = .ok (.bipush 40, 2) := by decide +kernel
theorem dX4_add_13 : decode cX4_add 13 = .ok (.if_icmp .lt 7, 3) := by decide +kernel
theorem dX4_add_16 : decode cX4_add 16 = .ok (.sipush (-1004), 3) := by decide +kernel
theorem dX4_add_19 : decode cX4_add 19 = .ok (.ireturn, 1) := by decide +kernel
theorem dX4_add_20 : decode cX4_add 20 = .ok (.aload_n 0, 1) := by decide +kernel
theorem dX4_add_21 : decode cX4_add 21 = .ok (.getfield 9, 3) := by decide +kernel
theorem dX4_add_24 : decode cX4_add 24 = .ok (.aload_n 0, 1) := by decide +kernel
theorem dX4_add_25 : decode cX4_add 25 = .ok (.getfield 24, 3) := by decide +kernel
theorem dX4_add_28 : decode cX4_add 28 = .ok (.iload_n 1, 1) := by decide +kernel
theorem dX4_add_29 : decode cX4_add 29 = .ok (.iastore, 1) := by decide +kernel
theorem dX4_add_30 : decode cX4_add 30 = .ok (.aload_n 0, 1) := by decide +kernel
theorem dX4_add_31 : decode cX4_add 31 = .ok (.getfield 15, 3) := by decide +kernel
theorem dX4_add_34 : decode cX4_add 34 = .ok (.aload_n 0, 1) := by decide +kernel
theorem dX4_add_35 : decode cX4_add 35 = .ok (.getfield 24, 3) := by decide +kernel
theorem dX4_add_38 : decode cX4_add 38 = .ok (.iload_n 2, 1) := by decide +kernel
theorem dX4_add_39 : decode cX4_add 39 = .ok (.iastore, 1) := by decide +kernel
theorem dX4_add_40 : decode cX4_add 40 = .ok (.aload_n 0, 1) := by decide +kernel
theorem dX4_add_41 : decode cX4_add 41 = .ok (.getfield 18, 3) := by decide +kernel
theorem dX4_add_44 : decode cX4_add 44 = .ok (.aload_n 0, 1) := by decide +kernel
theorem dX4_add_45 : decode cX4_add 45 = .ok (.getfield 24, 3) := by decide +kernel
theorem dX4_add_48 : decode cX4_add 48 = .ok (.iload_n 3, 1) := by decide +kernel
theorem dX4_add_49 : decode cX4_add 49 = .ok (.iastore, 1) := by decide +kernel
theorem dX4_add_50 : decode cX4_add 50 = .ok (.aload_n 0, 1) := by decide +kernel
theorem dX4_add_51 : decode cX4_add 51 = .ok (.getfield 21, 3) := by decide +kernel
theorem dX4_add_54 : decode cX4_add 54 = .ok (.aload_n 0, 1) := by decide +kernel
theorem dX4_add_55 : decode cX4_add 55 = .ok (.getfield 24, 3) := by decide +kernel
theorem dX4_add_58 : decode cX4_add 58 = .ok (.iload 4, 2) := by decide +kernel
theorem dX4_add_60 : decode cX4_add 60 = .ok (.iastore, 1) := by decide +kernel
theorem dX4_add_61 : decode cX4_add 61 = .ok (.aload_n 0, 1) := by decide +kernel
theorem dX4_add_62 : decode cX4_add 62 = .ok (.dup, 1) := by decide +kernel
theorem dX4_add_63 : decode cX4_add 63 = .ok (.getfield 24, 3) := by decide +kernel
theorem dX4_add_66 : decode cX4_add 66 = .ok (.iconst 1, 1) := by decide +kernel
theorem dX4_add_67 : decode cX4_add 67 = .ok (.iadd, 1) := by decide +kernel
theorem dX4_add_68 : decode cX4_add 68 = .ok (.putfield 24, 3) := by decide +kernel
theorem dX4_add_71 : decode cX4_add 71 = .ok (.aload_n 0, 1) := by decide +kernel
theorem dX4_add_72 : decode cX4_add 72 = .ok (.getfield 24, 3) := by decide +kernel
theorem dX4_add_75 : decode cX4_add 75 = .ok (.ireturn, 1) := by decide +kernel
theorem dX4_writeFollowers_0 : decode cX4_writeFollowers 0 = .ok (.iconst 0, 1) := by decide +kernel
theorem dX4_writeFollowers_1 : decode cX4_writeFollowers 1 = .ok (.istore 4, 2) := by decide +kernel
theorem dX4_writeFollowers_3 : decode cX4_writeFollowers 3 = .ok (.iload 4, 2) := by decide +kernel
theorem dX4_writeFollowers_5 : decode cX4_writeFollowers 5 = .ok (.aload_n 3, 1) := by decide +kernel
theorem dX4_writeFollowers_6 : decode cX4_writeFollowers 6 = .ok (.arraylength, 1) := by decide +kernel
theorem dX4_writeFollowers_7 : decode cX4_writeFollowers 7 = .ok (.if_icmp .ge 14, 3) := by decide +kernel
theorem dX4_writeFollowers_10 : decode cX4_writeFollowers 10 = .ok (.aload_n 3, 1) := by decide +kernel
theorem dX4_writeFollowers_11 : decode cX4_writeFollowers 11 = .ok (.iload 4, 2) := by decide +kernel
theorem dX4_writeFollowers_13 : decode cX4_writeFollowers 13 = .ok (.iconst 0, 1) := by decide +kernel
theorem dX4_writeFollowers_14 : decode cX4_writeFollowers 14 = .ok (.iastore, 1) := by decide +kernel
theorem dX4_writeFollowers_15 : decode cX4_writeFollowers 15 = .ok (.iinc 4 1, 3) := by decide +kernel
theorem dX4_writeFollowers_18 : decode cX4_writeFollowers 18 = .ok (.goto (-15), 3) := by decide +kernel
theorem dX4_writeFollowers_21 : decode cX4_writeFollowers 21 = .ok (.iconst 0, 1) := by decide +kernel
theorem dX4_writeFollowers_22 : decode cX4_writeFollowers 22 = .ok (.istore 4, 2) := by decide +kernel
theorem dX4_writeFollowers_24 : decode cX4_writeFollowers 24 = .ok (.iload 4, 2) := by decide +kernel
theorem dX4_writeFollowers_26 : decode cX4_writeFollowers 26 = .ok (.aload_n 0, 1) := by decide +kernel
theorem dX4_writeFollowers_27 : decode cX4_writeFollowers 27 = .ok (.getfield 24, 3) := by decide +kernel
theorem dX4_writeFollowers_30 : decode cX4_writeFollowers 30 = .ok (.if_icmp .ge 70, 3) := by decide +kernel
theorem dX4_writeFollowers_33 : decode cX4_writeFollowers 33 = .ok (.iload 4, 2) := by decide +kernel
theorem dX4_writeFollowers_35 : decode cX4_writeFollowers 35 = .ok (.bipush 40, 2) := by decide +kernel
theorem dX4_writeFollowers_37 : decode cX4_writeFollowers 37 = .ok (.if_icmp .ge 63, 3) := by decide +kernel
theorem dX4_writeFollowers_40 : decode cX4_writeFollowers 40 = .ok (.aload_n 0, 1) := by decide +kernel
theorem dX4_writeFollowers_41 : decode cX4_writeFollowers 41 = .ok (.getfield 18, 3) := by decide +kernel
theorem dX4_writeFollowers_44 : decode cX4_writeFollowers 44 = .ok (.iload 4, 2) := by decide +kernel
theorem dX4_writeFollowers_46 : decode cX4_writeFollowers 46 = .ok (.iaload, 1) := by decide +kernel
theorem dX4_writeFollowers_47 : decode cX4_writeFollowers 47 = .ok (.istore 5, 2) := by decide +kernel
theorem dX4_writeFollowers_49 : decode cX4_writeFollowers 49 = .ok (.aload_n 0, 1) := by decide +kernel
theorem dX4_writeFollowers_50 : decode cX4_writeFollowers 50 = .ok (.getfield 9, 3) := by decide +kernel
theorem dX4_writeFollowers_53 : decode cX4_writeFollowers 53 = .ok (.iload 4, 2) := by decide +kernel
theorem dX4_writeFollowers_55 : decode cX4_writeFollowers 55 = .ok (.iaload, 1) := by decide +kernel
theorem dX4_writeFollowers_56 : decode cX4_writeFollowers 56 = .ok (.iload_n 1, 1) := by decide +kernel
theorem dX4_writeFollowers_57 : decode cX4_writeFollowers 57 = .ok (.if_icmp .ne 37, 3) := by decide +kernel
theorem dX4_writeFollowers_60 : decode cX4_writeFollowers 60 = .ok (.aload_n 0, 1) := by decide +kernel
theorem dX4_writeFollowers_61 : decode cX4_writeFollowers 61 = .ok (.getfield 15, 3) := by decide +kernel
theorem dX4_writeFollowers_64 : decode cX4_writeFollowers 64 = .ok (.iload 4, 2) := by decide +kernel
theorem dX4_writeFollowers_66 : decode cX4_writeFollowers 66 = .ok (.iaload, 1) := by decide +kernel
theorem dX4_writeFollowers_67 : decode cX4_writeFollowers 67 = .ok (.iload_n 2, 1) := by decide +kernel
theorem dX4_writeFollowers_68 : decode cX4_writeFollowers 68 = .ok (.if_icmp .ne 26, 3) := by decide +kernel
theorem dX4_writeFollowers_71 : decode cX4_writeFollowers 71 = .ok (.iload 5, 2) := by decide +kernel
theorem dX4_writeFollowers_73 : decode cX4_writeFollowers 73 = .ok (.ifCond .lt 21, 3) := by decide +kernel
theorem dX4_writeFollowers_76 : decode cX4_writeFollowers 76 = .ok (.iload 5, 2) := by decide +kernel
theorem dX4_writeFollowers_78 : decode cX4_writeFollowers 78 = .ok (.aload_n 3, 1) := by decide +kernel
theorem dX4_writeFollowers_79 : decode cX4_writeFollowers 79 = .ok (.arraylength, 1) := by decide +kernel
theorem dX4_writeFollowers_80 : decode cX4_writeFollowers 80 = .ok (.if_icmp .ge 14, 3) := by decide +kernel
theorem dX4_writeFollowers_83 : decode cX4_writeFollowers 83 = .ok (.aload_n 3, 1) := by decide +kernel
theorem dX4_writeFollowers_84 : decode cX4_writeFollowers 84 = .ok (.iload 5, 2) := by decide +kernel
theorem dX4_writeFollowers_86 : decode cX4_writeFollowers 86 = .ok (.aload_n 0, 1) := by decide +kernel
theorem dX4_writeFollowers_87 : decode cX4_writeFollowers 87 = .ok (.getfield 21, 3) := by decide +kernel
theorem dX4_writeFollowers_90 : decode cX4_writeFollowers 90 = .ok (.iload 4, 2) := by decide +kernel
theorem dX4_writeFollowers_92 : decode cX4_writeFollowers 92 = .ok (.iaload, 1) := by decide +kernel
theorem dX4_writeFollowers_93 : decode cX4_writeFollowers 93 = .ok (.iastore, 1) := by decide +kernel
theorem dX4_writeFollowers_94 : decode cX4_writeFollowers 94 = .ok (.iinc 4 1, 3) := by decide +kernel
theorem dX4_writeFollowers_97 : decode cX4_writeFollowers 97 = .ok (.goto (-73), 3) := by decide +kernel
theorem dX4_writeFollowers_100 : decode cX4_writeFollowers 100 = .ok (.return_, 1) := by decide +kernel
theorem dX5_init_0 : decode cX5_init 0 = .ok (.aload_n 0, 1) := by decide +kernel
theorem dX5_init_1 : decode cX5_init 1 = .ok (.invokespecial 3, 3) := by decide +kernel
theorem dX5_init_4 : decode cX5_init 4 = .ok (.aload_n 0, 1) := by decide +kernel
theorem dX5_init_5 : decode cX5_init 5 = .ok (.iconst 0, 1) := by decide +kernel
theorem dX5_init_6 : decode cX5_init 6 = .ok (.putfield 11, 3) := by decide +kernel
theorem dX5_init_9 : decode cX5_init 9 = .ok (.aload_n 0, 1) := by decide +kernel
theorem dX5_init_10 : decode cX5_init 10 = .ok (.iconst 0, 1) := by decide +kernel
theorem dX5_init_11 : decode cX5_init 11 = .ok (.putfield 15, 3) := by decide +kernel
theorem dX5_init_14 : decode cX5_init 14 = .ok (.aload_n 0, 1) := by decide +kernel
theorem dX5_init_15 : decode cX5_init 15 = .ok (.iconst (-1), 1) := by decide +kernel
theorem dX5_init_16 : decode cX5_init 16 = .ok (.putfield 18, 3) := by decide +kernel
theorem dX5_init_19 : decode cX5_init 19 = .ok (.aload_n 0, 1) := by decide +kernel
theorem dX5_init_20 : decode cX5_init 20 = .ok (.iconst (-1), 1) := by decide +kernel
theorem dX5_init_21 : decode cX5_init 21 = .ok (.putfield 21, 3) := by decide +kernel
theorem dX5_init_24 : decode cX5_init 24 = .ok (.return_, 1) := by decide +kernel
theorem dX5_read_0 : decode cX5_read 0 = .ok (.aload_n 0, 1) := by decide +kernel
theorem dX5_read_1 : decode cX5_read 1 = .ok (.iconst 0, 1) := by decide +kernel
theorem dX5_read_2 : decode cX5_read 2 = .ok (.putfield 11, 3) := by decide +kernel
theorem dX5_read_5 : decode cX5_read 5 = .ok (.aload_n 0, 1) := by decide +kernel
theorem dX5_read_6 : decode cX5_read 6 = .ok (.iconst 0, 1) := by decide +kernel
theorem dX5_read_7 : decode cX5_read 7 = .ok (.putfield 15, 3) := by decide +kernel
theorem dX5_read_10 : decode cX5_read 10 = .ok (.aload_n 0, 1) := by decide +kernel
theorem dX5_read_11 : decode cX5_read 11 = .ok (.iconst (-1), 1) := by decide +kernel
theorem dX5_read_12 : decode cX5_read 12 = .ok (.putfield 18, 3) := by decide +kernel
theorem dX5_read_15 : decode cX5_read 15 = .ok (.iconst 0, 1) := by decide +kernel
theorem dX5_read_16 : decode cX5_read 16 = .ok (.istore_n 3, 1) := by decide +kernel
theorem dX5_read_17 : decode cX5_read 17 = .ok (.iconst 0, 1) := by decide +kernel
theorem dX5_read_18 : decode cX5_read 18 = .ok (.istore 4, 2) := by decide +kernel
theorem dX5_read_20 : decode cX5_read 20 = .ok (.iload 4, 2) := by decide +kernel
theorem dX5_read_22 : decode cX5_read 22 = .ok (.sipush 240, 3) := by decide +kernel
theorem dX5_read_25 : decode cX5_read 25 = .ok (.if_icmp .ge 66, 3) := by decide +kernel
theorem dX5_read_28 : decode cX5_read 28 = .ok (.iload_n 3, 1) := by decide +kernel
theorem dX5_read_29 : decode cX5_read 29 = .ok (.ifCond .ne 62, 3) := by decide +kernel
theorem dX5_read_32 : decode cX5_read 32 = .ok (.aload_n 0, 1) := by decide +kernel
theorem dX5_read_33 : decode cX5_read 33 = .ok (.getfield 15, 3) := by decide +kernel
theorem dX5_read_36 : decode cX5_read 36 = .ok (.aload_n 1, 1) := by decide +kernel
theorem dX5_read_37 : decode cX5_read 37 = .ok (.getfield 24, 3) := by decide +kernel
theorem dX5_read_40 : decode cX5_read 40 = .ok (.if_icmp .ge 51, 3) := by decide +kernel
theorem dX5_read_43 : decode cX5_read 43 = .ok (.aload_n 0, 1) := by decide +kernel
theorem dX5_read_44 : decode cX5_read 44 = .ok (.aload_n 0, 1) := by decide +kernel
theorem dX5_read_45 : decode cX5_read 45 = .ok (.getfield 15, 3) := by decide +kernel
theorem dX5_read_48 : decode cX5_read 48 = .ok (.putfield 21, 3) := by decide +kernel
theorem dX5_read_51 : decode cX5_read 51 = .ok (.aload_n 1, 1) := by decide +kernel
theorem dX5_read_52 : decode cX5_read 52 = .ok (.aload_n 0, 1) := by decide +kernel
theorem dX5_read_53 : decode cX5_read 53 = .ok (.getfield 15, 3) := by decide +kernel
theorem dX5_read_56 : decode cX5_read 56 = .ok (.invokevirtual 29, 3) := by decide +kernel
theorem dX5_read_59 : decode cX5_read 59 = .ok (.ifCond .eq 12, 3) := by decide +kernel
theorem dX5_read_62 : decode cX5_read 62 = .ok (.aload_n 0, 1) := by decide +kernel
theorem dX5_read_63 : decode cX5_read 63 = .ok (.aload_n 1, 1) := by decide +kernel
theorem dX5_read_64 : decode cX5_read 64 = .ok (.aload_n 2, 1) := by decide +kernel
theorem dX5_read_65 : decode cX5_read 65 = .ok (.invokevirtual 33, 3) := by decide +kernel
theorem dX5_read_68 : decode cX5_read 68 = .ok (.goto 16, 3) := by decide +kernel
theorem dX5_read_71 : decode cX5_read 71 = .ok (.aload_n 0, 1) := by decide +kernel
theorem dX5_read_72 : decode cX5_read 72 = .ok (.aload_n 1, 1) := by decide +kernel
theorem dX5_read_73 : decode cX5_read 73 = .ok (.aload_n 0, 1) := by decide +kernel
theorem dX5_read_74 : decode cX5_read 74 = .ok (.getfield 15, 3) := by decide +kernel
theorem dX5_read_77 : decode cX5_read 77 = .ok (.invokevirtual 37, 3) := by decide +kernel
theorem dX5_read_80 : decode cX5_read 80 = .ok (.aload_n 2, 1) := by decide +kernel
theorem dX5_read_81 : decode cX5_read 81 = .ok (.invokevirtual 41, 3) := by decide +kernel
theorem dX5_read_84 : decode cX5_read 84 = .ok (.istore_n 3, 1) := by decide +kernel
theorem dX5_read_85 : decode cX5_read 85 = .ok (.iinc 4 1, 3) := by decide +kernel
theorem dX5_read_88 : decode cX5_read 88 = .ok (.goto (-68), 3) := by decide +kernel
theorem dX5_read_91 : decode cX5_read 91 = .ok (.iload_n 3, 1) := by decide +kernel
theorem dX5_read_92 : decode cX5_read 92 = .ok (.ifCond .ne 20, 3) := by decide +kernel
theorem dX5_read_95 : decode cX5_read 95 = .ok (.aload_n 0, 1) := by decide +kernel
theorem dX5_read_96 : decode cX5_read 96 = .ok (.getfield 11, 3) := by decide +kernel
theorem dX5_read_99 : decode cX5_read 99 = .ok (.ifCond .eq 13, 3) := by decide +kernel
theorem dX5_read_102 : decode cX5_read 102 = .ok (.aload_n 0, 1) := by decide +kernel
theorem dX5_read_103 : decode cX5_read 103 = .ok (.aload_n 1, 1) := by decide +kernel
theorem dX5_read_104 : decode cX5_read 104 = .ok (.getfield 24, 3) := by decide +kernel
theorem dX5_read_107 : decode cX5_read 107 = .ok (.putfield 21, 3) := by decide +kernel
theorem dX5_read_110 : decode cX5_read 110 = .ok (.iconst 1, 1) := by decide +kernel
theorem dX5_read_111 : decode cX5_read 111 = .ok (.istore_n 3, 1) := by decide +kernel
theorem dX5_read_112 : decode cX5_read 112 = .ok (.iload_n 3, 1) := by decide +kernel
theorem dX5_read_113 : decode cX5_read 113 = .ok (.ireturn, 1) := by decide +kernel
theorem dX5_readSign_0 : decode cX5_readSign 0 = .ok (.aload_n 0, 1) := by decide +kernel
theorem dX5_readSign_1 : decode cX5_readSign 1 = .ok (.dup, 1) := by decide +kernel
theorem dX5_readSign_2 : decode cX5_readSign 2 = .ok (.getfield 15, 3) := by decide +kernel
theorem dX5_readSign_5 : decode cX5_readSign 5 = .ok (.iconst 1, 1) := by decide +kernel
theorem dX5_readSign_6 : decode cX5_readSign 6 = .ok (.iadd, 1) := by decide +kernel
theorem dX5_readSign_7 : decode cX5_readSign 7 = .ok (.putfield 15, 3) := by decide +kernel
theorem dX5_readSign_10 : decode cX5_readSign 10 = .ok (.iload_n 1, 1) := by decide +kernel
theorem dX5_readSign_11 : decode cX5_readSign 11 = .ok (.bipush 32, 2) := by decide +kernel
theorem dX5_readSign_13 : decode cX5_readSign 13 = .ok (.if_icmp .ne 5, 3) := by decide +kernel
theorem dX5_readSign_16 : decode cX5_readSign 16 = .ok (.iconst 0, 1) := by decide +kernel
theorem dX5_readSign_17 : decode cX5_readSign 17 = .ok (.ireturn, 1) := by decide +kernel
theorem dX5_readSign_18 : decode cX5_readSign 18 = .ok (.aload_n 0, 1) := by decide +kernel
theorem dX5_readSign_19 : decode cX5_readSign 19 = .ok (.getfield 11, 3) := by decide +kernel
theorem dX5_readSign_22 : decode cX5_readSign 22 = .ok (.bipush 6, 2) := by decide +kernel
theorem dX5_readSign_24 : decode cX5_readSign 24 = .ok (.if_icmp .eq 12, 3) := by decide +kernel
theorem dX5_readSign_27 : decode cX5_readSign 27 = .ok (.aload_n 0, 1) := by decide +kernel
theorem dX5_readSign_28 : decode cX5_readSign 28 = .ok (.getfield 11, 3) := by decide +kernel
theorem dX5_readSign_31 : decode cX5_readSign 31 = .ok (.bipush 7, 2) := by decide +kernel
theorem dX5_readSign_33 : decode cX5_readSign 33 = .ok (.if_icmp .ne 7, 3) := by decide +kernel
theorem dX5_readSign_36 : decode cX5_readSign 36 = .ok (.iconst 1, 1) := by decide +kernel
theorem dX5_readSign_37 : decode cX5_readSign 37 = .ok (.goto 4, 3) := by decide +kernel
theorem dX5_readSign_40 : decode cX5_readSign 40 = .ok (.iconst 0, 1) := by decide +kernel
theorem dX5_readSign_41 : decode cX5_readSign 41 = .ok (.istore_n 3, 1) := by decide +kernel
theorem dX5_readSign_42 : decode cX5_readSign 42 = .ok (.iload_n 1, 1) := by decide +kernel
theorem dX5_readSign_43 : decode cX5_readSign 43 = .ok (.bipush 58, 2) := by decide +kernel
theorem dX5_readSign_45 : decode cX5_readSign 45 = .ok (.if_icmp .ne 17, 3) := by decide +kernel
theorem dX5_readSign_48 : decode cX5_readSign 48 = .ok (.aload_n 0, 1) := by decide +kernel
theorem dX5_readSign_49 : decode cX5_readSign 49 = .ok (.getfield 11, 3) := by decide +kernel
theorem dX5_readSign_52 : decode cX5_readSign 52 = .ok (.iconst 1, 1) := by decide +kernel
theorem dX5_readSign_53 : decode cX5_readSign 53 = .ok (.if_icmp .ne 9, 3) := by decide +kernel
theorem dX5_readSign_56 : decode cX5_readSign 56 = .ok (.aload_n 0, 1) := by decide +kernel
theorem dX5_readSign_57 : decode cX5_readSign 57 = .ok (.aload_n 2, 1) := by decide +kernel
theorem dX5_readSign_58 : decode cX5_readSign 58 = .ok (.invokevirtual 45, 3) := by decide +kernel
theorem dX5_readSign_61 : decode cX5_readSign 61 = .ok (.ireturn, 1) := by decide +kernel
theorem dX5_readSign_62 : decode cX5_readSign 62 = .ok (.iload_n 1, 1) := by decide +kernel
theorem dX5_readSign_63 : decode cX5_readSign 63 = .ok (.bipush 124, 2) := by decide +kernel
theorem dX5_readSign_65 : decode cX5_readSign 65 = .ok (.if_icmp .ne 13, 3) := by decide +kernel
theorem dX5_readSign_68 : decode cX5_readSign 68 = .ok (.iload_n 3, 1) := by decide +kernel
theorem dX5_readSign_69 : decode cX5_readSign 69 = .ok (.ifCond .eq 9, 3) := by decide +kernel
theorem dX5_readSign_72 : decode cX5_readSign 72 = .ok (.aload_n 0, 1) := by decide +kernel
theorem dX5_readSign_73 : decode cX5_readSign 73 = .ok (.aload_n 2, 1) := by decide +kernel
theorem dX5_readSign_74 : decode cX5_readSign 74 = .ok (.invokevirtual 45, 3) := by decide +kernel
theorem dX5_readSign_77 : decode cX5_readSign 77 = .ok (.ireturn, 1) := by decide +kernel
theorem dX5_readSign_78 : decode cX5_readSign 78 = .ok (.iload_n 1, 1) := by decide +kernel
theorem dX5_readSign_79 : decode cX5_readSign 79 = .ok (.bipush 40, 2) := by decide +kernel
theorem dX5_readSign_81 : decode cX5_readSign 81 = .ok (.if_icmp .ne 17, 3) := by decide +kernel
theorem dX5_readSign_84 : decode cX5_readSign 84 = .ok (.aload_n 0, 1) := by decide +kernel
theorem dX5_readSign_85 : decode cX5_readSign 85 = .ok (.getfield 11, 3) := by decide +kernel
theorem dX5_readSign_88 : decode cX5_readSign 88 = .ok (.iconst 2, 1) := by decide +kernel
theorem dX5_readSign_89 : decode cX5_readSign 89 = .ok (.if_icmp .ne 9, 3) := by decide +kernel
theorem dX5_readSign_92 : decode cX5_readSign 92 = .ok (.aload_n 0, 1) := by decide +kernel
theorem dX5_readSign_93 : decode cX5_readSign 93 = .ok (.iconst 3, 1) := by decide +kernel
theorem dX5_readSign_94 : decode cX5_readSign 94 = .ok (.invokevirtual 49, 3) := by decide +kernel
theorem dX5_readSign_97 : decode cX5_readSign 97 = .ok (.ireturn, 1) := by decide +kernel
theorem dX5_readSign_98 : decode cX5_readSign 98 = .ok (.iload_n 1, 1) := by decide +kernel
theorem dX5_readSign_99 : decode cX5_readSign 99 = .ok (.bipush 41, 2) := by decide +kernel
theorem dX5_readSign_101 : decode cX5_readSign 101 = .ok (.if_icmp .ne 17, 3) := by decide +kernel
theorem dX5_readSign_104 : decode cX5_readSign 104 = .ok (.aload_n 0, 1) := by decide +kernel
theorem dX5_readSign_105 : decode cX5_readSign 105 = .ok (.getfield 11, 3) := by decide +kernel
theorem dX5_readSign_108 : decode cX5_readSign 108 = .ok (.iconst 4, 1) := by decide +kernel
theorem dX5_readSign_109 : decode cX5_readSign 109 = .ok (.if_icmp .ne 9, 3) := by decide +kernel
theorem dX5_readSign_112 : decode cX5_readSign 112 = .ok (.aload_n 0, 1) := by decide +kernel
theorem dX5_readSign_113 : decode cX5_readSign 113 = .ok (.iconst 5, 1) := by decide +kernel
theorem dX5_readSign_114 : decode cX5_readSign 114 = .ok (.invokevirtual 49, 3) := by decide +kernel
theorem dX5_readSign_117 : decode cX5_readSign 117 = .ok (.ireturn, 1) := by decide +kernel
theorem dX5_readSign_118 : decode cX5_readSign 118 = .ok (.iload_n 1, 1) := by decide +kernel
theorem dX5_readSign_119 : decode cX5_readSign 119 = .ok (.bipush 44, 2) := by decide +kernel
theorem dX5_readSign_121 : decode cX5_readSign 121 = .ok (.if_icmp .ne 13, 3) := by decide +kernel
theorem dX5_readSign_124 : decode cX5_readSign 124 = .ok (.iload_n 3, 1) := by decide +kernel
theorem dX5_readSign_125 : decode cX5_readSign 125 = .ok (.ifCond .eq 9, 3) := by decide +kernel
theorem dX5_readSign_128 : decode cX5_readSign 128 = .ok (.aload_n 0, 1) := by decide +kernel
theorem dX5_readSign_129 : decode cX5_readSign 129 = .ok (.iconst 5, 1) := by decide +kernel
theorem dX5_readSign_130 : decode cX5_readSign 130 = .ok (.invokevirtual 49, 3) := by decide +kernel
theorem dX5_readSign_133 : decode cX5_readSign 133 = .ok (.ireturn, 1) := by decide +kernel
theorem dX5_readSign_134 : decode cX5_readSign 134 = .ok (.iload_n 1, 1) := by decide +kernel
theorem dX5_readSign_135 : decode cX5_readSign 135 = .ok (.bipush 59, 2) := by decide +kernel
theorem dX5_readSign_137 : decode cX5_readSign 137 = .ok (.if_icmp .ne 13, 3) := by decide +kernel
theorem dX5_readSign_140 : decode cX5_readSign 140 = .ok (.iload_n 3, 1) := by decide +kernel
theorem dX5_readSign_141 : decode cX5_readSign 141 = .ok (.ifCond .eq 9, 3) := by decide +kernel
theorem dX5_readSign_144 : decode cX5_readSign 144 = .ok (.aload_n 0, 1) := by decide +kernel
theorem dX5_readSign_145 : decode cX5_readSign 145 = .ok (.iconst 0, 1) := by decide +kernel
theorem dX5_readSign_146 : decode cX5_readSign 146 = .ok (.invokevirtual 49, 3) := by decide +kernel
theorem dX5_readSign_149 : decode cX5_readSign 149 = .ok (.ireturn, 1) := by decide +kernel
theorem dX5_readSign_150 : decode cX5_readSign 150 = .ok (.iload_n 1, 1) := by decide +kernel
theorem dX5_readSign_151 : decode cX5_readSign 151 = .ok (.bipush 42, 2) := by decide +kernel
theorem dX5_readSign_153 : decode cX5_readSign 153 = .ok (.if_icmp .ne 12, 3) := by decide +kernel
theorem dX5_readSign_156 : decode cX5_readSign 156 = .ok (.aload_n 0, 1) := by decide +kernel
theorem dX5_readSign_157 : decode cX5_readSign 157 = .ok (.getfield 11, 3) := by decide +kernel
theorem dX5_readSign_160 : decode cX5_readSign 160 = .ok (.bipush 6, 2) := by decide +kernel
theorem dX5_readSign_162 : decode cX5_readSign 162 = .ok (.if_icmp .eq 5, 3) := by decide +kernel
theorem dX5_readSign_165 : decode cX5_readSign 165 = .ok (.iconst 1, 1) := by decide +kernel
theorem dX5_readSign_166 : decode cX5_readSign 166 = .ok (.ireturn, 1) := by decide +kernel
theorem dX5_readSign_167 : decode cX5_readSign 167 = .ok (.aload_n 2, 1) := by decide +kernel
theorem dX5_readSign_168 : decode cX5_readSign 168 = .ok (.aload_n 0, 1) := by decide +kernel
theorem dX5_readSign_169 : decode cX5_readSign 169 = .ok (.getfield 18, 3) := by decide +kernel
theorem dX5_readSign_172 : decode cX5_readSign 172 = .ok (.invokevirtual 52, 3) := by decide +kernel
theorem dX5_readSign_175 : decode cX5_readSign 175 = .ok (.aload_n 0, 1) := by decide +kernel
theorem dX5_readSign_176 : decode cX5_readSign 176 = .ok (.bipush 7, 2) := by decide +kernel
theorem dX5_readSign_178 : decode cX5_readSign 178 = .ok (.invokevirtual 49, 3) := by decide +kernel
theorem dX5_readSign_181 : decode cX5_readSign 181 = .ok (.ireturn, 1) := by decide +kernel
theorem dX5_expect_0 : decode cX5_expect 0 = .ok (.aload_n 0, 1) := by decide +kernel
theorem dX5_expect_1 : decode cX5_expect 1 = .ok (.iload_n 1, 1) := by decide +kernel
theorem dX5_expect_2 : decode cX5_expect 2 = .ok (.putfield 11, 3) := by decide +kernel
theorem dX5_expect_5 : decode cX5_expect 5 = .ok (.iconst 0, 1) := by decide +kernel
theorem dX5_expect_6 : decode cX5_expect 6 = .ok (.ireturn, 1) := by decide +kernel
theorem dX5_openSense_0 : decode cX5_openSense 0 = .ok (.aload_n 1, 1) := by decide +kernel
theorem dX5_openSense_1 : decode cX5_openSense 1 = .ok (.aload_n 0, 1) := by decide +kernel
theorem dX5_openSense_2 : decode cX5_openSense 2 = .ok (.getfield 18, 3) := by decide +kernel
theorem dX5_openSense_5 : decode cX5_openSense 5 = .ok (.invokevirtual 58, 3) := by decide +kernel
theorem dX5_openSense_8 : decode cX5_openSense 8 = .ok (.iconst 3, 1) := by decide +kernel
theorem dX5_openSense_9 : decode cX5_openSense 9 = .ok (.if_icmp .lt 5, 3) := by decide +kernel
theorem dX5_openSense_12 : decode cX5_openSense 12 = .ok (.iconst 5, 1) := by decide +kernel
theorem dX5_openSense_13 : decode cX5_openSense 13 = .ok (.ireturn, 1) := by decide +kernel
theorem dX5_openSense_14 : decode cX5_openSense 14 = .ok (.aload_n 1, 1) := by decide +kernel
theorem dX5_openSense_15 : decode cX5_openSense 15 = .ok (.aload_n 0, 1) := by decide +kernel
theorem dX5_openSense_16 : decode cX5_openSense 16 = .ok (.getfield 18, 3) := by decide +kernel
theorem dX5_openSense_19 : decode cX5_openSense 19 = .ok (.invokevirtual 61, 3) := by decide +kernel
theorem dX5_openSense_22 : decode cX5_openSense 22 = .ok (.aload_n 0, 1) := by decide +kernel
theorem dX5_openSense_23 : decode cX5_openSense 23 = .ok (.iconst 2, 1) := by decide +kernel
theorem dX5_openSense_24 : decode cX5_openSense 24 = .ok (.invokevirtual 49, 3) := by decide +kernel
theorem dX5_openSense_27 : decode cX5_openSense 27 = .ok (.ireturn, 1) := by decide +kernel
theorem dX5_readNumber_0 : decode cX5_readNumber 0 = .ok (.aload_n 0, 1) := by decide +kernel
theorem dX5_readNumber_1 : decode cX5_readNumber 1 = .ok (.getfield 11, 3) := by decide +kernel
theorem dX5_readNumber_4 : decode cX5_readNumber 4 = .ok (.ifCond .eq 29, 3) := by decide +kernel
theorem dX5_readNumber_7 : decode cX5_readNumber 7 = .ok (.aload_n 0, 1) := by decide +kernel
theorem dX5_readNumber_8 : decode cX5_readNumber 8 = .ok (.getfield 11, 3) := by decide +kernel
theorem dX5_readNumber_11 : decode cX5_readNumber 11 = .ok (.iconst 2, 1) := by decide +kernel
theorem dX5_readNumber_12 : decode cX5_readNumber 12 = .ok (.if_icmp .eq 21, 3) := by decide +kernel
theorem dX5_readNumber_15 : decode cX5_readNumber 15 = .ok (.aload_n 0, 1) := by decide +kernel
theorem dX5_readNumber_16 : decode cX5_readNumber 16 = .ok (.getfield 11, 3) := by decide +kernel
theorem dX5_readNumber_19 : decode cX5_readNumber 19 = .ok (.iconst 3, 1) := by decide +kernel
theorem dX5_readNumber_20 : decode cX5_readNumber 20 = .ok (.if_icmp .eq 13, 3) := by decide +kernel
theorem dX5_readNumber_23 : decode cX5_readNumber 23 = .ok (.aload_n 0, 1) := by decide +kernel
theorem dX5_readNumber_24 : decode cX5_readNumber 24 = .ok (.getfield 11, 3) := by decide +kernel
theorem dX5_readNumber_27 : decode cX5_readNumber 27 = .ok (.iconst 5, 1) := by decide +kernel
theorem dX5_readNumber_28 : decode cX5_readNumber 28 = .ok (.if_icmp .eq 5, 3) := by decide +kernel
theorem dX5_readNumber_31 : decode cX5_readNumber 31 = .ok (.iconst 1, 1) := by decide +kernel
theorem dX5_readNumber_32 : decode cX5_readNumber 32 = .ok (.ireturn, 1) := by decide +kernel
theorem dX5_readNumber_33 : decode cX5_readNumber 33 = .ok (.iconst 0, 1) := by decide +kernel
theorem dX5_readNumber_34 : decode cX5_readNumber 34 = .ok (.istore_n 3, 1) := by decide +kernel
theorem dX5_readNumber_35 : decode cX5_readNumber 35 = .ok (.iconst 0, 1) := by decide +kernel
theorem dX5_readNumber_36 : decode cX5_readNumber 36 = .ok (.istore 4, 2) := by decide +kernel
theorem dX5_readNumber_38 : decode cX5_readNumber 38 = .ok (.iload 4, 2) := by decide +kernel
theorem dX5_readNumber_40 : decode cX5_readNumber 40 = .ok (.sipush 240, 3) := by decide +kernel
theorem dX5_readNumber_43 : decode cX5_readNumber 43 = .ok (.if_icmp .ge 53, 3) := by decide +kernel
theorem dX5_readNumber_46 : decode cX5_readNumber 46 = .ok (.aload_n 1, 1) := by decide +kernel
theorem dX5_readNumber_47 : decode cX5_readNumber 47 = .ok (.aload_n 0, 1) := by decide +kernel
theorem dX5_readNumber_48 : decode cX5_readNumber 48 = .ok (.getfield 15, 3) := by decide +kernel
theorem dX5_readNumber_51 : decode cX5_readNumber 51 = .ok (.invokevirtual 29, 3) := by decide +kernel
theorem dX5_readNumber_54 : decode cX5_readNumber 54 = .ok (.ifCond .eq 42, 3) := by decide +kernel
theorem dX5_readNumber_57 : decode cX5_readNumber 57 = .ok (.iload 4, 2) := by decide +kernel
theorem dX5_readNumber_59 : decode cX5_readNumber 59 = .ok (.iconst 2, 1) := by decide +kernel
theorem dX5_readNumber_60 : decode cX5_readNumber 60 = .ok (.if_icmp .ge 20, 3) := by decide +kernel
theorem dX5_readNumber_63 : decode cX5_readNumber 63 = .ok (.iload_n 3, 1) := by decide +kernel
theorem dX5_readNumber_64 : decode cX5_readNumber 64 = .ok (.bipush 10, 2) := by decide +kernel
theorem dX5_readNumber_66 : decode cX5_readNumber 66 = .ok (.imul, 1) := by decide +kernel
theorem dX5_readNumber_67 : decode cX5_readNumber 67 = .ok (.aload_n 1, 1) := by decide +kernel
theorem dX5_readNumber_68 : decode cX5_readNumber 68 = .ok (.aload_n 0, 1) := by decide +kernel
theorem dX5_readNumber_69 : decode cX5_readNumber 69 = .ok (.getfield 15, 3) := by decide +kernel
theorem dX5_readNumber_72 : decode cX5_readNumber 72 = .ok (.invokevirtual 37, 3) := by decide +kernel
theorem dX5_readNumber_75 : decode cX5_readNumber 75 = .ok (.iadd, 1) := by decide +kernel
theorem dX5_readNumber_76 : decode cX5_readNumber 76 = .ok (.bipush 48, 2) := by decide +kernel
theorem dX5_readNumber_78 : decode cX5_readNumber 78 = .ok (.isub, 1) := by decide +kernel
theorem dX5_readNumber_79 : decode cX5_readNumber 79 = .ok (.istore_n 3, 1) := by decide +kernel
theorem dX5_readNumber_80 : decode cX5_readNumber 80 = .ok (.aload_n 0, 1) := by decide +kernel
theorem dX5_readNumber_81 : decode cX5_readNumber 81 = .ok (.dup, 1) := by decide +kernel
theorem dX5_readNumber_82 : decode cX5_readNumber 82 = .ok (.getfield 15, 3) := by decide +kernel
theorem dX5_readNumber_85 : decode cX5_readNumber 85 = .ok (.iconst 1, 1) := by decide +kernel
theorem dX5_readNumber_86 : decode cX5_readNumber 86 = .ok (.iadd, 1) := by decide +kernel
theorem dX5_readNumber_87 : decode cX5_readNumber 87 = .ok (.putfield 15, 3) := by decide +kernel
theorem dX5_readNumber_90 : decode cX5_readNumber 90 = .ok (.iinc 4 1, 3) := by decide +kernel
theorem dX5_readNumber_93 : decode cX5_readNumber 93 = .ok (.goto (-55), 3) := by decide +kernel
theorem dX5_readNumber_96 : decode cX5_readNumber 96 = .ok (.iload 4, 2) := by decide +kernel
theorem dX5_readNumber_98 : decode cX5_readNumber 98 = .ok (.iconst 2, 1) := by decide +kernel
theorem dX5_readNumber_99 : decode cX5_readNumber 99 = .ok (.if_icmp .gt 22, 3) := by decide +kernel
theorem dX5_readNumber_102 : decode cX5_readNumber 102 = .ok (.iload_n 3, 1) := by decide +kernel
theorem dX5_readNumber_103 : decode cX5_readNumber 103 = .ok (.aload_n 0, 1) := by decide +kernel
theorem dX5_readNumber_104 : decode cX5_readNumber 104 = .ok (.getfield 11, 3) := by decide +kernel
theorem dX5_readNumber_107 : decode cX5_readNumber 107 = .ok (.iconst 3, 1) := by decide +kernel
theorem dX5_readNumber_108 : decode cX5_readNumber 108 = .ok (.if_icmp .ne 8, 3) := by decide +kernel
theorem dX5_readNumber_111 : decode cX5_readNumber 111 = .ok (.bipush 6, 2) := by decide +kernel
theorem dX5_readNumber_113 : decode cX5_readNumber 113 = .ok (.goto 5, 3) := by decide +kernel
theorem dX5_readNumber_116 : decode cX5_readNumber 116 = .ok (.bipush 60, 2) := by decide +kernel
theorem dX5_readNumber_118 : decode cX5_readNumber 118 = .ok (.if_icmp .lt 5, 3) := by decide +kernel
theorem dX5_readNumber_121 : decode cX5_readNumber 121 = .ok (.iconst 2, 1) := by decide +kernel
theorem dX5_readNumber_122 : decode cX5_readNumber 122 = .ok (.ireturn, 1) := by decide +kernel
theorem dX5_readNumber_123 : decode cX5_readNumber 123 = .ok (.aload_n 0, 1) := by decide +kernel
theorem dX5_readNumber_124 : decode cX5_readNumber 124 = .ok (.getfield 11, 3) := by decide +kernel
theorem dX5_readNumber_127 : decode cX5_readNumber 127 = .ok (.ifCond .ne 10, 3) := by decide +kernel
theorem dX5_readNumber_130 : decode cX5_readNumber 130 = .ok (.aload_n 0, 1) := by decide +kernel
theorem dX5_readNumber_131 : decode cX5_readNumber 131 = .ok (.aload_n 2, 1) := by decide +kernel
theorem dX5_readNumber_132 : decode cX5_readNumber 132 = .ok (.iload_n 3, 1) := by decide +kernel
theorem dX5_readNumber_133 : decode cX5_readNumber 133 = .ok (.invokevirtual 64, 3) := by decide +kernel
theorem dX5_readNumber_136 : decode cX5_readNumber 136 = .ok (.ireturn, 1) := by decide +kernel
theorem dX5_readNumber_137 : decode cX5_readNumber 137 = .ok (.aload_n 0, 1) := by decide +kernel
theorem dX5_readNumber_138 : decode cX5_readNumber 138 = .ok (.getfield 11, 3) := by decide +kernel
theorem dX5_readNumber_141 : decode cX5_readNumber 141 = .ok (.iconst 3, 1) := by decide +kernel
theorem dX5_readNumber_142 : decode cX5_readNumber 142 = .ok (.if_icmp .ne 10, 3) := by decide +kernel
theorem dX5_readNumber_145 : decode cX5_readNumber 145 = .ok (.aload_n 0, 1) := by decide +kernel
theorem dX5_readNumber_146 : decode cX5_readNumber 146 = .ok (.aload_n 2, 1) := by decide +kernel
theorem dX5_readNumber_147 : decode cX5_readNumber 147 = .ok (.iload_n 3, 1) := by decide +kernel
theorem dX5_readNumber_148 : decode cX5_readNumber 148 = .ok (.invokevirtual 68, 3) := by decide +kernel
theorem dX5_readNumber_151 : decode cX5_readNumber 151 = .ok (.ireturn, 1) := by decide +kernel
theorem dX5_readNumber_152 : decode cX5_readNumber 152 = .ok (.aload_n 0, 1) := by decide +kernel
theorem dX5_readNumber_153 : decode cX5_readNumber 153 = .ok (.aload_n 2, 1) := by decide +kernel
theorem dX5_readNumber_154 : decode cX5_readNumber 154 = .ok (.iload_n 3, 1) := by decide +kernel
theorem dX5_readNumber_155 : decode cX5_readNumber 155 = .ok (.invokevirtual 71, 3) := by decide +kernel
theorem dX5_readNumber_158 : decode cX5_readNumber 158 = .ok (.ireturn, 1) := by decide +kernel
theorem dX5_takeHead_0 : decode cX5_takeHead 0 = .ok (.aload_n 1, 1) := by decide +kernel
theorem dX5_takeHead_1 : decode cX5_takeHead 1 = .ok (.getfield 74, 3) := by decide +kernel
theorem dX5_takeHead_4 : decode cX5_takeHead 4 = .ok (.iload_n 2, 1) := by decide +kernel
theorem dX5_takeHead_5 : decode cX5_takeHead 5 = .ok (.invokestatic 78, 3) := by decide +kernel
theorem dX5_takeHead_8 : decode cX5_takeHead 8 = .ok (.ifCond .eq 5, 3) := by decide +kernel
theorem dX5_takeHead_11 : decode cX5_takeHead 11 = .ok (.iconst 3, 1) := by decide +kernel
theorem dX5_takeHead_12 : decode cX5_takeHead 12 = .ok (.ireturn, 1) := by decide +kernel
theorem dX5_takeHead_13 : decode cX5_takeHead 13 = .ok (.aload_n 0, 1) := by decide +kernel
theorem dX5_takeHead_14 : decode cX5_takeHead 14 = .ok (.iload_n 2, 1) := by decide +kernel
theorem dX5_takeHead_15 : decode cX5_takeHead 15 = .ok (.putfield 18, 3) := by decide +kernel
theorem dX5_takeHead_18 : decode cX5_takeHead 18 = .ok (.aload_n 1, 1) := by decide +kernel
theorem dX5_takeHead_19 : decode cX5_takeHead 19 = .ok (.iload_n 2, 1) := by decide +kernel
theorem dX5_takeHead_20 : decode cX5_takeHead 20 = .ok (.invokevirtual 82, 3) := by decide +kernel
theorem dX5_takeHead_23 : decode cX5_takeHead 23 = .ok (.aload_n 0, 1) := by decide +kernel
theorem dX5_takeHead_24 : decode cX5_takeHead 24 = .ok (.iconst 1, 1) := by decide +kernel
theorem dX5_takeHead_25 : decode cX5_takeHead 25 = .ok (.invokevirtual 49, 3) := by decide +kernel
theorem dX5_takeHead_28 : decode cX5_takeHead 28 = .ok (.ireturn, 1) := by decide +kernel
theorem dX5_takeField_0 : decode cX5_takeField 0 = .ok (.aload_n 1, 1) := by decide +kernel
theorem dX5_takeField_1 : decode cX5_takeField 1 = .ok (.aload_n 0, 1) := by decide +kernel
theorem dX5_takeField_2 : decode cX5_takeField 2 = .ok (.getfield 18, 3) := by decide +kernel
theorem dX5_takeField_5 : decode cX5_takeField 5 = .ok (.iload_n 2, 1) := by decide +kernel
theorem dX5_takeField_6 : decode cX5_takeField 6 = .ok (.invokevirtual 85, 3) := by decide +kernel
theorem dX5_takeField_9 : decode cX5_takeField 9 = .ok (.aload_n 0, 1) := by decide +kernel
theorem dX5_takeField_10 : decode cX5_takeField 10 = .ok (.iconst 4, 1) := by decide +kernel
theorem dX5_takeField_11 : decode cX5_takeField 11 = .ok (.invokevirtual 49, 3) := by decide +kernel
theorem dX5_takeField_14 : decode cX5_takeField 14 = .ok (.ireturn, 1) := by decide +kernel
theorem dX5_takeWord_0 : decode cX5_takeWord 0 = .ok (.aload_n 1, 1) := by decide +kernel
theorem dX5_takeWord_1 : decode cX5_takeWord 1 = .ok (.aload_n 0, 1) := by decide +kernel
theorem dX5_takeWord_2 : decode cX5_takeWord 2 = .ok (.getfield 18, 3) := by decide +kernel
theorem dX5_takeWord_5 : decode cX5_takeWord 5 = .ok (.invokevirtual 58, 3) := by decide +kernel
theorem dX5_takeWord_8 : decode cX5_takeWord 8 = .ok (.iconst 1, 1) := by decide +kernel
theorem dX5_takeWord_9 : decode cX5_takeWord 9 = .ok (.isub, 1) := by decide +kernel
theorem dX5_takeWord_10 : decode cX5_takeWord 10 = .ok (.istore_n 3, 1) := by decide +kernel
theorem dX5_takeWord_11 : decode cX5_takeWord 11 = .ok (.aload_n 1, 1) := by decide +kernel
theorem dX5_takeWord_12 : decode cX5_takeWord 12 = .ok (.aload_n 0, 1) := by decide +kernel
theorem dX5_takeWord_13 : decode cX5_takeWord 13 = .ok (.getfield 18, 3) := by decide +kernel
theorem dX5_takeWord_16 : decode cX5_takeWord 16 = .ok (.iload_n 3, 1) := by decide +kernel
theorem dX5_takeWord_17 : decode cX5_takeWord 17 = .ok (.iconst 1, 1) := by decide +kernel
theorem dX5_takeWord_18 : decode cX5_takeWord 18 = .ok (.invokevirtual 89, 3) := by decide +kernel
theorem dX5_takeWord_21 : decode cX5_takeWord 21 = .ok (.iload_n 2, 1) := by decide +kernel
theorem dX5_takeWord_22 : decode cX5_takeWord 22 = .ok (.invokestatic 78, 3) := by decide +kernel
theorem dX5_takeWord_25 : decode cX5_takeWord 25 = .ok (.ifCond .eq 5, 3) := by decide +kernel
theorem dX5_takeWord_28 : decode cX5_takeWord 28 = .ok (.iconst 4, 1) := by decide +kernel
theorem dX5_takeWord_29 : decode cX5_takeWord 29 = .ok (.ireturn, 1) := by decide +kernel
theorem dX5_takeWord_30 : decode cX5_takeWord 30 = .ok (.aload_n 1, 1) := by decide +kernel
theorem dX5_takeWord_31 : decode cX5_takeWord 31 = .ok (.aload_n 0, 1) := by decide +kernel
theorem dX5_takeWord_32 : decode cX5_takeWord 32 = .ok (.getfield 18, 3) := by decide +kernel
theorem dX5_takeWord_35 : decode cX5_takeWord 35 = .ok (.iload_n 3, 1) := by decide +kernel
theorem dX5_takeWord_36 : decode cX5_takeWord 36 = .ok (.invokevirtual 93, 3) := by decide +kernel
theorem dX5_takeWord_39 : decode cX5_takeWord 39 = .ok (.bipush 6, 2) := by decide +kernel
theorem dX5_takeWord_41 : decode cX5_takeWord 41 = .ok (.if_icmp .lt 5, 3) := by decide +kernel
theorem dX5_takeWord_44 : decode cX5_takeWord 44 = .ok (.iconst 5, 1) := by decide +kernel
theorem dX5_takeWord_45 : decode cX5_takeWord 45 = .ok (.ireturn, 1) := by decide +kernel
theorem dX5_takeWord_46 : decode cX5_takeWord 46 = .ok (.aload_n 1, 1) := by decide +kernel
theorem dX5_takeWord_47 : decode cX5_takeWord 47 = .ok (.aload_n 0, 1) := by decide +kernel
theorem dX5_takeWord_48 : decode cX5_takeWord 48 = .ok (.getfield 18, 3) := by decide +kernel
theorem dX5_takeWord_51 : decode cX5_takeWord 51 = .ok (.iload_n 2, 1) := by decide +kernel
theorem dX5_takeWord_52 : decode cX5_takeWord 52 = .ok (.invokevirtual 97, 3) := by decide +kernel
theorem dX5_takeWord_55 : decode cX5_takeWord 55 = .ok (.aload_n 0, 1) := by decide +kernel
theorem dX5_takeWord_56 : decode cX5_takeWord 56 = .ok (.bipush 6, 2) := by decide +kernel
theorem dX5_takeWord_58 : decode cX5_takeWord 58 = .ok (.invokevirtual 49, 3) := by decide +kernel
theorem dX5_takeWord_61 : decode cX5_takeWord 61 = .ok (.ireturn, 1) := by decide +kernel
theorem dX6_init_0 : decode cX6_init 0 = .ok (.aload_n 0, 1) := by decide +kernel
theorem dX6_init_1 : decode cX6_init 1 = .ok (.invokespecial 3, 3) := by decide +kernel
theorem dX6_init_4 : decode cX6_init 4 = .ok (.aload_n 0, 1) := by decide +kernel
theorem dX6_init_5 : decode cX6_init 5 = .ok (.iconst 4, 1) := by decide +kernel
theorem dX6_init_6 : decode cX6_init 6 = .ok (.newarray .int, 2) := by decide +kernel
theorem dX6_init_8 : decode cX6_init 8 = .ok (.putfield 9, 3) := by decide +kernel
theorem dX6_init_11 : decode cX6_init 11 = .ok (.aload_n 0, 1) := by decide +kernel
theorem dX6_init_12 : decode cX6_init 12 = .ok (.iconst 4, 1) := by decide +kernel
theorem dX6_init_13 : decode cX6_init 13 = .ok (.newarray .int, 2) := by decide +kernel
theorem dX6_init_15 : decode cX6_init 15 = .ok (.putfield 15, 3) := by decide +kernel
theorem dX6_init_18 : decode cX6_init 18 = .ok (.aload_n 0, 1) := by decide +kernel
theorem dX6_init_19 : decode cX6_init 19 = .ok (.iconst 0, 1) := by decide +kernel
theorem dX6_init_20 : decode cX6_init 20 = .ok (.putfield 18, 3) := by decide +kernel
theorem dX6_init_23 : decode cX6_init 23 = .ok (.return_, 1) := by decide +kernel
theorem dX6_find_0 : decode cX6_find 0 = .ok (.aload_n 0, 1) := by decide +kernel
theorem dX6_find_1 : decode cX6_find 1 = .ok (.aload_n 1, 1) := by decide +kernel
theorem dX6_find_2 : decode cX6_find 2 = .ok (.iload_n 3, 1) := by decide +kernel
theorem dX6_find_3 : decode cX6_find 3 = .ok (.invokevirtual 22, 3) := by decide +kernel
theorem dX6_find_6 : decode cX6_find 6 = .ok (.aload_n 0, 1) := by decide +kernel
theorem dX6_find_7 : decode cX6_find 7 = .ok (.iconst 0, 1) := by decide +kernel
theorem dX6_find_8 : decode cX6_find 8 = .ok (.putfield 18, 3) := by decide +kernel
theorem dX6_find_11 : decode cX6_find 11 = .ok (.iload_n 2, 1) := by decide +kernel
theorem dX6_find_12 : decode cX6_find 12 = .ok (.istore 4, 2) := by decide +kernel
theorem dX6_find_14 : decode cX6_find 14 = .ok (.iconst 0, 1) := by decide +kernel
theorem dX6_find_15 : decode cX6_find 15 = .ok (.istore 5, 2) := by decide +kernel
theorem dX6_find_17 : decode cX6_find 17 = .ok (.iload 5, 2) := by decide +kernel
theorem dX6_find_19 : decode cX6_find 19 = .ok (.iconst 4, 1) := by decide +kernel
theorem dX6_find_20 : decode cX6_find 20 = .ok (.if_icmp .ge 41, 3) := by decide +kernel
theorem dX6_find_23 : decode cX6_find 23 = .ok (.iload 4, 2) := by decide +kernel
theorem dX6_find_25 : decode cX6_find 25 = .ok (.iconst (-1), 1) := by decide +kernel
theorem dX6_find_26 : decode cX6_find 26 = .ok (.if_icmp .eq 35, 3) := by decide +kernel
theorem dX6_find_29 : decode cX6_find 29 = .ok (.aload_n 0, 1) := by decide +kernel
theorem dX6_find_30 : decode cX6_find 30 = .ok (.getfield 9, 3) := by decide +kernel
theorem dX6_find_33 : decode cX6_find 33 = .ok (.iload 5, 2) := by decide +kernel
theorem dX6_find_35 : decode cX6_find 35 = .ok (.iload 4, 2) := by decide +kernel
theorem dX6_find_37 : decode cX6_find 37 = .ok (.iastore, 1) := by decide +kernel
theorem dX6_find_38 : decode cX6_find 38 = .ok (.aload_n 0, 1) := by decide +kernel
theorem dX6_find_39 : decode cX6_find 39 = .ok (.iload 5, 2) := by decide +kernel
theorem dX6_find_41 : decode cX6_find 41 = .ok (.iconst 1, 1) := by decide +kernel
theorem dX6_find_42 : decode cX6_find 42 = .ok (.iadd, 1) := by decide +kernel
theorem dX6_find_43 : decode cX6_find 43 = .ok (.putfield 18, 3) := by decide +kernel
theorem dX6_find_46 : decode cX6_find 46 = .ok (.aload_n 0, 1) := by decide +kernel
theorem dX6_find_47 : decode cX6_find 47 = .ok (.aload_n 1, 1) := by decide +kernel
theorem dX6_find_48 : decode cX6_find 48 = .ok (.iload 4, 2) := by decide +kernel
theorem dX6_find_50 : decode cX6_find 50 = .ok (.invokevirtual 26, 3) := by decide +kernel
theorem dX6_find_53 : decode cX6_find 53 = .ok (.istore 4, 2) := by decide +kernel
theorem dX6_find_55 : decode cX6_find 55 = .ok (.iinc 5 1, 3) := by decide +kernel
theorem dX6_find_58 : decode cX6_find 58 = .ok (.goto (-41), 3) := by decide +kernel
theorem dX6_find_61 : decode cX6_find 61 = .ok (.aload_n 0, 1) := by decide +kernel
theorem dX6_find_62 : decode cX6_find 62 = .ok (.aload_n 0, 1) := by decide +kernel
theorem dX6_find_63 : decode cX6_find 63 = .ok (.getfield 18, 3) := by decide +kernel
theorem dX6_find_66 : decode cX6_find 66 = .ok (.iconst 1, 1) := by decide +kernel
theorem dX6_find_67 : decode cX6_find 67 = .ok (.isub, 1) := by decide +kernel
theorem dX6_find_68 : decode cX6_find 68 = .ok (.invokevirtual 30, 3) := by decide +kernel
theorem dX6_find_71 : decode cX6_find 71 = .ok (.iload_n 3, 1) := by decide +kernel
theorem dX6_find_72 : decode cX6_find 72 = .ok (.if_icmp .eq 8, 3) := by decide +kernel
theorem dX6_find_75 : decode cX6_find 75 = .ok (.aload_n 0, 1) := by decide +kernel
theorem dX6_find_76 : decode cX6_find 76 = .ok (.iconst 0, 1) := by decide +kernel
theorem dX6_find_77 : decode cX6_find 77 = .ok (.putfield 18, 3) := by decide +kernel
theorem dX6_find_80 : decode cX6_find 80 = .ok (.return_, 1) := by decide +kernel
theorem dX6_countSteps_0 : decode cX6_countSteps 0 = .ok (.iconst 0, 1) := by decide +kernel
theorem dX6_countSteps_1 : decode cX6_countSteps 1 = .ok (.istore_n 3, 1) := by decide +kernel
theorem dX6_countSteps_2 : decode cX6_countSteps 2 = .ok (.iload_n 3, 1) := by decide +kernel
theorem dX6_countSteps_3 : decode cX6_countSteps 3 = .ok (.iconst 4, 1) := by decide +kernel
theorem dX6_countSteps_4 : decode cX6_countSteps 4 = .ok (.if_icmp .ge 25, 3) := by decide +kernel
theorem dX6_countSteps_7 : decode cX6_countSteps 7 = .ok (.aload_n 0, 1) := by decide +kernel
theorem dX6_countSteps_8 : decode cX6_countSteps 8 = .ok (.getfield 15, 3) := by decide +kernel
theorem dX6_countSteps_11 : decode cX6_countSteps 11 = .ok (.iload_n 3, 1) := by decide +kernel
theorem dX6_countSteps_12 : decode cX6_countSteps 12 = .ok (.iload_n 3, 1) := by decide +kernel
theorem dX6_countSteps_13 : decode cX6_countSteps 13 = .ok (.iload_n 2, 1) := by decide +kernel
theorem dX6_countSteps_14 : decode cX6_countSteps 14 = .ok (.if_icmp .ne 7, 3) := by decide +kernel
theorem dX6_countSteps_17 : decode cX6_countSteps 17 = .ok (.iconst 0, 1) := by decide +kernel
theorem dX6_countSteps_18 : decode cX6_countSteps 18 = .ok (.goto 4, 3) := by decide +kernel
theorem dX6_countSteps_21 : decode cX6_countSteps 21 = .ok (.iconst (-1), 1) := by decide +kernel
theorem dX6_countSteps_22 : decode cX6_countSteps 22 = .ok (.iastore, 1) := by decide +kernel
theorem dX6_countSteps_23 : decode cX6_countSteps 23 = .ok (.iinc 3 1, 3) := by decide +kernel
theorem dX6_countSteps_26 : decode cX6_countSteps 26 = .ok (.goto (-24), 3) := by decide +kernel
theorem dX6_countSteps_29 : decode cX6_countSteps 29 = .ok (.iconst 1, 1) := by decide +kernel
theorem dX6_countSteps_30 : decode cX6_countSteps 30 = .ok (.istore_n 3, 1) := by decide +kernel
theorem dX6_countSteps_31 : decode cX6_countSteps 31 = .ok (.iload_n 3, 1) := by decide +kernel
theorem dX6_countSteps_32 : decode cX6_countSteps 32 = .ok (.iconst 4, 1) := by decide +kernel
theorem dX6_countSteps_33 : decode cX6_countSteps 33 = .ok (.if_icmp .ge 56, 3) := by decide +kernel
theorem dX6_countSteps_36 : decode cX6_countSteps 36 = .ok (.iconst 0, 1) := by decide +kernel
theorem dX6_countSteps_37 : decode cX6_countSteps 37 = .ok (.istore 4, 2) := by decide +kernel
theorem dX6_countSteps_39 : decode cX6_countSteps 39 = .ok (.iload 4, 2) := by decide +kernel
theorem dX6_countSteps_41 : decode cX6_countSteps 41 = .ok (.iconst 4, 1) := by decide +kernel
theorem dX6_countSteps_42 : decode cX6_countSteps 42 = .ok (.if_icmp .ge 41, 3) := by decide +kernel
theorem dX6_countSteps_45 : decode cX6_countSteps 45 = .ok (.aload_n 0, 1) := by decide +kernel
theorem dX6_countSteps_46 : decode cX6_countSteps 46 = .ok (.getfield 15, 3) := by decide +kernel
theorem dX6_countSteps_49 : decode cX6_countSteps 49 = .ok (.iload 4, 2) := by decide +kernel
theorem dX6_countSteps_51 : decode cX6_countSteps 51 = .ok (.iaload, 1) := by decide +kernel
theorem dX6_countSteps_52 : decode cX6_countSteps 52 = .ok (.iconst (-1), 1) := by decide +kernel
theorem dX6_countSteps_53 : decode cX6_countSteps 53 = .ok (.if_icmp .ne 24, 3) := by decide +kernel
theorem dX6_countSteps_56 : decode cX6_countSteps 56 = .ok (.aload_n 0, 1) := by decide +kernel
theorem dX6_countSteps_57 : decode cX6_countSteps 57 = .ok (.aload_n 1, 1) := by decide +kernel
theorem dX6_countSteps_58 : decode cX6_countSteps 58 = .ok (.iload 4, 2) := by decide +kernel
theorem dX6_countSteps_60 : decode cX6_countSteps 60 = .ok (.iload_n 3, 1) := by decide +kernel
theorem dX6_countSteps_61 : decode cX6_countSteps 61 = .ok (.iconst 1, 1) := by decide +kernel
theorem dX6_countSteps_62 : decode cX6_countSteps 62 = .ok (.isub, 1) := by decide +kernel
theorem dX6_countSteps_63 : decode cX6_countSteps 63 = .ok (.invokevirtual 34, 3) := by decide +kernel
theorem dX6_countSteps_66 : decode cX6_countSteps 66 = .ok (.ifCond .eq 11, 3) := by decide +kernel
theorem dX6_countSteps_69 : decode cX6_countSteps 69 = .ok (.aload_n 0, 1) := by decide +kernel
theorem dX6_countSteps_70 : decode cX6_countSteps 70 = .ok (.getfield 15, 3) := by decide +kernel
theorem dX6_countSteps_73 : decode cX6_countSteps 73 = .ok (.iload 4, 2) := by decide +kernel
theorem dX6_countSteps_75 : decode cX6_countSteps 75 = .ok (.iload_n 3, 1) := by decide +kernel
theorem dX6_countSteps_76 : decode cX6_countSteps 76 = .ok (.iastore, 1) := by decide +kernel
theorem dX6_countSteps_77 : decode cX6_countSteps 77 = .ok (.iinc 4 1, 3) := by decide +kernel
theorem dX6_countSteps_80 : decode cX6_countSteps 80 = .ok (.goto (-41), 3) := by decide +kernel
theorem dX6_countSteps_83 : decode cX6_countSteps 83 = .ok (.iinc 3 1, 3) := by decide +kernel
theorem dX6_countSteps_86 : decode cX6_countSteps 86 = .ok (.goto (-55), 3) := by decide +kernel
theorem dX6_countSteps_89 : decode cX6_countSteps 89 = .ok (.return_, 1) := by decide +kernel
theorem dX6_touches_0 : decode cX6_touches 0 = .ok (.iconst 0, 1) := by decide +kernel
theorem dX6_touches_1 : decode cX6_touches 1 = .ok (.istore 4, 2) := by decide +kernel
theorem dX6_touches_3 : decode cX6_touches 3 = .ok (.iload 4, 2) := by decide +kernel
theorem dX6_touches_5 : decode cX6_touches 5 = .ok (.iconst 4, 1) := by decide +kernel
theorem dX6_touches_6 : decode cX6_touches 6 = .ok (.if_icmp .ge 32, 3) := by decide +kernel
theorem dX6_touches_9 : decode cX6_touches 9 = .ok (.aload_n 0, 1) := by decide +kernel
theorem dX6_touches_10 : decode cX6_touches 10 = .ok (.getfield 15, 3) := by decide +kernel
theorem dX6_touches_13 : decode cX6_touches 13 = .ok (.iload 4, 2) := by decide +kernel
theorem dX6_touches_15 : decode cX6_touches 15 = .ok (.iaload, 1) := by decide +kernel
theorem dX6_touches_16 : decode cX6_touches 16 = .ok (.iload_n 3, 1) := by decide +kernel
theorem dX6_touches_17 : decode cX6_touches 17 = .ok (.if_icmp .ne 15, 3) := by decide +kernel
theorem dX6_touches_20 : decode cX6_touches 20 = .ok (.aload_n 1, 1) := by decide +kernel
theorem dX6_touches_21 : decode cX6_touches 21 = .ok (.iload_n 2, 1) := by decide +kernel
theorem dX6_touches_22 : decode cX6_touches 22 = .ok (.iload 4, 2) := by decide +kernel
theorem dX6_touches_24 : decode cX6_touches 24 = .ok (.invokevirtual 38, 3) := by decide +kernel
theorem dX6_touches_27 : decode cX6_touches 27 = .ok (.ifCond .eq 5, 3) := by decide +kernel
theorem dX6_touches_30 : decode cX6_touches 30 = .ok (.iconst 1, 1) := by decide +kernel
theorem dX6_touches_31 : decode cX6_touches 31 = .ok (.ireturn, 1) := by decide +kernel
theorem dX6_touches_32 : decode cX6_touches 32 = .ok (.iinc 4 1, 3) := by decide +kernel
theorem dX6_touches_35 : decode cX6_touches 35 = .ok (.goto (-32), 3) := by decide +kernel
theorem dX6_touches_38 : decode cX6_touches 38 = .ok (.iconst 0, 1) := by decide +kernel
theorem dX6_touches_39 : decode cX6_touches 39 = .ok (.ireturn, 1) := by decide +kernel
theorem dX6_nearer_0 : decode cX6_nearer 0 = .ok (.iload_n 2, 1) := by decide +kernel
theorem dX6_nearer_1 : decode cX6_nearer 1 = .ok (.invokestatic 44, 3) := by decide +kernel
theorem dX6_nearer_4 : decode cX6_nearer 4 = .ok (.ifCond .eq 12, 3) := by decide +kernel
theorem dX6_nearer_7 : decode cX6_nearer 7 = .ok (.aload_n 0, 1) := by decide +kernel
theorem dX6_nearer_8 : decode cX6_nearer 8 = .ok (.getfield 15, 3) := by decide +kernel
theorem dX6_nearer_11 : decode cX6_nearer 11 = .ok (.iload_n 2, 1) := by decide +kernel
theorem dX6_nearer_12 : decode cX6_nearer 12 = .ok (.iaload, 1) := by decide +kernel
theorem dX6_nearer_13 : decode cX6_nearer 13 = .ok (.ifCond .gt 5, 3) := by decide +kernel
theorem dX6_nearer_16 : decode cX6_nearer 16 = .ok (.iconst (-1), 1) := by decide +kernel
theorem dX6_nearer_17 : decode cX6_nearer 17 = .ok (.ireturn, 1) := by decide +kernel
theorem dX6_nearer_18 : decode cX6_nearer 18 = .ok (.iconst 0, 1) := by decide +kernel
theorem dX6_nearer_19 : decode cX6_nearer 19 = .ok (.istore_n 3, 1) := by decide +kernel
theorem dX6_nearer_20 : decode cX6_nearer 20 = .ok (.iload_n 3, 1) := by decide +kernel
theorem dX6_nearer_21 : decode cX6_nearer 21 = .ok (.iconst 4, 1) := by decide +kernel
theorem dX6_nearer_22 : decode cX6_nearer 22 = .ok (.if_icmp .ge 37, 3) := by decide +kernel
theorem dX6_nearer_25 : decode cX6_nearer 25 = .ok (.aload_n 0, 1) := by decide +kernel
theorem dX6_nearer_26 : decode cX6_nearer 26 = .ok (.getfield 15, 3) := by decide +kernel
theorem dX6_nearer_29 : decode cX6_nearer 29 = .ok (.iload_n 3, 1) := by decide +kernel
theorem dX6_nearer_30 : decode cX6_nearer 30 = .ok (.iaload, 1) := by decide +kernel
theorem dX6_nearer_31 : decode cX6_nearer 31 = .ok (.aload_n 0, 1) := by decide +kernel
theorem dX6_nearer_32 : decode cX6_nearer 32 = .ok (.getfield 15, 3) := by decide +kernel
theorem dX6_nearer_35 : decode cX6_nearer 35 = .ok (.iload_n 2, 1) := by decide +kernel
theorem dX6_nearer_36 : decode cX6_nearer 36 = .ok (.iaload, 1) := by decide +kernel
theorem dX6_nearer_37 : decode cX6_nearer 37 = .ok (.iconst 1, 1) := by decide +kernel
theorem dX6_nearer_38 : decode cX6_nearer 38 = .ok (.isub, 1) := by decide +kernel
theorem dX6_nearer_39 : decode cX6_nearer 39 = .ok (.if_icmp .ne 14, 3) := by decide +kernel
theorem dX6_nearer_42 : decode cX6_nearer 42 = .ok (.aload_n 1, 1) := by decide +kernel
theorem dX6_nearer_43 : decode cX6_nearer 43 = .ok (.iload_n 2, 1) := by decide +kernel
theorem dX6_nearer_44 : decode cX6_nearer 44 = .ok (.iload_n 3, 1) := by decide +kernel
theorem dX6_nearer_45 : decode cX6_nearer 45 = .ok (.invokevirtual 38, 3) := by decide +kernel
theorem dX6_nearer_48 : decode cX6_nearer 48 = .ok (.ifCond .eq 5, 3) := by decide +kernel
theorem dX6_nearer_51 : decode cX6_nearer 51 = .ok (.iload_n 3, 1) := by decide +kernel
theorem dX6_nearer_52 : decode cX6_nearer 52 = .ok (.ireturn, 1) := by decide +kernel
theorem dX6_nearer_53 : decode cX6_nearer 53 = .ok (.iinc 3 1, 3) := by decide +kernel
theorem dX6_nearer_56 : decode cX6_nearer 56 = .ok (.goto (-36), 3) := by decide +kernel
theorem dX6_nearer_59 : decode cX6_nearer 59 = .ok (.iconst (-1), 1) := by decide +kernel
theorem dX6_nearer_60 : decode cX6_nearer 60 = .ok (.ireturn, 1) := by decide +kernel
theorem dX6_tongueAt_0 : decode cX6_tongueAt 0 = .ok (.iload_n 1, 1) := by decide +kernel
theorem dX6_tongueAt_1 : decode cX6_tongueAt 1 = .ok (.ifCond .lt 25, 3) := by decide +kernel
theorem dX6_tongueAt_4 : decode cX6_tongueAt 4 = .ok (.iload_n 1, 1) := by decide +kernel
theorem dX6_tongueAt_5 : decode cX6_tongueAt 5 = .ok (.aload_n 0, 1) := by decide +kernel
theorem dX6_tongueAt_6 : decode cX6_tongueAt 6 = .ok (.getfield 18, 3) := by decide +kernel
theorem dX6_tongueAt_9 : decode cX6_tongueAt 9 = .ok (.if_icmp .ge 17, 3) := by decide +kernel
theorem dX6_tongueAt_12 : decode cX6_tongueAt 12 = .ok (.iload_n 1, 1) := by decide +kernel
theorem dX6_tongueAt_13 : decode cX6_tongueAt 13 = .ok (.iconst 4, 1) := by decide +kernel
theorem dX6_tongueAt_14 : decode cX6_tongueAt 14 = .ok (.if_icmp .ge 12, 3) := by decide +kernel
theorem dX6_tongueAt_17 : decode cX6_tongueAt 17 = .ok (.aload_n 0, 1) := by decide +kernel
theorem dX6_tongueAt_18 : decode cX6_tongueAt 18 = .ok (.getfield 9, 3) := by decide +kernel
theorem dX6_tongueAt_21 : decode cX6_tongueAt 21 = .ok (.iload_n 1, 1) := by decide +kernel
theorem dX6_tongueAt_22 : decode cX6_tongueAt 22 = .ok (.iaload, 1) := by decide +kernel
theorem dX6_tongueAt_23 : decode cX6_tongueAt 23 = .ok (.goto 4, 3) := by decide +kernel
theorem dX6_tongueAt_26 : decode cX6_tongueAt 26 = .ok (.iconst (-1), 1) := by decide +kernel
theorem dX6_tongueAt_27 : decode cX6_tongueAt 27 = .ok (.ireturn, 1) := by decide +kernel
theorem dX6_comingAcross_0 : decode cX6_comingAcross 0 = .ok (.aload_n 0, 1) := by decide +kernel
theorem dX6_comingAcross_1 : decode cX6_comingAcross 1 = .ok (.getfield 18, 3) := by decide +kernel
theorem dX6_comingAcross_4 : decode cX6_comingAcross 4 = .ok (.ifCond .ne 5, 3) := by decide +kernel
theorem dX6_comingAcross_7 : decode cX6_comingAcross 7 = .ok (.lconst 0, 1) := by decide +kernel
theorem dX6_comingAcross_8 : decode cX6_comingAcross 8 = .ok (.lreturn, 1) := by decide +kernel
theorem dX6_comingAcross_9 : decode cX6_comingAcross 9 = .ok (.ldc2_w 48, 3) := by decide +kernel
theorem dX6_comingAcross_12 : decode cX6_comingAcross 12 = .ok (.lstore_n 2, 1) := by decide +kernel
theorem dX6_comingAcross_13 : decode cX6_comingAcross 13 = .ok (.aload_n 0, 1) := by decide +kernel
theorem dX6_comingAcross_14 : decode cX6_comingAcross 14 = .ok (.getfield 18, 3) := by decide +kernel
theorem dX6_comingAcross_17 : decode cX6_comingAcross 17 = .ok (.iconst 2, 1) := by decide +kernel
theorem dX6_comingAcross_18 : decode cX6_comingAcross 18 = .ok (.isub, 1) := by decide +kernel
theorem dX6_comingAcross_19 : decode cX6_comingAcross 19 = .ok (.istore 4, 2) := by decide +kernel
theorem dX6_comingAcross_21 : decode cX6_comingAcross 21 = .ok (.iload 4, 2) := by decide +kernel
theorem dX6_comingAcross_23 : decode cX6_comingAcross 23 = .ok (.ifCond .lt 32, 3) := by decide +kernel
theorem dX6_comingAcross_26 : decode cX6_comingAcross 26 = .ok (.aload_n 1, 1) := by decide +kernel
theorem dX6_comingAcross_27 : decode cX6_comingAcross 27 = .ok (.aload_n 0, 1) := by decide +kernel
theorem dX6_comingAcross_28 : decode cX6_comingAcross 28 = .ok (.iload 4, 2) := by decide +kernel
theorem dX6_comingAcross_30 : decode cX6_comingAcross 30 = .ok (.invokevirtual 30, 3) := by decide +kernel
theorem dX6_comingAcross_33 : decode cX6_comingAcross 33 = .ok (.ldc2_w 48, 3) := by decide +kernel
theorem dX6_comingAcross_36 : decode cX6_comingAcross 36 = .ok (.aload_n 0, 1) := by decide +kernel
theorem dX6_comingAcross_37 : decode cX6_comingAcross 37 = .ok (.iload 4, 2) := by decide +kernel
theorem dX6_comingAcross_39 : decode cX6_comingAcross 39 = .ok (.iconst 1, 1) := by decide +kernel
theorem dX6_comingAcross_40 : decode cX6_comingAcross 40 = .ok (.iadd, 1) := by decide +kernel
theorem dX6_comingAcross_41 : decode cX6_comingAcross 41 = .ok (.invokevirtual 30, 3) := by decide +kernel
theorem dX6_comingAcross_44 : decode cX6_comingAcross 44 = .ok (.lload_n 2, 1) := by decide +kernel
theorem dX6_comingAcross_45 : decode cX6_comingAcross 45 = .ok (.invokevirtual 50, 3) := by decide +kernel
theorem dX6_comingAcross_48 : decode cX6_comingAcross 48 = .ok (.lstore_n 2, 1) := by decide +kernel
theorem dX6_comingAcross_49 : decode cX6_comingAcross 49 = .ok (.iinc 4 (-1), 3) := by decide +kernel
theorem dX6_comingAcross_52 : decode cX6_comingAcross 52 = .ok (.goto (-31), 3) := by decide +kernel
theorem dX6_comingAcross_55 : decode cX6_comingAcross 55 = .ok (.lload_n 2, 1) := by decide +kernel
theorem dX6_comingAcross_56 : decode cX6_comingAcross 56 = .ok (.lreturn, 1) := by decide +kernel
theorem dX7_init_0 : decode cX7_init 0 = .ok (.aload_n 0, 1) := by decide +kernel
theorem dX7_init_1 : decode cX7_init 1 = .ok (.invokespecial 3, 3) := by decide +kernel
theorem dX7_init_4 : decode cX7_init 4 = .ok (.aload_n 0, 1) := by decide +kernel
theorem dX7_init_5 : decode cX7_init 5 = .ok (.bipush 10, 2) := by decide +kernel
theorem dX7_init_7 : decode cX7_init 7 = .ok (.newarray .int, 2) := by decide +kernel
theorem dX7_init_9 : decode cX7_init 9 = .ok (.putfield 9, 3) := by decide +kernel
theorem dX7_init_12 : decode cX7_init 12 = .ok (.aload_n 0, 1) := by decide +kernel
theorem dX7_init_13 : decode cX7_init 13 = .ok (.iconst (-1), 1) := by decide +kernel
theorem dX7_init_14 : decode cX7_init 14 = .ok (.putfield 15, 3) := by decide +kernel
theorem dX7_init_17 : decode cX7_init 17 = .ok (.aload_n 0, 1) := by decide +kernel
theorem dX7_init_18 : decode cX7_init 18 = .ok (.iconst 0, 1) := by decide +kernel
theorem dX7_init_19 : decode cX7_init 19 = .ok (.putfield 19, 3) := by decide +kernel
theorem dX7_init_22 : decode cX7_init 22 = .ok (.return_, 1) := by decide +kernel
theorem dX7_add_0 : decode cX7_add 0 = .ok (.aload_n 0, 1) := by decide +kernel
theorem dX7_add_1 : decode cX7_add 1 = .ok (.getfield 19, 3) := by decide +kernel
theorem dX7_add_4 : decode cX7_add 4 = .ok (.ifCond .lt 12, 3) := by decide +kernel
theorem dX7_add_7 : decode cX7_add 7 = .ok (.aload_n 0, 1) := by decide +kernel
theorem dX7_add_8 : decode cX7_add 8 = .ok (.getfield 19, 3) := by decide +kernel
theorem dX7_add_11 : decode cX7_add 11 = .ok (.bipush 10, 2) := by decide +kernel
theorem dX7_add_13 : decode cX7_add 13 = .ok (.if_icmp .lt 7, 3) := by decide +kernel
theorem dX7_add_16 : decode cX7_add 16 = .ok (.sipush (-1004), 3) := by decide +kernel
theorem dX7_add_19 : decode cX7_add 19 = .ok (.ireturn, 1) := by decide +kernel
theorem dX7_add_20 : decode cX7_add 20 = .ok (.aload_n 0, 1) := by decide +kernel
theorem dX7_add_21 : decode cX7_add 21 = .ok (.iload_n 1, 1) := by decide +kernel
theorem dX7_add_22 : decode cX7_add 22 = .ok (.putfield 15, 3) := by decide +kernel
theorem dX7_add_25 : decode cX7_add 25 = .ok (.aload_n 0, 1) := by decide +kernel
theorem dX7_add_26 : decode cX7_add 26 = .ok (.getfield 9, 3) := by decide +kernel
theorem dX7_add_29 : decode cX7_add 29 = .ok (.aload_n 0, 1) := by decide +kernel
theorem dX7_add_30 : decode cX7_add 30 = .ok (.getfield 19, 3) := by decide +kernel
theorem dX7_add_33 : decode cX7_add 33 = .ok (.iload_n 2, 1) := by decide +kernel
theorem dX7_add_34 : decode cX7_add 34 = .ok (.iastore, 1) := by decide +kernel
theorem dX7_add_35 : decode cX7_add 35 = .ok (.aload_n 0, 1) := by decide +kernel
theorem dX7_add_36 : decode cX7_add 36 = .ok (.dup, 1) := by decide +kernel
theorem dX7_add_37 : decode cX7_add 37 = .ok (.getfield 19, 3) := by decide +kernel
theorem dX7_add_40 : decode cX7_add 40 = .ok (.iconst 1, 1) := by decide +kernel
theorem dX7_add_41 : decode cX7_add 41 = .ok (.iadd, 1) := by decide +kernel
theorem dX7_add_42 : decode cX7_add 42 = .ok (.putfield 19, 3) := by decide +kernel
theorem dX7_add_45 : decode cX7_add 45 = .ok (.aload_n 0, 1) := by decide +kernel
theorem dX7_add_46 : decode cX7_add 46 = .ok (.getfield 19, 3) := by decide +kernel
theorem dX7_add_49 : decode cX7_add 49 = .ok (.ireturn, 1) := by decide +kernel
theorem dX7_wordAt_0 : decode cX7_wordAt 0 = .ok (.iload_n 1, 1) := by decide +kernel
theorem dX7_wordAt_1 : decode cX7_wordAt 1 = .ok (.ifCond .lt 26, 3) := by decide +kernel
theorem dX7_wordAt_4 : decode cX7_wordAt 4 = .ok (.iload_n 1, 1) := by decide +kernel
theorem dX7_wordAt_5 : decode cX7_wordAt 5 = .ok (.aload_n 0, 1) := by decide +kernel
theorem dX7_wordAt_6 : decode cX7_wordAt 6 = .ok (.getfield 19, 3) := by decide +kernel
theorem dX7_wordAt_9 : decode cX7_wordAt 9 = .ok (.if_icmp .ge 18, 3) := by decide +kernel
theorem dX7_wordAt_12 : decode cX7_wordAt 12 = .ok (.iload_n 1, 1) := by decide +kernel
theorem dX7_wordAt_13 : decode cX7_wordAt 13 = .ok (.bipush 10, 2) := by decide +kernel
theorem dX7_wordAt_15 : decode cX7_wordAt 15 = .ok (.if_icmp .ge 12, 3) := by decide +kernel
theorem dX7_wordAt_18 : decode cX7_wordAt 18 = .ok (.aload_n 0, 1) := by decide +kernel
theorem dX7_wordAt_19 : decode cX7_wordAt 19 = .ok (.getfield 9, 3) := by decide +kernel
theorem dX7_wordAt_22 : decode cX7_wordAt 22 = .ok (.iload_n 1, 1) := by decide +kernel
theorem dX7_wordAt_23 : decode cX7_wordAt 23 = .ok (.iaload, 1) := by decide +kernel
theorem dX7_wordAt_24 : decode cX7_wordAt 24 = .ok (.goto 4, 3) := by decide +kernel
theorem dX7_wordAt_27 : decode cX7_wordAt 27 = .ok (.iconst (-1), 1) := by decide +kernel
theorem dX7_wordAt_28 : decode cX7_wordAt 28 = .ok (.ireturn, 1) := by decide +kernel
theorem dX8_init_0 : decode cX8_init 0 = .ok (.aload_n 0, 1) := by decide +kernel
theorem dX8_init_1 : decode cX8_init 1 = .ok (.invokespecial 3, 3) := by decide +kernel
theorem dX8_init_4 : decode cX8_init 4 = .ok (.aload_n 0, 1) := by decide +kernel
theorem dX8_init_5 : decode cX8_init 5 = .ok (.bipush 8, 2) := by decide +kernel
theorem dX8_init_7 : decode cX8_init 7 = .ok (.anewarray 9, 3) := by decide +kernel
theorem dX8_init_10 : decode cX8_init 10 = .ok (.putfield 11, 3) := by decide +kernel
theorem dX8_init_13 : decode cX8_init 13 = .ok (.aload_n 0, 1) := by decide +kernel
theorem dX8_init_14 : decode cX8_init 14 = .ok (.aconst_null, 1) := by decide +kernel
theorem dX8_init_15 : decode cX8_init 15 = .ok (.putfield 17, 3) := by decide +kernel
theorem dX8_init_18 : decode cX8_init 18 = .ok (.aload_n 0, 1) := by decide +kernel
theorem dX8_init_19 : decode cX8_init 19 = .ok (.iconst 0, 1) := by decide +kernel
theorem dX8_init_20 : decode cX8_init 20 = .ok (.putfield 21, 3) := by decide +kernel
theorem dX8_init_23 : decode cX8_init 23 = .ok (.aload_n 0, 1) := by decide +kernel
theorem dX8_init_24 : decode cX8_init 24 = .ok (.sipush 999, 3) := by decide +kernel
theorem dX8_init_27 : decode cX8_init 27 = .ok (.putfield 25, 3) := by decide +kernel
theorem dX8_init_30 : decode cX8_init 30 = .ok (.aload_n 0, 1) := by decide +kernel
theorem dX8_init_31 : decode cX8_init 31 = .ok (.iconst 1, 1) := by decide +kernel
theorem dX8_init_32 : decode cX8_init 32 = .ok (.putfield 28, 3) := by decide +kernel
theorem dX8_init_35 : decode cX8_init 35 = .ok (.return_, 1) := by decide +kernel
theorem dX8_newDraft_0 : decode cX8_newDraft 0 = .ok (.aload_n 0, 1) := by decide +kernel
theorem dX8_newDraft_1 : decode cX8_newDraft 1 = .ok (.getfield 17, 3) := by decide +kernel
theorem dX8_newDraft_4 : decode cX8_newDraft 4 = .ok (.ifnonnull 14, 3) := by decide +kernel
theorem dX8_newDraft_7 : decode cX8_newDraft 7 = .ok (.aload_n 0, 1) := by decide +kernel
theorem dX8_newDraft_8 : decode cX8_newDraft 8 = .ok (.new 9, 3) := by decide +kernel
theorem dX8_newDraft_11 : decode cX8_newDraft 11 = .ok (.dup, 1) := by decide +kernel
theorem dX8_newDraft_12 : decode cX8_newDraft 12 = .ok (.invokespecial 32, 3) := by decide +kernel
theorem dX8_newDraft_15 : decode cX8_newDraft 15 = .ok (.putfield 17, 3) := by decide +kernel
theorem dX8_newDraft_18 : decode cX8_newDraft 18 = .ok (.aload_n 0, 1) := by decide +kernel
theorem dX8_newDraft_19 : decode cX8_newDraft 19 = .ok (.getfield 17, 3) := by decide +kernel
theorem dX8_newDraft_22 : decode cX8_newDraft 22 = .ok (.iload_n 1, 1) := by decide +kernel
theorem dX8_newDraft_23 : decode cX8_newDraft 23 = .ok (.iload_n 2, 1) := by decide +kernel
theorem dX8_newDraft_24 : decode cX8_newDraft 24 = .ok (.iload_n 3, 1) := by decide +kernel
theorem dX8_newDraft_25 : decode cX8_newDraft 25 = .ok (.invokevirtual 33, 3) := by decide +kernel
theorem dX8_newDraft_28 : decode cX8_newDraft 28 = .ok (.aload_n 0, 1) := by decide +kernel
theorem dX8_newDraft_29 : decode cX8_newDraft 29 = .ok (.getfield 17, 3) := by decide +kernel
theorem dX8_newDraft_32 : decode cX8_newDraft 32 = .ok (.areturn, 1) := by decide +kernel
theorem dX8_keepDraft_0 : decode cX8_keepDraft 0 = .ok (.aload_n 0, 1) := by decide +kernel
theorem dX8_keepDraft_1 : decode cX8_keepDraft 1 = .ok (.getfield 17, 3) := by decide +kernel
theorem dX8_keepDraft_4 : decode cX8_keepDraft 4 = .ok (.ifnull 19, 3) := by decide +kernel
theorem dX8_keepDraft_7 : decode cX8_keepDraft 7 = .ok (.aload_n 0, 1) := by decide +kernel
theorem dX8_keepDraft_8 : decode cX8_keepDraft 8 = .ok (.getfield 21, 3) := by decide +kernel
theorem dX8_keepDraft_11 : decode cX8_keepDraft 11 = .ok (.ifCond .lt 12, 3) := by decide +kernel
theorem dX8_keepDraft_14 : decode cX8_keepDraft 14 = .ok (.aload_n 0, 1) := by decide +kernel
theorem dX8_keepDraft_15 : decode cX8_keepDraft 15 = .ok (.getfield 21, 3) := by decide +kernel
theorem dX8_keepDraft_18 : decode cX8_keepDraft 18 = .ok (.bipush 8, 2) := by decide +kernel
theorem dX8_keepDraft_20 : decode cX8_keepDraft 20 = .ok (.if_icmp .lt 7, 3) := by decide +kernel
theorem dX8_keepDraft_23 : decode cX8_keepDraft 23 = .ok (.sipush (-1004), 3) := by decide +kernel
theorem dX8_keepDraft_26 : decode cX8_keepDraft 26 = .ok (.ireturn, 1) := by decide +kernel
theorem dX8_keepDraft_27 : decode cX8_keepDraft 27 = .ok (.aload_n 0, 1) := by decide +kernel
theorem dX8_keepDraft_28 : decode cX8_keepDraft 28 = .ok (.getfield 11, 3) := by decide +kernel
theorem dX8_keepDraft_31 : decode cX8_keepDraft 31 = .ok (.aload_n 0, 1) := by decide +kernel
theorem dX8_keepDraft_32 : decode cX8_keepDraft 32 = .ok (.getfield 21, 3) := by decide +kernel
theorem dX8_keepDraft_35 : decode cX8_keepDraft 35 = .ok (.aload_n 0, 1) := by decide +kernel
theorem dX8_keepDraft_36 : decode cX8_keepDraft 36 = .ok (.getfield 17, 3) := by decide +kernel
theorem dX8_keepDraft_39 : decode cX8_keepDraft 39 = .ok (.aastore, 1) := by decide +kernel
theorem dX8_keepDraft_40 : decode cX8_keepDraft 40 = .ok (.aload_n 0, 1) := by decide +kernel
theorem dX8_keepDraft_41 : decode cX8_keepDraft 41 = .ok (.aconst_null, 1) := by decide +kernel
theorem dX8_keepDraft_42 : decode cX8_keepDraft 42 = .ok (.putfield 17, 3) := by decide +kernel
theorem dX8_keepDraft_45 : decode cX8_keepDraft 45 = .ok (.aload_n 0, 1) := by decide +kernel
theorem dX8_keepDraft_46 : decode cX8_keepDraft 46 = .ok (.dup, 1) := by decide +kernel
theorem dX8_keepDraft_47 : decode cX8_keepDraft 47 = .ok (.getfield 21, 3) := by decide +kernel
theorem dX8_keepDraft_50 : decode cX8_keepDraft 50 = .ok (.iconst 1, 1) := by decide +kernel
theorem dX8_keepDraft_51 : decode cX8_keepDraft 51 = .ok (.iadd, 1) := by decide +kernel
theorem dX8_keepDraft_52 : decode cX8_keepDraft 52 = .ok (.putfield 21, 3) := by decide +kernel
theorem dX8_keepDraft_55 : decode cX8_keepDraft 55 = .ok (.aload_n 0, 1) := by decide +kernel
theorem dX8_keepDraft_56 : decode cX8_keepDraft 56 = .ok (.getfield 21, 3) := by decide +kernel
theorem dX8_keepDraft_59 : decode cX8_keepDraft 59 = .ok (.iconst 1, 1) := by decide +kernel
theorem dX8_keepDraft_60 : decode cX8_keepDraft 60 = .ok (.isub, 1) := by decide +kernel
theorem dX8_keepDraft_61 : decode cX8_keepDraft 61 = .ok (.ireturn, 1) := by decide +kernel
theorem dX8_bookAt_0 : decode cX8_bookAt 0 = .ok (.iload_n 1, 1) := by decide +kernel
theorem dX8_bookAt_1 : decode cX8_bookAt 1 = .ok (.ifCond .lt 26, 3) := by decide +kernel
theorem dX8_bookAt_4 : decode cX8_bookAt 4 = .ok (.iload_n 1, 1) := by decide +kernel
theorem dX8_bookAt_5 : decode cX8_bookAt 5 = .ok (.aload_n 0, 1) := by decide +kernel
theorem dX8_bookAt_6 : decode cX8_bookAt 6 = .ok (.getfield 21, 3) := by decide +kernel
theorem dX8_bookAt_9 : decode cX8_bookAt 9 = .ok (.if_icmp .ge 18, 3) := by decide +kernel
theorem dX8_bookAt_12 : decode cX8_bookAt 12 = .ok (.iload_n 1, 1) := by decide +kernel
theorem dX8_bookAt_13 : decode cX8_bookAt 13 = .ok (.bipush 8, 2) := by decide +kernel
theorem dX8_bookAt_15 : decode cX8_bookAt 15 = .ok (.if_icmp .ge 12, 3) := by decide +kernel
theorem dX8_bookAt_18 : decode cX8_bookAt 18 = .ok (.aload_n 0, 1) := by decide +kernel
theorem dX8_bookAt_19 : decode cX8_bookAt 19 = .ok (.getfield 11, 3) := by decide +kernel
theorem dX8_bookAt_22 : decode cX8_bookAt 22 = .ok (.iload_n 1, 1) := by decide +kernel
theorem dX8_bookAt_23 : decode cX8_bookAt 23 = .ok (.aaload, 1) := by decide +kernel
theorem dX8_bookAt_24 : decode cX8_bookAt 24 = .ok (.goto 4, 3) := by decide +kernel
theorem dX8_bookAt_27 : decode cX8_bookAt 27 = .ok (.aconst_null, 1) := by decide +kernel
theorem dX8_bookAt_28 : decode cX8_bookAt 28 = .ok (.areturn, 1) := by decide +kernel
theorem dX8_currentAt_0 : decode cX8_currentAt 0 = .ok (.aload_n 0, 1) := by decide +kernel
theorem dX8_currentAt_1 : decode cX8_currentAt 1 = .ok (.iload_n 1, 1) := by decide +kernel
theorem dX8_currentAt_2 : decode cX8_currentAt 2 = .ok (.invokevirtual 37, 3) := by decide +kernel
theorem dX8_currentAt_5 : decode cX8_currentAt 5 = .ok (.astore_n 2, 1) := by decide +kernel
theorem dX8_currentAt_6 : decode cX8_currentAt 6 = .ok (.aload_n 2, 1) := by decide +kernel
theorem dX8_currentAt_7 : decode cX8_currentAt 7 = .ok (.ifnull 18, 3) := by decide +kernel
theorem dX8_currentAt_10 : decode cX8_currentAt 10 = .ok (.aload_n 2, 1) := by decide +kernel
theorem dX8_currentAt_11 : decode cX8_currentAt 11 = .ok (.getfield 41, 3) := by decide +kernel
theorem dX8_currentAt_14 : decode cX8_currentAt 14 = .ok (.aload_n 0, 1) := by decide +kernel
theorem dX8_currentAt_15 : decode cX8_currentAt 15 = .ok (.getfield 25, 3) := by decide +kernel
theorem dX8_currentAt_18 : decode cX8_currentAt 18 = .ok (.if_icmp .gt 7, 3) := by decide +kernel
theorem dX8_currentAt_21 : decode cX8_currentAt 21 = .ok (.aload_n 2, 1) := by decide +kernel
theorem dX8_currentAt_22 : decode cX8_currentAt 22 = .ok (.goto 4, 3) := by decide +kernel
theorem dX8_currentAt_25 : decode cX8_currentAt 25 = .ok (.aconst_null, 1) := by decide +kernel
theorem dX8_currentAt_26 : decode cX8_currentAt 26 = .ok (.areturn, 1) := by decide +kernel
theorem dX8_latest_0 : decode cX8_latest 0 = .ok (.iconst (-1), 1) := by decide +kernel
theorem dX8_latest_1 : decode cX8_latest 1 = .ok (.istore 4, 2) := by decide +kernel
theorem dX8_latest_3 : decode cX8_latest 3 = .ok (.iconst 0, 1) := by decide +kernel
theorem dX8_latest_4 : decode cX8_latest 4 = .ok (.istore 5, 2) := by decide +kernel
theorem dX8_latest_6 : decode cX8_latest 6 = .ok (.iload 5, 2) := by decide +kernel
theorem dX8_latest_8 : decode cX8_latest 8 = .ok (.aload_n 0, 1) := by decide +kernel
theorem dX8_latest_9 : decode cX8_latest 9 = .ok (.getfield 21, 3) := by decide +kernel
theorem dX8_latest_12 : decode cX8_latest 12 = .ok (.if_icmp .ge 83, 3) := by decide +kernel
theorem dX8_latest_15 : decode cX8_latest 15 = .ok (.aload_n 0, 1) := by decide +kernel
theorem dX8_latest_16 : decode cX8_latest 16 = .ok (.iload 5, 2) := by decide +kernel
theorem dX8_latest_18 : decode cX8_latest 18 = .ok (.invokevirtual 44, 3) := by decide +kernel
theorem dX8_latest_21 : decode cX8_latest 21 = .ok (.astore 6, 2) := by decide +kernel
theorem dX8_latest_23 : decode cX8_latest 23 = .ok (.aload 6, 2) := by decide +kernel
theorem dX8_latest_25 : decode cX8_latest 25 = .ok (.ifnull 64, 3) := by decide +kernel
theorem dX8_latest_28 : decode cX8_latest 28 = .ok (.aload 6, 2) := by decide +kernel
theorem dX8_latest_30 : decode cX8_latest 30 = .ok (.getfield 47, 3) := by decide +kernel
theorem dX8_latest_33 : decode cX8_latest 33 = .ok (.iload_n 1, 1) := by decide +kernel
theorem dX8_latest_34 : decode cX8_latest 34 = .ok (.if_icmp .ne 55, 3) := by decide +kernel
theorem dX8_latest_37 : decode cX8_latest 37 = .ok (.aload 6, 2) := by decide +kernel
theorem dX8_latest_39 : decode cX8_latest 39 = .ok (.getfield 50, 3) := by decide +kernel
theorem dX8_latest_42 : decode cX8_latest 42 = .ok (.iload_n 3, 1) := by decide +kernel
theorem dX8_latest_43 : decode cX8_latest 43 = .ok (.if_icmp .ne 46, 3) := by decide +kernel
theorem dX8_latest_46 : decode cX8_latest 46 = .ok (.aload 6, 2) := by decide +kernel
theorem dX8_latest_48 : decode cX8_latest 48 = .ok (.getfield 53, 3) := by decide +kernel
theorem dX8_latest_51 : decode cX8_latest 51 = .ok (.iload_n 2, 1) := by decide +kernel
theorem dX8_latest_52 : decode cX8_latest 52 = .ok (.invokestatic 57, 3) := by decide +kernel
theorem dX8_latest_55 : decode cX8_latest 55 = .ok (.ifCond .ne 6, 3) := by decide +kernel
theorem dX8_latest_58 : decode cX8_latest 58 = .ok (.goto 31, 3) := by decide +kernel
theorem dX8_latest_61 : decode cX8_latest 61 = .ok (.iload 4, 2) := by decide +kernel
theorem dX8_latest_63 : decode cX8_latest 63 = .ok (.iconst (-1), 1) := by decide +kernel
theorem dX8_latest_64 : decode cX8_latest 64 = .ok (.if_icmp .eq 21, 3) := by decide +kernel
theorem dX8_latest_67 : decode cX8_latest 67 = .ok (.aload 6, 2) := by decide +kernel
theorem dX8_latest_69 : decode cX8_latest 69 = .ok (.iload 5, 2) := by decide +kernel
theorem dX8_latest_71 : decode cX8_latest 71 = .ok (.aload_n 0, 1) := by decide +kernel
theorem dX8_latest_72 : decode cX8_latest 72 = .ok (.iload 4, 2) := by decide +kernel
theorem dX8_latest_74 : decode cX8_latest 74 = .ok (.invokevirtual 37, 3) := by decide +kernel
theorem dX8_latest_77 : decode cX8_latest 77 = .ok (.iload 4, 2) := by decide +kernel
theorem dX8_latest_79 : decode cX8_latest 79 = .ok (.invokevirtual 61, 3) := by decide +kernel
theorem dX8_latest_82 : decode cX8_latest 82 = .ok (.ifCond .eq 7, 3) := by decide +kernel
theorem dX8_latest_85 : decode cX8_latest 85 = .ok (.iload 5, 2) := by decide +kernel
theorem dX8_latest_87 : decode cX8_latest 87 = .ok (.istore 4, 2) := by decide +kernel
theorem dX8_latest_89 : decode cX8_latest 89 = .ok (.iinc 5 1, 3) := by decide +kernel
theorem dX8_latest_92 : decode cX8_latest 92 = .ok (.goto (-86), 3) := by decide +kernel
theorem dX8_latest_95 : decode cX8_latest 95 = .ok (.iload 4, 2) := by decide +kernel
theorem dX8_latest_97 : decode cX8_latest 97 = .ok (.ireturn, 1) := by decide +kernel
theorem dX8_given_0 : decode cX8_given 0 = .ok (.aload_n 0, 1) := by decide +kernel
theorem dX8_given_1 : decode cX8_given 1 = .ok (.aload_n 0, 1) := by decide +kernel
theorem dX8_given_2 : decode cX8_given 2 = .ok (.iload_n 1, 1) := by decide +kernel
theorem dX8_given_3 : decode cX8_given 3 = .ok (.iload_n 2, 1) := by decide +kernel
theorem dX8_given_4 : decode cX8_given 4 = .ok (.iload_n 3, 1) := by decide +kernel
theorem dX8_given_5 : decode cX8_given 5 = .ok (.invokevirtual 65, 3) := by decide +kernel
theorem dX8_given_8 : decode cX8_given 8 = .ok (.invokevirtual 37, 3) := by decide +kernel
theorem dX8_given_11 : decode cX8_given 11 = .ok (.astore 4, 2) := by decide +kernel
