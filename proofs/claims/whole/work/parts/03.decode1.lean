theorem dX8_given_13 : decode cX8_given 13 = .ok (.aload 4, 2) := by decide +kernel
theorem dX8_given_15 : decode cX8_given 15 = .ok (.ifnonnull 7, 3) := by decide +kernel
theorem dX8_given_18 : decode cX8_given 18 = .ok (.lconst 0, 1) := by decide +kernel
theorem dX8_given_19 : decode cX8_given 19 = .ok (.goto 13, 3) := by decide +kernel
theorem dX8_given_22 : decode cX8_given 22 = .ok (.aload 4, 2) := by decide +kernel
theorem dX8_given_24 : decode cX8_given 24 = .ok (.iload_n 2, 1) := by decide +kernel
theorem dX8_given_25 : decode cX8_given 25 = .ok (.aload_n 0, 1) := by decide +kernel
theorem dX8_given_26 : decode cX8_given 26 = .ok (.getfield 28, 3) := by decide +kernel
theorem dX8_given_29 : decode cX8_given 29 = .ok (.invokevirtual 69, 3) := by decide +kernel
theorem dX8_given_32 : decode cX8_given 32 = .ok (.lreturn, 1) := by decide +kernel
theorem dX8_givenByAll_0 : decode cX8_givenByAll 0 = .ok (.lconst 0, 1) := by decide +kernel
theorem dX8_givenByAll_1 : decode cX8_givenByAll 1 = .ok (.lstore 5, 2) := by decide +kernel
theorem dX8_givenByAll_3 : decode cX8_givenByAll 3 = .ok (.iconst 0, 1) := by decide +kernel
theorem dX8_givenByAll_4 : decode cX8_givenByAll 4 = .ok (.istore 7, 2) := by decide +kernel
theorem dX8_givenByAll_6 : decode cX8_givenByAll 6 = .ok (.iload 7, 2) := by decide +kernel
theorem dX8_givenByAll_8 : decode cX8_givenByAll 8 = .ok (.bipush 60, 2) := by decide +kernel
theorem dX8_givenByAll_10 : decode cX8_givenByAll 10 = .ok (.if_icmp .ge 32, 3) := by decide +kernel
theorem dX8_givenByAll_13 : decode cX8_givenByAll 13 = .ok (.lload_n 2, 1) := by decide +kernel
theorem dX8_givenByAll_14 : decode cX8_givenByAll 14 = .ok (.iload 7, 2) := by decide +kernel
theorem dX8_givenByAll_16 : decode cX8_givenByAll 16 = .ok (.invokestatic 57, 3) := by decide +kernel
theorem dX8_givenByAll_19 : decode cX8_givenByAll 19 = .ok (.ifCond .eq 17, 3) := by decide +kernel
theorem dX8_givenByAll_22 : decode cX8_givenByAll 22 = .ok (.lload 5, 2) := by decide +kernel
theorem dX8_givenByAll_24 : decode cX8_givenByAll 24 = .ok (.aload_n 0, 1) := by decide +kernel
theorem dX8_givenByAll_25 : decode cX8_givenByAll 25 = .ok (.iload_n 1, 1) := by decide +kernel
theorem dX8_givenByAll_26 : decode cX8_givenByAll 26 = .ok (.iload 7, 2) := by decide +kernel
theorem dX8_givenByAll_28 : decode cX8_givenByAll 28 = .ok (.iload 4, 2) := by decide +kernel
theorem dX8_givenByAll_30 : decode cX8_givenByAll 30 = .ok (.invokevirtual 73, 3) := by decide +kernel
theorem dX8_givenByAll_33 : decode cX8_givenByAll 33 = .ok (.lor, 1) := by decide +kernel
theorem dX8_givenByAll_34 : decode cX8_givenByAll 34 = .ok (.lstore 5, 2) := by decide +kernel
theorem dX8_givenByAll_36 : decode cX8_givenByAll 36 = .ok (.iinc 7 1, 3) := by decide +kernel
theorem dX8_givenByAll_39 : decode cX8_givenByAll 39 = .ok (.goto (-33), 3) := by decide +kernel
theorem dX8_givenByAll_42 : decode cX8_givenByAll 42 = .ok (.lload 5, 2) := by decide +kernel
theorem dX8_givenByAll_44 : decode cX8_givenByAll 44 = .ok (.lreturn, 1) := by decide +kernel
theorem dX8_givers_0 : decode cX8_givers 0 = .ok (.lconst 0, 1) := by decide +kernel
theorem dX8_givers_1 : decode cX8_givers 1 = .ok (.lstore 7, 2) := by decide +kernel
theorem dX8_givers_3 : decode cX8_givers 3 = .ok (.iconst 0, 1) := by decide +kernel
theorem dX8_givers_4 : decode cX8_givers 4 = .ok (.istore 9, 2) := by decide +kernel
theorem dX8_givers_6 : decode cX8_givers 6 = .ok (.iload 9, 2) := by decide +kernel
theorem dX8_givers_8 : decode cX8_givers 8 = .ok (.bipush 60, 2) := by decide +kernel
theorem dX8_givers_10 : decode cX8_givers 10 = .ok (.if_icmp .ge 58, 3) := by decide +kernel
theorem dX8_givers_13 : decode cX8_givers 13 = .ok (.lload_n 2, 1) := by decide +kernel
theorem dX8_givers_14 : decode cX8_givers 14 = .ok (.lconst 0, 1) := by decide +kernel
theorem dX8_givers_15 : decode cX8_givers 15 = .ok (.lcmp, 1) := by decide +kernel
theorem dX8_givers_16 : decode cX8_givers 16 = .ok (.ifCond .eq 52, 3) := by decide +kernel
theorem dX8_givers_19 : decode cX8_givers 19 = .ok (.lload 5, 2) := by decide +kernel
theorem dX8_givers_21 : decode cX8_givers 21 = .ok (.lconst 0, 1) := by decide +kernel
theorem dX8_givers_22 : decode cX8_givers 22 = .ok (.lcmp, 1) := by decide +kernel
theorem dX8_givers_23 : decode cX8_givers 23 = .ok (.ifCond .eq 45, 3) := by decide +kernel
theorem dX8_givers_26 : decode cX8_givers 26 = .ok (.lload_n 2, 1) := by decide +kernel
theorem dX8_givers_27 : decode cX8_givers 27 = .ok (.iload 9, 2) := by decide +kernel
theorem dX8_givers_29 : decode cX8_givers 29 = .ok (.invokestatic 57, 3) := by decide +kernel
theorem dX8_givers_32 : decode cX8_givers 32 = .ok (.ifCond .eq 30, 3) := by decide +kernel
theorem dX8_givers_35 : decode cX8_givers 35 = .ok (.aload_n 0, 1) := by decide +kernel
theorem dX8_givers_36 : decode cX8_givers 36 = .ok (.iload_n 1, 1) := by decide +kernel
theorem dX8_givers_37 : decode cX8_givers 37 = .ok (.iload 9, 2) := by decide +kernel
theorem dX8_givers_39 : decode cX8_givers 39 = .ok (.iload 4, 2) := by decide +kernel
theorem dX8_givers_41 : decode cX8_givers 41 = .ok (.invokevirtual 73, 3) := by decide +kernel
theorem dX8_givers_44 : decode cX8_givers 44 = .ok (.lload 5, 2) := by decide +kernel
theorem dX8_givers_46 : decode cX8_givers 46 = .ok (.land, 1) := by decide +kernel
theorem dX8_givers_47 : decode cX8_givers 47 = .ok (.lconst 0, 1) := by decide +kernel
theorem dX8_givers_48 : decode cX8_givers 48 = .ok (.lcmp, 1) := by decide +kernel
theorem dX8_givers_49 : decode cX8_givers 49 = .ok (.ifCond .eq 13, 3) := by decide +kernel
theorem dX8_givers_52 : decode cX8_givers 52 = .ok (.lload 7, 2) := by decide +kernel
theorem dX8_givers_54 : decode cX8_givers 54 = .ok (.iload 9, 2) := by decide +kernel
theorem dX8_givers_56 : decode cX8_givers 56 = .ok (.invokestatic 77, 3) := by decide +kernel
theorem dX8_givers_59 : decode cX8_givers 59 = .ok (.lor, 1) := by decide +kernel
theorem dX8_givers_60 : decode cX8_givers 60 = .ok (.lstore 7, 2) := by decide +kernel
theorem dX8_givers_62 : decode cX8_givers 62 = .ok (.iinc 9 1, 3) := by decide +kernel
theorem dX8_givers_65 : decode cX8_givers 65 = .ok (.goto (-59), 3) := by decide +kernel
theorem dX8_givers_68 : decode cX8_givers 68 = .ok (.lload 7, 2) := by decide +kernel
theorem dX8_givers_70 : decode cX8_givers 70 = .ok (.lreturn, 1) := by decide +kernel
theorem dX8_sharingSense_0 : decode cX8_sharingSense 0 = .ok (.aload_n 0, 1) := by decide +kernel
theorem dX8_sharingSense_1 : decode cX8_sharingSense 1 = .ok (.aload_n 0, 1) := by decide +kernel
theorem dX8_sharingSense_2 : decode cX8_sharingSense 2 = .ok (.iload_n 1, 1) := by decide +kernel
theorem dX8_sharingSense_3 : decode cX8_sharingSense 3 = .ok (.iload_n 2, 1) := by decide +kernel
theorem dX8_sharingSense_4 : decode cX8_sharingSense 4 = .ok (.iload_n 3, 1) := by decide +kernel
theorem dX8_sharingSense_5 : decode cX8_sharingSense 5 = .ok (.invokevirtual 65, 3) := by decide +kernel
theorem dX8_sharingSense_8 : decode cX8_sharingSense 8 = .ok (.invokevirtual 37, 3) := by decide +kernel
theorem dX8_sharingSense_11 : decode cX8_sharingSense 11 = .ok (.astore 6, 2) := by decide +kernel
theorem dX8_sharingSense_13 : decode cX8_sharingSense 13 = .ok (.aload 6, 2) := by decide +kernel
theorem dX8_sharingSense_15 : decode cX8_sharingSense 15 = .ok (.ifnonnull 5, 3) := by decide +kernel
theorem dX8_sharingSense_18 : decode cX8_sharingSense 18 = .ok (.lconst 0, 1) := by decide +kernel
theorem dX8_sharingSense_19 : decode cX8_sharingSense 19 = .ok (.lreturn, 1) := by decide +kernel
theorem dX8_sharingSense_20 : decode cX8_sharingSense 20 = .ok (.lconst 0, 1) := by decide +kernel
theorem dX8_sharingSense_21 : decode cX8_sharingSense 21 = .ok (.lstore 7, 2) := by decide +kernel
theorem dX8_sharingSense_23 : decode cX8_sharingSense 23 = .ok (.iconst 0, 1) := by decide +kernel
theorem dX8_sharingSense_24 : decode cX8_sharingSense 24 = .ok (.istore 9, 2) := by decide +kernel
theorem dX8_sharingSense_26 : decode cX8_sharingSense 26 = .ok (.iload 9, 2) := by decide +kernel
theorem dX8_sharingSense_28 : decode cX8_sharingSense 28 = .ok (.iconst 3, 1) := by decide +kernel
theorem dX8_sharingSense_29 : decode cX8_sharingSense 29 = .ok (.if_icmp .ge 40, 3) := by decide +kernel
theorem dX8_sharingSense_32 : decode cX8_sharingSense 32 = .ok (.aload 6, 2) := by decide +kernel
theorem dX8_sharingSense_34 : decode cX8_sharingSense 34 = .ok (.iload_n 2, 1) := by decide +kernel
theorem dX8_sharingSense_35 : decode cX8_sharingSense 35 = .ok (.iload 9, 2) := by decide +kernel
theorem dX8_sharingSense_37 : decode cX8_sharingSense 37 = .ok (.aload_n 0, 1) := by decide +kernel
theorem dX8_sharingSense_38 : decode cX8_sharingSense 38 = .ok (.getfield 28, 3) := by decide +kernel
theorem dX8_sharingSense_41 : decode cX8_sharingSense 41 = .ok (.invokevirtual 81, 3) := by decide +kernel
theorem dX8_sharingSense_44 : decode cX8_sharingSense 44 = .ok (.lstore 10, 2) := by decide +kernel
theorem dX8_sharingSense_46 : decode cX8_sharingSense 46 = .ok (.lload 10, 2) := by decide +kernel
theorem dX8_sharingSense_48 : decode cX8_sharingSense 48 = .ok (.lload 4, 2) := by decide +kernel
theorem dX8_sharingSense_50 : decode cX8_sharingSense 50 = .ok (.land, 1) := by decide +kernel
theorem dX8_sharingSense_51 : decode cX8_sharingSense 51 = .ok (.lconst 0, 1) := by decide +kernel
theorem dX8_sharingSense_52 : decode cX8_sharingSense 52 = .ok (.lcmp, 1) := by decide +kernel
theorem dX8_sharingSense_53 : decode cX8_sharingSense 53 = .ok (.ifCond .eq 10, 3) := by decide +kernel
theorem dX8_sharingSense_56 : decode cX8_sharingSense 56 = .ok (.lload 7, 2) := by decide +kernel
theorem dX8_sharingSense_58 : decode cX8_sharingSense 58 = .ok (.lload 10, 2) := by decide +kernel
theorem dX8_sharingSense_60 : decode cX8_sharingSense 60 = .ok (.lor, 1) := by decide +kernel
theorem dX8_sharingSense_61 : decode cX8_sharingSense 61 = .ok (.lstore 7, 2) := by decide +kernel
theorem dX8_sharingSense_63 : decode cX8_sharingSense 63 = .ok (.iinc 9 1, 3) := by decide +kernel
theorem dX8_sharingSense_66 : decode cX8_sharingSense 66 = .ok (.goto (-40), 3) := by decide +kernel
theorem dX8_sharingSense_69 : decode cX8_sharingSense 69 = .ok (.lload 7, 2) := by decide +kernel
theorem dX8_sharingSense_71 : decode cX8_sharingSense 71 = .ok (.lreturn, 1) := by decide +kernel
theorem dX8_leads_0 : decode cX8_leads 0 = .ok (.iconst 0, 1) := by decide +kernel
theorem dX8_leads_1 : decode cX8_leads 1 = .ok (.istore_n 3, 1) := by decide +kernel
theorem dX8_leads_2 : decode cX8_leads 2 = .ok (.iload_n 3, 1) := by decide +kernel
theorem dX8_leads_3 : decode cX8_leads 3 = .ok (.aload_n 0, 1) := by decide +kernel
theorem dX8_leads_4 : decode cX8_leads 4 = .ok (.getfield 21, 3) := by decide +kernel
theorem dX8_leads_7 : decode cX8_leads 7 = .ok (.if_icmp .ge 41, 3) := by decide +kernel
theorem dX8_leads_10 : decode cX8_leads 10 = .ok (.aload_n 0, 1) := by decide +kernel
theorem dX8_leads_11 : decode cX8_leads 11 = .ok (.iload_n 3, 1) := by decide +kernel
theorem dX8_leads_12 : decode cX8_leads 12 = .ok (.invokevirtual 44, 3) := by decide +kernel
theorem dX8_leads_15 : decode cX8_leads 15 = .ok (.astore 4, 2) := by decide +kernel
theorem dX8_leads_17 : decode cX8_leads 17 = .ok (.aload 4, 2) := by decide +kernel
theorem dX8_leads_19 : decode cX8_leads 19 = .ok (.ifnull 23, 3) := by decide +kernel
theorem dX8_leads_22 : decode cX8_leads 22 = .ok (.aload 4, 2) := by decide +kernel
theorem dX8_leads_24 : decode cX8_leads 24 = .ok (.getfield 47, 3) := by decide +kernel
theorem dX8_leads_27 : decode cX8_leads 27 = .ok (.iload_n 1, 1) := by decide +kernel
theorem dX8_leads_28 : decode cX8_leads 28 = .ok (.if_icmp .ne 14, 3) := by decide +kernel
theorem dX8_leads_31 : decode cX8_leads 31 = .ok (.aload 4, 2) := by decide +kernel
theorem dX8_leads_33 : decode cX8_leads 33 = .ok (.getfield 50, 3) := by decide +kernel
theorem dX8_leads_36 : decode cX8_leads 36 = .ok (.iload_n 2, 1) := by decide +kernel
theorem dX8_leads_37 : decode cX8_leads 37 = .ok (.if_icmp .ne 5, 3) := by decide +kernel
theorem dX8_leads_40 : decode cX8_leads 40 = .ok (.iconst 1, 1) := by decide +kernel
theorem dX8_leads_41 : decode cX8_leads 41 = .ok (.ireturn, 1) := by decide +kernel
theorem dX8_leads_42 : decode cX8_leads 42 = .ok (.iinc 3 1, 3) := by decide +kernel
theorem dX8_leads_45 : decode cX8_leads 45 = .ok (.goto (-43), 3) := by decide +kernel
theorem dX8_leads_48 : decode cX8_leads 48 = .ok (.iconst 0, 1) := by decide +kernel
theorem dX8_leads_49 : decode cX8_leads 49 = .ok (.ireturn, 1) := by decide +kernel
theorem dX8_headsTo_0 : decode cX8_headsTo 0 = .ok (.lconst 0, 1) := by decide +kernel
theorem dX8_headsTo_1 : decode cX8_headsTo 1 = .ok (.lstore_n 3, 1) := by decide +kernel
theorem dX8_headsTo_2 : decode cX8_headsTo 2 = .ok (.iconst 0, 1) := by decide +kernel
theorem dX8_headsTo_3 : decode cX8_headsTo 3 = .ok (.istore 5, 2) := by decide +kernel
theorem dX8_headsTo_5 : decode cX8_headsTo 5 = .ok (.iload 5, 2) := by decide +kernel
theorem dX8_headsTo_7 : decode cX8_headsTo 7 = .ok (.aload_n 0, 1) := by decide +kernel
theorem dX8_headsTo_8 : decode cX8_headsTo 8 = .ok (.getfield 21, 3) := by decide +kernel
theorem dX8_headsTo_11 : decode cX8_headsTo 11 = .ok (.if_icmp .ge 48, 3) := by decide +kernel
theorem dX8_headsTo_14 : decode cX8_headsTo 14 = .ok (.aload_n 0, 1) := by decide +kernel
theorem dX8_headsTo_15 : decode cX8_headsTo 15 = .ok (.iload 5, 2) := by decide +kernel
theorem dX8_headsTo_17 : decode cX8_headsTo 17 = .ok (.invokevirtual 44, 3) := by decide +kernel
theorem dX8_headsTo_20 : decode cX8_headsTo 20 = .ok (.astore 6, 2) := by decide +kernel
theorem dX8_headsTo_22 : decode cX8_headsTo 22 = .ok (.aload 6, 2) := by decide +kernel
theorem dX8_headsTo_24 : decode cX8_headsTo 24 = .ok (.ifnull 29, 3) := by decide +kernel
theorem dX8_headsTo_27 : decode cX8_headsTo 27 = .ok (.aload 6, 2) := by decide +kernel
theorem dX8_headsTo_29 : decode cX8_headsTo 29 = .ok (.getfield 47, 3) := by decide +kernel
theorem dX8_headsTo_32 : decode cX8_headsTo 32 = .ok (.iload_n 1, 1) := by decide +kernel
theorem dX8_headsTo_33 : decode cX8_headsTo 33 = .ok (.if_icmp .ne 20, 3) := by decide +kernel
theorem dX8_headsTo_36 : decode cX8_headsTo 36 = .ok (.aload 6, 2) := by decide +kernel
theorem dX8_headsTo_38 : decode cX8_headsTo 38 = .ok (.getfield 50, 3) := by decide +kernel
theorem dX8_headsTo_41 : decode cX8_headsTo 41 = .ok (.iload_n 2, 1) := by decide +kernel
theorem dX8_headsTo_42 : decode cX8_headsTo 42 = .ok (.if_icmp .ne 11, 3) := by decide +kernel
theorem dX8_headsTo_45 : decode cX8_headsTo 45 = .ok (.lload_n 3, 1) := by decide +kernel
theorem dX8_headsTo_46 : decode cX8_headsTo 46 = .ok (.aload 6, 2) := by decide +kernel
theorem dX8_headsTo_48 : decode cX8_headsTo 48 = .ok (.getfield 53, 3) := by decide +kernel
theorem dX8_headsTo_51 : decode cX8_headsTo 51 = .ok (.lor, 1) := by decide +kernel
theorem dX8_headsTo_52 : decode cX8_headsTo 52 = .ok (.lstore_n 3, 1) := by decide +kernel
theorem dX8_headsTo_53 : decode cX8_headsTo 53 = .ok (.iinc 5 1, 3) := by decide +kernel
theorem dX8_headsTo_56 : decode cX8_headsTo 56 = .ok (.goto (-51), 3) := by decide +kernel
theorem dX8_headsTo_59 : decode cX8_headsTo 59 = .ok (.lload_n 3, 1) := by decide +kernel
theorem dX8_headsTo_60 : decode cX8_headsTo 60 = .ok (.lreturn, 1) := by decide +kernel
theorem dX8_headsFrom_0 : decode cX8_headsFrom 0 = .ok (.lconst 0, 1) := by decide +kernel
theorem dX8_headsFrom_1 : decode cX8_headsFrom 1 = .ok (.lstore_n 2, 1) := by decide +kernel
theorem dX8_headsFrom_2 : decode cX8_headsFrom 2 = .ok (.iconst 0, 1) := by decide +kernel
theorem dX8_headsFrom_3 : decode cX8_headsFrom 3 = .ok (.istore 4, 2) := by decide +kernel
theorem dX8_headsFrom_5 : decode cX8_headsFrom 5 = .ok (.iload 4, 2) := by decide +kernel
theorem dX8_headsFrom_7 : decode cX8_headsFrom 7 = .ok (.iconst 4, 1) := by decide +kernel
theorem dX8_headsFrom_8 : decode cX8_headsFrom 8 = .ok (.if_icmp .ge 19, 3) := by decide +kernel
theorem dX8_headsFrom_11 : decode cX8_headsFrom 11 = .ok (.lload_n 2, 1) := by decide +kernel
theorem dX8_headsFrom_12 : decode cX8_headsFrom 12 = .ok (.aload_n 0, 1) := by decide +kernel
theorem dX8_headsFrom_13 : decode cX8_headsFrom 13 = .ok (.iload_n 1, 1) := by decide +kernel
theorem dX8_headsFrom_14 : decode cX8_headsFrom 14 = .ok (.iload 4, 2) := by decide +kernel
theorem dX8_headsFrom_16 : decode cX8_headsFrom 16 = .ok (.invokevirtual 85, 3) := by decide +kernel
theorem dX8_headsFrom_19 : decode cX8_headsFrom 19 = .ok (.lor, 1) := by decide +kernel
theorem dX8_headsFrom_20 : decode cX8_headsFrom 20 = .ok (.lstore_n 2, 1) := by decide +kernel
theorem dX8_headsFrom_21 : decode cX8_headsFrom 21 = .ok (.iinc 4 1, 3) := by decide +kernel
theorem dX8_headsFrom_24 : decode cX8_headsFrom 24 = .ok (.goto (-19), 3) := by decide +kernel
theorem dX8_headsFrom_27 : decode cX8_headsFrom 27 = .ok (.lload_n 2, 1) := by decide +kernel
theorem dX8_headsFrom_28 : decode cX8_headsFrom 28 = .ok (.lreturn, 1) := by decide +kernel
theorem dX9_init_0 : decode cX9_init 0 = .ok (.aload_n 0, 1) := by decide +kernel
theorem dX9_init_1 : decode cX9_init 1 = .ok (.invokespecial 3, 3) := by decide +kernel
theorem dX9_init_4 : decode cX9_init 4 = .ok (.aload_n 0, 1) := by decide +kernel
theorem dX9_init_5 : decode cX9_init 5 = .ok (.sipush 240, 3) := by decide +kernel
theorem dX9_init_8 : decode cX9_init 8 = .ok (.newarray .int, 2) := by decide +kernel
theorem dX9_init_10 : decode cX9_init 10 = .ok (.putfield 9, 3) := by decide +kernel
theorem dX9_init_13 : decode cX9_init 13 = .ok (.aload_n 0, 1) := by decide +kernel
theorem dX9_init_14 : decode cX9_init 14 = .ok (.iconst 0, 1) := by decide +kernel
theorem dX9_init_15 : decode cX9_init 15 = .ok (.putfield 15, 3) := by decide +kernel
theorem dX9_init_18 : decode cX9_init 18 = .ok (.return_, 1) := by decide +kernel
theorem dX9_hasRoom_0 : decode cX9_hasRoom 0 = .ok (.aload_n 0, 1) := by decide +kernel
theorem dX9_hasRoom_1 : decode cX9_hasRoom 1 = .ok (.getfield 15, 3) := by decide +kernel
theorem dX9_hasRoom_4 : decode cX9_hasRoom 4 = .ok (.iload_n 1, 1) := by decide +kernel
theorem dX9_hasRoom_5 : decode cX9_hasRoom 5 = .ok (.iadd, 1) := by decide +kernel
theorem dX9_hasRoom_6 : decode cX9_hasRoom 6 = .ok (.sipush 240, 3) := by decide +kernel
theorem dX9_hasRoom_9 : decode cX9_hasRoom 9 = .ok (.if_icmp .gt 7, 3) := by decide +kernel
theorem dX9_hasRoom_12 : decode cX9_hasRoom 12 = .ok (.iconst 1, 1) := by decide +kernel
theorem dX9_hasRoom_13 : decode cX9_hasRoom 13 = .ok (.goto 4, 3) := by decide +kernel
theorem dX9_hasRoom_16 : decode cX9_hasRoom 16 = .ok (.iconst 0, 1) := by decide +kernel
theorem dX9_hasRoom_17 : decode cX9_hasRoom 17 = .ok (.ireturn, 1) := by decide +kernel
theorem dX9_push_0 : decode cX9_push 0 = .ok (.aload_n 0, 1) := by decide +kernel
theorem dX9_push_1 : decode cX9_push 1 = .ok (.getfield 15, 3) := by decide +kernel
theorem dX9_push_4 : decode cX9_push 4 = .ok (.ifCond .lt 13, 3) := by decide +kernel
theorem dX9_push_7 : decode cX9_push 7 = .ok (.aload_n 0, 1) := by decide +kernel
theorem dX9_push_8 : decode cX9_push 8 = .ok (.getfield 15, 3) := by decide +kernel
theorem dX9_push_11 : decode cX9_push 11 = .ok (.sipush 240, 3) := by decide +kernel
theorem dX9_push_14 : decode cX9_push 14 = .ok (.if_icmp .lt 4, 3) := by decide +kernel
theorem dX9_push_17 : decode cX9_push 17 = .ok (.return_, 1) := by decide +kernel
theorem dX9_push_18 : decode cX9_push 18 = .ok (.aload_n 0, 1) := by decide +kernel
theorem dX9_push_19 : decode cX9_push 19 = .ok (.getfield 9, 3) := by decide +kernel
theorem dX9_push_22 : decode cX9_push 22 = .ok (.aload_n 0, 1) := by decide +kernel
theorem dX9_push_23 : decode cX9_push 23 = .ok (.getfield 15, 3) := by decide +kernel
theorem dX9_push_26 : decode cX9_push 26 = .ok (.iload_n 1, 1) := by decide +kernel
theorem dX9_push_27 : decode cX9_push 27 = .ok (.iastore, 1) := by decide +kernel
theorem dX9_push_28 : decode cX9_push 28 = .ok (.aload_n 0, 1) := by decide +kernel
theorem dX9_push_29 : decode cX9_push 29 = .ok (.dup, 1) := by decide +kernel
theorem dX9_push_30 : decode cX9_push 30 = .ok (.getfield 15, 3) := by decide +kernel
theorem dX9_push_33 : decode cX9_push 33 = .ok (.iconst 1, 1) := by decide +kernel
theorem dX9_push_34 : decode cX9_push 34 = .ok (.iadd, 1) := by decide +kernel
theorem dX9_push_35 : decode cX9_push 35 = .ok (.putfield 15, 3) := by decide +kernel
theorem dX9_push_38 : decode cX9_push 38 = .ok (.return_, 1) := by decide +kernel
theorem dX9_signAt_0 : decode cX9_signAt 0 = .ok (.iload_n 1, 1) := by decide +kernel
theorem dX9_signAt_1 : decode cX9_signAt 1 = .ok (.ifCond .lt 27, 3) := by decide +kernel
theorem dX9_signAt_4 : decode cX9_signAt 4 = .ok (.iload_n 1, 1) := by decide +kernel
theorem dX9_signAt_5 : decode cX9_signAt 5 = .ok (.aload_n 0, 1) := by decide +kernel
theorem dX9_signAt_6 : decode cX9_signAt 6 = .ok (.getfield 15, 3) := by decide +kernel
theorem dX9_signAt_9 : decode cX9_signAt 9 = .ok (.if_icmp .ge 19, 3) := by decide +kernel
theorem dX9_signAt_12 : decode cX9_signAt 12 = .ok (.iload_n 1, 1) := by decide +kernel
theorem dX9_signAt_13 : decode cX9_signAt 13 = .ok (.sipush 240, 3) := by decide +kernel
theorem dX9_signAt_16 : decode cX9_signAt 16 = .ok (.if_icmp .ge 12, 3) := by decide +kernel
theorem dX9_signAt_19 : decode cX9_signAt 19 = .ok (.aload_n 0, 1) := by decide +kernel
theorem dX9_signAt_20 : decode cX9_signAt 20 = .ok (.getfield 9, 3) := by decide +kernel
theorem dX9_signAt_23 : decode cX9_signAt 23 = .ok (.iload_n 1, 1) := by decide +kernel
theorem dX9_signAt_24 : decode cX9_signAt 24 = .ok (.iaload, 1) := by decide +kernel
theorem dX9_signAt_25 : decode cX9_signAt 25 = .ok (.goto 4, 3) := by decide +kernel
theorem dX9_signAt_28 : decode cX9_signAt 28 = .ok (.iconst (-1), 1) := by decide +kernel
theorem dX9_signAt_29 : decode cX9_signAt 29 = .ok (.ireturn, 1) := by decide +kernel
theorem dX9_figureAt_0 : decode cX9_figureAt 0 = .ok (.aload_n 0, 1) := by decide +kernel
theorem dX9_figureAt_1 : decode cX9_figureAt 1 = .ok (.iload_n 1, 1) := by decide +kernel
theorem dX9_figureAt_2 : decode cX9_figureAt 2 = .ok (.invokevirtual 19, 3) := by decide +kernel
theorem dX9_figureAt_5 : decode cX9_figureAt 5 = .ok (.istore_n 2, 1) := by decide +kernel
theorem dX9_figureAt_6 : decode cX9_figureAt 6 = .ok (.iload_n 2, 1) := by decide +kernel
theorem dX9_figureAt_7 : decode cX9_figureAt 7 = .ok (.bipush 48, 2) := by decide +kernel
theorem dX9_figureAt_9 : decode cX9_figureAt 9 = .ok (.if_icmp .lt 13, 3) := by decide +kernel
theorem dX9_figureAt_12 : decode cX9_figureAt 12 = .ok (.iload_n 2, 1) := by decide +kernel
theorem dX9_figureAt_13 : decode cX9_figureAt 13 = .ok (.bipush 57, 2) := by decide +kernel
theorem dX9_figureAt_15 : decode cX9_figureAt 15 = .ok (.if_icmp .gt 7, 3) := by decide +kernel
theorem dX9_figureAt_18 : decode cX9_figureAt 18 = .ok (.iconst 1, 1) := by decide +kernel
theorem dX9_figureAt_19 : decode cX9_figureAt 19 = .ok (.goto 4, 3) := by decide +kernel
theorem dX9_figureAt_22 : decode cX9_figureAt 22 = .ok (.iconst 0, 1) := by decide +kernel
theorem dX9_figureAt_23 : decode cX9_figureAt 23 = .ok (.ireturn, 1) := by decide +kernel
theorem dX10_init_0 : decode cX10_init 0 = .ok (.aload_n 0, 1) := by decide +kernel
theorem dX10_init_1 : decode cX10_init 1 = .ok (.invokespecial 3, 3) := by decide +kernel
theorem dX10_init_4 : decode cX10_init 4 = .ok (.aload_n 0, 1) := by decide +kernel
theorem dX10_init_5 : decode cX10_init 5 = .ok (.iconst 0, 1) := by decide +kernel
theorem dX10_init_6 : decode cX10_init 6 = .ok (.putfield 9, 3) := by decide +kernel
theorem dX10_init_9 : decode cX10_init 9 = .ok (.aload_n 0, 1) := by decide +kernel
theorem dX10_init_10 : decode cX10_init 10 = .ok (.iconst 1, 1) := by decide +kernel
theorem dX10_init_11 : decode cX10_init 11 = .ok (.putfield 15, 3) := by decide +kernel
theorem dX10_init_14 : decode cX10_init 14 = .ok (.aload_n 0, 1) := by decide +kernel
theorem dX10_init_15 : decode cX10_init 15 = .ok (.iconst 0, 1) := by decide +kernel
theorem dX10_init_16 : decode cX10_init 16 = .ok (.putfield 18, 3) := by decide +kernel
theorem dX10_init_19 : decode cX10_init 19 = .ok (.aload_n 0, 1) := by decide +kernel
theorem dX10_init_20 : decode cX10_init 20 = .ok (.iconst 1, 1) := by decide +kernel
theorem dX10_init_21 : decode cX10_init 21 = .ok (.putfield 21, 3) := by decide +kernel
theorem dX10_init_24 : decode cX10_init 24 = .ok (.aload_n 0, 1) := by decide +kernel
theorem dX10_init_25 : decode cX10_init 25 = .ok (.iconst 0, 1) := by decide +kernel
theorem dX10_init_26 : decode cX10_init 26 = .ok (.putfield 24, 3) := by decide +kernel
theorem dX10_init_29 : decode cX10_init 29 = .ok (.aload_n 0, 1) := by decide +kernel
theorem dX10_init_30 : decode cX10_init 30 = .ok (.iconst (-1), 1) := by decide +kernel
theorem dX10_init_31 : decode cX10_init 31 = .ok (.putfield 27, 3) := by decide +kernel
theorem dX10_init_34 : decode cX10_init 34 = .ok (.aload_n 0, 1) := by decide +kernel
theorem dX10_init_35 : decode cX10_init 35 = .ok (.iconst (-1), 1) := by decide +kernel
theorem dX10_init_36 : decode cX10_init 36 = .ok (.putfield 30, 3) := by decide +kernel
theorem dX10_init_39 : decode cX10_init 39 = .ok (.return_, 1) := by decide +kernel
theorem dX10_ways_0 : decode cX10_ways 0 = .ok (.aload_n 1, 1) := by decide +kernel
theorem dX10_ways_1 : decode cX10_ways 1 = .ok (.aload_n 1, 1) := by decide +kernel
theorem dX10_ways_2 : decode cX10_ways 2 = .ok (.iload_n 2, 1) := by decide +kernel
theorem dX10_ways_3 : decode cX10_ways 3 = .ok (.iload_n 3, 1) := by decide +kernel
theorem dX10_ways_4 : decode cX10_ways 4 = .ok (.iload 4, 2) := by decide +kernel
theorem dX10_ways_6 : decode cX10_ways 6 = .ok (.invokevirtual 33, 3) := by decide +kernel
theorem dX10_ways_9 : decode cX10_ways 9 = .ok (.invokevirtual 39, 3) := by decide +kernel
theorem dX10_ways_12 : decode cX10_ways 12 = .ok (.astore 7, 2) := by decide +kernel
theorem dX10_ways_14 : decode cX10_ways 14 = .ok (.aload 7, 2) := by decide +kernel
theorem dX10_ways_16 : decode cX10_ways 16 = .ok (.ifnonnull 5, 3) := by decide +kernel
theorem dX10_ways_19 : decode cX10_ways 19 = .ok (.iconst 0, 1) := by decide +kernel
theorem dX10_ways_20 : decode cX10_ways 20 = .ok (.ireturn, 1) := by decide +kernel
theorem dX10_ways_21 : decode cX10_ways 21 = .ok (.iconst 0, 1) := by decide +kernel
theorem dX10_ways_22 : decode cX10_ways 22 = .ok (.istore 8, 2) := by decide +kernel
theorem dX10_ways_24 : decode cX10_ways 24 = .ok (.iconst 0, 1) := by decide +kernel
theorem dX10_ways_25 : decode cX10_ways 25 = .ok (.istore 9, 2) := by decide +kernel
theorem dX10_ways_27 : decode cX10_ways 27 = .ok (.iload 9, 2) := by decide +kernel
theorem dX10_ways_29 : decode cX10_ways 29 = .ok (.iconst 3, 1) := by decide +kernel
theorem dX10_ways_30 : decode cX10_ways 30 = .ok (.if_icmp .ge 87, 3) := by decide +kernel
theorem dX10_ways_33 : decode cX10_ways 33 = .ok (.aload 7, 2) := by decide +kernel
theorem dX10_ways_35 : decode cX10_ways 35 = .ok (.iload_n 3, 1) := by decide +kernel
theorem dX10_ways_36 : decode cX10_ways 36 = .ok (.iload 9, 2) := by decide +kernel
theorem dX10_ways_38 : decode cX10_ways 38 = .ok (.aload_n 1, 1) := by decide +kernel
theorem dX10_ways_39 : decode cX10_ways 39 = .ok (.getfield 43, 3) := by decide +kernel
theorem dX10_ways_42 : decode cX10_ways 42 = .ok (.invokevirtual 47, 3) := by decide +kernel
theorem dX10_ways_45 : decode cX10_ways 45 = .ok (.lstore 10, 2) := by decide +kernel
theorem dX10_ways_47 : decode cX10_ways 47 = .ok (.iconst 0, 1) := by decide +kernel
theorem dX10_ways_48 : decode cX10_ways 48 = .ok (.istore 12, 2) := by decide +kernel
theorem dX10_ways_50 : decode cX10_ways 50 = .ok (.iload 12, 2) := by decide +kernel
theorem dX10_ways_52 : decode cX10_ways 52 = .ok (.bipush 6, 2) := by decide +kernel
theorem dX10_ways_54 : decode cX10_ways 54 = .ok (.if_icmp .ge 57, 3) := by decide +kernel
theorem dX10_ways_57 : decode cX10_ways 57 = .ok (.aload 7, 2) := by decide +kernel
theorem dX10_ways_59 : decode cX10_ways 59 = .ok (.iload_n 3, 1) := by decide +kernel
theorem dX10_ways_60 : decode cX10_ways 60 = .ok (.iload 9, 2) := by decide +kernel
theorem dX10_ways_62 : decode cX10_ways 62 = .ok (.iload 12, 2) := by decide +kernel
theorem dX10_ways_64 : decode cX10_ways 64 = .ok (.invokevirtual 53, 3) := by decide +kernel
theorem dX10_ways_67 : decode cX10_ways 67 = .ok (.istore 13, 2) := by decide +kernel
theorem dX10_ways_69 : decode cX10_ways 69 = .ok (.lload 10, 2) := by decide +kernel
theorem dX10_ways_71 : decode cX10_ways 71 = .ok (.iload 13, 2) := by decide +kernel
theorem dX10_ways_73 : decode cX10_ways 73 = .ok (.invokestatic 56, 3) := by decide +kernel
theorem dX10_ways_76 : decode cX10_ways 76 = .ok (.ifCond .eq 29, 3) := by decide +kernel
theorem dX10_ways_79 : decode cX10_ways 79 = .ok (.iload 8, 2) := by decide +kernel
theorem dX10_ways_81 : decode cX10_ways 81 = .ok (.aload_n 0, 1) := by decide +kernel
theorem dX10_ways_82 : decode cX10_ways 82 = .ok (.aload_n 1, 1) := by decide +kernel
theorem dX10_ways_83 : decode cX10_ways 83 = .ok (.iload 4, 2) := by decide +kernel
theorem dX10_ways_85 : decode cX10_ways 85 = .ok (.iload 13, 2) := by decide +kernel
theorem dX10_ways_87 : decode cX10_ways 87 = .ok (.iload 5, 2) := by decide +kernel
theorem dX10_ways_89 : decode cX10_ways 89 = .ok (.iload 6, 2) := by decide +kernel
theorem dX10_ways_91 : decode cX10_ways 91 = .ok (.aload 7, 2) := by decide +kernel
theorem dX10_ways_93 : decode cX10_ways 93 = .ok (.iload_n 3, 1) := by decide +kernel
theorem dX10_ways_94 : decode cX10_ways 94 = .ok (.iload 9, 2) := by decide +kernel
theorem dX10_ways_96 : decode cX10_ways 96 = .ok (.invokevirtual 60, 3) := by decide +kernel
theorem dX10_ways_99 : decode cX10_ways 99 = .ok (.invokevirtual 64, 3) := by decide +kernel
theorem dX10_ways_102 : decode cX10_ways 102 = .ok (.iadd, 1) := by decide +kernel
theorem dX10_ways_103 : decode cX10_ways 103 = .ok (.istore 8, 2) := by decide +kernel
theorem dX10_ways_105 : decode cX10_ways 105 = .ok (.iinc 12 1, 3) := by decide +kernel
theorem dX10_ways_108 : decode cX10_ways 108 = .ok (.goto (-58), 3) := by decide +kernel
theorem dX10_ways_111 : decode cX10_ways 111 = .ok (.iinc 9 1, 3) := by decide +kernel
theorem dX10_ways_114 : decode cX10_ways 114 = .ok (.goto (-87), 3) := by decide +kernel
theorem dX10_ways_117 : decode cX10_ways 117 = .ok (.iload 8, 2) := by decide +kernel
theorem dX10_ways_119 : decode cX10_ways 119 = .ok (.ireturn, 1) := by decide +kernel
theorem dX10_waysOn_0 : decode cX10_waysOn 0 = .ok (.aload_n 1, 1) := by decide +kernel
theorem dX10_waysOn_1 : decode cX10_waysOn 1 = .ok (.aload_n 1, 1) := by decide +kernel
theorem dX10_waysOn_2 : decode cX10_waysOn 2 = .ok (.iload_n 2, 1) := by decide +kernel
theorem dX10_waysOn_3 : decode cX10_waysOn 3 = .ok (.iload_n 3, 1) := by decide +kernel
theorem dX10_waysOn_4 : decode cX10_waysOn 4 = .ok (.iload 4, 2) := by decide +kernel
theorem dX10_waysOn_6 : decode cX10_waysOn 6 = .ok (.invokevirtual 33, 3) := by decide +kernel
theorem dX10_waysOn_9 : decode cX10_waysOn 9 = .ok (.invokevirtual 39, 3) := by decide +kernel
theorem dX10_waysOn_12 : decode cX10_waysOn 12 = .ok (.astore 7, 2) := by decide +kernel
theorem dX10_waysOn_14 : decode cX10_waysOn 14 = .ok (.aload 7, 2) := by decide +kernel
theorem dX10_waysOn_16 : decode cX10_waysOn 16 = .ok (.ifnonnull 5, 3) := by decide +kernel
theorem dX10_waysOn_19 : decode cX10_waysOn 19 = .ok (.iconst 0, 1) := by decide +kernel
theorem dX10_waysOn_20 : decode cX10_waysOn 20 = .ok (.ireturn, 1) := by decide +kernel
theorem dX10_waysOn_21 : decode cX10_waysOn 21 = .ok (.iconst 0, 1) := by decide +kernel
theorem dX10_waysOn_22 : decode cX10_waysOn 22 = .ok (.istore 8, 2) := by decide +kernel
theorem dX10_waysOn_24 : decode cX10_waysOn 24 = .ok (.iconst 0, 1) := by decide +kernel
theorem dX10_waysOn_25 : decode cX10_waysOn 25 = .ok (.istore 9, 2) := by decide +kernel
theorem dX10_waysOn_27 : decode cX10_waysOn 27 = .ok (.iload 9, 2) := by decide +kernel
theorem dX10_waysOn_29 : decode cX10_waysOn 29 = .ok (.iconst 3, 1) := by decide +kernel
theorem dX10_waysOn_30 : decode cX10_waysOn 30 = .ok (.if_icmp .ge 73, 3) := by decide +kernel
theorem dX10_waysOn_33 : decode cX10_waysOn 33 = .ok (.aload 7, 2) := by decide +kernel
theorem dX10_waysOn_35 : decode cX10_waysOn 35 = .ok (.iload_n 3, 1) := by decide +kernel
theorem dX10_waysOn_36 : decode cX10_waysOn 36 = .ok (.iload 9, 2) := by decide +kernel
theorem dX10_waysOn_38 : decode cX10_waysOn 38 = .ok (.invokevirtual 60, 3) := by decide +kernel
theorem dX10_waysOn_41 : decode cX10_waysOn 41 = .ok (.istore 10, 2) := by decide +kernel
theorem dX10_waysOn_43 : decode cX10_waysOn 43 = .ok (.iload 6, 2) := by decide +kernel
theorem dX10_waysOn_45 : decode cX10_waysOn 45 = .ok (.iconst (-1), 1) := by decide +kernel
theorem dX10_waysOn_46 : decode cX10_waysOn 46 = .ok (.if_icmp .eq 16, 3) := by decide +kernel
theorem dX10_waysOn_49 : decode cX10_waysOn 49 = .ok (.iload 10, 2) := by decide +kernel
theorem dX10_waysOn_51 : decode cX10_waysOn 51 = .ok (.iconst (-1), 1) := by decide +kernel
theorem dX10_waysOn_52 : decode cX10_waysOn 52 = .ok (.if_icmp .eq 10, 3) := by decide +kernel
theorem dX10_waysOn_55 : decode cX10_waysOn 55 = .ok (.iload 6, 2) := by decide +kernel
theorem dX10_waysOn_57 : decode cX10_waysOn 57 = .ok (.iload 10, 2) := by decide +kernel
theorem dX10_waysOn_59 : decode cX10_waysOn 59 = .ok (.if_icmp .ne 7, 3) := by decide +kernel
theorem dX10_waysOn_62 : decode cX10_waysOn 62 = .ok (.iconst 1, 1) := by decide +kernel
theorem dX10_waysOn_63 : decode cX10_waysOn 63 = .ok (.goto 4, 3) := by decide +kernel
theorem dX10_waysOn_66 : decode cX10_waysOn 66 = .ok (.iconst 0, 1) := by decide +kernel
theorem dX10_waysOn_67 : decode cX10_waysOn 67 = .ok (.istore 11, 2) := by decide +kernel
theorem dX10_waysOn_69 : decode cX10_waysOn 69 = .ok (.iload 11, 2) := by decide +kernel
theorem dX10_waysOn_71 : decode cX10_waysOn 71 = .ok (.ifCond .eq 26, 3) := by decide +kernel
theorem dX10_waysOn_74 : decode cX10_waysOn 74 = .ok (.aload 7, 2) := by decide +kernel
theorem dX10_waysOn_76 : decode cX10_waysOn 76 = .ok (.iload_n 3, 1) := by decide +kernel
theorem dX10_waysOn_77 : decode cX10_waysOn 77 = .ok (.iload 9, 2) := by decide +kernel
theorem dX10_waysOn_79 : decode cX10_waysOn 79 = .ok (.aload_n 1, 1) := by decide +kernel
theorem dX10_waysOn_80 : decode cX10_waysOn 80 = .ok (.getfield 43, 3) := by decide +kernel
theorem dX10_waysOn_83 : decode cX10_waysOn 83 = .ok (.invokevirtual 47, 3) := by decide +kernel
theorem dX10_waysOn_86 : decode cX10_waysOn 86 = .ok (.iload 5, 2) := by decide +kernel
theorem dX10_waysOn_88 : decode cX10_waysOn 88 = .ok (.invokestatic 56, 3) := by decide +kernel
theorem dX10_waysOn_91 : decode cX10_waysOn 91 = .ok (.ifCond .eq 6, 3) := by decide +kernel
theorem dX10_waysOn_94 : decode cX10_waysOn 94 = .ok (.iinc 8 1, 3) := by decide +kernel
theorem dX10_waysOn_97 : decode cX10_waysOn 97 = .ok (.iinc 9 1, 3) := by decide +kernel
theorem dX10_waysOn_100 : decode cX10_waysOn 100 = .ok (.goto (-73), 3) := by decide +kernel
theorem dX10_waysOn_103 : decode cX10_waysOn 103 = .ok (.iload 8, 2) := by decide +kernel
theorem dX10_waysOn_105 : decode cX10_waysOn 105 = .ok (.ireturn, 1) := by decide +kernel
theorem dX10_measure_0 : decode cX10_measure 0 = .ok (.aload_n 1, 1) := by decide +kernel
theorem dX10_measure_1 : decode cX10_measure 1 = .ok (.iload_n 2, 1) := by decide +kernel
theorem dX10_measure_2 : decode cX10_measure 2 = .ok (.iload_n 3, 1) := by decide +kernel
theorem dX10_measure_3 : decode cX10_measure 3 = .ok (.iload 4, 2) := by decide +kernel
theorem dX10_measure_5 : decode cX10_measure 5 = .ok (.invokevirtual 68, 3) := by decide +kernel
theorem dX10_measure_8 : decode cX10_measure 8 = .ok (.lstore 7, 2) := by decide +kernel
theorem dX10_measure_10 : decode cX10_measure 10 = .ok (.aload_n 1, 1) := by decide +kernel
theorem dX10_measure_11 : decode cX10_measure 11 = .ok (.iload 5, 2) := by decide +kernel
theorem dX10_measure_13 : decode cX10_measure 13 = .ok (.iload 6, 2) := by decide +kernel
theorem dX10_measure_15 : decode cX10_measure 15 = .ok (.iload 4, 2) := by decide +kernel
theorem dX10_measure_17 : decode cX10_measure 17 = .ok (.invokevirtual 68, 3) := by decide +kernel
theorem dX10_measure_20 : decode cX10_measure 20 = .ok (.lstore 9, 2) := by decide +kernel
theorem dX10_measure_22 : decode cX10_measure 22 = .ok (.lload 7, 2) := by decide +kernel
theorem dX10_measure_24 : decode cX10_measure 24 = .ok (.invokestatic 72, 3) := by decide +kernel
theorem dX10_measure_27 : decode cX10_measure 27 = .ok (.lload 9, 2) := by decide +kernel
theorem dX10_measure_29 : decode cX10_measure 29 = .ok (.invokestatic 72, 3) := by decide +kernel
theorem dX10_measure_32 : decode cX10_measure 32 = .ok (.iadd, 1) := by decide +kernel
theorem dX10_measure_33 : decode cX10_measure 33 = .ok (.istore 11, 2) := by decide +kernel
theorem dX10_measure_35 : decode cX10_measure 35 = .ok (.aload_n 0, 1) := by decide +kernel
theorem dX10_measure_36 : decode cX10_measure 36 = .ok (.iconst 2, 1) := by decide +kernel
theorem dX10_measure_37 : decode cX10_measure 37 = .ok (.lload 7, 2) := by decide +kernel
theorem dX10_measure_39 : decode cX10_measure 39 = .ok (.lload 9, 2) := by decide +kernel
theorem dX10_measure_41 : decode cX10_measure 41 = .ok (.land, 1) := by decide +kernel
theorem dX10_measure_42 : decode cX10_measure 42 = .ok (.invokestatic 72, 3) := by decide +kernel
theorem dX10_measure_45 : decode cX10_measure 45 = .ok (.imul, 1) := by decide +kernel
theorem dX10_measure_46 : decode cX10_measure 46 = .ok (.putfield 9, 3) := by decide +kernel
theorem dX10_measure_49 : decode cX10_measure 49 = .ok (.aload_n 0, 1) := by decide +kernel
theorem dX10_measure_50 : decode cX10_measure 50 = .ok (.iload 11, 2) := by decide +kernel
theorem dX10_measure_52 : decode cX10_measure 52 = .ok (.iconst 1, 1) := by decide +kernel
theorem dX10_measure_53 : decode cX10_measure 53 = .ok (.invokestatic 78, 3) := by decide +kernel
theorem dX10_measure_56 : decode cX10_measure 56 = .ok (.putfield 15, 3) := by decide +kernel
theorem dX10_measure_59 : decode cX10_measure 59 = .ok (.return_, 1) := by decide +kernel
theorem dX10_begin_0 : decode cX10_begin 0 = .ok (.aload_n 0, 1) := by decide +kernel
theorem dX10_begin_1 : decode cX10_begin 1 = .ok (.iconst 0, 1) := by decide +kernel
theorem dX10_begin_2 : decode cX10_begin 2 = .ok (.putfield 18, 3) := by decide +kernel
theorem dX10_begin_5 : decode cX10_begin 5 = .ok (.aload_n 0, 1) := by decide +kernel
theorem dX10_begin_6 : decode cX10_begin 6 = .ok (.iconst 1, 1) := by decide +kernel
theorem dX10_begin_7 : decode cX10_begin 7 = .ok (.putfield 21, 3) := by decide +kernel
theorem dX10_begin_10 : decode cX10_begin 10 = .ok (.aload_n 0, 1) := by decide +kernel
theorem dX10_begin_11 : decode cX10_begin 11 = .ok (.iconst 0, 1) := by decide +kernel
theorem dX10_begin_12 : decode cX10_begin 12 = .ok (.putfield 24, 3) := by decide +kernel
theorem dX10_begin_15 : decode cX10_begin 15 = .ok (.aload_n 0, 1) := by decide +kernel
theorem dX10_begin_16 : decode cX10_begin 16 = .ok (.iconst (-1), 1) := by decide +kernel
theorem dX10_begin_17 : decode cX10_begin 17 = .ok (.putfield 27, 3) := by decide +kernel
theorem dX10_begin_20 : decode cX10_begin 20 = .ok (.aload_n 0, 1) := by decide +kernel
theorem dX10_begin_21 : decode cX10_begin 21 = .ok (.iconst (-1), 1) := by decide +kernel
theorem dX10_begin_22 : decode cX10_begin 22 = .ok (.putfield 30, 3) := by decide +kernel
theorem dX10_begin_25 : decode cX10_begin 25 = .ok (.return_, 1) := by decide +kernel
theorem dX10_seek_0 : decode cX10_seek 0 = .ok (.aload_n 1, 1) := by decide +kernel
theorem dX10_seek_1 : decode cX10_seek 1 = .ok (.iload 4, 2) := by decide +kernel
theorem dX10_seek_3 : decode cX10_seek 3 = .ok (.aload_n 1, 1) := by decide +kernel
theorem dX10_seek_4 : decode cX10_seek 4 = .ok (.iload_n 2, 1) := by decide +kernel
theorem dX10_seek_5 : decode cX10_seek 5 = .ok (.iload_n 3, 1) := by decide +kernel
theorem dX10_seek_6 : decode cX10_seek 6 = .ok (.iload 4, 2) := by decide +kernel
theorem dX10_seek_8 : decode cX10_seek 8 = .ok (.invokevirtual 68, 3) := by decide +kernel
theorem dX10_seek_11 : decode cX10_seek 11 = .ok (.iload 5, 2) := by decide +kernel
theorem dX10_seek_13 : decode cX10_seek 13 = .ok (.invokevirtual 83, 3) := by decide +kernel
theorem dX10_seek_16 : decode cX10_seek 16 = .ok (.lstore 6, 2) := by decide +kernel
theorem dX10_seek_18 : decode cX10_seek 18 = .ok (.iconst 0, 1) := by decide +kernel
theorem dX10_seek_19 : decode cX10_seek 19 = .ok (.istore 8, 2) := by decide +kernel
theorem dX10_seek_21 : decode cX10_seek 21 = .ok (.iload 8, 2) := by decide +kernel
theorem dX10_seek_23 : decode cX10_seek 23 = .ok (.bipush 60, 2) := by decide +kernel
theorem dX10_seek_25 : decode cX10_seek 25 = .ok (.if_icmp .ge 102, 3) := by decide +kernel
theorem dX10_seek_28 : decode cX10_seek 28 = .ok (.lload 6, 2) := by decide +kernel
theorem dX10_seek_30 : decode cX10_seek 30 = .ok (.iload 8, 2) := by decide +kernel
theorem dX10_seek_32 : decode cX10_seek 32 = .ok (.invokestatic 56, 3) := by decide +kernel
theorem dX10_seek_35 : decode cX10_seek 35 = .ok (.ifCond .eq 19, 3) := by decide +kernel
theorem dX10_seek_38 : decode cX10_seek 38 = .ok (.aload_n 0, 1) := by decide +kernel
theorem dX10_seek_39 : decode cX10_seek 39 = .ok (.aload_n 1, 1) := by decide +kernel
theorem dX10_seek_40 : decode cX10_seek 40 = .ok (.iload_n 2, 1) := by decide +kernel
theorem dX10_seek_41 : decode cX10_seek 41 = .ok (.iload_n 3, 1) := by decide +kernel
theorem dX10_seek_42 : decode cX10_seek 42 = .ok (.iload 4, 2) := by decide +kernel
theorem dX10_seek_44 : decode cX10_seek 44 = .ok (.iload 5, 2) := by decide +kernel
theorem dX10_seek_46 : decode cX10_seek 46 = .ok (.iload 8, 2) := by decide +kernel
theorem dX10_seek_48 : decode cX10_seek 48 = .ok (.invokevirtual 87, 3) := by decide +kernel
theorem dX10_seek_51 : decode cX10_seek 51 = .ok (.goto 4, 3) := by decide +kernel
theorem dX10_seek_54 : decode cX10_seek 54 = .ok (.iconst 0, 1) := by decide +kernel
theorem dX10_seek_55 : decode cX10_seek 55 = .ok (.istore 9, 2) := by decide +kernel
theorem dX10_seek_57 : decode cX10_seek 57 = .ok (.iload 9, 2) := by decide +kernel
theorem dX10_seek_59 : decode cX10_seek 59 = .ok (.ifCond .ne 6, 3) := by decide +kernel
theorem dX10_seek_62 : decode cX10_seek 62 = .ok (.goto 59, 3) := by decide +kernel
theorem dX10_seek_65 : decode cX10_seek 65 = .ok (.aload_n 0, 1) := by decide +kernel
theorem dX10_seek_66 : decode cX10_seek 66 = .ok (.aload_n 1, 1) := by decide +kernel
theorem dX10_seek_67 : decode cX10_seek 67 = .ok (.iload_n 2, 1) := by decide +kernel
theorem dX10_seek_68 : decode cX10_seek 68 = .ok (.iload_n 3, 1) := by decide +kernel
theorem dX10_seek_69 : decode cX10_seek 69 = .ok (.iload 4, 2) := by decide +kernel
theorem dX10_seek_71 : decode cX10_seek 71 = .ok (.iload 5, 2) := by decide +kernel
theorem dX10_seek_73 : decode cX10_seek 73 = .ok (.iload 8, 2) := by decide +kernel
theorem dX10_seek_75 : decode cX10_seek 75 = .ok (.invokevirtual 90, 3) := by decide +kernel
theorem dX10_seek_78 : decode cX10_seek 78 = .ok (.aload_n 0, 1) := by decide +kernel
theorem dX10_seek_79 : decode cX10_seek 79 = .ok (.iload 9, 2) := by decide +kernel
theorem dX10_seek_81 : decode cX10_seek 81 = .ok (.invokevirtual 94, 3) := by decide +kernel
theorem dX10_seek_84 : decode cX10_seek 84 = .ok (.ifCond .eq 37, 3) := by decide +kernel
theorem dX10_seek_87 : decode cX10_seek 87 = .ok (.aload_n 0, 1) := by decide +kernel
theorem dX10_seek_88 : decode cX10_seek 88 = .ok (.aload_n 0, 1) := by decide +kernel
theorem dX10_seek_89 : decode cX10_seek 89 = .ok (.getfield 9, 3) := by decide +kernel
theorem dX10_seek_92 : decode cX10_seek 92 = .ok (.putfield 18, 3) := by decide +kernel
theorem dX10_seek_95 : decode cX10_seek 95 = .ok (.aload_n 0, 1) := by decide +kernel
theorem dX10_seek_96 : decode cX10_seek 96 = .ok (.aload_n 0, 1) := by decide +kernel
theorem dX10_seek_97 : decode cX10_seek 97 = .ok (.getfield 15, 3) := by decide +kernel
theorem dX10_seek_100 : decode cX10_seek 100 = .ok (.putfield 21, 3) := by decide +kernel
theorem dX10_seek_103 : decode cX10_seek 103 = .ok (.aload_n 0, 1) := by decide +kernel
theorem dX10_seek_104 : decode cX10_seek 104 = .ok (.iload 9, 2) := by decide +kernel
theorem dX10_seek_106 : decode cX10_seek 106 = .ok (.putfield 24, 3) := by decide +kernel
theorem dX10_seek_109 : decode cX10_seek 109 = .ok (.aload_n 0, 1) := by decide +kernel
theorem dX10_seek_110 : decode cX10_seek 110 = .ok (.iload 8, 2) := by decide +kernel
theorem dX10_seek_112 : decode cX10_seek 112 = .ok (.putfield 27, 3) := by decide +kernel
theorem dX10_seek_115 : decode cX10_seek 115 = .ok (.aload_n 0, 1) := by decide +kernel
theorem dX10_seek_116 : decode cX10_seek 116 = .ok (.iload 4, 2) := by decide +kernel
theorem dX10_seek_118 : decode cX10_seek 118 = .ok (.putfield 30, 3) := by decide +kernel
theorem dX10_seek_121 : decode cX10_seek 121 = .ok (.iinc 8 1, 3) := by decide +kernel
theorem dX10_seek_124 : decode cX10_seek 124 = .ok (.goto (-103), 3) := by decide +kernel
theorem dX10_seek_127 : decode cX10_seek 127 = .ok (.return_, 1) := by decide +kernel
theorem dX10_isBetter_0 : decode cX10_isBetter 0 = .ok (.aload_n 0, 1) := by decide +kernel
theorem dX10_isBetter_1 : decode cX10_isBetter 1 = .ok (.getfield 9, 3) := by decide +kernel
theorem dX10_isBetter_4 : decode cX10_isBetter 4 = .ok (.aload_n 0, 1) := by decide +kernel
theorem dX10_isBetter_5 : decode cX10_isBetter 5 = .ok (.getfield 21, 3) := by decide +kernel
theorem dX10_isBetter_8 : decode cX10_isBetter 8 = .ok (.imul, 1) := by decide +kernel
theorem dX10_isBetter_9 : decode cX10_isBetter 9 = .ok (.istore_n 2, 1) := by decide +kernel
theorem dX10_isBetter_10 : decode cX10_isBetter 10 = .ok (.aload_n 0, 1) := by decide +kernel
theorem dX10_isBetter_11 : decode cX10_isBetter 11 = .ok (.getfield 18, 3) := by decide +kernel
theorem dX10_isBetter_14 : decode cX10_isBetter 14 = .ok (.aload_n 0, 1) := by decide +kernel
theorem dX10_isBetter_15 : decode cX10_isBetter 15 = .ok (.getfield 15, 3) := by decide +kernel
theorem dX10_isBetter_18 : decode cX10_isBetter 18 = .ok (.imul, 1) := by decide +kernel
theorem dX10_isBetter_19 : decode cX10_isBetter 19 = .ok (.istore_n 3, 1) := by decide +kernel
theorem dX10_isBetter_20 : decode cX10_isBetter 20 = .ok (.aload_n 0, 1) := by decide +kernel
theorem dX10_isBetter_21 : decode cX10_isBetter 21 = .ok (.getfield 27, 3) := by decide +kernel
theorem dX10_isBetter_24 : decode cX10_isBetter 24 = .ok (.iconst (-1), 1) := by decide +kernel
theorem dX10_isBetter_25 : decode cX10_isBetter 25 = .ok (.if_icmp .eq 21, 3) := by decide +kernel
theorem dX10_isBetter_28 : decode cX10_isBetter 28 = .ok (.iload_n 2, 1) := by decide +kernel
theorem dX10_isBetter_29 : decode cX10_isBetter 29 = .ok (.iload_n 3, 1) := by decide +kernel
theorem dX10_isBetter_30 : decode cX10_isBetter 30 = .ok (.if_icmp .gt 16, 3) := by decide +kernel
theorem dX10_isBetter_33 : decode cX10_isBetter 33 = .ok (.iload_n 2, 1) := by decide +kernel
theorem dX10_isBetter_34 : decode cX10_isBetter 34 = .ok (.iload_n 3, 1) := by decide +kernel
theorem dX10_isBetter_35 : decode cX10_isBetter 35 = .ok (.if_icmp .ne 15, 3) := by decide +kernel
theorem dX10_isBetter_38 : decode cX10_isBetter 38 = .ok (.iload_n 1, 1) := by decide +kernel
theorem dX10_isBetter_39 : decode cX10_isBetter 39 = .ok (.aload_n 0, 1) := by decide +kernel
theorem dX10_isBetter_40 : decode cX10_isBetter 40 = .ok (.getfield 24, 3) := by decide +kernel
theorem dX10_isBetter_43 : decode cX10_isBetter 43 = .ok (.if_icmp .le 7, 3) := by decide +kernel
theorem dX10_isBetter_46 : decode cX10_isBetter 46 = .ok (.iconst 1, 1) := by decide +kernel
theorem dX10_isBetter_47 : decode cX10_isBetter 47 = .ok (.goto 4, 3) := by decide +kernel
theorem dX10_isBetter_50 : decode cX10_isBetter 50 = .ok (.iconst 0, 1) := by decide +kernel
theorem dX10_isBetter_51 : decode cX10_isBetter 51 = .ok (.ireturn, 1) := by decide +kernel
theorem dX11_init_0 : decode cX11_init 0 = .ok (.aload_n 0, 1) := by decide +kernel
theorem dX11_init_1 : decode cX11_init 1 = .ok (.invokespecial 3, 3) := by decide +kernel
theorem dX11_init_4 : decode cX11_init 4 = .ok (.aload_n 0, 1) := by decide +kernel
theorem dX11_init_5 : decode cX11_init 5 = .ok (.new 9, 3) := by decide +kernel
theorem dX11_init_8 : decode cX11_init 8 = .ok (.dup, 1) := by decide +kernel
theorem dX11_init_9 : decode cX11_init 9 = .ok (.invokespecial 11, 3) := by decide +kernel
theorem dX11_init_12 : decode cX11_init 12 = .ok (.putfield 12, 3) := by decide +kernel
theorem dX11_init_15 : decode cX11_init 15 = .ok (.aload_n 0, 1) := by decide +kernel
theorem dX11_init_16 : decode cX11_init 16 = .ok (.new 16, 3) := by decide +kernel
theorem dX11_init_19 : decode cX11_init 19 = .ok (.dup, 1) := by decide +kernel
theorem dX11_init_20 : decode cX11_init 20 = .ok (.invokespecial 18, 3) := by decide +kernel
theorem dX11_init_23 : decode cX11_init 23 = .ok (.putfield 19, 3) := by decide +kernel
theorem dX11_init_26 : decode cX11_init 26 = .ok (.aload_n 0, 1) := by decide +kernel
theorem dX11_init_27 : decode cX11_init 27 = .ok (.new 23, 3) := by decide +kernel
theorem dX11_init_30 : decode cX11_init 30 = .ok (.dup, 1) := by decide +kernel
theorem dX11_init_31 : decode cX11_init 31 = .ok (.invokespecial 25, 3) := by decide +kernel
theorem dX11_init_34 : decode cX11_init 34 = .ok (.putfield 26, 3) := by decide +kernel
theorem dX11_init_37 : decode cX11_init 37 = .ok (.aload_n 0, 1) := by decide +kernel
theorem dX11_init_38 : decode cX11_init 38 = .ok (.new 30, 3) := by decide +kernel
theorem dX11_init_41 : decode cX11_init 41 = .ok (.dup, 1) := by decide +kernel
theorem dX11_init_42 : decode cX11_init 42 = .ok (.invokespecial 32, 3) := by decide +kernel
theorem dX11_init_45 : decode cX11_init 45 = .ok (.putfield 33, 3) := by decide +kernel
theorem dX11_init_48 : decode cX11_init 48 = .ok (.aload_n 0, 1) := by decide +kernel
theorem dX11_init_49 : decode cX11_init 49 = .ok (.new 37, 3) := by decide +kernel
theorem dX11_init_52 : decode cX11_init 52 = .ok (.dup, 1) := by decide +kernel
theorem dX11_init_53 : decode cX11_init 53 = .ok (.invokespecial 39, 3) := by decide +kernel
theorem dX11_init_56 : decode cX11_init 56 = .ok (.putfield 40, 3) := by decide +kernel
theorem dX11_init_59 : decode cX11_init 59 = .ok (.aload_n 0, 1) := by decide +kernel
theorem dX11_init_60 : decode cX11_init 60 = .ok (.new 44, 3) := by decide +kernel
theorem dX11_init_63 : decode cX11_init 63 = .ok (.dup, 1) := by decide +kernel
theorem dX11_init_64 : decode cX11_init 64 = .ok (.invokespecial 46, 3) := by decide +kernel
theorem dX11_init_67 : decode cX11_init 67 = .ok (.putfield 47, 3) := by decide +kernel
theorem dX11_init_70 : decode cX11_init 70 = .ok (.aload_n 0, 1) := by decide +kernel
theorem dX11_init_71 : decode cX11_init 71 = .ok (.new 51, 3) := by decide +kernel
theorem dX11_init_74 : decode cX11_init 74 = .ok (.dup, 1) := by decide +kernel
theorem dX11_init_75 : decode cX11_init 75 = .ok (.invokespecial 53, 3) := by decide +kernel
theorem dX11_init_78 : decode cX11_init 78 = .ok (.putfield 54, 3) := by decide +kernel
theorem dX11_init_81 : decode cX11_init 81 = .ok (.aload_n 0, 1) := by decide +kernel
theorem dX11_init_82 : decode cX11_init 82 = .ok (.new 58, 3) := by decide +kernel
theorem dX11_init_85 : decode cX11_init 85 = .ok (.dup, 1) := by decide +kernel
theorem dX11_init_86 : decode cX11_init 86 = .ok (.invokespecial 60, 3) := by decide +kernel
theorem dX11_init_89 : decode cX11_init 89 = .ok (.putfield 61, 3) := by decide +kernel
theorem dX11_init_92 : decode cX11_init 92 = .ok (.aload_n 0, 1) := by decide +kernel
theorem dX11_init_93 : decode cX11_init 93 = .ok (.new 65, 3) := by decide +kernel
theorem dX11_init_96 : decode cX11_init 96 = .ok (.dup, 1) := by decide +kernel
theorem dX11_init_97 : decode cX11_init 97 = .ok (.invokespecial 67, 3) := by decide +kernel
theorem dX11_init_100 : decode cX11_init 100 = .ok (.putfield 68, 3) := by decide +kernel
theorem dX11_init_103 : decode cX11_init 103 = .ok (.aload_n 0, 1) := by decide +kernel
theorem dX11_init_104 : decode cX11_init 104 = .ok (.new 72, 3) := by decide +kernel
theorem dX11_init_107 : decode cX11_init 107 = .ok (.dup, 1) := by decide +kernel
theorem dX11_init_108 : decode cX11_init 108 = .ok (.invokespecial 74, 3) := by decide +kernel
theorem dX11_init_111 : decode cX11_init 111 = .ok (.putfield 75, 3) := by decide +kernel
theorem dX11_init_114 : decode cX11_init 114 = .ok (.aload_n 0, 1) := by decide +kernel
theorem dX11_init_115 : decode cX11_init 115 = .ok (.iconst (-1), 1) := by decide +kernel
theorem dX11_init_116 : decode cX11_init 116 = .ok (.putfield 79, 3) := by decide +kernel
theorem dX11_init_119 : decode cX11_init 119 = .ok (.return_, 1) := by decide +kernel
theorem dX11_feed_0 : decode cX11_feed 0 = .ok (.iload_n 1, 1) := by decide +kernel
theorem dX11_feed_1 : decode cX11_feed 1 = .ok (.iconst 1, 1) := by decide +kernel
theorem dX11_feed_2 : decode cX11_feed 2 = .ok (.if_icmp .lt 9, 3) := by decide +kernel
theorem dX11_feed_5 : decode cX11_feed 5 = .ok (.iload_n 1, 1) := by decide +kernel
theorem dX11_feed_6 : decode cX11_feed 6 = .ok (.bipush 8, 2) := by decide +kernel
theorem dX11_feed_8 : decode cX11_feed 8 = .ok (.if_icmp .le 7, 3) := by decide +kernel
theorem dX11_feed_11 : decode cX11_feed 11 = .ok (.sipush (-1002), 3) := by decide +kernel
theorem dX11_feed_14 : decode cX11_feed 14 = .ok (.ireturn, 1) := by decide +kernel
theorem dX11_feed_15 : decode cX11_feed 15 = .ok (.aload_n 0, 1) := by decide +kernel
theorem dX11_feed_16 : decode cX11_feed 16 = .ok (.getfield 12, 3) := by decide +kernel
theorem dX11_feed_19 : decode cX11_feed 19 = .ok (.iload_n 1, 1) := by decide +kernel
theorem dX11_feed_20 : decode cX11_feed 20 = .ok (.invokevirtual 83, 3) := by decide +kernel
theorem dX11_feed_23 : decode cX11_feed 23 = .ok (.ifCond .ne 7, 3) := by decide +kernel
theorem dX11_feed_26 : decode cX11_feed 26 = .ok (.sipush (-1004), 3) := by decide +kernel
theorem dX11_feed_29 : decode cX11_feed 29 = .ok (.ireturn, 1) := by decide +kernel
theorem dX11_feed_30 : decode cX11_feed 30 = .ok (.iload_n 1, 1) := by decide +kernel
theorem dX11_feed_31 : decode cX11_feed 31 = .ok (.iconst 1, 1) := by decide +kernel
theorem dX11_feed_32 : decode cX11_feed 32 = .ok (.isub, 1) := by decide +kernel
theorem dX11_feed_33 : decode cX11_feed 33 = .ok (.istore 4, 2) := by decide +kernel
theorem dX11_feed_35 : decode cX11_feed 35 = .ok (.iload 4, 2) := by decide +kernel
theorem dX11_feed_37 : decode cX11_feed 37 = .ok (.ifCond .lt 28, 3) := by decide +kernel
theorem dX11_feed_40 : decode cX11_feed 40 = .ok (.aload_n 0, 1) := by decide +kernel
theorem dX11_feed_41 : decode cX11_feed 41 = .ok (.getfield 12, 3) := by decide +kernel
theorem dX11_feed_44 : decode cX11_feed 44 = .ok (.lload_n 2, 1) := by decide +kernel
theorem dX11_feed_45 : decode cX11_feed 45 = .ok (.bipush 8, 2) := by decide +kernel
theorem dX11_feed_47 : decode cX11_feed 47 = .ok (.iload 4, 2) := by decide +kernel
theorem dX11_feed_49 : decode cX11_feed 49 = .ok (.imul, 1) := by decide +kernel
theorem dX11_feed_50 : decode cX11_feed 50 = .ok (.lushr, 1) := by decide +kernel
theorem dX11_feed_51 : decode cX11_feed 51 = .ok (.l2i, 1) := by decide +kernel
theorem dX11_feed_52 : decode cX11_feed 52 = .ok (.sipush 255, 3) := by decide +kernel
theorem dX11_feed_55 : decode cX11_feed 55 = .ok (.iand, 1) := by decide +kernel
theorem dX11_feed_56 : decode cX11_feed 56 = .ok (.invokevirtual 87, 3) := by decide +kernel
theorem dX11_feed_59 : decode cX11_feed 59 = .ok (.iinc 4 (-1), 3) := by decide +kernel
theorem dX11_feed_62 : decode cX11_feed 62 = .ok (.goto (-27), 3) := by decide +kernel
theorem dX11_feed_65 : decode cX11_feed 65 = .ok (.aload_n 0, 1) := by decide +kernel
theorem dX11_feed_66 : decode cX11_feed 66 = .ok (.getfield 12, 3) := by decide +kernel
theorem dX11_feed_69 : decode cX11_feed 69 = .ok (.getfield 91, 3) := by decide +kernel
theorem dX11_feed_72 : decode cX11_feed 72 = .ok (.ireturn, 1) := by decide +kernel
theorem dX11_book_0 : decode cX11_book 0 = .ok (.iload_n 1, 1) := by decide +kernel
theorem dX11_book_1 : decode cX11_book 1 = .ok (.invokestatic 94, 3) := by decide +kernel
theorem dX11_book_4 : decode cX11_book 4 = .ok (.ifCond .eq 10, 3) := by decide +kernel
theorem dX11_book_7 : decode cX11_book 7 = .ok (.iload_n 2, 1) := by decide +kernel
theorem dX11_book_8 : decode cX11_book 8 = .ok (.invokestatic 94, 3) := by decide +kernel
theorem dX11_book_11 : decode cX11_book 11 = .ok (.ifCond .ne 7, 3) := by decide +kernel
theorem dX11_book_14 : decode cX11_book 14 = .ok (.sipush (-1001), 3) := by decide +kernel
theorem dX11_book_17 : decode cX11_book 17 = .ok (.ireturn, 1) := by decide +kernel
theorem dX11_book_18 : decode cX11_book 18 = .ok (.iload_n 1, 1) := by decide +kernel
theorem dX11_book_19 : decode cX11_book 19 = .ok (.iload_n 2, 1) := by decide +kernel
theorem dX11_book_20 : decode cX11_book 20 = .ok (.if_icmp .eq 10, 3) := by decide +kernel
theorem dX11_book_23 : decode cX11_book 23 = .ok (.iload_n 3, 1) := by decide +kernel
theorem dX11_book_24 : decode cX11_book 24 = .ok (.invokestatic 97, 3) := by decide +kernel
theorem dX11_book_27 : decode cX11_book 27 = .ok (.ifCond .ne 7, 3) := by decide +kernel
theorem dX11_book_30 : decode cX11_book 30 = .ok (.sipush (-1002), 3) := by decide +kernel
theorem dX11_book_33 : decode cX11_book 33 = .ok (.ireturn, 1) := by decide +kernel
theorem dX11_book_34 : decode cX11_book 34 = .ok (.aload_n 0, 1) := by decide +kernel
theorem dX11_book_35 : decode cX11_book 35 = .ok (.getfield 26, 3) := by decide +kernel
theorem dX11_book_38 : decode cX11_book 38 = .ok (.getfield 100, 3) := by decide +kernel
theorem dX11_book_41 : decode cX11_book 41 = .ok (.bipush 8, 2) := by decide +kernel
theorem dX11_book_43 : decode cX11_book 43 = .ok (.if_icmp .lt 7, 3) := by decide +kernel
theorem dX11_book_46 : decode cX11_book 46 = .ok (.sipush (-1004), 3) := by decide +kernel
theorem dX11_book_49 : decode cX11_book 49 = .ok (.ireturn, 1) := by decide +kernel
theorem dX11_book_50 : decode cX11_book 50 = .ok (.aload_n 0, 1) := by decide +kernel
theorem dX11_book_51 : decode cX11_book 51 = .ok (.getfield 26, 3) := by decide +kernel
theorem dX11_book_54 : decode cX11_book 54 = .ok (.iload_n 1, 1) := by decide +kernel
theorem dX11_book_55 : decode cX11_book 55 = .ok (.iload_n 2, 1) := by decide +kernel
theorem dX11_book_56 : decode cX11_book 56 = .ok (.iload_n 3, 1) := by decide +kernel
theorem dX11_book_57 : decode cX11_book 57 = .ok (.invokevirtual 103, 3) := by decide +kernel
theorem dX11_book_60 : decode cX11_book 60 = .ok (.astore 4, 2) := by decide +kernel
theorem dX11_book_62 : decode cX11_book 62 = .ok (.aload_n 0, 1) := by decide +kernel
theorem dX11_book_63 : decode cX11_book 63 = .ok (.getfield 19, 3) := by decide +kernel
theorem dX11_book_66 : decode cX11_book 66 = .ok (.aload_n 0, 1) := by decide +kernel
theorem dX11_book_67 : decode cX11_book 67 = .ok (.getfield 12, 3) := by decide +kernel
theorem dX11_book_70 : decode cX11_book 70 = .ok (.aload 4, 2) := by decide +kernel
theorem dX11_book_72 : decode cX11_book 72 = .ok (.invokevirtual 107, 3) := by decide +kernel
theorem dX11_book_75 : decode cX11_book 75 = .ok (.istore 5, 2) := by decide +kernel
theorem dX11_book_77 : decode cX11_book 77 = .ok (.aload_n 0, 1) := by decide +kernel
theorem dX11_book_78 : decode cX11_book 78 = .ok (.getfield 12, 3) := by decide +kernel
theorem dX11_book_81 : decode cX11_book 81 = .ok (.iconst 0, 1) := by decide +kernel
theorem dX11_book_82 : decode cX11_book 82 = .ok (.putfield 91, 3) := by decide +kernel
theorem dX11_book_85 : decode cX11_book 85 = .ok (.aload_n 0, 1) := by decide +kernel
theorem dX11_book_86 : decode cX11_book 86 = .ok (.iload 5, 2) := by decide +kernel
theorem dX11_book_88 : decode cX11_book 88 = .ok (.ifCond .ne 7, 3) := by decide +kernel
theorem dX11_book_91 : decode cX11_book 91 = .ok (.iconst (-1), 1) := by decide +kernel
theorem dX11_book_92 : decode cX11_book 92 = .ok (.goto 10, 3) := by decide +kernel
theorem dX11_book_95 : decode cX11_book 95 = .ok (.aload_n 0, 1) := by decide +kernel
theorem dX11_book_96 : decode cX11_book 96 = .ok (.getfield 19, 3) := by decide +kernel
theorem dX11_book_99 : decode cX11_book 99 = .ok (.getfield 111, 3) := by decide +kernel
theorem dX11_book_102 : decode cX11_book 102 = .ok (.putfield 79, 3) := by decide +kernel
theorem dX11_book_105 : decode cX11_book 105 = .ok (.iload 5, 2) := by decide +kernel
theorem dX11_book_107 : decode cX11_book 107 = .ok (.ifCond .ne 13, 3) := by decide +kernel
theorem dX11_book_110 : decode cX11_book 110 = .ok (.aload_n 0, 1) := by decide +kernel
theorem dX11_book_111 : decode cX11_book 111 = .ok (.getfield 26, 3) := by decide +kernel
theorem dX11_book_114 : decode cX11_book 114 = .ok (.invokevirtual 114, 3) := by decide +kernel
theorem dX11_book_117 : decode cX11_book 117 = .ok (.goto 8, 3) := by decide +kernel
theorem dX11_book_120 : decode cX11_book 120 = .ok (.bipush (-10), 2) := by decide +kernel
theorem dX11_book_122 : decode cX11_book 122 = .ok (.iload 5, 2) := by decide +kernel
theorem dX11_book_124 : decode cX11_book 124 = .ok (.isub, 1) := by decide +kernel
theorem dX11_book_125 : decode cX11_book 125 = .ok (.ireturn, 1) := by decide +kernel
theorem dX11_fault_0 : decode cX11_fault 0 = .ok (.aload_n 0, 1) := by decide +kernel
theorem dX11_fault_1 : decode cX11_fault 1 = .ok (.getfield 79, 3) := by decide +kernel
theorem dX11_fault_4 : decode cX11_fault 4 = .ok (.ireturn, 1) := by decide +kernel
theorem dX11_about_0 : decode cX11_about 0 = .ok (.aload_n 0, 1) := by decide +kernel
theorem dX11_about_1 : decode cX11_about 1 = .ok (.getfield 26, 3) := by decide +kernel
theorem dX11_about_4 : decode cX11_about 4 = .ok (.iload_n 1, 1) := by decide +kernel
theorem dX11_about_5 : decode cX11_about 5 = .ok (.invokevirtual 118, 3) := by decide +kernel
theorem dX11_about_8 : decode cX11_about 8 = .ok (.astore_n 3, 1) := by decide +kernel
theorem dX11_about_9 : decode cX11_about 9 = .ok (.aload_n 3, 1) := by decide +kernel
theorem dX11_about_10 : decode cX11_about 10 = .ok (.ifnonnull 7, 3) := by decide +kernel
theorem dX11_about_13 : decode cX11_about 13 = .ok (.sipush (-1001), 3) := by decide +kernel
theorem dX11_about_16 : decode cX11_about 16 = .ok (.ireturn, 1) := by decide +kernel
theorem dX11_about_17 : decode cX11_about 17 = .ok (.iload_n 2, 1) := by decide +kernel
theorem dX11_about_18 : decode cX11_about 18 = .ok (.tableswitch 80 0 6 #[42, 47, 52, 57, 65, 70, 75], 42) := by decide +kernel
theorem dX11_about_60 : decode cX11_about 60 = .ok (.aload_n 3, 1) := by decide +kernel
theorem dX11_about_61 : decode cX11_about 61 = .ok (.getfield 122, 3) := by decide +kernel
theorem dX11_about_64 : decode cX11_about 64 = .ok (.ireturn, 1) := by decide +kernel
theorem dX11_about_65 : decode cX11_about 65 = .ok (.aload_n 3, 1) := by decide +kernel
theorem dX11_about_66 : decode cX11_about 66 = .ok (.getfield 127, 3) := by decide +kernel
theorem dX11_about_69 : decode cX11_about 69 = .ok (.ireturn, 1) := by decide +kernel
theorem dX11_about_70 : decode cX11_about 70 = .ok (.aload_n 3, 1) := by decide +kernel
theorem dX11_about_71 : decode cX11_about 71 = .ok (.getfield 130, 3) := by decide +kernel
theorem dX11_about_74 : decode cX11_about 74 = .ok (.ireturn, 1) := by decide +kernel
theorem dX11_about_75 : decode cX11_about 75 = .ok (.aload_n 3, 1) := by decide +kernel
theorem dX11_about_76 : decode cX11_about 76 = .ok (.getfield 133, 3) := by decide +kernel
theorem dX11_about_79 : decode cX11_about 79 = .ok (.invokestatic 137, 3) := by decide +kernel
theorem dX11_about_82 : decode cX11_about 82 = .ok (.ireturn, 1) := by decide +kernel
theorem dX11_about_83 : decode cX11_about 83 = .ok (.aload_n 3, 1) := by decide +kernel
theorem dX11_about_84 : decode cX11_about 84 = .ok (.getfield 143, 3) := by decide +kernel
theorem dX11_about_87 : decode cX11_about 87 = .ok (.ireturn, 1) := by decide +kernel
theorem dX11_about_88 : decode cX11_about 88 = .ok (.aload_n 3, 1) := by decide +kernel
theorem dX11_about_89 : decode cX11_about 89 = .ok (.getfield 146, 3) := by decide +kernel
theorem dX11_about_92 : decode cX11_about 92 = .ok (.ireturn, 1) := by decide +kernel
theorem dX11_about_93 : decode cX11_about 93 = .ok (.aload_n 3, 1) := by decide +kernel
theorem dX11_about_94 : decode cX11_about 94 = .ok (.getfield 149, 3) := by decide +kernel
theorem dX11_about_97 : decode cX11_about 97 = .ok (.ireturn, 1) := by decide +kernel
theorem dX11_about_98 : decode cX11_about 98 = .ok (.sipush (-1002), 3) := by decide +kernel
theorem dX11_about_101 : decode cX11_about 101 = .ok (.ireturn, 1) := by decide +kernel
theorem dX11_now_0 : decode cX11_now 0 = .ok (.iload_n 1, 1) := by decide +kernel
theorem dX11_now_1 : decode cX11_now 1 = .ok (.invokestatic 97, 3) := by decide +kernel
theorem dX11_now_4 : decode cX11_now 4 = .ok (.ifCond .ne 7, 3) := by decide +kernel
theorem dX11_now_7 : decode cX11_now 7 = .ok (.sipush (-1002), 3) := by decide +kernel
theorem dX11_now_10 : decode cX11_now 10 = .ok (.ireturn, 1) := by decide +kernel
theorem dX11_now_11 : decode cX11_now 11 = .ok (.aload_n 0, 1) := by decide +kernel
theorem dX11_now_12 : decode cX11_now 12 = .ok (.getfield 26, 3) := by decide +kernel
theorem dX11_now_15 : decode cX11_now 15 = .ok (.getfield 152, 3) := by decide +kernel
theorem dX11_now_18 : decode cX11_now 18 = .ok (.istore_n 2, 1) := by decide +kernel
theorem dX11_now_19 : decode cX11_now 19 = .ok (.aload_n 0, 1) := by decide +kernel
theorem dX11_now_20 : decode cX11_now 20 = .ok (.getfield 26, 3) := by decide +kernel
theorem dX11_now_23 : decode cX11_now 23 = .ok (.iload_n 1, 1) := by decide +kernel
theorem dX11_now_24 : decode cX11_now 24 = .ok (.putfield 152, 3) := by decide +kernel
theorem dX11_now_27 : decode cX11_now 27 = .ok (.iload_n 2, 1) := by decide +kernel
theorem dX11_now_28 : decode cX11_now 28 = .ok (.ireturn, 1) := by decide +kernel
theorem dX11_taste_0 : decode cX11_taste 0 = .ok (.aload_n 0, 1) := by decide +kernel
theorem dX11_taste_1 : decode cX11_taste 1 = .ok (.getfield 26, 3) := by decide +kernel
theorem dX11_taste_4 : decode cX11_taste 4 = .ok (.getfield 155, 3) := by decide +kernel
theorem dX11_taste_7 : decode cX11_taste 7 = .ok (.ifCond .eq 7, 3) := by decide +kernel
theorem dX11_taste_10 : decode cX11_taste 10 = .ok (.iconst 1, 1) := by decide +kernel
theorem dX11_taste_11 : decode cX11_taste 11 = .ok (.goto 4, 3) := by decide +kernel
theorem dX11_taste_14 : decode cX11_taste 14 = .ok (.iconst 0, 1) := by decide +kernel
theorem dX11_taste_15 : decode cX11_taste 15 = .ok (.istore_n 2, 1) := by decide +kernel
theorem dX11_taste_16 : decode cX11_taste 16 = .ok (.aload_n 0, 1) := by decide +kernel
theorem dX11_taste_17 : decode cX11_taste 17 = .ok (.getfield 26, 3) := by decide +kernel
theorem dX11_taste_20 : decode cX11_taste 20 = .ok (.iload_n 1, 1) := by decide +kernel
theorem dX11_taste_21 : decode cX11_taste 21 = .ok (.putfield 155, 3) := by decide +kernel
theorem dX11_taste_24 : decode cX11_taste 24 = .ok (.iload_n 2, 1) := by decide +kernel
theorem dX11_taste_25 : decode cX11_taste 25 = .ok (.ireturn, 1) := by decide +kernel
theorem dX11_count_0 : decode cX11_count 0 = .ok (.iload_n 1, 1) := by decide +kernel
theorem dX11_count_1 : decode cX11_count 1 = .ok (.tableswitch 75 0 4 #[35, 43, 51, 59, 67], 35) := by decide +kernel
theorem dX11_count_36 : decode cX11_count 36 = .ok (.aload_n 0, 1) := by decide +kernel
theorem dX11_count_37 : decode cX11_count 37 = .ok (.getfield 26, 3) := by decide +kernel
theorem dX11_count_40 : decode cX11_count 40 = .ok (.getfield 100, 3) := by decide +kernel
theorem dX11_count_43 : decode cX11_count 43 = .ok (.ireturn, 1) := by decide +kernel
theorem dX11_count_44 : decode cX11_count 44 = .ok (.aload_n 0, 1) := by decide +kernel
theorem dX11_count_45 : decode cX11_count 45 = .ok (.getfield 12, 3) := by decide +kernel
theorem dX11_count_48 : decode cX11_count 48 = .ok (.getfield 91, 3) := by decide +kernel
theorem dX11_count_51 : decode cX11_count 51 = .ok (.ireturn, 1) := by decide +kernel
theorem dX11_count_52 : decode cX11_count 52 = .ok (.aload_n 0, 1) := by decide +kernel
theorem dX11_count_53 : decode cX11_count 53 = .ok (.getfield 40, 3) := by decide +kernel
theorem dX11_count_56 : decode cX11_count 56 = .ok (.getfield 159, 3) := by decide +kernel
theorem dX11_count_59 : decode cX11_count 59 = .ok (.ireturn, 1) := by decide +kernel
theorem dX11_count_60 : decode cX11_count 60 = .ok (.aload_n 0, 1) := by decide +kernel
theorem dX11_count_61 : decode cX11_count 61 = .ok (.getfield 47, 3) := by decide +kernel
theorem dX11_count_64 : decode cX11_count 64 = .ok (.getfield 160, 3) := by decide +kernel
theorem dX11_count_67 : decode cX11_count 67 = .ok (.ireturn, 1) := by decide +kernel
theorem dX11_count_68 : decode cX11_count 68 = .ok (.aload_n 0, 1) := by decide +kernel
theorem dX11_count_69 : decode cX11_count 69 = .ok (.getfield 54, 3) := by decide +kernel
theorem dX11_count_72 : decode cX11_count 72 = .ok (.getfield 161, 3) := by decide +kernel
theorem dX11_count_75 : decode cX11_count 75 = .ok (.ireturn, 1) := by decide +kernel
theorem dX11_count_76 : decode cX11_count 76 = .ok (.sipush (-1002), 3) := by decide +kernel
theorem dX11_count_79 : decode cX11_count 79 = .ok (.ireturn, 1) := by decide +kernel
theorem dX11_entry_0 : decode cX11_entry 0 = .ok (.iload_n 1, 1) := by decide +kernel
theorem dX11_entry_1 : decode cX11_entry 1 = .ok (.invokestatic 94, 3) := by decide +kernel
theorem dX11_entry_4 : decode cX11_entry 4 = .ok (.ifCond .eq 17, 3) := by decide +kernel
theorem dX11_entry_7 : decode cX11_entry 7 = .ok (.iload_n 2, 1) := by decide +kernel
theorem dX11_entry_8 : decode cX11_entry 8 = .ok (.invokestatic 162, 3) := by decide +kernel
theorem dX11_entry_11 : decode cX11_entry 11 = .ok (.ifCond .eq 10, 3) := by decide +kernel
theorem dX11_entry_14 : decode cX11_entry 14 = .ok (.iload_n 3, 1) := by decide +kernel
theorem dX11_entry_15 : decode cX11_entry 15 = .ok (.invokestatic 94, 3) := by decide +kernel
theorem dX11_entry_18 : decode cX11_entry 18 = .ok (.ifCond .ne 7, 3) := by decide +kernel
theorem dX11_entry_21 : decode cX11_entry 21 = .ok (.sipush (-1001), 3) := by decide +kernel
theorem dX11_entry_24 : decode cX11_entry 24 = .ok (.ireturn, 1) := by decide +kernel
theorem dX11_entry_25 : decode cX11_entry 25 = .ok (.iload 4, 2) := by decide +kernel
theorem dX11_entry_27 : decode cX11_entry 27 = .ok (.ifCond .lt 10, 3) := by decide +kernel
theorem dX11_entry_30 : decode cX11_entry 30 = .ok (.iload 4, 2) := by decide +kernel
theorem dX11_entry_32 : decode cX11_entry 32 = .ok (.bipush 8, 2) := by decide +kernel
theorem dX11_entry_34 : decode cX11_entry 34 = .ok (.if_icmp .lt 7, 3) := by decide +kernel
theorem dX11_entry_37 : decode cX11_entry 37 = .ok (.sipush (-1002), 3) := by decide +kernel
theorem dX11_entry_40 : decode cX11_entry 40 = .ok (.ireturn, 1) := by decide +kernel
theorem dX11_entry_41 : decode cX11_entry 41 = .ok (.aload_n 0, 1) := by decide +kernel
theorem dX11_entry_42 : decode cX11_entry 42 = .ok (.getfield 26, 3) := by decide +kernel
theorem dX11_entry_45 : decode cX11_entry 45 = .ok (.iload_n 1, 1) := by decide +kernel
theorem dX11_entry_46 : decode cX11_entry 46 = .ok (.iload_n 2, 1) := by decide +kernel
theorem dX11_entry_47 : decode cX11_entry 47 = .ok (.iload_n 3, 1) := by decide +kernel
theorem dX11_entry_48 : decode cX11_entry 48 = .ok (.invokevirtual 165, 3) := by decide +kernel
theorem dX11_entry_51 : decode cX11_entry 51 = .ok (.istore 5, 2) := by decide +kernel
theorem dX11_entry_53 : decode cX11_entry 53 = .ok (.aload_n 0, 1) := by decide +kernel
theorem dX11_entry_54 : decode cX11_entry 54 = .ok (.getfield 26, 3) := by decide +kernel
theorem dX11_entry_57 : decode cX11_entry 57 = .ok (.iload 5, 2) := by decide +kernel
theorem dX11_entry_59 : decode cX11_entry 59 = .ok (.invokevirtual 118, 3) := by decide +kernel
theorem dX11_entry_62 : decode cX11_entry 62 = .ok (.astore 6, 2) := by decide +kernel
theorem dX11_entry_64 : decode cX11_entry 64 = .ok (.aload 6, 2) := by decide +kernel
theorem dX11_entry_66 : decode cX11_entry 66 = .ok (.ifnonnull 5, 3) := by decide +kernel
theorem dX11_entry_69 : decode cX11_entry 69 = .ok (.iconst (-1), 1) := by decide +kernel
theorem dX11_entry_70 : decode cX11_entry 70 = .ok (.ireturn, 1) := by decide +kernel
theorem dX11_entry_71 : decode cX11_entry 71 = .ok (.iload 4, 2) := by decide +kernel
theorem dX11_entry_73 : decode cX11_entry 73 = .ok (.ifCond .ne 6, 3) := by decide +kernel
theorem dX11_entry_76 : decode cX11_entry 76 = .ok (.iload 5, 2) := by decide +kernel
theorem dX11_entry_78 : decode cX11_entry 78 = .ok (.ireturn, 1) := by decide +kernel
theorem dX11_entry_79 : decode cX11_entry 79 = .ok (.iload 4, 2) := by decide +kernel
theorem dX11_entry_81 : decode cX11_entry 81 = .ok (.iconst 1, 1) := by decide +kernel
theorem dX11_entry_82 : decode cX11_entry 82 = .ok (.if_icmp .ne 10, 3) := by decide +kernel
theorem dX11_entry_85 : decode cX11_entry 85 = .ok (.aload 6, 2) := by decide +kernel
theorem dX11_entry_87 : decode cX11_entry 87 = .ok (.iload_n 2, 1) := by decide +kernel
theorem dX11_entry_88 : decode cX11_entry 88 = .ok (.invokevirtual 169, 3) := by decide +kernel
theorem dX11_entry_91 : decode cX11_entry 91 = .ok (.ireturn, 1) := by decide +kernel
theorem dX11_entry_92 : decode cX11_entry 92 = .ok (.iload 4, 2) := by decide +kernel
theorem dX11_entry_94 : decode cX11_entry 94 = .ok (.iconst 5, 1) := by decide +kernel
theorem dX11_entry_95 : decode cX11_entry 95 = .ok (.if_icmp .ge 14, 3) := by decide +kernel
theorem dX11_entry_98 : decode cX11_entry 98 = .ok (.aload 6, 2) := by decide +kernel
theorem dX11_entry_100 : decode cX11_entry 100 = .ok (.iload_n 2, 1) := by decide +kernel
theorem dX11_entry_101 : decode cX11_entry 101 = .ok (.iload 4, 2) := by decide +kernel
theorem dX11_entry_103 : decode cX11_entry 103 = .ok (.iconst 2, 1) := by decide +kernel
theorem dX11_entry_104 : decode cX11_entry 104 = .ok (.isub, 1) := by decide +kernel
theorem dX11_entry_105 : decode cX11_entry 105 = .ok (.invokevirtual 173, 3) := by decide +kernel
theorem dX11_entry_108 : decode cX11_entry 108 = .ok (.ireturn, 1) := by decide +kernel
theorem dX11_entry_109 : decode cX11_entry 109 = .ok (.iload 4, 2) := by decide +kernel
theorem dX11_entry_111 : decode cX11_entry 111 = .ok (.iconst 2, 1) := by decide +kernel
theorem dX11_entry_112 : decode cX11_entry 112 = .ok (.isub, 1) := by decide +kernel
theorem dX11_entry_113 : decode cX11_entry 113 = .ok (.iconst 3, 1) := by decide +kernel
theorem dX11_entry_114 : decode cX11_entry 114 = .ok (.isub, 1) := by decide +kernel
theorem dX11_entry_115 : decode cX11_entry 115 = .ok (.istore 7, 2) := by decide +kernel
theorem dX11_entry_117 : decode cX11_entry 117 = .ok (.iload 7, 2) := by decide +kernel
theorem dX11_entry_119 : decode cX11_entry 119 = .ok (.aload 6, 2) := by decide +kernel
theorem dX11_entry_121 : decode cX11_entry 121 = .ok (.iload_n 2, 1) := by decide +kernel
theorem dX11_entry_122 : decode cX11_entry 122 = .ok (.invokevirtual 169, 3) := by decide +kernel
theorem dX11_entry_125 : decode cX11_entry 125 = .ok (.if_icmp .ge 24, 3) := by decide +kernel
theorem dX11_entry_128 : decode cX11_entry 128 = .ok (.aload 6, 2) := by decide +kernel
theorem dX11_entry_130 : decode cX11_entry 130 = .ok (.iload_n 2, 1) := by decide +kernel
theorem dX11_entry_131 : decode cX11_entry 131 = .ok (.iload 7, 2) := by decide +kernel
theorem dX11_entry_133 : decode cX11_entry 133 = .ok (.aload_n 0, 1) := by decide +kernel
theorem dX11_entry_134 : decode cX11_entry 134 = .ok (.getfield 26, 3) := by decide +kernel
theorem dX11_entry_137 : decode cX11_entry 137 = .ok (.getfield 155, 3) := by decide +kernel
theorem dX11_entry_140 : decode cX11_entry 140 = .ok (.invokevirtual 177, 3) := by decide +kernel
theorem dX11_entry_143 : decode cX11_entry 143 = .ok (.invokestatic 137, 3) := by decide +kernel
theorem dX11_entry_146 : decode cX11_entry 146 = .ok (.goto 4, 3) := by decide +kernel
theorem dX11_entry_149 : decode cX11_entry 149 = .ok (.iconst (-1), 1) := by decide +kernel
theorem dX11_entry_150 : decode cX11_entry 150 = .ok (.ireturn, 1) := by decide +kernel
theorem dX11_gives_0 : decode cX11_gives 0 = .ok (.iload_n 1, 1) := by decide +kernel
theorem dX11_gives_1 : decode cX11_gives 1 = .ok (.invokestatic 94, 3) := by decide +kernel
theorem dX11_gives_4 : decode cX11_gives 4 = .ok (.ifCond .eq 17, 3) := by decide +kernel
theorem dX11_gives_7 : decode cX11_gives 7 = .ok (.iload_n 2, 1) := by decide +kernel
theorem dX11_gives_8 : decode cX11_gives 8 = .ok (.invokestatic 162, 3) := by decide +kernel
theorem dX11_gives_11 : decode cX11_gives 11 = .ok (.ifCond .eq 10, 3) := by decide +kernel
theorem dX11_gives_14 : decode cX11_gives 14 = .ok (.iload_n 3, 1) := by decide +kernel
theorem dX11_gives_15 : decode cX11_gives 15 = .ok (.invokestatic 94, 3) := by decide +kernel
theorem dX11_gives_18 : decode cX11_gives 18 = .ok (.ifCond .ne 7, 3) := by decide +kernel
theorem dX11_gives_21 : decode cX11_gives 21 = .ok (.ldc2_w 181, 3) := by decide +kernel
theorem dX11_gives_24 : decode cX11_gives 24 = .ok (.lreturn, 1) := by decide +kernel
theorem dX11_gives_25 : decode cX11_gives 25 = .ok (.aload_n 0, 1) := by decide +kernel
theorem dX11_gives_26 : decode cX11_gives 26 = .ok (.getfield 26, 3) := by decide +kernel
theorem dX11_gives_29 : decode cX11_gives 29 = .ok (.iload_n 1, 1) := by decide +kernel
theorem dX11_gives_30 : decode cX11_gives 30 = .ok (.iload_n 2, 1) := by decide +kernel
theorem dX11_gives_31 : decode cX11_gives 31 = .ok (.iload_n 3, 1) := by decide +kernel
theorem dX11_gives_32 : decode cX11_gives 32 = .ok (.invokevirtual 183, 3) := by decide +kernel
theorem dX11_gives_35 : decode cX11_gives 35 = .ok (.lreturn, 1) := by decide +kernel
theorem dX11_givenBy_0 : decode cX11_givenBy 0 = .ok (.iload_n 1, 1) := by decide +kernel
theorem dX11_givenBy_1 : decode cX11_givenBy 1 = .ok (.invokestatic 94, 3) := by decide +kernel
theorem dX11_givenBy_4 : decode cX11_givenBy 4 = .ok (.ifCond .eq 17, 3) := by decide +kernel
theorem dX11_givenBy_7 : decode cX11_givenBy 7 = .ok (.iload_n 2, 1) := by decide +kernel
theorem dX11_givenBy_8 : decode cX11_givenBy 8 = .ok (.invokestatic 94, 3) := by decide +kernel
theorem dX11_givenBy_11 : decode cX11_givenBy 11 = .ok (.ifCond .eq 10, 3) := by decide +kernel
theorem dX11_givenBy_14 : decode cX11_givenBy 14 = .ok (.iload_n 3, 1) := by decide +kernel
theorem dX11_givenBy_15 : decode cX11_givenBy 15 = .ok (.invokestatic 162, 3) := by decide +kernel
theorem dX11_givenBy_18 : decode cX11_givenBy 18 = .ok (.ifCond .ne 7, 3) := by decide +kernel
theorem dX11_givenBy_21 : decode cX11_givenBy 21 = .ok (.ldc2_w 181, 3) := by decide +kernel
theorem dX11_givenBy_24 : decode cX11_givenBy 24 = .ok (.lreturn, 1) := by decide +kernel
theorem dX11_givenBy_25 : decode cX11_givenBy 25 = .ok (.aload_n 0, 1) := by decide +kernel
theorem dX11_givenBy_26 : decode cX11_givenBy 26 = .ok (.getfield 26, 3) := by decide +kernel
theorem dX11_givenBy_29 : decode cX11_givenBy 29 = .ok (.iload_n 1, 1) := by decide +kernel
theorem dX11_givenBy_30 : decode cX11_givenBy 30 = .ok (.ldc2_w 187, 3) := by decide +kernel
theorem dX11_givenBy_33 : decode cX11_givenBy 33 = .ok (.iload_n 2, 1) := by decide +kernel
theorem dX11_givenBy_34 : decode cX11_givenBy 34 = .ok (.iload_n 3, 1) := by decide +kernel
theorem dX11_givenBy_35 : decode cX11_givenBy 35 = .ok (.invokestatic 189, 3) := by decide +kernel
theorem dX11_givenBy_38 : decode cX11_givenBy 38 = .ok (.invokevirtual 193, 3) := by decide +kernel
theorem dX11_givenBy_41 : decode cX11_givenBy 41 = .ok (.lreturn, 1) := by decide +kernel
theorem dX11_returns_0 : decode cX11_returns 0 = .ok (.iload_n 1, 1) := by decide +kernel
theorem dX11_returns_1 : decode cX11_returns 1 = .ok (.invokestatic 94, 3) := by decide +kernel
theorem dX11_returns_4 : decode cX11_returns 4 = .ok (.ifCond .eq 17, 3) := by decide +kernel
theorem dX11_returns_7 : decode cX11_returns 7 = .ok (.iload_n 2, 1) := by decide +kernel
theorem dX11_returns_8 : decode cX11_returns 8 = .ok (.invokestatic 162, 3) := by decide +kernel
theorem dX11_returns_11 : decode cX11_returns 11 = .ok (.ifCond .eq 10, 3) := by decide +kernel
theorem dX11_returns_14 : decode cX11_returns 14 = .ok (.iload_n 3, 1) := by decide +kernel
theorem dX11_returns_15 : decode cX11_returns 15 = .ok (.invokestatic 94, 3) := by decide +kernel
theorem dX11_returns_18 : decode cX11_returns 18 = .ok (.ifCond .ne 7, 3) := by decide +kernel
theorem dX11_returns_21 : decode cX11_returns 21 = .ok (.sipush (-1001), 3) := by decide +kernel
theorem dX11_returns_24 : decode cX11_returns 24 = .ok (.ireturn, 1) := by decide +kernel
theorem dX11_returns_25 : decode cX11_returns 25 = .ok (.iload_n 1, 1) := by decide +kernel
theorem dX11_returns_26 : decode cX11_returns 26 = .ok (.iload_n 3, 1) := by decide +kernel
theorem dX11_returns_27 : decode cX11_returns 27 = .ok (.if_icmp .ne 7, 3) := by decide +kernel
theorem dX11_returns_30 : decode cX11_returns 30 = .ok (.sipush (-1002), 3) := by decide +kernel
theorem dX11_returns_33 : decode cX11_returns 33 = .ok (.ireturn, 1) := by decide +kernel
theorem dX11_returns_34 : decode cX11_returns 34 = .ok (.aload_n 0, 1) := by decide +kernel
theorem dX11_returns_35 : decode cX11_returns 35 = .ok (.iload_n 1, 1) := by decide +kernel
theorem dX11_returns_36 : decode cX11_returns 36 = .ok (.iload_n 2, 1) := by decide +kernel
theorem dX11_returns_37 : decode cX11_returns 37 = .ok (.iload_n 3, 1) := by decide +kernel
theorem dX11_returns_38 : decode cX11_returns 38 = .ok (.invokevirtual 197, 3) := by decide +kernel
theorem dX11_returns_41 : decode cX11_returns 41 = .ok (.iload_n 2, 1) := by decide +kernel
theorem dX11_returns_42 : decode cX11_returns 42 = .ok (.invokestatic 200, 3) := by decide +kernel
theorem dX11_returns_45 : decode cX11_returns 45 = .ok (.ifCond .eq 7, 3) := by decide +kernel
theorem dX11_returns_48 : decode cX11_returns 48 = .ok (.iconst 1, 1) := by decide +kernel
theorem dX11_returns_49 : decode cX11_returns 49 = .ok (.goto 4, 3) := by decide +kernel
theorem dX11_returns_52 : decode cX11_returns 52 = .ok (.iconst 0, 1) := by decide +kernel
theorem dX11_returns_53 : decode cX11_returns 53 = .ok (.ireturn, 1) := by decide +kernel
theorem dX11_back_0 : decode cX11_back 0 = .ok (.iload_n 1, 1) := by decide +kernel
theorem dX11_back_1 : decode cX11_back 1 = .ok (.invokestatic 94, 3) := by decide +kernel
theorem dX11_back_4 : decode cX11_back 4 = .ok (.ifCond .eq 17, 3) := by decide +kernel
theorem dX11_back_7 : decode cX11_back 7 = .ok (.iload_n 2, 1) := by decide +kernel
theorem dX11_back_8 : decode cX11_back 8 = .ok (.invokestatic 162, 3) := by decide +kernel
theorem dX11_back_11 : decode cX11_back 11 = .ok (.ifCond .eq 10, 3) := by decide +kernel
theorem dX11_back_14 : decode cX11_back 14 = .ok (.iload_n 3, 1) := by decide +kernel
theorem dX11_back_15 : decode cX11_back 15 = .ok (.invokestatic 94, 3) := by decide +kernel
theorem dX11_back_18 : decode cX11_back 18 = .ok (.ifCond .ne 7, 3) := by decide +kernel
theorem dX11_back_21 : decode cX11_back 21 = .ok (.ldc2_w 181, 3) := by decide +kernel
theorem dX11_back_24 : decode cX11_back 24 = .ok (.lreturn, 1) := by decide +kernel
theorem dX11_back_25 : decode cX11_back 25 = .ok (.iload_n 1, 1) := by decide +kernel
theorem dX11_back_26 : decode cX11_back 26 = .ok (.iload_n 3, 1) := by decide +kernel
theorem dX11_back_27 : decode cX11_back 27 = .ok (.if_icmp .ne 7, 3) := by decide +kernel
theorem dX11_back_30 : decode cX11_back 30 = .ok (.ldc2_w 204, 3) := by decide +kernel
theorem dX11_back_33 : decode cX11_back 33 = .ok (.lreturn, 1) := by decide +kernel
theorem dX11_back_34 : decode cX11_back 34 = .ok (.aload_n 0, 1) := by decide +kernel
theorem dX11_back_35 : decode cX11_back 35 = .ok (.iload_n 1, 1) := by decide +kernel
theorem dX11_back_36 : decode cX11_back 36 = .ok (.iload_n 2, 1) := by decide +kernel
theorem dX11_back_37 : decode cX11_back 37 = .ok (.iload_n 3, 1) := by decide +kernel
theorem dX11_back_38 : decode cX11_back 38 = .ok (.invokevirtual 197, 3) := by decide +kernel
theorem dX11_back_41 : decode cX11_back 41 = .ok (.iload_n 2, 1) := by decide +kernel
theorem dX11_back_42 : decode cX11_back 42 = .ok (.invokestatic 189, 3) := by decide +kernel
theorem dX11_back_45 : decode cX11_back 45 = .ok (.ldc2_w 206, 3) := by decide +kernel
theorem dX11_back_48 : decode cX11_back 48 = .ok (.lxor, 1) := by decide +kernel
theorem dX11_back_49 : decode cX11_back 49 = .ok (.land, 1) := by decide +kernel
theorem dX11_back_50 : decode cX11_back 50 = .ok (.lreturn, 1) := by decide +kernel
theorem dX11_meanings_0 : decode cX11_meanings 0 = .ok (.iload_n 1, 1) := by decide +kernel
theorem dX11_meanings_1 : decode cX11_meanings 1 = .ok (.invokestatic 94, 3) := by decide +kernel
theorem dX11_meanings_4 : decode cX11_meanings 4 = .ok (.ifCond .eq 17, 3) := by decide +kernel
theorem dX11_meanings_7 : decode cX11_meanings 7 = .ok (.iload_n 2, 1) := by decide +kernel
theorem dX11_meanings_8 : decode cX11_meanings 8 = .ok (.invokestatic 162, 3) := by decide +kernel
theorem dX11_meanings_11 : decode cX11_meanings 11 = .ok (.ifCond .eq 10, 3) := by decide +kernel
theorem dX11_meanings_14 : decode cX11_meanings 14 = .ok (.iload_n 3, 1) := by decide +kernel
theorem dX11_meanings_15 : decode cX11_meanings 15 = .ok (.invokestatic 94, 3) := by decide +kernel
theorem dX11_meanings_18 : decode cX11_meanings 18 = .ok (.ifCond .ne 7, 3) := by decide +kernel
theorem dX11_meanings_21 : decode cX11_meanings 21 = .ok (.sipush (-1001), 3) := by decide +kernel
theorem dX11_meanings_24 : decode cX11_meanings 24 = .ok (.ireturn, 1) := by decide +kernel
theorem dX11_meanings_25 : decode cX11_meanings 25 = .ok (.iload_n 1, 1) := by decide +kernel
theorem dX11_meanings_26 : decode cX11_meanings 26 = .ok (.iload_n 3, 1) := by decide +kernel
theorem dX11_meanings_27 : decode cX11_meanings 27 = .ok (.if_icmp .ne 7, 3) := by decide +kernel
theorem dX11_meanings_30 : decode cX11_meanings 30 = .ok (.sipush (-1002), 3) := by decide +kernel
theorem dX11_meanings_33 : decode cX11_meanings 33 = .ok (.ireturn, 1) := by decide +kernel
theorem dX11_meanings_34 : decode cX11_meanings 34 = .ok (.aload_n 0, 1) := by decide +kernel
theorem dX11_meanings_35 : decode cX11_meanings 35 = .ok (.getfield 26, 3) := by decide +kernel
theorem dX11_meanings_38 : decode cX11_meanings 38 = .ok (.iload_n 1, 1) := by decide +kernel
theorem dX11_meanings_39 : decode cX11_meanings 39 = .ok (.iload_n 2, 1) := by decide +kernel
theorem dX11_meanings_40 : decode cX11_meanings 40 = .ok (.iload_n 3, 1) := by decide +kernel
theorem dX11_meanings_41 : decode cX11_meanings 41 = .ok (.invokevirtual 183, 3) := by decide +kernel
theorem dX11_meanings_44 : decode cX11_meanings 44 = .ok (.lstore 4, 2) := by decide +kernel
theorem dX11_meanings_46 : decode cX11_meanings 46 = .ok (.iconst 0, 1) := by decide +kernel
theorem dX11_meanings_47 : decode cX11_meanings 47 = .ok (.istore 6, 2) := by decide +kernel
theorem dX11_meanings_49 : decode cX11_meanings 49 = .ok (.iconst 0, 1) := by decide +kernel
theorem dX11_meanings_50 : decode cX11_meanings 50 = .ok (.istore 7, 2) := by decide +kernel
theorem dX11_meanings_52 : decode cX11_meanings 52 = .ok (.iload 7, 2) := by decide +kernel
theorem dX11_meanings_54 : decode cX11_meanings 54 = .ok (.bipush 60, 2) := by decide +kernel
theorem dX11_meanings_56 : decode cX11_meanings 56 = .ok (.if_icmp .ge 40, 3) := by decide +kernel
theorem dX11_meanings_59 : decode cX11_meanings 59 = .ok (.lload 4, 2) := by decide +kernel
theorem dX11_meanings_61 : decode cX11_meanings 61 = .ok (.iload 7, 2) := by decide +kernel
theorem dX11_meanings_63 : decode cX11_meanings 63 = .ok (.invokestatic 200, 3) := by decide +kernel
theorem dX11_meanings_66 : decode cX11_meanings 66 = .ok (.ifCond .eq 24, 3) := by decide +kernel
theorem dX11_meanings_69 : decode cX11_meanings 69 = .ok (.lload 4, 2) := by decide +kernel
theorem dX11_meanings_71 : decode cX11_meanings 71 = .ok (.aload_n 0, 1) := by decide +kernel
theorem dX11_meanings_72 : decode cX11_meanings 72 = .ok (.iload_n 1, 1) := by decide +kernel
theorem dX11_meanings_73 : decode cX11_meanings 73 = .ok (.iload_n 2, 1) := by decide +kernel
theorem dX11_meanings_74 : decode cX11_meanings 74 = .ok (.iload_n 3, 1) := by decide +kernel
theorem dX11_meanings_75 : decode cX11_meanings 75 = .ok (.iload 7, 2) := by decide +kernel
theorem dX11_meanings_77 : decode cX11_meanings 77 = .ok (.invokevirtual 208, 3) := by decide +kernel
theorem dX11_meanings_80 : decode cX11_meanings 80 = .ok (.ldc2_w 206, 3) := by decide +kernel
theorem dX11_meanings_83 : decode cX11_meanings 83 = .ok (.lxor, 1) := by decide +kernel
theorem dX11_meanings_84 : decode cX11_meanings 84 = .ok (.land, 1) := by decide +kernel
theorem dX11_meanings_85 : decode cX11_meanings 85 = .ok (.lstore 4, 2) := by decide +kernel
theorem dX11_meanings_87 : decode cX11_meanings 87 = .ok (.iinc 6 1, 3) := by decide +kernel
theorem dX11_meanings_90 : decode cX11_meanings 90 = .ok (.iinc 7 1, 3) := by decide +kernel
theorem dX11_meanings_93 : decode cX11_meanings 93 = .ok (.goto (-41), 3) := by decide +kernel
theorem dX11_meanings_96 : decode cX11_meanings 96 = .ok (.iload 6, 2) := by decide +kernel
theorem dX11_meanings_98 : decode cX11_meanings 98 = .ok (.ireturn, 1) := by decide +kernel
theorem dX11_lopsided_0 : decode cX11_lopsided 0 = .ok (.iload_n 1, 1) := by decide +kernel
theorem dX11_lopsided_1 : decode cX11_lopsided 1 = .ok (.invokestatic 94, 3) := by decide +kernel
theorem dX11_lopsided_4 : decode cX11_lopsided 4 = .ok (.ifCond .eq 10, 3) := by decide +kernel
theorem dX11_lopsided_7 : decode cX11_lopsided 7 = .ok (.iload_n 2, 1) := by decide +kernel
theorem dX11_lopsided_8 : decode cX11_lopsided 8 = .ok (.invokestatic 94, 3) := by decide +kernel
theorem dX11_lopsided_11 : decode cX11_lopsided 11 = .ok (.ifCond .ne 7, 3) := by decide +kernel
theorem dX11_lopsided_14 : decode cX11_lopsided 14 = .ok (.sipush (-1001), 3) := by decide +kernel
theorem dX11_lopsided_17 : decode cX11_lopsided 17 = .ok (.ireturn, 1) := by decide +kernel
theorem dX11_lopsided_18 : decode cX11_lopsided 18 = .ok (.iload_n 1, 1) := by decide +kernel
theorem dX11_lopsided_19 : decode cX11_lopsided 19 = .ok (.iload_n 2, 1) := by decide +kernel
theorem dX11_lopsided_20 : decode cX11_lopsided 20 = .ok (.if_icmp .ne 7, 3) := by decide +kernel
theorem dX11_lopsided_23 : decode cX11_lopsided 23 = .ok (.sipush (-1002), 3) := by decide +kernel
theorem dX11_lopsided_26 : decode cX11_lopsided 26 = .ok (.ireturn, 1) := by decide +kernel
theorem dX11_lopsided_27 : decode cX11_lopsided 27 = .ok (.iconst 0, 1) := by decide +kernel
theorem dX11_lopsided_28 : decode cX11_lopsided 28 = .ok (.istore_n 3, 1) := by decide +kernel
theorem dX11_lopsided_29 : decode cX11_lopsided 29 = .ok (.iconst 0, 1) := by decide +kernel
theorem dX11_lopsided_30 : decode cX11_lopsided 30 = .ok (.istore 4, 2) := by decide +kernel
theorem dX11_lopsided_32 : decode cX11_lopsided 32 = .ok (.iload 4, 2) := by decide +kernel
theorem dX11_lopsided_34 : decode cX11_lopsided 34 = .ok (.bipush 60, 2) := by decide +kernel
theorem dX11_lopsided_36 : decode cX11_lopsided 36 = .ok (.if_icmp .ge 20, 3) := by decide +kernel
theorem dX11_lopsided_39 : decode cX11_lopsided 39 = .ok (.iload_n 3, 1) := by decide +kernel
theorem dX11_lopsided_40 : decode cX11_lopsided 40 = .ok (.aload_n 0, 1) := by decide +kernel
theorem dX11_lopsided_41 : decode cX11_lopsided 41 = .ok (.iload_n 1, 1) := by decide +kernel
theorem dX11_lopsided_42 : decode cX11_lopsided 42 = .ok (.iload 4, 2) := by decide +kernel
theorem dX11_lopsided_44 : decode cX11_lopsided 44 = .ok (.iload_n 2, 1) := by decide +kernel
theorem dX11_lopsided_45 : decode cX11_lopsided 45 = .ok (.invokevirtual 212, 3) := by decide +kernel
theorem dX11_lopsided_48 : decode cX11_lopsided 48 = .ok (.iadd, 1) := by decide +kernel
theorem dX11_lopsided_49 : decode cX11_lopsided 49 = .ok (.istore_n 3, 1) := by decide +kernel
theorem dX11_lopsided_50 : decode cX11_lopsided 50 = .ok (.iinc 4 1, 3) := by decide +kernel
theorem dX11_lopsided_53 : decode cX11_lopsided 53 = .ok (.goto (-21), 3) := by decide +kernel
theorem dX11_lopsided_56 : decode cX11_lopsided 56 = .ok (.iload_n 3, 1) := by decide +kernel
theorem dX11_lopsided_57 : decode cX11_lopsided 57 = .ok (.ireturn, 1) := by decide +kernel
theorem dX11_lopsidedOf_0 : decode cX11_lopsidedOf 0 = .ok (.aload_n 0, 1) := by decide +kernel
theorem dX11_lopsidedOf_1 : decode cX11_lopsidedOf 1 = .ok (.getfield 26, 3) := by decide +kernel
theorem dX11_lopsidedOf_4 : decode cX11_lopsidedOf 4 = .ok (.iload_n 1, 1) := by decide +kernel
theorem dX11_lopsidedOf_5 : decode cX11_lopsidedOf 5 = .ok (.iload_n 2, 1) := by decide +kernel
theorem dX11_lopsidedOf_6 : decode cX11_lopsidedOf 6 = .ok (.iload_n 3, 1) := by decide +kernel
theorem dX11_lopsidedOf_7 : decode cX11_lopsidedOf 7 = .ok (.invokevirtual 183, 3) := by decide +kernel
theorem dX11_lopsidedOf_10 : decode cX11_lopsidedOf 10 = .ok (.lstore 4, 2) := by decide +kernel
theorem dX11_lopsidedOf_12 : decode cX11_lopsidedOf 12 = .ok (.iconst 0, 1) := by decide +kernel
theorem dX11_lopsidedOf_13 : decode cX11_lopsidedOf 13 = .ok (.istore 6, 2) := by decide +kernel
theorem dX11_lopsidedOf_15 : decode cX11_lopsidedOf 15 = .ok (.iconst 0, 1) := by decide +kernel
theorem dX11_lopsidedOf_16 : decode cX11_lopsidedOf 16 = .ok (.istore 7, 2) := by decide +kernel
theorem dX11_lopsidedOf_18 : decode cX11_lopsidedOf 18 = .ok (.iload 7, 2) := by decide +kernel
theorem dX11_lopsidedOf_20 : decode cX11_lopsidedOf 20 = .ok (.bipush 60, 2) := by decide +kernel
theorem dX11_lopsidedOf_22 : decode cX11_lopsidedOf 22 = .ok (.if_icmp .ge 74, 3) := by decide +kernel
theorem dX11_lopsidedOf_25 : decode cX11_lopsidedOf 25 = .ok (.lload 4, 2) := by decide +kernel
theorem dX11_lopsidedOf_27 : decode cX11_lopsidedOf 27 = .ok (.lconst 0, 1) := by decide +kernel
theorem dX11_lopsidedOf_28 : decode cX11_lopsidedOf 28 = .ok (.lcmp, 1) := by decide +kernel
theorem dX11_lopsidedOf_29 : decode cX11_lopsidedOf 29 = .ok (.ifCond .eq 67, 3) := by decide +kernel
theorem dX11_lopsidedOf_32 : decode cX11_lopsidedOf 32 = .ok (.lload 4, 2) := by decide +kernel
theorem dX11_lopsidedOf_34 : decode cX11_lopsidedOf 34 = .ok (.iload 7, 2) := by decide +kernel
theorem dX11_lopsidedOf_36 : decode cX11_lopsidedOf 36 = .ok (.invokestatic 200, 3) := by decide +kernel
theorem dX11_lopsidedOf_39 : decode cX11_lopsidedOf 39 = .ok (.ifCond .eq 22, 3) := by decide +kernel
theorem dX11_lopsidedOf_42 : decode cX11_lopsidedOf 42 = .ok (.aload_n 0, 1) := by decide +kernel
theorem dX11_lopsidedOf_43 : decode cX11_lopsidedOf 43 = .ok (.getfield 26, 3) := by decide +kernel
theorem dX11_lopsidedOf_46 : decode cX11_lopsidedOf 46 = .ok (.iload_n 3, 1) := by decide +kernel
theorem dX11_lopsidedOf_47 : decode cX11_lopsidedOf 47 = .ok (.iload 7, 2) := by decide +kernel
theorem dX11_lopsidedOf_49 : decode cX11_lopsidedOf 49 = .ok (.iload_n 1, 1) := by decide +kernel
theorem dX11_lopsidedOf_50 : decode cX11_lopsidedOf 50 = .ok (.invokevirtual 165, 3) := by decide +kernel
theorem dX11_lopsidedOf_53 : decode cX11_lopsidedOf 53 = .ok (.iconst (-1), 1) := by decide +kernel
theorem dX11_lopsidedOf_54 : decode cX11_lopsidedOf 54 = .ok (.if_icmp .eq 7, 3) := by decide +kernel
theorem dX11_lopsidedOf_57 : decode cX11_lopsidedOf 57 = .ok (.iconst 1, 1) := by decide +kernel
theorem dX11_lopsidedOf_58 : decode cX11_lopsidedOf 58 = .ok (.goto 4, 3) := by decide +kernel
theorem dX11_lopsidedOf_61 : decode cX11_lopsidedOf 61 = .ok (.iconst 0, 1) := by decide +kernel
theorem dX11_lopsidedOf_62 : decode cX11_lopsidedOf 62 = .ok (.istore 8, 2) := by decide +kernel
theorem dX11_lopsidedOf_64 : decode cX11_lopsidedOf 64 = .ok (.iload 8, 2) := by decide +kernel
theorem dX11_lopsidedOf_66 : decode cX11_lopsidedOf 66 = .ok (.ifCond .eq 24, 3) := by decide +kernel
theorem dX11_lopsidedOf_69 : decode cX11_lopsidedOf 69 = .ok (.aload_n 0, 1) := by decide +kernel
theorem dX11_lopsidedOf_70 : decode cX11_lopsidedOf 70 = .ok (.getfield 26, 3) := by decide +kernel
theorem dX11_lopsidedOf_73 : decode cX11_lopsidedOf 73 = .ok (.iload_n 3, 1) := by decide +kernel
theorem dX11_lopsidedOf_74 : decode cX11_lopsidedOf 74 = .ok (.iload 7, 2) := by decide +kernel
theorem dX11_lopsidedOf_76 : decode cX11_lopsidedOf 76 = .ok (.iload_n 1, 1) := by decide +kernel
theorem dX11_lopsidedOf_77 : decode cX11_lopsidedOf 77 = .ok (.invokevirtual 183, 3) := by decide +kernel
theorem dX11_lopsidedOf_80 : decode cX11_lopsidedOf 80 = .ok (.iload_n 2, 1) := by decide +kernel
theorem dX11_lopsidedOf_81 : decode cX11_lopsidedOf 81 = .ok (.invokestatic 200, 3) := by decide +kernel
theorem dX11_lopsidedOf_84 : decode cX11_lopsidedOf 84 = .ok (.ifCond .ne 6, 3) := by decide +kernel
theorem dX11_lopsidedOf_87 : decode cX11_lopsidedOf 87 = .ok (.iinc 6 1, 3) := by decide +kernel
theorem dX11_lopsidedOf_90 : decode cX11_lopsidedOf 90 = .ok (.iinc 7 1, 3) := by decide +kernel
theorem dX11_lopsidedOf_93 : decode cX11_lopsidedOf 93 = .ok (.goto (-75), 3) := by decide +kernel
theorem dX11_lopsidedOf_96 : decode cX11_lopsidedOf 96 = .ok (.iload 6, 2) := by decide +kernel
theorem dX11_lopsidedOf_98 : decode cX11_lopsidedOf 98 = .ok (.ireturn, 1) := by decide +kernel
theorem dX11_thereAndBack_0 : decode cX11_thereAndBack 0 = .ok (.aload_n 0, 1) := by decide +kernel
theorem dX11_thereAndBack_1 : decode cX11_thereAndBack 1 = .ok (.getfield 26, 3) := by decide +kernel
theorem dX11_thereAndBack_4 : decode cX11_thereAndBack 4 = .ok (.iload_n 3, 1) := by decide +kernel
theorem dX11_thereAndBack_5 : decode cX11_thereAndBack 5 = .ok (.aload_n 0, 1) := by decide +kernel
theorem dX11_thereAndBack_6 : decode cX11_thereAndBack 6 = .ok (.getfield 26, 3) := by decide +kernel
theorem dX11_thereAndBack_9 : decode cX11_thereAndBack 9 = .ok (.iload_n 1, 1) := by decide +kernel
theorem dX11_thereAndBack_10 : decode cX11_thereAndBack 10 = .ok (.iload_n 2, 1) := by decide +kernel
theorem dX11_thereAndBack_11 : decode cX11_thereAndBack 11 = .ok (.iload_n 3, 1) := by decide +kernel
theorem dX11_thereAndBack_12 : decode cX11_thereAndBack 12 = .ok (.invokevirtual 183, 3) := by decide +kernel
theorem dX11_thereAndBack_15 : decode cX11_thereAndBack 15 = .ok (.iload_n 1, 1) := by decide +kernel
theorem dX11_thereAndBack_16 : decode cX11_thereAndBack 16 = .ok (.invokevirtual 215, 3) := by decide +kernel
theorem dX11_thereAndBack_19 : decode cX11_thereAndBack 19 = .ok (.lreturn, 1) := by decide +kernel
theorem dX11_groupOf_0 : decode cX11_groupOf 0 = .ok (.aload_n 0, 1) := by decide +kernel
theorem dX11_groupOf_1 : decode cX11_groupOf 1 = .ok (.getfield 26, 3) := by decide +kernel
theorem dX11_groupOf_4 : decode cX11_groupOf 4 = .ok (.iload_n 1, 1) := by decide +kernel
theorem dX11_groupOf_5 : decode cX11_groupOf 5 = .ok (.iload_n 2, 1) := by decide +kernel
theorem dX11_groupOf_6 : decode cX11_groupOf 6 = .ok (.iload_n 3, 1) := by decide +kernel
theorem dX11_groupOf_7 : decode cX11_groupOf 7 = .ok (.invokevirtual 183, 3) := by decide +kernel
theorem dX11_groupOf_10 : decode cX11_groupOf 10 = .ok (.lstore 5, 2) := by decide +kernel
theorem dX11_groupOf_12 : decode cX11_groupOf 12 = .ok (.iload 4, 2) := by decide +kernel
theorem dX11_groupOf_14 : decode cX11_groupOf 14 = .ok (.invokestatic 189, 3) := by decide +kernel
theorem dX11_groupOf_17 : decode cX11_groupOf 17 = .ok (.lstore 7, 2) := by decide +kernel
theorem dX11_groupOf_19 : decode cX11_groupOf 19 = .ok (.iconst 1, 1) := by decide +kernel
theorem dX11_groupOf_20 : decode cX11_groupOf 20 = .ok (.istore 9, 2) := by decide +kernel
theorem dX11_groupOf_22 : decode cX11_groupOf 22 = .ok (.iconst 0, 1) := by decide +kernel
theorem dX11_groupOf_23 : decode cX11_groupOf 23 = .ok (.istore 10, 2) := by decide +kernel
theorem dX11_groupOf_25 : decode cX11_groupOf 25 = .ok (.iload 10, 2) := by decide +kernel
theorem dX11_groupOf_27 : decode cX11_groupOf 27 = .ok (.bipush 60, 2) := by decide +kernel
theorem dX11_groupOf_29 : decode cX11_groupOf 29 = .ok (.if_icmp .ge 97, 3) := by decide +kernel
theorem dX11_groupOf_32 : decode cX11_groupOf 32 = .ok (.iload 9, 2) := by decide +kernel
theorem dX11_groupOf_34 : decode cX11_groupOf 34 = .ok (.ifCond .eq 92, 3) := by decide +kernel
theorem dX11_groupOf_37 : decode cX11_groupOf 37 = .ok (.lload 7, 2) := by decide +kernel
theorem dX11_groupOf_39 : decode cX11_groupOf 39 = .ok (.aload_n 0, 1) := by decide +kernel
theorem dX11_groupOf_40 : decode cX11_groupOf 40 = .ok (.getfield 26, 3) := by decide +kernel
theorem dX11_groupOf_43 : decode cX11_groupOf 43 = .ok (.iload_n 1, 1) := by decide +kernel
theorem dX11_groupOf_44 : decode cX11_groupOf 44 = .ok (.iload_n 2, 1) := by decide +kernel
theorem dX11_groupOf_45 : decode cX11_groupOf 45 = .ok (.iload_n 3, 1) := by decide +kernel
theorem dX11_groupOf_46 : decode cX11_groupOf 46 = .ok (.lload 7, 2) := by decide +kernel
theorem dX11_groupOf_48 : decode cX11_groupOf 48 = .ok (.invokevirtual 219, 3) := by decide +kernel
theorem dX11_groupOf_51 : decode cX11_groupOf 51 = .ok (.lor, 1) := by decide +kernel
theorem dX11_groupOf_52 : decode cX11_groupOf 52 = .ok (.lstore 11, 2) := by decide +kernel
theorem dX11_groupOf_54 : decode cX11_groupOf 54 = .ok (.aload_n 0, 1) := by decide +kernel
theorem dX11_groupOf_55 : decode cX11_groupOf 55 = .ok (.getfield 26, 3) := by decide +kernel
theorem dX11_groupOf_58 : decode cX11_groupOf 58 = .ok (.iload_n 3, 1) := by decide +kernel
theorem dX11_groupOf_59 : decode cX11_groupOf 59 = .ok (.lload 7, 2) := by decide +kernel
theorem dX11_groupOf_61 : decode cX11_groupOf 61 = .ok (.iload_n 1, 1) := by decide +kernel
theorem dX11_groupOf_62 : decode cX11_groupOf 62 = .ok (.invokevirtual 215, 3) := by decide +kernel
theorem dX11_groupOf_65 : decode cX11_groupOf 65 = .ok (.iload_n 2, 1) := by decide +kernel
theorem dX11_groupOf_66 : decode cX11_groupOf 66 = .ok (.invokestatic 189, 3) := by decide +kernel
theorem dX11_groupOf_69 : decode cX11_groupOf 69 = .ok (.ldc2_w 206, 3) := by decide +kernel
theorem dX11_groupOf_72 : decode cX11_groupOf 72 = .ok (.lxor, 1) := by decide +kernel
theorem dX11_groupOf_73 : decode cX11_groupOf 73 = .ok (.land, 1) := by decide +kernel
theorem dX11_groupOf_74 : decode cX11_groupOf 74 = .ok (.lstore 13, 2) := by decide +kernel
theorem dX11_groupOf_76 : decode cX11_groupOf 76 = .ok (.lload 11, 2) := by decide +kernel
theorem dX11_groupOf_78 : decode cX11_groupOf 78 = .ok (.aload_n 0, 1) := by decide +kernel
theorem dX11_groupOf_79 : decode cX11_groupOf 79 = .ok (.getfield 26, 3) := by decide +kernel
theorem dX11_groupOf_82 : decode cX11_groupOf 82 = .ok (.iload_n 3, 1) := by decide +kernel
theorem dX11_groupOf_83 : decode cX11_groupOf 83 = .ok (.lload 5, 2) := by decide +kernel
theorem dX11_groupOf_85 : decode cX11_groupOf 85 = .ok (.lload 11, 2) := by decide +kernel
theorem dX11_groupOf_87 : decode cX11_groupOf 87 = .ok (.ldc2_w 206, 3) := by decide +kernel
theorem dX11_groupOf_90 : decode cX11_groupOf 90 = .ok (.lxor, 1) := by decide +kernel
theorem dX11_groupOf_91 : decode cX11_groupOf 91 = .ok (.land, 1) := by decide +kernel
theorem dX11_groupOf_92 : decode cX11_groupOf 92 = .ok (.iload_n 1, 1) := by decide +kernel
theorem dX11_groupOf_93 : decode cX11_groupOf 93 = .ok (.lload 13, 2) := by decide +kernel
theorem dX11_groupOf_95 : decode cX11_groupOf 95 = .ok (.invokevirtual 193, 3) := by decide +kernel
theorem dX11_groupOf_98 : decode cX11_groupOf 98 = .ok (.lor, 1) := by decide +kernel
theorem dX11_groupOf_99 : decode cX11_groupOf 99 = .ok (.lstore 11, 2) := by decide +kernel
theorem dX11_groupOf_101 : decode cX11_groupOf 101 = .ok (.lload 11, 2) := by decide +kernel
theorem dX11_groupOf_103 : decode cX11_groupOf 103 = .ok (.lload 7, 2) := by decide +kernel
theorem dX11_groupOf_105 : decode cX11_groupOf 105 = .ok (.lcmp, 1) := by decide +kernel
theorem dX11_groupOf_106 : decode cX11_groupOf 106 = .ok (.ifCond .eq 7, 3) := by decide +kernel
theorem dX11_groupOf_109 : decode cX11_groupOf 109 = .ok (.iconst 1, 1) := by decide +kernel
theorem dX11_groupOf_110 : decode cX11_groupOf 110 = .ok (.goto 4, 3) := by decide +kernel
theorem dX11_groupOf_113 : decode cX11_groupOf 113 = .ok (.iconst 0, 1) := by decide +kernel
theorem dX11_groupOf_114 : decode cX11_groupOf 114 = .ok (.istore 9, 2) := by decide +kernel
theorem dX11_groupOf_116 : decode cX11_groupOf 116 = .ok (.lload 11, 2) := by decide +kernel
theorem dX11_groupOf_118 : decode cX11_groupOf 118 = .ok (.lstore 7, 2) := by decide +kernel
theorem dX11_groupOf_120 : decode cX11_groupOf 120 = .ok (.iinc 10 1, 3) := by decide +kernel
theorem dX11_groupOf_123 : decode cX11_groupOf 123 = .ok (.goto (-98), 3) := by decide +kernel
theorem dX11_groupOf_126 : decode cX11_groupOf 126 = .ok (.lload 7, 2) := by decide +kernel
theorem dX11_groupOf_128 : decode cX11_groupOf 128 = .ok (.lreturn, 1) := by decide +kernel
theorem dX11_weight_0 : decode cX11_weight 0 = .ok (.iload_n 1, 1) := by decide +kernel
theorem dX11_weight_1 : decode cX11_weight 1 = .ok (.invokestatic 94, 3) := by decide +kernel
theorem dX11_weight_4 : decode cX11_weight 4 = .ok (.ifCond .eq 33, 3) := by decide +kernel
theorem dX11_weight_7 : decode cX11_weight 7 = .ok (.iload_n 2, 1) := by decide +kernel
theorem dX11_weight_8 : decode cX11_weight 8 = .ok (.invokestatic 162, 3) := by decide +kernel
theorem dX11_weight_11 : decode cX11_weight 11 = .ok (.ifCond .eq 26, 3) := by decide +kernel
theorem dX11_weight_14 : decode cX11_weight 14 = .ok (.iload_n 3, 1) := by decide +kernel
theorem dX11_weight_15 : decode cX11_weight 15 = .ok (.invokestatic 94, 3) := by decide +kernel
theorem dX11_weight_18 : decode cX11_weight 18 = .ok (.ifCond .eq 19, 3) := by decide +kernel
theorem dX11_weight_21 : decode cX11_weight 21 = .ok (.iload 4, 2) := by decide +kernel
theorem dX11_weight_23 : decode cX11_weight 23 = .ok (.invokestatic 94, 3) := by decide +kernel
theorem dX11_weight_26 : decode cX11_weight 26 = .ok (.ifCond .eq 11, 3) := by decide +kernel
theorem dX11_weight_29 : decode cX11_weight 29 = .ok (.iload 5, 2) := by decide +kernel
theorem dX11_weight_31 : decode cX11_weight 31 = .ok (.invokestatic 162, 3) := by decide +kernel
theorem dX11_weight_34 : decode cX11_weight 34 = .ok (.ifCond .ne 7, 3) := by decide +kernel
theorem dX11_weight_37 : decode cX11_weight 37 = .ok (.sipush (-1001), 3) := by decide +kernel
theorem dX11_weight_40 : decode cX11_weight 40 = .ok (.ireturn, 1) := by decide +kernel
theorem dX11_weight_41 : decode cX11_weight 41 = .ok (.iload_n 1, 1) := by decide +kernel
theorem dX11_weight_42 : decode cX11_weight 42 = .ok (.iload_n 3, 1) := by decide +kernel
theorem dX11_weight_43 : decode cX11_weight 43 = .ok (.iload 4, 2) := by decide +kernel
theorem dX11_weight_45 : decode cX11_weight 45 = .ok (.invokestatic 223, 3) := by decide +kernel
theorem dX11_weight_48 : decode cX11_weight 48 = .ok (.ifCond .ne 7, 3) := by decide +kernel
theorem dX11_weight_51 : decode cX11_weight 51 = .ok (.sipush (-1002), 3) := by decide +kernel
theorem dX11_weight_54 : decode cX11_weight 54 = .ok (.ireturn, 1) := by decide +kernel
theorem dX11_weight_55 : decode cX11_weight 55 = .ok (.aload_n 0, 1) := by decide +kernel
theorem dX11_weight_56 : decode cX11_weight 56 = .ok (.getfield 33, 3) := by decide +kernel
theorem dX11_weight_59 : decode cX11_weight 59 = .ok (.aload_n 0, 1) := by decide +kernel
theorem dX11_weight_60 : decode cX11_weight 60 = .ok (.getfield 26, 3) := by decide +kernel
theorem dX11_weight_63 : decode cX11_weight 63 = .ok (.iload_n 1, 1) := by decide +kernel
theorem dX11_weight_64 : decode cX11_weight 64 = .ok (.iload_n 2, 1) := by decide +kernel
theorem dX11_weight_65 : decode cX11_weight 65 = .ok (.iload_n 3, 1) := by decide +kernel
theorem dX11_weight_66 : decode cX11_weight 66 = .ok (.iload 4, 2) := by decide +kernel
theorem dX11_weight_68 : decode cX11_weight 68 = .ok (.iload 5, 2) := by decide +kernel
theorem dX11_weight_70 : decode cX11_weight 70 = .ok (.invokevirtual 227, 3) := by decide +kernel
theorem dX11_weight_73 : decode cX11_weight 73 = .ok (.ireturn, 1) := by decide +kernel
theorem dX11_sure_0 : decode cX11_sure 0 = .ok (.iload_n 1, 1) := by decide +kernel
theorem dX11_sure_1 : decode cX11_sure 1 = .ok (.invokestatic 94, 3) := by decide +kernel
theorem dX11_sure_4 : decode cX11_sure 4 = .ok (.ifCond .eq 33, 3) := by decide +kernel
theorem dX11_sure_7 : decode cX11_sure 7 = .ok (.iload_n 2, 1) := by decide +kernel
theorem dX11_sure_8 : decode cX11_sure 8 = .ok (.invokestatic 162, 3) := by decide +kernel
theorem dX11_sure_11 : decode cX11_sure 11 = .ok (.ifCond .eq 26, 3) := by decide +kernel
theorem dX11_sure_14 : decode cX11_sure 14 = .ok (.iload_n 3, 1) := by decide +kernel
theorem dX11_sure_15 : decode cX11_sure 15 = .ok (.invokestatic 94, 3) := by decide +kernel
theorem dX11_sure_18 : decode cX11_sure 18 = .ok (.ifCond .eq 19, 3) := by decide +kernel
theorem dX11_sure_21 : decode cX11_sure 21 = .ok (.iload 4, 2) := by decide +kernel
theorem dX11_sure_23 : decode cX11_sure 23 = .ok (.invokestatic 94, 3) := by decide +kernel
theorem dX11_sure_26 : decode cX11_sure 26 = .ok (.ifCond .eq 11, 3) := by decide +kernel
theorem dX11_sure_29 : decode cX11_sure 29 = .ok (.iload 5, 2) := by decide +kernel
theorem dX11_sure_31 : decode cX11_sure 31 = .ok (.invokestatic 162, 3) := by decide +kernel
theorem dX11_sure_34 : decode cX11_sure 34 = .ok (.ifCond .ne 7, 3) := by decide +kernel
theorem dX11_sure_37 : decode cX11_sure 37 = .ok (.sipush (-1001), 3) := by decide +kernel
theorem dX11_sure_40 : decode cX11_sure 40 = .ok (.ireturn, 1) := by decide +kernel
theorem dX11_sure_41 : decode cX11_sure 41 = .ok (.iload_n 1, 1) := by decide +kernel
theorem dX11_sure_42 : decode cX11_sure 42 = .ok (.iload_n 3, 1) := by decide +kernel
theorem dX11_sure_43 : decode cX11_sure 43 = .ok (.iload 4, 2) := by decide +kernel
theorem dX11_sure_45 : decode cX11_sure 45 = .ok (.invokestatic 223, 3) := by decide +kernel
theorem dX11_sure_48 : decode cX11_sure 48 = .ok (.ifCond .eq 14, 3) := by decide +kernel
theorem dX11_sure_51 : decode cX11_sure 51 = .ok (.iload 6, 2) := by decide +kernel
theorem dX11_sure_53 : decode cX11_sure 53 = .ok (.ifCond .lt 9, 3) := by decide +kernel
theorem dX11_sure_56 : decode cX11_sure 56 = .ok (.iload 6, 2) := by decide +kernel
theorem dX11_sure_58 : decode cX11_sure 58 = .ok (.iconst 1, 1) := by decide +kernel
theorem dX11_sure_59 : decode cX11_sure 59 = .ok (.if_icmp .le 7, 3) := by decide +kernel
theorem dX11_sure_62 : decode cX11_sure 62 = .ok (.sipush (-1002), 3) := by decide +kernel
theorem dX11_sure_65 : decode cX11_sure 65 = .ok (.ireturn, 1) := by decide +kernel
theorem dX11_sure_66 : decode cX11_sure 66 = .ok (.aload_n 0, 1) := by decide +kernel
theorem dX11_sure_67 : decode cX11_sure 67 = .ok (.getfield 33, 3) := by decide +kernel
theorem dX11_sure_70 : decode cX11_sure 70 = .ok (.aload_n 0, 1) := by decide +kernel
theorem dX11_sure_71 : decode cX11_sure 71 = .ok (.getfield 26, 3) := by decide +kernel
theorem dX11_sure_74 : decode cX11_sure 74 = .ok (.iload_n 1, 1) := by decide +kernel
theorem dX11_sure_75 : decode cX11_sure 75 = .ok (.iload_n 2, 1) := by decide +kernel
theorem dX11_sure_76 : decode cX11_sure 76 = .ok (.iload_n 3, 1) := by decide +kernel
theorem dX11_sure_77 : decode cX11_sure 77 = .ok (.iload 4, 2) := by decide +kernel
theorem dX11_sure_79 : decode cX11_sure 79 = .ok (.iload 5, 2) := by decide +kernel
theorem dX11_sure_81 : decode cX11_sure 81 = .ok (.invokevirtual 231, 3) := by decide +kernel
theorem dX11_sure_84 : decode cX11_sure 84 = .ok (.aload_n 0, 1) := by decide +kernel
theorem dX11_sure_85 : decode cX11_sure 85 = .ok (.getfield 33, 3) := by decide +kernel
theorem dX11_sure_88 : decode cX11_sure 88 = .ok (.getfield 235, 3) := by decide +kernel
theorem dX11_sure_91 : decode cX11_sure 91 = .ok (.aload_n 0, 1) := by decide +kernel
theorem dX11_sure_92 : decode cX11_sure 92 = .ok (.getfield 33, 3) := by decide +kernel
theorem dX11_sure_95 : decode cX11_sure 95 = .ok (.getfield 238, 3) := by decide +kernel
theorem dX11_sure_98 : decode cX11_sure 98 = .ok (.invokestatic 241, 3) := by decide +kernel
theorem dX11_sure_101 : decode cX11_sure 101 = .ok (.istore 7, 2) := by decide +kernel
theorem dX11_sure_103 : decode cX11_sure 103 = .ok (.iload 6, 2) := by decide +kernel
theorem dX11_sure_105 : decode cX11_sure 105 = .ok (.ifCond .ne 13, 3) := by decide +kernel
theorem dX11_sure_108 : decode cX11_sure 108 = .ok (.aload_n 0, 1) := by decide +kernel
theorem dX11_sure_109 : decode cX11_sure 109 = .ok (.getfield 33, 3) := by decide +kernel
theorem dX11_sure_112 : decode cX11_sure 112 = .ok (.getfield 235, 3) := by decide +kernel
theorem dX11_sure_115 : decode cX11_sure 115 = .ok (.goto 10, 3) := by decide +kernel
theorem dX11_sure_118 : decode cX11_sure 118 = .ok (.aload_n 0, 1) := by decide +kernel
theorem dX11_sure_119 : decode cX11_sure 119 = .ok (.getfield 33, 3) := by decide +kernel
theorem dX11_sure_122 : decode cX11_sure 122 = .ok (.getfield 238, 3) := by decide +kernel
theorem dX11_sure_125 : decode cX11_sure 125 = .ok (.istore 8, 2) := by decide +kernel
theorem dX11_sure_127 : decode cX11_sure 127 = .ok (.iload 7, 2) := by decide +kernel
theorem dX11_sure_129 : decode cX11_sure 129 = .ok (.iconst 1, 1) := by decide +kernel
theorem dX11_sure_130 : decode cX11_sure 130 = .ok (.if_icmp .le 11, 3) := by decide +kernel
theorem dX11_sure_133 : decode cX11_sure 133 = .ok (.iload 8, 2) := by decide +kernel
theorem dX11_sure_135 : decode cX11_sure 135 = .ok (.iload 7, 2) := by decide +kernel
theorem dX11_sure_137 : decode cX11_sure 137 = .ok (.idiv, 1) := by decide +kernel
theorem dX11_sure_138 : decode cX11_sure 138 = .ok (.goto 5, 3) := by decide +kernel
theorem dX11_sure_141 : decode cX11_sure 141 = .ok (.iload 8, 2) := by decide +kernel
theorem dX11_sure_143 : decode cX11_sure 143 = .ok (.ireturn, 1) := by decide +kernel
theorem dX11_best_0 : decode cX11_best 0 = .ok (.iload_n 1, 1) := by decide +kernel
theorem dX11_best_1 : decode cX11_best 1 = .ok (.invokestatic 94, 3) := by decide +kernel
theorem dX11_best_4 : decode cX11_best 4 = .ok (.ifCond .eq 25, 3) := by decide +kernel
theorem dX11_best_7 : decode cX11_best 7 = .ok (.iload_n 2, 1) := by decide +kernel
theorem dX11_best_8 : decode cX11_best 8 = .ok (.invokestatic 162, 3) := by decide +kernel
theorem dX11_best_11 : decode cX11_best 11 = .ok (.ifCond .eq 18, 3) := by decide +kernel
theorem dX11_best_14 : decode cX11_best 14 = .ok (.iload_n 3, 1) := by decide +kernel
theorem dX11_best_15 : decode cX11_best 15 = .ok (.invokestatic 94, 3) := by decide +kernel
theorem dX11_best_18 : decode cX11_best 18 = .ok (.ifCond .eq 11, 3) := by decide +kernel
theorem dX11_best_21 : decode cX11_best 21 = .ok (.iload 4, 2) := by decide +kernel
theorem dX11_best_23 : decode cX11_best 23 = .ok (.invokestatic 94, 3) := by decide +kernel
theorem dX11_best_26 : decode cX11_best 26 = .ok (.ifCond .ne 7, 3) := by decide +kernel
theorem dX11_best_29 : decode cX11_best 29 = .ok (.sipush (-1001), 3) := by decide +kernel
theorem dX11_best_32 : decode cX11_best 32 = .ok (.ireturn, 1) := by decide +kernel
theorem dX11_best_33 : decode cX11_best 33 = .ok (.iload_n 1, 1) := by decide +kernel
theorem dX11_best_34 : decode cX11_best 34 = .ok (.iload_n 3, 1) := by decide +kernel
theorem dX11_best_35 : decode cX11_best 35 = .ok (.iload 4, 2) := by decide +kernel
theorem dX11_best_37 : decode cX11_best 37 = .ok (.invokestatic 223, 3) := by decide +kernel
theorem dX11_best_40 : decode cX11_best 40 = .ok (.ifCond .ne 7, 3) := by decide +kernel
theorem dX11_best_43 : decode cX11_best 43 = .ok (.sipush (-1002), 3) := by decide +kernel
theorem dX11_best_46 : decode cX11_best 46 = .ok (.ireturn, 1) := by decide +kernel
theorem dX11_best_47 : decode cX11_best 47 = .ok (.aload_n 0, 1) := by decide +kernel
theorem dX11_best_48 : decode cX11_best 48 = .ok (.getfield 33, 3) := by decide +kernel
theorem dX11_best_51 : decode cX11_best 51 = .ok (.invokevirtual 244, 3) := by decide +kernel
theorem dX11_best_54 : decode cX11_best 54 = .ok (.aload_n 0, 1) := by decide +kernel
theorem dX11_best_55 : decode cX11_best 55 = .ok (.getfield 33, 3) := by decide +kernel
theorem dX11_best_58 : decode cX11_best 58 = .ok (.aload_n 0, 1) := by decide +kernel
theorem dX11_best_59 : decode cX11_best 59 = .ok (.getfield 26, 3) := by decide +kernel
theorem dX11_best_62 : decode cX11_best 62 = .ok (.iload_n 1, 1) := by decide +kernel
theorem dX11_best_63 : decode cX11_best 63 = .ok (.iload_n 2, 1) := by decide +kernel
theorem dX11_best_64 : decode cX11_best 64 = .ok (.iload_n 3, 1) := by decide +kernel
theorem dX11_best_65 : decode cX11_best 65 = .ok (.iload 4, 2) := by decide +kernel
theorem dX11_best_67 : decode cX11_best 67 = .ok (.invokevirtual 247, 3) := by decide +kernel
theorem dX11_best_70 : decode cX11_best 70 = .ok (.aload_n 0, 1) := by decide +kernel
theorem dX11_best_71 : decode cX11_best 71 = .ok (.getfield 33, 3) := by decide +kernel
theorem dX11_best_74 : decode cX11_best 74 = .ok (.getfield 251, 3) := by decide +kernel
theorem dX11_best_77 : decode cX11_best 77 = .ok (.ireturn, 1) := by decide +kernel
theorem dX11_bridge_0 : decode cX11_bridge 0 = .ok (.iload_n 1, 1) := by decide +kernel
theorem dX11_bridge_1 : decode cX11_bridge 1 = .ok (.invokestatic 94, 3) := by decide +kernel
theorem dX11_bridge_4 : decode cX11_bridge 4 = .ok (.ifCond .eq 17, 3) := by decide +kernel
theorem dX11_bridge_7 : decode cX11_bridge 7 = .ok (.iload_n 2, 1) := by decide +kernel
theorem dX11_bridge_8 : decode cX11_bridge 8 = .ok (.invokestatic 162, 3) := by decide +kernel
theorem dX11_bridge_11 : decode cX11_bridge 11 = .ok (.ifCond .eq 10, 3) := by decide +kernel
theorem dX11_bridge_14 : decode cX11_bridge 14 = .ok (.iload_n 3, 1) := by decide +kernel
theorem dX11_bridge_15 : decode cX11_bridge 15 = .ok (.invokestatic 94, 3) := by decide +kernel
theorem dX11_bridge_18 : decode cX11_bridge 18 = .ok (.ifCond .ne 7, 3) := by decide +kernel
theorem dX11_bridge_21 : decode cX11_bridge 21 = .ok (.sipush (-1001), 3) := by decide +kernel
theorem dX11_bridge_24 : decode cX11_bridge 24 = .ok (.ireturn, 1) := by decide +kernel
theorem dX11_bridge_25 : decode cX11_bridge 25 = .ok (.iload_n 1, 1) := by decide +kernel
theorem dX11_bridge_26 : decode cX11_bridge 26 = .ok (.iload_n 3, 1) := by decide +kernel
theorem dX11_bridge_27 : decode cX11_bridge 27 = .ok (.if_icmp .ne 7, 3) := by decide +kernel
theorem dX11_bridge_30 : decode cX11_bridge 30 = .ok (.sipush (-1002), 3) := by decide +kernel
theorem dX11_bridge_33 : decode cX11_bridge 33 = .ok (.ireturn, 1) := by decide +kernel
theorem dX11_bridge_34 : decode cX11_bridge 34 = .ok (.aload_n 0, 1) := by decide +kernel
theorem dX11_bridge_35 : decode cX11_bridge 35 = .ok (.getfield 33, 3) := by decide +kernel
theorem dX11_bridge_38 : decode cX11_bridge 38 = .ok (.invokevirtual 244, 3) := by decide +kernel
theorem dX11_bridge_41 : decode cX11_bridge 41 = .ok (.iconst 0, 1) := by decide +kernel
theorem dX11_bridge_42 : decode cX11_bridge 42 = .ok (.istore 4, 2) := by decide +kernel
theorem dX11_bridge_44 : decode cX11_bridge 44 = .ok (.iload 4, 2) := by decide +kernel
theorem dX11_bridge_46 : decode cX11_bridge 46 = .ok (.iconst 4, 1) := by decide +kernel
theorem dX11_bridge_47 : decode cX11_bridge 47 = .ok (.if_icmp .ge 35, 3) := by decide +kernel
theorem dX11_bridge_50 : decode cX11_bridge 50 = .ok (.iload_n 1, 1) := by decide +kernel
theorem dX11_bridge_51 : decode cX11_bridge 51 = .ok (.iload 4, 2) := by decide +kernel
theorem dX11_bridge_53 : decode cX11_bridge 53 = .ok (.iload_n 3, 1) := by decide +kernel
theorem dX11_bridge_54 : decode cX11_bridge 54 = .ok (.invokestatic 223, 3) := by decide +kernel
theorem dX11_bridge_57 : decode cX11_bridge 57 = .ok (.ifCond .eq 19, 3) := by decide +kernel
theorem dX11_bridge_60 : decode cX11_bridge 60 = .ok (.aload_n 0, 1) := by decide +kernel
theorem dX11_bridge_61 : decode cX11_bridge 61 = .ok (.getfield 33, 3) := by decide +kernel
theorem dX11_bridge_64 : decode cX11_bridge 64 = .ok (.aload_n 0, 1) := by decide +kernel
theorem dX11_bridge_65 : decode cX11_bridge 65 = .ok (.getfield 26, 3) := by decide +kernel
theorem dX11_bridge_68 : decode cX11_bridge 68 = .ok (.iload_n 1, 1) := by decide +kernel
theorem dX11_bridge_69 : decode cX11_bridge 69 = .ok (.iload_n 2, 1) := by decide +kernel
theorem dX11_bridge_70 : decode cX11_bridge 70 = .ok (.iload 4, 2) := by decide +kernel
theorem dX11_bridge_72 : decode cX11_bridge 72 = .ok (.iload_n 3, 1) := by decide +kernel
theorem dX11_bridge_73 : decode cX11_bridge 73 = .ok (.invokevirtual 247, 3) := by decide +kernel
theorem dX11_bridge_76 : decode cX11_bridge 76 = .ok (.iinc 4 1, 3) := by decide +kernel
theorem dX11_bridge_79 : decode cX11_bridge 79 = .ok (.goto (-35), 3) := by decide +kernel
theorem dX11_bridge_82 : decode cX11_bridge 82 = .ok (.aload_n 0, 1) := by decide +kernel
theorem dX11_bridge_83 : decode cX11_bridge 83 = .ok (.getfield 33, 3) := by decide +kernel
theorem dX11_bridge_86 : decode cX11_bridge 86 = .ok (.getfield 254, 3) := by decide +kernel
theorem dX11_bridge_89 : decode cX11_bridge 89 = .ok (.ireturn, 1) := by decide +kernel
theorem dX11_alike_0 : decode cX11_alike 0 = .ok (.iload_n 1, 1) := by decide +kernel
theorem dX11_alike_1 : decode cX11_alike 1 = .ok (.invokestatic 94, 3) := by decide +kernel
theorem dX11_alike_4 : decode cX11_alike 4 = .ok (.ifCond .eq 25, 3) := by decide +kernel
theorem dX11_alike_7 : decode cX11_alike 7 = .ok (.iload_n 2, 1) := by decide +kernel
theorem dX11_alike_8 : decode cX11_alike 8 = .ok (.invokestatic 162, 3) := by decide +kernel
theorem dX11_alike_11 : decode cX11_alike 11 = .ok (.ifCond .eq 18, 3) := by decide +kernel
theorem dX11_alike_14 : decode cX11_alike 14 = .ok (.iload_n 3, 1) := by decide +kernel
theorem dX11_alike_15 : decode cX11_alike 15 = .ok (.invokestatic 94, 3) := by decide +kernel
theorem dX11_alike_18 : decode cX11_alike 18 = .ok (.ifCond .eq 11, 3) := by decide +kernel
theorem dX11_alike_21 : decode cX11_alike 21 = .ok (.iload 4, 2) := by decide +kernel
theorem dX11_alike_23 : decode cX11_alike 23 = .ok (.invokestatic 162, 3) := by decide +kernel
theorem dX11_alike_26 : decode cX11_alike 26 = .ok (.ifCond .ne 7, 3) := by decide +kernel
theorem dX11_alike_29 : decode cX11_alike 29 = .ok (.sipush (-1001), 3) := by decide +kernel
theorem dX11_alike_32 : decode cX11_alike 32 = .ok (.ireturn, 1) := by decide +kernel
theorem dX11_alike_33 : decode cX11_alike 33 = .ok (.iload_n 1, 1) := by decide +kernel
theorem dX11_alike_34 : decode cX11_alike 34 = .ok (.iload_n 3, 1) := by decide +kernel
theorem dX11_alike_35 : decode cX11_alike 35 = .ok (.if_icmp .ne 7, 3) := by decide +kernel
theorem dX11_alike_38 : decode cX11_alike 38 = .ok (.sipush (-1002), 3) := by decide +kernel
theorem dX11_alike_41 : decode cX11_alike 41 = .ok (.ireturn, 1) := by decide +kernel
theorem dX11_alike_42 : decode cX11_alike 42 = .ok (.aload_n 0, 1) := by decide +kernel
theorem dX11_alike_43 : decode cX11_alike 43 = .ok (.getfield 40, 3) := by decide +kernel
theorem dX11_alike_46 : decode cX11_alike 46 = .ok (.iload_n 1, 1) := by decide +kernel
theorem dX11_alike_47 : decode cX11_alike 47 = .ok (.iload_n 2, 1) := by decide +kernel
theorem dX11_alike_48 : decode cX11_alike 48 = .ok (.iload_n 3, 1) := by decide +kernel
theorem dX11_alike_49 : decode cX11_alike 49 = .ok (.iload 4, 2) := by decide +kernel
theorem dX11_alike_51 : decode cX11_alike 51 = .ok (.invokevirtual 257, 3) := by decide +kernel
theorem dX11_alike_54 : decode cX11_alike 54 = .ok (.ifCond .eq 7, 3) := by decide +kernel
theorem dX11_alike_57 : decode cX11_alike 57 = .ok (.sipush (-1003), 3) := by decide +kernel
theorem dX11_alike_60 : decode cX11_alike 60 = .ok (.ireturn, 1) := by decide +kernel
theorem dX11_alike_61 : decode cX11_alike 61 = .ok (.aload_n 0, 1) := by decide +kernel
theorem dX11_alike_62 : decode cX11_alike 62 = .ok (.getfield 40, 3) := by decide +kernel
theorem dX11_alike_65 : decode cX11_alike 65 = .ok (.getfield 159, 3) := by decide +kernel
theorem dX11_alike_68 : decode cX11_alike 68 = .ok (.bipush 30, 2) := by decide +kernel
theorem dX11_alike_70 : decode cX11_alike 70 = .ok (.if_icmp .lt 7, 3) := by decide +kernel
theorem dX11_alike_73 : decode cX11_alike 73 = .ok (.sipush (-1004), 3) := by decide +kernel
theorem dX11_alike_76 : decode cX11_alike 76 = .ok (.ireturn, 1) := by decide +kernel
theorem dX11_alike_77 : decode cX11_alike 77 = .ok (.aload_n 0, 1) := by decide +kernel
theorem dX11_alike_78 : decode cX11_alike 78 = .ok (.getfield 40, 3) := by decide +kernel
theorem dX11_alike_81 : decode cX11_alike 81 = .ok (.iload_n 1, 1) := by decide +kernel
theorem dX11_alike_82 : decode cX11_alike 82 = .ok (.iload_n 2, 1) := by decide +kernel
theorem dX11_alike_83 : decode cX11_alike 83 = .ok (.iload_n 3, 1) := by decide +kernel
theorem dX11_alike_84 : decode cX11_alike 84 = .ok (.iload 4, 2) := by decide +kernel
theorem dX11_alike_86 : decode cX11_alike 86 = .ok (.invokevirtual 261, 3) := by decide +kernel
theorem dX11_alike_89 : decode cX11_alike 89 = .ok (.ireturn, 1) := by decide +kernel
theorem dX11_friends_0 : decode cX11_friends 0 = .ok (.iload_n 1, 1) := by decide +kernel
theorem dX11_friends_1 : decode cX11_friends 1 = .ok (.iconst (-1), 1) := by decide +kernel
theorem dX11_friends_2 : decode cX11_friends 2 = .ok (.if_icmp .lt 14, 3) := by decide +kernel
theorem dX11_friends_5 : decode cX11_friends 5 = .ok (.iload_n 1, 1) := by decide +kernel
theorem dX11_friends_6 : decode cX11_friends 6 = .ok (.aload_n 0, 1) := by decide +kernel
theorem dX11_friends_7 : decode cX11_friends 7 = .ok (.getfield 40, 3) := by decide +kernel
theorem dX11_friends_10 : decode cX11_friends 10 = .ok (.getfield 159, 3) := by decide +kernel
theorem dX11_friends_13 : decode cX11_friends 13 = .ok (.if_icmp .lt 7, 3) := by decide +kernel
theorem dX11_friends_16 : decode cX11_friends 16 = .ok (.sipush (-1002), 3) := by decide +kernel
theorem dX11_friends_19 : decode cX11_friends 19 = .ok (.ireturn, 1) := by decide +kernel
theorem dX11_friends_20 : decode cX11_friends 20 = .ok (.iload_n 1, 1) := by decide +kernel
theorem dX11_friends_21 : decode cX11_friends 21 = .ok (.iconst (-1), 1) := by decide +kernel
theorem dX11_friends_22 : decode cX11_friends 22 = .ok (.if_icmp .eq 16, 3) := by decide +kernel
theorem dX11_friends_25 : decode cX11_friends 25 = .ok (.aload_n 0, 1) := by decide +kernel
theorem dX11_friends_26 : decode cX11_friends 26 = .ok (.getfield 40, 3) := by decide +kernel
theorem dX11_friends_29 : decode cX11_friends 29 = .ok (.iload_n 1, 1) := by decide +kernel
theorem dX11_friends_30 : decode cX11_friends 30 = .ok (.aload_n 0, 1) := by decide +kernel
theorem dX11_friends_31 : decode cX11_friends 31 = .ok (.getfield 26, 3) := by decide +kernel
theorem dX11_friends_34 : decode cX11_friends 34 = .ok (.invokevirtual 265, 3) := by decide +kernel
theorem dX11_friends_37 : decode cX11_friends 37 = .ok (.ireturn, 1) := by decide +kernel
theorem dX11_friends_38 : decode cX11_friends 38 = .ok (.iconst 0, 1) := by decide +kernel
theorem dX11_friends_39 : decode cX11_friends 39 = .ok (.istore_n 2, 1) := by decide +kernel
theorem dX11_friends_40 : decode cX11_friends 40 = .ok (.iconst 0, 1) := by decide +kernel
theorem dX11_friends_41 : decode cX11_friends 41 = .ok (.istore_n 3, 1) := by decide +kernel
theorem dX11_friends_42 : decode cX11_friends 42 = .ok (.iload_n 3, 1) := by decide +kernel
theorem dX11_friends_43 : decode cX11_friends 43 = .ok (.aload_n 0, 1) := by decide +kernel
theorem dX11_friends_44 : decode cX11_friends 44 = .ok (.getfield 40, 3) := by decide +kernel
theorem dX11_friends_47 : decode cX11_friends 47 = .ok (.getfield 159, 3) := by decide +kernel
theorem dX11_friends_50 : decode cX11_friends 50 = .ok (.if_icmp .ge 28, 3) := by decide +kernel
theorem dX11_friends_53 : decode cX11_friends 53 = .ok (.aload_n 0, 1) := by decide +kernel
theorem dX11_friends_54 : decode cX11_friends 54 = .ok (.getfield 40, 3) := by decide +kernel
theorem dX11_friends_57 : decode cX11_friends 57 = .ok (.iload_n 3, 1) := by decide +kernel
theorem dX11_friends_58 : decode cX11_friends 58 = .ok (.aload_n 0, 1) := by decide +kernel
theorem dX11_friends_59 : decode cX11_friends 59 = .ok (.getfield 26, 3) := by decide +kernel
theorem dX11_friends_62 : decode cX11_friends 62 = .ok (.invokevirtual 265, 3) := by decide +kernel
theorem dX11_friends_65 : decode cX11_friends 65 = .ok (.iconst 2, 1) := by decide +kernel
theorem dX11_friends_66 : decode cX11_friends 66 = .ok (.if_icmp .ne 6, 3) := by decide +kernel
theorem dX11_friends_69 : decode cX11_friends 69 = .ok (.iinc 2 1, 3) := by decide +kernel
theorem dX11_friends_72 : decode cX11_friends 72 = .ok (.iinc 3 1, 3) := by decide +kernel
theorem dX11_friends_75 : decode cX11_friends 75 = .ok (.goto (-33), 3) := by decide +kernel
theorem dX11_friends_78 : decode cX11_friends 78 = .ok (.iload_n 2, 1) := by decide +kernel
theorem dX11_friends_79 : decode cX11_friends 79 = .ok (.ireturn, 1) := by decide +kernel
theorem dX11_pair_0 : decode cX11_pair 0 = .ok (.iload_n 1, 1) := by decide +kernel
theorem dX11_pair_1 : decode cX11_pair 1 = .ok (.invokestatic 94, 3) := by decide +kernel
theorem dX11_pair_4 : decode cX11_pair 4 = .ok (.ifCond .eq 17, 3) := by decide +kernel
theorem dX11_pair_7 : decode cX11_pair 7 = .ok (.iload_n 2, 1) := by decide +kernel
theorem dX11_pair_8 : decode cX11_pair 8 = .ok (.invokestatic 162, 3) := by decide +kernel
theorem dX11_pair_11 : decode cX11_pair 11 = .ok (.ifCond .eq 10, 3) := by decide +kernel
theorem dX11_pair_14 : decode cX11_pair 14 = .ok (.iload_n 3, 1) := by decide +kernel
theorem dX11_pair_15 : decode cX11_pair 15 = .ok (.invokestatic 162, 3) := by decide +kernel
theorem dX11_pair_18 : decode cX11_pair 18 = .ok (.ifCond .ne 7, 3) := by decide +kernel
theorem dX11_pair_21 : decode cX11_pair 21 = .ok (.sipush (-1001), 3) := by decide +kernel
theorem dX11_pair_24 : decode cX11_pair 24 = .ok (.ireturn, 1) := by decide +kernel
theorem dX11_pair_25 : decode cX11_pair 25 = .ok (.iload 4, 2) := by decide +kernel
theorem dX11_pair_27 : decode cX11_pair 27 = .ok (.iconst 1, 1) := by decide +kernel
theorem dX11_pair_28 : decode cX11_pair 28 = .ok (.if_icmp .lt 10, 3) := by decide +kernel
theorem dX11_pair_31 : decode cX11_pair 31 = .ok (.iload 4, 2) := by decide +kernel
theorem dX11_pair_33 : decode cX11_pair 33 = .ok (.bipush 99, 2) := by decide +kernel
theorem dX11_pair_35 : decode cX11_pair 35 = .ok (.if_icmp .le 7, 3) := by decide +kernel
theorem dX11_pair_38 : decode cX11_pair 38 = .ok (.sipush (-1002), 3) := by decide +kernel
theorem dX11_pair_41 : decode cX11_pair 41 = .ok (.ireturn, 1) := by decide +kernel
theorem dX11_pair_42 : decode cX11_pair 42 = .ok (.aload_n 0, 1) := by decide +kernel
theorem dX11_pair_43 : decode cX11_pair 43 = .ok (.getfield 47, 3) := by decide +kernel
theorem dX11_pair_46 : decode cX11_pair 46 = .ok (.getfield 160, 3) := by decide +kernel
theorem dX11_pair_49 : decode cX11_pair 49 = .ok (.bipush 40, 2) := by decide +kernel
theorem dX11_pair_51 : decode cX11_pair 51 = .ok (.if_icmp .lt 7, 3) := by decide +kernel
theorem dX11_pair_54 : decode cX11_pair 54 = .ok (.sipush (-1004), 3) := by decide +kernel
theorem dX11_pair_57 : decode cX11_pair 57 = .ok (.ireturn, 1) := by decide +kernel
theorem dX11_pair_58 : decode cX11_pair 58 = .ok (.aload_n 0, 1) := by decide +kernel
theorem dX11_pair_59 : decode cX11_pair 59 = .ok (.getfield 47, 3) := by decide +kernel
theorem dX11_pair_62 : decode cX11_pair 62 = .ok (.iload_n 1, 1) := by decide +kernel
theorem dX11_pair_63 : decode cX11_pair 63 = .ok (.iload_n 2, 1) := by decide +kernel
theorem dX11_pair_64 : decode cX11_pair 64 = .ok (.iload_n 3, 1) := by decide +kernel
theorem dX11_pair_65 : decode cX11_pair 65 = .ok (.iload 4, 2) := by decide +kernel
theorem dX11_pair_67 : decode cX11_pair 67 = .ok (.invokevirtual 269, 3) := by decide +kernel
theorem dX11_pair_70 : decode cX11_pair 70 = .ok (.ireturn, 1) := by decide +kernel
theorem dX11_say_0 : decode cX11_say 0 = .ok (.iload_n 1, 1) := by decide +kernel
theorem dX11_say_1 : decode cX11_say 1 = .ok (.invokestatic 94, 3) := by decide +kernel
theorem dX11_say_4 : decode cX11_say 4 = .ok (.ifCond .eq 10, 3) := by decide +kernel
theorem dX11_say_7 : decode cX11_say 7 = .ok (.iload_n 2, 1) := by decide +kernel
theorem dX11_say_8 : decode cX11_say 8 = .ok (.invokestatic 162, 3) := by decide +kernel
theorem dX11_say_11 : decode cX11_say 11 = .ok (.ifCond .ne 7, 3) := by decide +kernel
theorem dX11_say_14 : decode cX11_say 14 = .ok (.sipush (-1001), 3) := by decide +kernel
theorem dX11_say_17 : decode cX11_say 17 = .ok (.ireturn, 1) := by decide +kernel
theorem dX11_say_18 : decode cX11_say 18 = .ok (.aload_n 0, 1) := by decide +kernel
theorem dX11_say_19 : decode cX11_say 19 = .ok (.getfield 54, 3) := by decide +kernel
theorem dX11_say_22 : decode cX11_say 22 = .ok (.getfield 161, 3) := by decide +kernel
theorem dX11_say_25 : decode cX11_say 25 = .ok (.ifCond .le 18, 3) := by decide +kernel
theorem dX11_say_28 : decode cX11_say 28 = .ok (.aload_n 0, 1) := by decide +kernel
theorem dX11_say_29 : decode cX11_say 29 = .ok (.getfield 54, 3) := by decide +kernel
theorem dX11_say_32 : decode cX11_say 32 = .ok (.getfield 270, 3) := by decide +kernel
theorem dX11_say_35 : decode cX11_say 35 = .ok (.iload_n 1, 1) := by decide +kernel
theorem dX11_say_36 : decode cX11_say 36 = .ok (.if_icmp .eq 7, 3) := by decide +kernel
theorem dX11_say_39 : decode cX11_say 39 = .ok (.sipush (-1003), 3) := by decide +kernel
theorem dX11_say_42 : decode cX11_say 42 = .ok (.ireturn, 1) := by decide +kernel
theorem dX11_say_43 : decode cX11_say 43 = .ok (.aload_n 0, 1) := by decide +kernel
theorem dX11_say_44 : decode cX11_say 44 = .ok (.getfield 54, 3) := by decide +kernel
theorem dX11_say_47 : decode cX11_say 47 = .ok (.getfield 161, 3) := by decide +kernel
theorem dX11_say_50 : decode cX11_say 50 = .ok (.bipush 10, 2) := by decide +kernel
theorem dX11_say_52 : decode cX11_say 52 = .ok (.if_icmp .lt 7, 3) := by decide +kernel
theorem dX11_say_55 : decode cX11_say 55 = .ok (.sipush (-1004), 3) := by decide +kernel
theorem dX11_say_58 : decode cX11_say 58 = .ok (.ireturn, 1) := by decide +kernel
theorem dX11_say_59 : decode cX11_say 59 = .ok (.aload_n 0, 1) := by decide +kernel
theorem dX11_say_60 : decode cX11_say 60 = .ok (.getfield 54, 3) := by decide +kernel
theorem dX11_say_63 : decode cX11_say 63 = .ok (.iload_n 1, 1) := by decide +kernel
theorem dX11_say_64 : decode cX11_say 64 = .ok (.iload_n 2, 1) := by decide +kernel
theorem dX11_say_65 : decode cX11_say 65 = .ok (.invokevirtual 273, 3) := by decide +kernel
theorem dX11_say_68 : decode cX11_say 68 = .ok (.ireturn, 1) := by decide +kernel
theorem dX11_clear_0 : decode cX11_clear 0 = .ok (.aload_n 0, 1) := by decide +kernel
theorem dX11_clear_1 : decode cX11_clear 1 = .ok (.getfield 54, 3) := by decide +kernel
theorem dX11_clear_4 : decode cX11_clear 4 = .ok (.getfield 161, 3) := by decide +kernel
theorem dX11_clear_7 : decode cX11_clear 7 = .ok (.istore_n 1, 1) := by decide +kernel
theorem dX11_clear_8 : decode cX11_clear 8 = .ok (.aload_n 0, 1) := by decide +kernel
theorem dX11_clear_9 : decode cX11_clear 9 = .ok (.getfield 54, 3) := by decide +kernel
theorem dX11_clear_12 : decode cX11_clear 12 = .ok (.iconst 0, 1) := by decide +kernel
theorem dX11_clear_13 : decode cX11_clear 13 = .ok (.putfield 161, 3) := by decide +kernel
theorem dX11_clear_16 : decode cX11_clear 16 = .ok (.iload_n 1, 1) := by decide +kernel
theorem dX11_clear_17 : decode cX11_clear 17 = .ok (.ireturn, 1) := by decide +kernel
theorem dX11_put_0 : decode cX11_put 0 = .ok (.iload_n 1, 1) := by decide +kernel
theorem dX11_put_1 : decode cX11_put 1 = .ok (.invokestatic 94, 3) := by decide +kernel
theorem dX11_put_4 : decode cX11_put 4 = .ok (.ifCond .ne 7, 3) := by decide +kernel
theorem dX11_put_7 : decode cX11_put 7 = .ok (.sipush (-1001), 3) := by decide +kernel
theorem dX11_put_10 : decode cX11_put 10 = .ok (.ireturn, 1) := by decide +kernel
theorem dX11_put_11 : decode cX11_put 11 = .ok (.iload_n 3, 1) := by decide +kernel
theorem dX11_put_12 : decode cX11_put 12 = .ok (.ifCond .lt 8, 3) := by decide +kernel
theorem dX11_put_15 : decode cX11_put 15 = .ok (.iload_n 3, 1) := by decide +kernel
theorem dX11_put_16 : decode cX11_put 16 = .ok (.iconst 1, 1) := by decide +kernel
theorem dX11_put_17 : decode cX11_put 17 = .ok (.if_icmp .le 7, 3) := by decide +kernel
theorem dX11_put_20 : decode cX11_put 20 = .ok (.sipush (-1002), 3) := by decide +kernel
theorem dX11_put_23 : decode cX11_put 23 = .ok (.ireturn, 1) := by decide +kernel
theorem dX11_put_24 : decode cX11_put 24 = .ok (.aload_n 0, 1) := by decide +kernel
theorem dX11_put_25 : decode cX11_put 25 = .ok (.getfield 54, 3) := by decide +kernel
theorem dX11_put_28 : decode cX11_put 28 = .ok (.getfield 161, 3) := by decide +kernel
theorem dX11_put_31 : decode cX11_put 31 = .ok (.ifCond .eq 14, 3) := by decide +kernel
theorem dX11_put_34 : decode cX11_put 34 = .ok (.aload_n 0, 1) := by decide +kernel
theorem dX11_put_35 : decode cX11_put 35 = .ok (.getfield 54, 3) := by decide +kernel
theorem dX11_put_38 : decode cX11_put 38 = .ok (.getfield 270, 3) := by decide +kernel
theorem dX11_put_41 : decode cX11_put 41 = .ok (.iload_n 1, 1) := by decide +kernel
theorem dX11_put_42 : decode cX11_put 42 = .ok (.if_icmp .ne 7, 3) := by decide +kernel
theorem dX11_put_45 : decode cX11_put 45 = .ok (.sipush (-1003), 3) := by decide +kernel
theorem dX11_put_48 : decode cX11_put 48 = .ok (.ireturn, 1) := by decide +kernel
theorem dX11_put_49 : decode cX11_put 49 = .ok (.aload_n 0, 1) := by decide +kernel
theorem dX11_put_50 : decode cX11_put 50 = .ok (.getfield 61, 3) := by decide +kernel
theorem dX11_put_53 : decode cX11_put 53 = .ok (.aload_n 0, 1) := by decide +kernel
theorem dX11_put_54 : decode cX11_put 54 = .ok (.getfield 54, 3) := by decide +kernel
theorem dX11_put_57 : decode cX11_put 57 = .ok (.iload_n 1, 1) := by decide +kernel
theorem dX11_put_58 : decode cX11_put 58 = .ok (.aload_n 0, 1) := by decide +kernel
theorem dX11_put_59 : decode cX11_put 59 = .ok (.getfield 26, 3) := by decide +kernel
theorem dX11_put_62 : decode cX11_put 62 = .ok (.aload_n 0, 1) := by decide +kernel
theorem dX11_put_63 : decode cX11_put 63 = .ok (.getfield 47, 3) := by decide +kernel
theorem dX11_put_66 : decode cX11_put 66 = .ok (.invokevirtual 275, 3) := by decide +kernel
theorem dX11_put_69 : decode cX11_put 69 = .ok (.iload_n 2, 1) := by decide +kernel
theorem dX11_put_70 : decode cX11_put 70 = .ok (.iconst (-1), 1) := by decide +kernel
theorem dX11_put_71 : decode cX11_put 71 = .ok (.if_icmp .ne 12, 3) := by decide +kernel
theorem dX11_put_74 : decode cX11_put 74 = .ok (.aload_n 0, 1) := by decide +kernel
theorem dX11_put_75 : decode cX11_put 75 = .ok (.getfield 61, 3) := by decide +kernel
theorem dX11_put_78 : decode cX11_put 78 = .ok (.iconst 0, 1) := by decide +kernel
theorem dX11_put_79 : decode cX11_put 79 = .ok (.invokevirtual 279, 3) := by decide +kernel
theorem dX11_put_82 : decode cX11_put 82 = .ok (.ireturn, 1) := by decide +kernel
theorem dX11_put_83 : decode cX11_put 83 = .ok (.iload_n 3, 1) := by decide +kernel
theorem dX11_put_84 : decode cX11_put 84 = .ok (.ifCond .ne 14, 3) := by decide +kernel
theorem dX11_put_87 : decode cX11_put 87 = .ok (.aload_n 0, 1) := by decide +kernel
theorem dX11_put_88 : decode cX11_put 88 = .ok (.getfield 61, 3) := by decide +kernel
theorem dX11_put_91 : decode cX11_put 91 = .ok (.iload_n 2, 1) := by decide +kernel
theorem dX11_put_92 : decode cX11_put 92 = .ok (.invokevirtual 282, 3) := by decide +kernel
theorem dX11_put_95 : decode cX11_put 95 = .ok (.goto 11, 3) := by decide +kernel
theorem dX11_put_98 : decode cX11_put 98 = .ok (.aload_n 0, 1) := by decide +kernel
theorem dX11_put_99 : decode cX11_put 99 = .ok (.getfield 61, 3) := by decide +kernel
theorem dX11_put_102 : decode cX11_put 102 = .ok (.iload_n 2, 1) := by decide +kernel
theorem dX11_put_103 : decode cX11_put 103 = .ok (.invokevirtual 285, 3) := by decide +kernel
theorem dX11_put_106 : decode cX11_put 106 = .ok (.ireturn, 1) := by decide +kernel
theorem dX11_chain_0 : decode cX11_chain 0 = .ok (.iload_n 1, 1) := by decide +kernel
theorem dX11_chain_1 : decode cX11_chain 1 = .ok (.invokestatic 94, 3) := by decide +kernel
theorem dX11_chain_4 : decode cX11_chain 4 = .ok (.ifCond .eq 10, 3) := by decide +kernel
theorem dX11_chain_7 : decode cX11_chain 7 = .ok (.iload_n 2, 1) := by decide +kernel
theorem dX11_chain_8 : decode cX11_chain 8 = .ok (.invokestatic 94, 3) := by decide +kernel
theorem dX11_chain_11 : decode cX11_chain 11 = .ok (.ifCond .ne 7, 3) := by decide +kernel
theorem dX11_chain_14 : decode cX11_chain 14 = .ok (.sipush (-1001), 3) := by decide +kernel
theorem dX11_chain_17 : decode cX11_chain 17 = .ok (.ireturn, 1) := by decide +kernel
theorem dX11_chain_18 : decode cX11_chain 18 = .ok (.iload_n 1, 1) := by decide +kernel
theorem dX11_chain_19 : decode cX11_chain 19 = .ok (.iload_n 2, 1) := by decide +kernel
theorem dX11_chain_20 : decode cX11_chain 20 = .ok (.if_icmp .ne 7, 3) := by decide +kernel
theorem dX11_chain_23 : decode cX11_chain 23 = .ok (.sipush (-1002), 3) := by decide +kernel
theorem dX11_chain_26 : decode cX11_chain 26 = .ok (.ireturn, 1) := by decide +kernel
theorem dX11_chain_27 : decode cX11_chain 27 = .ok (.aload_n 0, 1) := by decide +kernel
theorem dX11_chain_28 : decode cX11_chain 28 = .ok (.getfield 68, 3) := by decide +kernel
theorem dX11_chain_31 : decode cX11_chain 31 = .ok (.aload_n 0, 1) := by decide +kernel
theorem dX11_chain_32 : decode cX11_chain 32 = .ok (.getfield 26, 3) := by decide +kernel
theorem dX11_chain_35 : decode cX11_chain 35 = .ok (.iload_n 1, 1) := by decide +kernel
theorem dX11_chain_36 : decode cX11_chain 36 = .ok (.iload_n 2, 1) := by decide +kernel
theorem dX11_chain_37 : decode cX11_chain 37 = .ok (.invokevirtual 288, 3) := by decide +kernel
theorem dX11_chain_40 : decode cX11_chain 40 = .ok (.iload_n 3, 1) := by decide +kernel
theorem dX11_chain_41 : decode cX11_chain 41 = .ok (.iconst (-1), 1) := by decide +kernel
theorem dX11_chain_42 : decode cX11_chain 42 = .ok (.if_icmp .ne 25, 3) := by decide +kernel
theorem dX11_chain_45 : decode cX11_chain 45 = .ok (.aload_n 0, 1) := by decide +kernel
theorem dX11_chain_46 : decode cX11_chain 46 = .ok (.getfield 68, 3) := by decide +kernel
theorem dX11_chain_49 : decode cX11_chain 49 = .ok (.getfield 292, 3) := by decide +kernel
theorem dX11_chain_52 : decode cX11_chain 52 = .ok (.ifCond .ne 7, 3) := by decide +kernel
theorem dX11_chain_55 : decode cX11_chain 55 = .ok (.iconst (-1), 1) := by decide +kernel
theorem dX11_chain_56 : decode cX11_chain 56 = .ok (.goto 10, 3) := by decide +kernel
theorem dX11_chain_59 : decode cX11_chain 59 = .ok (.aload_n 0, 1) := by decide +kernel
theorem dX11_chain_60 : decode cX11_chain 60 = .ok (.getfield 68, 3) := by decide +kernel
theorem dX11_chain_63 : decode cX11_chain 63 = .ok (.getfield 292, 3) := by decide +kernel
theorem dX11_chain_66 : decode cX11_chain 66 = .ok (.ireturn, 1) := by decide +kernel
theorem dX11_chain_67 : decode cX11_chain 67 = .ok (.aload_n 0, 1) := by decide +kernel
theorem dX11_chain_68 : decode cX11_chain 68 = .ok (.getfield 68, 3) := by decide +kernel
theorem dX11_chain_71 : decode cX11_chain 71 = .ok (.iload_n 3, 1) := by decide +kernel
theorem dX11_chain_72 : decode cX11_chain 72 = .ok (.invokevirtual 293, 3) := by decide +kernel
theorem dX11_chain_75 : decode cX11_chain 75 = .ok (.ireturn, 1) := by decide +kernel
theorem dX11_across_0 : decode cX11_across 0 = .ok (.iload_n 1, 1) := by decide +kernel
theorem dX11_across_1 : decode cX11_across 1 = .ok (.invokestatic 94, 3) := by decide +kernel
theorem dX11_across_4 : decode cX11_across 4 = .ok (.ifCond .eq 10, 3) := by decide +kernel
theorem dX11_across_7 : decode cX11_across 7 = .ok (.iload_n 2, 1) := by decide +kernel
theorem dX11_across_8 : decode cX11_across 8 = .ok (.invokestatic 94, 3) := by decide +kernel
theorem dX11_across_11 : decode cX11_across 11 = .ok (.ifCond .ne 7, 3) := by decide +kernel
theorem dX11_across_14 : decode cX11_across 14 = .ok (.ldc2_w 181, 3) := by decide +kernel
theorem dX11_across_17 : decode cX11_across 17 = .ok (.lreturn, 1) := by decide +kernel
theorem dX11_across_18 : decode cX11_across 18 = .ok (.iload_n 1, 1) := by decide +kernel
theorem dX11_across_19 : decode cX11_across 19 = .ok (.iload_n 2, 1) := by decide +kernel
theorem dX11_across_20 : decode cX11_across 20 = .ok (.if_icmp .eq 12, 3) := by decide +kernel
theorem dX11_across_23 : decode cX11_across 23 = .ok (.iload_n 3, 1) := by decide +kernel
theorem dX11_across_24 : decode cX11_across 24 = .ok (.ifCond .lt 8, 3) := by decide +kernel
theorem dX11_across_27 : decode cX11_across 27 = .ok (.iload_n 3, 1) := by decide +kernel
theorem dX11_across_28 : decode cX11_across 28 = .ok (.iconst 1, 1) := by decide +kernel
theorem dX11_across_29 : decode cX11_across 29 = .ok (.if_icmp .le 7, 3) := by decide +kernel
theorem dX11_across_32 : decode cX11_across 32 = .ok (.ldc2_w 204, 3) := by decide +kernel
theorem dX11_across_35 : decode cX11_across 35 = .ok (.lreturn, 1) := by decide +kernel
theorem dX11_across_36 : decode cX11_across 36 = .ok (.iload_n 3, 1) := by decide +kernel
theorem dX11_across_37 : decode cX11_across 37 = .ok (.iconst 1, 1) := by decide +kernel
theorem dX11_across_38 : decode cX11_across 38 = .ok (.if_icmp .ne 26, 3) := by decide +kernel
theorem dX11_across_41 : decode cX11_across 41 = .ok (.aload_n 0, 1) := by decide +kernel
theorem dX11_across_42 : decode cX11_across 42 = .ok (.getfield 26, 3) := by decide +kernel
theorem dX11_across_45 : decode cX11_across 45 = .ok (.iload_n 1, 1) := by decide +kernel
theorem dX11_across_46 : decode cX11_across 46 = .ok (.invokevirtual 296, 3) := by decide +kernel
theorem dX11_across_49 : decode cX11_across 49 = .ok (.aload_n 0, 1) := by decide +kernel
theorem dX11_across_50 : decode cX11_across 50 = .ok (.getfield 26, 3) := by decide +kernel
theorem dX11_across_53 : decode cX11_across 53 = .ok (.iload_n 1, 1) := by decide +kernel
theorem dX11_across_54 : decode cX11_across 54 = .ok (.iload_n 2, 1) := by decide +kernel
theorem dX11_across_55 : decode cX11_across 55 = .ok (.invokevirtual 299, 3) := by decide +kernel
theorem dX11_across_58 : decode cX11_across 58 = .ok (.ldc2_w 206, 3) := by decide +kernel
theorem dX11_across_61 : decode cX11_across 61 = .ok (.lxor, 1) := by decide +kernel
theorem dX11_across_62 : decode cX11_across 62 = .ok (.land, 1) := by decide +kernel
theorem dX11_across_63 : decode cX11_across 63 = .ok (.lreturn, 1) := by decide +kernel
theorem dX11_across_64 : decode cX11_across 64 = .ok (.aload_n 0, 1) := by decide +kernel
theorem dX11_across_65 : decode cX11_across 65 = .ok (.getfield 68, 3) := by decide +kernel
theorem dX11_across_68 : decode cX11_across 68 = .ok (.aload_n 0, 1) := by decide +kernel
theorem dX11_across_69 : decode cX11_across 69 = .ok (.getfield 26, 3) := by decide +kernel
theorem dX11_across_72 : decode cX11_across 72 = .ok (.iload_n 1, 1) := by decide +kernel
theorem dX11_across_73 : decode cX11_across 73 = .ok (.iload_n 2, 1) := by decide +kernel
theorem dX11_across_74 : decode cX11_across 74 = .ok (.invokevirtual 288, 3) := by decide +kernel
theorem dX11_across_77 : decode cX11_across 77 = .ok (.aload_n 0, 1) := by decide +kernel
theorem dX11_across_78 : decode cX11_across 78 = .ok (.getfield 68, 3) := by decide +kernel
theorem dX11_across_81 : decode cX11_across 81 = .ok (.aload_n 0, 1) := by decide +kernel
theorem dX11_across_82 : decode cX11_across 82 = .ok (.getfield 26, 3) := by decide +kernel
theorem dX11_across_85 : decode cX11_across 85 = .ok (.invokevirtual 303, 3) := by decide +kernel
theorem dX11_across_88 : decode cX11_across 88 = .ok (.lreturn, 1) := by decide +kernel
theorem dX11_fewest_0 : decode cX11_fewest 0 = .ok (.iload_n 1, 1) := by decide +kernel
theorem dX11_fewest_1 : decode cX11_fewest 1 = .ok (.invokestatic 94, 3) := by decide +kernel
theorem dX11_fewest_4 : decode cX11_fewest 4 = .ok (.ifCond .eq 20, 3) := by decide +kernel
theorem dX11_fewest_7 : decode cX11_fewest 7 = .ok (.iload_n 2, 1) := by decide +kernel
theorem dX11_fewest_8 : decode cX11_fewest 8 = .ok (.invokestatic 94, 3) := by decide +kernel
theorem dX11_fewest_11 : decode cX11_fewest 11 = .ok (.ifCond .eq 13, 3) := by decide +kernel
theorem dX11_fewest_14 : decode cX11_fewest 14 = .ok (.lload_n 3, 1) := by decide +kernel
theorem dX11_fewest_15 : decode cX11_fewest 15 = .ok (.ldc2_w 307, 3) := by decide +kernel
theorem dX11_fewest_18 : decode cX11_fewest 18 = .ok (.land, 1) := by decide +kernel
theorem dX11_fewest_19 : decode cX11_fewest 19 = .ok (.lconst 0, 1) := by decide +kernel
theorem dX11_fewest_20 : decode cX11_fewest 20 = .ok (.lcmp, 1) := by decide +kernel
theorem dX11_fewest_21 : decode cX11_fewest 21 = .ok (.ifCond .eq 7, 3) := by decide +kernel
theorem dX11_fewest_24 : decode cX11_fewest 24 = .ok (.sipush (-1001), 3) := by decide +kernel
theorem dX11_fewest_27 : decode cX11_fewest 27 = .ok (.ireturn, 1) := by decide +kernel
theorem dX11_fewest_28 : decode cX11_fewest 28 = .ok (.iload_n 1, 1) := by decide +kernel
theorem dX11_fewest_29 : decode cX11_fewest 29 = .ok (.iload_n 2, 1) := by decide +kernel
theorem dX11_fewest_30 : decode cX11_fewest 30 = .ok (.if_icmp .ne 7, 3) := by decide +kernel
theorem dX11_fewest_33 : decode cX11_fewest 33 = .ok (.sipush (-1002), 3) := by decide +kernel
theorem dX11_fewest_36 : decode cX11_fewest 36 = .ok (.ireturn, 1) := by decide +kernel
theorem dX11_fewest_37 : decode cX11_fewest 37 = .ok (.aload_n 0, 1) := by decide +kernel
theorem dX11_fewest_38 : decode cX11_fewest 38 = .ok (.getfield 75, 3) := by decide +kernel
theorem dX11_fewest_41 : decode cX11_fewest 41 = .ok (.aload_n 0, 1) := by decide +kernel
theorem dX11_fewest_42 : decode cX11_fewest 42 = .ok (.getfield 26, 3) := by decide +kernel
theorem dX11_fewest_45 : decode cX11_fewest 45 = .ok (.iload_n 1, 1) := by decide +kernel
theorem dX11_fewest_46 : decode cX11_fewest 46 = .ok (.iload_n 2, 1) := by decide +kernel
theorem dX11_fewest_47 : decode cX11_fewest 47 = .ok (.lload_n 3, 1) := by decide +kernel
theorem dX11_fewest_48 : decode cX11_fewest 48 = .ok (.invokevirtual 309, 3) := by decide +kernel
theorem dX11_fewest_51 : decode cX11_fewest 51 = .ok (.ireturn, 1) := by decide +kernel
theorem dX11_isTongue_0 : decode cX11_isTongue 0 = .ok (.iload_n 0, 1) := by decide +kernel
theorem dX11_isTongue_1 : decode cX11_isTongue 1 = .ok (.ifCond .lt 12, 3) := by decide +kernel
theorem dX11_isTongue_4 : decode cX11_isTongue 4 = .ok (.iload_n 0, 1) := by decide +kernel
theorem dX11_isTongue_5 : decode cX11_isTongue 5 = .ok (.iconst 4, 1) := by decide +kernel
theorem dX11_isTongue_6 : decode cX11_isTongue 6 = .ok (.if_icmp .ge 7, 3) := by decide +kernel
theorem dX11_isTongue_9 : decode cX11_isTongue 9 = .ok (.iconst 1, 1) := by decide +kernel
theorem dX11_isTongue_10 : decode cX11_isTongue 10 = .ok (.goto 4, 3) := by decide +kernel
theorem dX11_isTongue_13 : decode cX11_isTongue 13 = .ok (.iconst 0, 1) := by decide +kernel
theorem dX11_isTongue_14 : decode cX11_isTongue 14 = .ok (.ireturn, 1) := by decide +kernel
theorem dX11_isWord_0 : decode cX11_isWord 0 = .ok (.iload_n 0, 1) := by decide +kernel
theorem dX11_isWord_1 : decode cX11_isWord 1 = .ok (.ifCond .lt 13, 3) := by decide +kernel
theorem dX11_isWord_4 : decode cX11_isWord 4 = .ok (.iload_n 0, 1) := by decide +kernel
theorem dX11_isWord_5 : decode cX11_isWord 5 = .ok (.bipush 60, 2) := by decide +kernel
theorem dX11_isWord_7 : decode cX11_isWord 7 = .ok (.if_icmp .ge 7, 3) := by decide +kernel
theorem dX11_isWord_10 : decode cX11_isWord 10 = .ok (.iconst 1, 1) := by decide +kernel
theorem dX11_isWord_11 : decode cX11_isWord 11 = .ok (.goto 4, 3) := by decide +kernel
theorem dX11_isWord_14 : decode cX11_isWord 14 = .ok (.iconst 0, 1) := by decide +kernel
theorem dX11_isWord_15 : decode cX11_isWord 15 = .ok (.ireturn, 1) := by decide +kernel
theorem dX11_isDay_0 : decode cX11_isDay 0 = .ok (.iload_n 0, 1) := by decide +kernel
theorem dX11_isDay_1 : decode cX11_isDay 1 = .ok (.ifCond .lt 14, 3) := by decide +kernel
theorem dX11_isDay_4 : decode cX11_isDay 4 = .ok (.iload_n 0, 1) := by decide +kernel
theorem dX11_isDay_5 : decode cX11_isDay 5 = .ok (.sipush 999, 3) := by decide +kernel
theorem dX11_isDay_8 : decode cX11_isDay 8 = .ok (.if_icmp .gt 7, 3) := by decide +kernel
theorem dX11_isDay_11 : decode cX11_isDay 11 = .ok (.iconst 1, 1) := by decide +kernel
theorem dX11_isDay_12 : decode cX11_isDay 12 = .ok (.goto 4, 3) := by decide +kernel
theorem dX11_isDay_15 : decode cX11_isDay 15 = .ok (.iconst 0, 1) := by decide +kernel
theorem dX11_isDay_16 : decode cX11_isDay 16 = .ok (.ireturn, 1) := by decide +kernel
theorem dX11_differ_0 : decode cX11_differ 0 = .ok (.iload_n 0, 1) := by decide +kernel
theorem dX11_differ_1 : decode cX11_differ 1 = .ok (.iload_n 1, 1) := by decide +kernel
theorem dX11_differ_2 : decode cX11_differ 2 = .ok (.if_icmp .eq 17, 3) := by decide +kernel
theorem dX11_differ_5 : decode cX11_differ 5 = .ok (.iload_n 1, 1) := by decide +kernel
theorem dX11_differ_6 : decode cX11_differ 6 = .ok (.iload_n 2, 1) := by decide +kernel
theorem dX11_differ_7 : decode cX11_differ 7 = .ok (.if_icmp .eq 12, 3) := by decide +kernel
theorem dX11_differ_10 : decode cX11_differ 10 = .ok (.iload_n 0, 1) := by decide +kernel
theorem dX11_differ_11 : decode cX11_differ 11 = .ok (.iload_n 2, 1) := by decide +kernel
theorem dX11_differ_12 : decode cX11_differ 12 = .ok (.if_icmp .eq 7, 3) := by decide +kernel
theorem dX11_differ_15 : decode cX11_differ 15 = .ok (.iconst 1, 1) := by decide +kernel
theorem dX11_differ_16 : decode cX11_differ 16 = .ok (.goto 4, 3) := by decide +kernel
theorem dX11_differ_19 : decode cX11_differ 19 = .ok (.iconst 0, 1) := by decide +kernel
theorem dX11_differ_20 : decode cX11_differ 20 = .ok (.ireturn, 1) := by decide +kernel
theorem dX11_has_0 : decode cX11_has 0 = .ok (.iload_n 2, 1) := by decide +kernel
theorem dX11_has_1 : decode cX11_has 1 = .ok (.invokestatic 162, 3) := by decide +kernel
theorem dX11_has_4 : decode cX11_has 4 = .ok (.ifCond .eq 17, 3) := by decide +kernel
theorem dX11_has_7 : decode cX11_has 7 = .ok (.lload_n 0, 1) := by decide +kernel
theorem dX11_has_8 : decode cX11_has 8 = .ok (.iload_n 2, 1) := by decide +kernel
theorem dX11_has_9 : decode cX11_has 9 = .ok (.lushr, 1) := by decide +kernel
theorem dX11_has_10 : decode cX11_has 10 = .ok (.lconst 1, 1) := by decide +kernel
theorem dX11_has_11 : decode cX11_has 11 = .ok (.land, 1) := by decide +kernel
theorem dX11_has_12 : decode cX11_has 12 = .ok (.lconst 0, 1) := by decide +kernel
theorem dX11_has_13 : decode cX11_has 13 = .ok (.lcmp, 1) := by decide +kernel
theorem dX11_has_14 : decode cX11_has 14 = .ok (.ifCond .eq 7, 3) := by decide +kernel
theorem dX11_has_17 : decode cX11_has 17 = .ok (.iconst 1, 1) := by decide +kernel
theorem dX11_has_18 : decode cX11_has 18 = .ok (.goto 4, 3) := by decide +kernel
theorem dX11_has_21 : decode cX11_has 21 = .ok (.iconst 0, 1) := by decide +kernel
theorem dX11_has_22 : decode cX11_has 22 = .ok (.ireturn, 1) := by decide +kernel
theorem dX11_only_0 : decode cX11_only 0 = .ok (.iload_n 0, 1) := by decide +kernel
theorem dX11_only_1 : decode cX11_only 1 = .ok (.invokestatic 162, 3) := by decide +kernel
theorem dX11_only_4 : decode cX11_only 4 = .ok (.ifCond .eq 9, 3) := by decide +kernel
theorem dX11_only_7 : decode cX11_only 7 = .ok (.lconst 1, 1) := by decide +kernel
theorem dX11_only_8 : decode cX11_only 8 = .ok (.iload_n 0, 1) := by decide +kernel
theorem dX11_only_9 : decode cX11_only 9 = .ok (.lshl, 1) := by decide +kernel
theorem dX11_only_10 : decode cX11_only 10 = .ok (.goto 4, 3) := by decide +kernel
theorem dX11_only_13 : decode cX11_only 13 = .ok (.lconst 0, 1) := by decide +kernel
theorem dX11_only_14 : decode cX11_only 14 = .ok (.lreturn, 1) := by decide +kernel
theorem dX11_commonDivisor_0 : decode cX11_commonDivisor 0 = .ok (.iload_n 0, 1) := by decide +kernel
theorem dX11_commonDivisor_1 : decode cX11_commonDivisor 1 = .ok (.istore_n 2, 1) := by decide +kernel
theorem dX11_commonDivisor_2 : decode cX11_commonDivisor 2 = .ok (.iload_n 1, 1) := by decide +kernel
theorem dX11_commonDivisor_3 : decode cX11_commonDivisor 3 = .ok (.istore_n 3, 1) := by decide +kernel
theorem dX11_commonDivisor_4 : decode cX11_commonDivisor 4 = .ok (.iconst 0, 1) := by decide +kernel
theorem dX11_commonDivisor_5 : decode cX11_commonDivisor 5 = .ok (.istore 4, 2) := by decide +kernel
theorem dX11_commonDivisor_7 : decode cX11_commonDivisor 7 = .ok (.iload 4, 2) := by decide +kernel
theorem dX11_commonDivisor_9 : decode cX11_commonDivisor 9 = .ok (.bipush 64, 2) := by decide +kernel
theorem dX11_commonDivisor_11 : decode cX11_commonDivisor 11 = .ok (.if_icmp .ge 23, 3) := by decide +kernel
theorem dX11_commonDivisor_14 : decode cX11_commonDivisor 14 = .ok (.iload_n 3, 1) := by decide +kernel
theorem dX11_commonDivisor_15 : decode cX11_commonDivisor 15 = .ok (.ifCond .eq 19, 3) := by decide +kernel
theorem dX11_commonDivisor_18 : decode cX11_commonDivisor 18 = .ok (.iload_n 2, 1) := by decide +kernel
theorem dX11_commonDivisor_19 : decode cX11_commonDivisor 19 = .ok (.iload_n 3, 1) := by decide +kernel
theorem dX11_commonDivisor_20 : decode cX11_commonDivisor 20 = .ok (.irem, 1) := by decide +kernel
theorem dX11_commonDivisor_21 : decode cX11_commonDivisor 21 = .ok (.istore 5, 2) := by decide +kernel
theorem dX11_commonDivisor_23 : decode cX11_commonDivisor 23 = .ok (.iload_n 3, 1) := by decide +kernel
theorem dX11_commonDivisor_24 : decode cX11_commonDivisor 24 = .ok (.istore_n 2, 1) := by decide +kernel
theorem dX11_commonDivisor_25 : decode cX11_commonDivisor 25 = .ok (.iload 5, 2) := by decide +kernel
theorem dX11_commonDivisor_27 : decode cX11_commonDivisor 27 = .ok (.istore_n 3, 1) := by decide +kernel
theorem dX11_commonDivisor_28 : decode cX11_commonDivisor 28 = .ok (.iinc 4 1, 3) := by decide +kernel
theorem dX11_commonDivisor_31 : decode cX11_commonDivisor 31 = .ok (.goto (-24), 3) := by decide +kernel
theorem dX11_commonDivisor_34 : decode cX11_commonDivisor 34 = .ok (.iload_n 2, 1) := by decide +kernel
theorem dX11_commonDivisor_35 : decode cX11_commonDivisor 35 = .ok (.ireturn, 1) := by decide +kernel
theorem dX12_init_0 : decode cX12_init 0 = .ok (.aload_n 0, 1) := by decide +kernel
theorem dX12_init_1 : decode cX12_init 1 = .ok (.invokespecial 1, 3) := by decide +kernel
theorem dX12_init_4 : decode cX12_init 4 = .ok (.aload_n 0, 1) := by decide +kernel
theorem dX12_init_5 : decode cX12_init 5 = .ok (.bipush 8, 2) := by decide +kernel
theorem dX12_init_7 : decode cX12_init 7 = .ok (.newarray .int, 2) := by decide +kernel
theorem dX12_init_9 : decode cX12_init 9 = .ok (.putfield 7, 3) := by decide +kernel
theorem dX12_init_12 : decode cX12_init 12 = .ok (.aload_n 0, 1) := by decide +kernel
theorem dX12_init_13 : decode cX12_init 13 = .ok (.bipush 8, 2) := by decide +kernel
theorem dX12_init_15 : decode cX12_init 15 = .ok (.newarray .int, 2) := by decide +kernel
theorem dX12_init_17 : decode cX12_init 17 = .ok (.putfield 13, 3) := by decide +kernel
theorem dX12_init_20 : decode cX12_init 20 = .ok (.aload_n 0, 1) := by decide +kernel
theorem dX12_init_21 : decode cX12_init 21 = .ok (.bipush 8, 2) := by decide +kernel
theorem dX12_init_23 : decode cX12_init 23 = .ok (.newarray .int, 2) := by decide +kernel
theorem dX12_init_25 : decode cX12_init 25 = .ok (.putfield 16, 3) := by decide +kernel
theorem dX12_init_28 : decode cX12_init 28 = .ok (.aload_n 0, 1) := by decide +kernel
theorem dX12_init_29 : decode cX12_init 29 = .ok (.sipush 480, 3) := by decide +kernel
theorem dX12_init_32 : decode cX12_init 32 = .ok (.newarray .int, 2) := by decide +kernel
theorem dX12_init_34 : decode cX12_init 34 = .ok (.putfield 19, 3) := by decide +kernel
theorem dX12_init_37 : decode cX12_init 37 = .ok (.aload_n 0, 1) := by decide +kernel
theorem dX12_init_38 : decode cX12_init 38 = .ok (.sipush 1440, 3) := by decide +kernel
theorem dX12_init_41 : decode cX12_init 41 = .ok (.newarray .int, 2) := by decide +kernel
theorem dX12_init_43 : decode cX12_init 43 = .ok (.putfield 22, 3) := by decide +kernel
theorem dX12_init_46 : decode cX12_init 46 = .ok (.aload_n 0, 1) := by decide +kernel
theorem dX12_init_47 : decode cX12_init 47 = .ok (.sipush 1440, 3) := by decide +kernel
theorem dX12_init_50 : decode cX12_init 50 = .ok (.newarray .int, 2) := by decide +kernel
theorem dX12_init_52 : decode cX12_init 52 = .ok (.putfield 25, 3) := by decide +kernel
theorem dX12_init_55 : decode cX12_init 55 = .ok (.aload_n 0, 1) := by decide +kernel
theorem dX12_init_56 : decode cX12_init 56 = .ok (.sipush 8640, 3) := by decide +kernel
theorem dX12_init_59 : decode cX12_init 59 = .ok (.newarray .int, 2) := by decide +kernel
theorem dX12_init_61 : decode cX12_init 61 = .ok (.putfield 28, 3) := by decide +kernel
theorem dX12_init_64 : decode cX12_init 64 = .ok (.aload_n 0, 1) := by decide +kernel
theorem dX12_init_65 : decode cX12_init 65 = .ok (.sipush 8640, 3) := by decide +kernel
theorem dX12_init_68 : decode cX12_init 68 = .ok (.newarray .boolean, 2) := by decide +kernel
theorem dX12_init_70 : decode cX12_init 70 = .ok (.putfield 31, 3) := by decide +kernel
theorem dX12_init_73 : decode cX12_init 73 = .ok (.aload_n 0, 1) := by decide +kernel
theorem dX12_init_74 : decode cX12_init 74 = .ok (.sipush 999, 3) := by decide +kernel
theorem dX12_init_77 : decode cX12_init 77 = .ok (.putfield 35, 3) := by decide +kernel
theorem dX12_init_80 : decode cX12_init 80 = .ok (.aload_n 0, 1) := by decide +kernel
theorem dX12_init_81 : decode cX12_init 81 = .ok (.iconst 1, 1) := by decide +kernel
theorem dX12_init_82 : decode cX12_init 82 = .ok (.putfield 39, 3) := by decide +kernel
theorem dX12_init_85 : decode cX12_init 85 = .ok (.aload_n 0, 1) := by decide +kernel
theorem dX12_init_86 : decode cX12_init 86 = .ok (.sipush 255, 3) := by decide +kernel
theorem dX12_init_89 : decode cX12_init 89 = .ok (.putfield 43, 3) := by decide +kernel
theorem dX12_init_92 : decode cX12_init 92 = .ok (.aload_n 0, 1) := by decide +kernel
theorem dX12_init_93 : decode cX12_init 93 = .ok (.sipush 240, 3) := by decide +kernel
theorem dX12_init_96 : decode cX12_init 96 = .ok (.newarray .int, 2) := by decide +kernel
theorem dX12_init_98 : decode cX12_init 98 = .ok (.putfield 46, 3) := by decide +kernel
theorem dX12_init_101 : decode cX12_init 101 = .ok (.aload_n 0, 1) := by decide +kernel
theorem dX12_init_102 : decode cX12_init 102 = .ok (.iconst (-1), 1) := by decide +kernel
theorem dX12_init_103 : decode cX12_init 103 = .ok (.putfield 49, 3) := by decide +kernel
theorem dX12_init_106 : decode cX12_init 106 = .ok (.aload_n 0, 1) := by decide +kernel
theorem dX12_init_107 : decode cX12_init 107 = .ok (.bipush 60, 2) := by decide +kernel
theorem dX12_init_109 : decode cX12_init 109 = .ok (.newarray .long, 2) := by decide +kernel
theorem dX12_init_111 : decode cX12_init 111 = .ok (.putfield 52, 3) := by decide +kernel
theorem dX12_init_114 : decode cX12_init 114 = .ok (.aload_n 0, 1) := by decide +kernel
theorem dX12_init_115 : decode cX12_init 115 = .ok (.bipush 30, 2) := by decide +kernel
theorem dX12_init_117 : decode cX12_init 117 = .ok (.newarray .int, 2) := by decide +kernel
theorem dX12_init_119 : decode cX12_init 119 = .ok (.putfield 56, 3) := by decide +kernel
theorem dX12_init_122 : decode cX12_init 122 = .ok (.aload_n 0, 1) := by decide +kernel
theorem dX12_init_123 : decode cX12_init 123 = .ok (.bipush 30, 2) := by decide +kernel
theorem dX12_init_125 : decode cX12_init 125 = .ok (.newarray .int, 2) := by decide +kernel
theorem dX12_init_127 : decode cX12_init 127 = .ok (.putfield 59, 3) := by decide +kernel
theorem dX12_init_130 : decode cX12_init 130 = .ok (.aload_n 0, 1) := by decide +kernel
theorem dX12_init_131 : decode cX12_init 131 = .ok (.bipush 30, 2) := by decide +kernel
theorem dX12_init_133 : decode cX12_init 133 = .ok (.newarray .int, 2) := by decide +kernel
theorem dX12_init_135 : decode cX12_init 135 = .ok (.putfield 62, 3) := by decide +kernel
theorem dX12_init_138 : decode cX12_init 138 = .ok (.aload_n 0, 1) := by decide +kernel
theorem dX12_init_139 : decode cX12_init 139 = .ok (.bipush 30, 2) := by decide +kernel
theorem dX12_init_141 : decode cX12_init 141 = .ok (.newarray .int, 2) := by decide +kernel
theorem dX12_init_143 : decode cX12_init 143 = .ok (.putfield 65, 3) := by decide +kernel
theorem dX12_init_146 : decode cX12_init 146 = .ok (.aload_n 0, 1) := by decide +kernel
theorem dX12_init_147 : decode cX12_init 147 = .ok (.bipush 40, 2) := by decide +kernel
theorem dX12_init_149 : decode cX12_init 149 = .ok (.newarray .int, 2) := by decide +kernel
theorem dX12_init_151 : decode cX12_init 151 = .ok (.putfield 68, 3) := by decide +kernel
theorem dX12_init_154 : decode cX12_init 154 = .ok (.aload_n 0, 1) := by decide +kernel
theorem dX12_init_155 : decode cX12_init 155 = .ok (.bipush 40, 2) := by decide +kernel
theorem dX12_init_157 : decode cX12_init 157 = .ok (.newarray .int, 2) := by decide +kernel
theorem dX12_init_159 : decode cX12_init 159 = .ok (.putfield 71, 3) := by decide +kernel
theorem dX12_init_162 : decode cX12_init 162 = .ok (.aload_n 0, 1) := by decide +kernel
theorem dX12_init_163 : decode cX12_init 163 = .ok (.bipush 40, 2) := by decide +kernel
theorem dX12_init_165 : decode cX12_init 165 = .ok (.newarray .int, 2) := by decide +kernel
theorem dX12_init_167 : decode cX12_init 167 = .ok (.putfield 74, 3) := by decide +kernel
theorem dX12_init_170 : decode cX12_init 170 = .ok (.aload_n 0, 1) := by decide +kernel
theorem dX12_init_171 : decode cX12_init 171 = .ok (.bipush 40, 2) := by decide +kernel
theorem dX12_init_173 : decode cX12_init 173 = .ok (.newarray .int, 2) := by decide +kernel
theorem dX12_init_175 : decode cX12_init 175 = .ok (.putfield 77, 3) := by decide +kernel
theorem dX12_init_178 : decode cX12_init 178 = .ok (.aload_n 0, 1) := by decide +kernel
theorem dX12_init_179 : decode cX12_init 179 = .ok (.bipush 10, 2) := by decide +kernel
theorem dX12_init_181 : decode cX12_init 181 = .ok (.newarray .int, 2) := by decide +kernel
theorem dX12_init_183 : decode cX12_init 183 = .ok (.putfield 80, 3) := by decide +kernel
theorem dX12_init_186 : decode cX12_init 186 = .ok (.aload_n 0, 1) := by decide +kernel
theorem dX12_init_187 : decode cX12_init 187 = .ok (.bipush 10, 2) := by decide +kernel
theorem dX12_init_189 : decode cX12_init 189 = .ok (.newarray .int, 2) := by decide +kernel
theorem dX12_init_191 : decode cX12_init 191 = .ok (.putfield 83, 3) := by decide +kernel
theorem dX12_init_194 : decode cX12_init 194 = .ok (.aload_n 0, 1) := by decide +kernel
theorem dX12_init_195 : decode cX12_init 195 = .ok (.sipush 180, 3) := by decide +kernel
theorem dX12_init_198 : decode cX12_init 198 = .ok (.newarray .int, 2) := by decide +kernel
theorem dX12_init_200 : decode cX12_init 200 = .ok (.putfield 86, 3) := by decide +kernel
theorem dX12_init_203 : decode cX12_init 203 = .ok (.aload_n 0, 1) := by decide +kernel
theorem dX12_init_204 : decode cX12_init 204 = .ok (.sipush 198, 3) := by decide +kernel
theorem dX12_init_207 : decode cX12_init 207 = .ok (.newarray .int, 2) := by decide +kernel
theorem dX12_init_209 : decode cX12_init 209 = .ok (.putfield 89, 3) := by decide +kernel
theorem dX12_init_212 : decode cX12_init 212 = .ok (.aload_n 0, 1) := by decide +kernel
theorem dX12_init_213 : decode cX12_init 213 = .ok (.iconst 4, 1) := by decide +kernel
theorem dX12_init_214 : decode cX12_init 214 = .ok (.newarray .int, 2) := by decide +kernel
theorem dX12_init_216 : decode cX12_init 216 = .ok (.putfield 92, 3) := by decide +kernel
theorem dX12_init_219 : decode cX12_init 219 = .ok (.aload_n 0, 1) := by decide +kernel
theorem dX12_init_220 : decode cX12_init 220 = .ok (.iconst 4, 1) := by decide +kernel
theorem dX12_init_221 : decode cX12_init 221 = .ok (.newarray .long, 2) := by decide +kernel
theorem dX12_init_223 : decode cX12_init 223 = .ok (.putfield 95, 3) := by decide +kernel
theorem dX12_init_226 : decode cX12_init 226 = .ok (.return_, 1) := by decide +kernel
theorem dX12_in_0 : decode cX12_in 0 = .ok (.lload_n 0, 1) := by decide +kernel
theorem dX12_in_1 : decode cX12_in 1 = .ok (.lload_n 2, 1) := by decide +kernel
theorem dX12_in_2 : decode cX12_in 2 = .ok (.lcmp, 1) := by decide +kernel
theorem dX12_in_3 : decode cX12_in 3 = .ok (.ifCond .lt 14, 3) := by decide +kernel
theorem dX12_in_6 : decode cX12_in 6 = .ok (.lload_n 0, 1) := by decide +kernel
theorem dX12_in_7 : decode cX12_in 7 = .ok (.lload 4, 2) := by decide +kernel
theorem dX12_in_9 : decode cX12_in 9 = .ok (.lcmp, 1) := by decide +kernel
theorem dX12_in_10 : decode cX12_in 10 = .ok (.ifCond .gt 7, 3) := by decide +kernel
theorem dX12_in_13 : decode cX12_in 13 = .ok (.iconst 1, 1) := by decide +kernel
theorem dX12_in_14 : decode cX12_in 14 = .ok (.goto 4, 3) := by decide +kernel
theorem dX12_in_17 : decode cX12_in 17 = .ok (.iconst 0, 1) := by decide +kernel
theorem dX12_in_18 : decode cX12_in 18 = .ok (.ireturn, 1) := by decide +kernel
theorem dX12_isTongue_0 : decode cX12_isTongue 0 = .ok (.iload_n 0, 1) := by decide +kernel
theorem dX12_isTongue_1 : decode cX12_isTongue 1 = .ok (.i2l, 1) := by decide +kernel
theorem dX12_isTongue_2 : decode cX12_isTongue 2 = .ok (.lconst 0, 1) := by decide +kernel
theorem dX12_isTongue_3 : decode cX12_isTongue 3 = .ok (.ldc2_w 98, 3) := by decide +kernel
theorem dX12_isTongue_6 : decode cX12_isTongue 6 = .ok (.invokestatic 100, 3) := by decide +kernel
theorem dX12_isTongue_9 : decode cX12_isTongue 9 = .ok (.ireturn, 1) := by decide +kernel
theorem dX12_isWord_0 : decode cX12_isWord 0 = .ok (.iload_n 0, 1) := by decide +kernel
theorem dX12_isWord_1 : decode cX12_isWord 1 = .ok (.i2l, 1) := by decide +kernel
theorem dX12_isWord_2 : decode cX12_isWord 2 = .ok (.lconst 0, 1) := by decide +kernel
theorem dX12_isWord_3 : decode cX12_isWord 3 = .ok (.ldc2_w 104, 3) := by decide +kernel
theorem dX12_isWord_6 : decode cX12_isWord 6 = .ok (.invokestatic 100, 3) := by decide +kernel
theorem dX12_isWord_9 : decode cX12_isWord 9 = .ok (.ireturn, 1) := by decide +kernel
theorem dX12_bits_0 : decode cX12_bits 0 = .ok (.iconst 0, 1) := by decide +kernel
theorem dX12_bits_1 : decode cX12_bits 1 = .ok (.istore_n 2, 1) := by decide +kernel
theorem dX12_bits_2 : decode cX12_bits 2 = .ok (.iconst 0, 1) := by decide +kernel
theorem dX12_bits_3 : decode cX12_bits 3 = .ok (.istore_n 3, 1) := by decide +kernel
theorem dX12_bits_4 : decode cX12_bits 4 = .ok (.iload_n 3, 1) := by decide +kernel
theorem dX12_bits_5 : decode cX12_bits 5 = .ok (.bipush 60, 2) := by decide +kernel
theorem dX12_bits_7 : decode cX12_bits 7 = .ok (.if_icmp .ge 18, 3) := by decide +kernel
theorem dX12_bits_10 : decode cX12_bits 10 = .ok (.iload_n 2, 1) := by decide +kernel
theorem dX12_bits_11 : decode cX12_bits 11 = .ok (.lload_n 0, 1) := by decide +kernel
theorem dX12_bits_12 : decode cX12_bits 12 = .ok (.iload_n 3, 1) := by decide +kernel
theorem dX12_bits_13 : decode cX12_bits 13 = .ok (.lshr, 1) := by decide +kernel
theorem dX12_bits_14 : decode cX12_bits 14 = .ok (.lconst 1, 1) := by decide +kernel
theorem dX12_bits_15 : decode cX12_bits 15 = .ok (.land, 1) := by decide +kernel
theorem dX12_bits_16 : decode cX12_bits 16 = .ok (.l2i, 1) := by decide +kernel
theorem dX12_bits_17 : decode cX12_bits 17 = .ok (.iadd, 1) := by decide +kernel
theorem dX12_bits_18 : decode cX12_bits 18 = .ok (.istore_n 2, 1) := by decide +kernel
theorem dX12_bits_19 : decode cX12_bits 19 = .ok (.iinc 3 1, 3) := by decide +kernel
theorem dX12_bits_22 : decode cX12_bits 22 = .ok (.goto (-18), 3) := by decide +kernel
theorem dX12_bits_25 : decode cX12_bits 25 = .ok (.iload_n 2, 1) := by decide +kernel
theorem dX12_bits_26 : decode cX12_bits 26 = .ok (.ireturn, 1) := by decide +kernel
theorem dX12_feed_0 : decode cX12_feed 0 = .ok (.iload_n 1, 1) := by decide +kernel
theorem dX12_feed_1 : decode cX12_feed 1 = .ok (.i2l, 1) := by decide +kernel
theorem dX12_feed_2 : decode cX12_feed 2 = .ok (.lconst 1, 1) := by decide +kernel
theorem dX12_feed_3 : decode cX12_feed 3 = .ok (.ldc2_w 106, 3) := by decide +kernel
theorem dX12_feed_6 : decode cX12_feed 6 = .ok (.invokestatic 100, 3) := by decide +kernel
theorem dX12_feed_9 : decode cX12_feed 9 = .ok (.ifCond .ne 7, 3) := by decide +kernel
theorem dX12_feed_12 : decode cX12_feed 12 = .ok (.sipush (-1002), 3) := by decide +kernel
theorem dX12_feed_15 : decode cX12_feed 15 = .ok (.ireturn, 1) := by decide +kernel
theorem dX12_feed_16 : decode cX12_feed 16 = .ok (.aload_n 0, 1) := by decide +kernel
theorem dX12_feed_17 : decode cX12_feed 17 = .ok (.getfield 108, 3) := by decide +kernel
theorem dX12_feed_20 : decode cX12_feed 20 = .ok (.iload_n 1, 1) := by decide +kernel
theorem dX12_feed_21 : decode cX12_feed 21 = .ok (.iadd, 1) := by decide +kernel
theorem dX12_feed_22 : decode cX12_feed 22 = .ok (.sipush 240, 3) := by decide +kernel
theorem dX12_feed_25 : decode cX12_feed 25 = .ok (.if_icmp .le 7, 3) := by decide +kernel
theorem dX12_feed_28 : decode cX12_feed 28 = .ok (.sipush (-1004), 3) := by decide +kernel
theorem dX12_feed_31 : decode cX12_feed 31 = .ok (.ireturn, 1) := by decide +kernel
theorem dX12_feed_32 : decode cX12_feed 32 = .ok (.iload_n 1, 1) := by decide +kernel
theorem dX12_feed_33 : decode cX12_feed 33 = .ok (.iconst 1, 1) := by decide +kernel
theorem dX12_feed_34 : decode cX12_feed 34 = .ok (.isub, 1) := by decide +kernel
theorem dX12_feed_35 : decode cX12_feed 35 = .ok (.istore 4, 2) := by decide +kernel
theorem dX12_feed_37 : decode cX12_feed 37 = .ok (.iload 4, 2) := by decide +kernel
theorem dX12_feed_39 : decode cX12_feed 39 = .ok (.ifCond .lt 40, 3) := by decide +kernel
theorem dX12_feed_42 : decode cX12_feed 42 = .ok (.aload_n 0, 1) := by decide +kernel
theorem dX12_feed_43 : decode cX12_feed 43 = .ok (.getfield 46, 3) := by decide +kernel
theorem dX12_feed_46 : decode cX12_feed 46 = .ok (.aload_n 0, 1) := by decide +kernel
theorem dX12_feed_47 : decode cX12_feed 47 = .ok (.getfield 108, 3) := by decide +kernel
theorem dX12_feed_50 : decode cX12_feed 50 = .ok (.lload_n 2, 1) := by decide +kernel
theorem dX12_feed_51 : decode cX12_feed 51 = .ok (.bipush 8, 2) := by decide +kernel
theorem dX12_feed_53 : decode cX12_feed 53 = .ok (.iload 4, 2) := by decide +kernel
theorem dX12_feed_55 : decode cX12_feed 55 = .ok (.imul, 1) := by decide +kernel
theorem dX12_feed_56 : decode cX12_feed 56 = .ok (.lshr, 1) := by decide +kernel
theorem dX12_feed_57 : decode cX12_feed 57 = .ok (.ldc2_w 111, 3) := by decide +kernel
theorem dX12_feed_60 : decode cX12_feed 60 = .ok (.land, 1) := by decide +kernel
theorem dX12_feed_61 : decode cX12_feed 61 = .ok (.l2i, 1) := by decide +kernel
theorem dX12_feed_62 : decode cX12_feed 62 = .ok (.iastore, 1) := by decide +kernel
theorem dX12_feed_63 : decode cX12_feed 63 = .ok (.aload_n 0, 1) := by decide +kernel
theorem dX12_feed_64 : decode cX12_feed 64 = .ok (.dup, 1) := by decide +kernel
theorem dX12_feed_65 : decode cX12_feed 65 = .ok (.getfield 108, 3) := by decide +kernel
theorem dX12_feed_68 : decode cX12_feed 68 = .ok (.iconst 1, 1) := by decide +kernel
theorem dX12_feed_69 : decode cX12_feed 69 = .ok (.iadd, 1) := by decide +kernel
theorem dX12_feed_70 : decode cX12_feed 70 = .ok (.putfield 108, 3) := by decide +kernel
theorem dX12_feed_73 : decode cX12_feed 73 = .ok (.iinc 4 (-1), 3) := by decide +kernel
theorem dX12_feed_76 : decode cX12_feed 76 = .ok (.goto (-39), 3) := by decide +kernel
theorem dX12_feed_79 : decode cX12_feed 79 = .ok (.aload_n 0, 1) := by decide +kernel
theorem dX12_feed_80 : decode cX12_feed 80 = .ok (.getfield 108, 3) := by decide +kernel
theorem dX12_feed_83 : decode cX12_feed 83 = .ok (.ireturn, 1) := by decide +kernel
theorem dX12_here_0 : decode cX12_here 0 = .ok (.aload_n 0, 1) := by decide +kernel
theorem dX12_here_1 : decode cX12_here 1 = .ok (.getfield 113, 3) := by decide +kernel
theorem dX12_here_4 : decode cX12_here 4 = .ok (.aload_n 0, 1) := by decide +kernel
theorem dX12_here_5 : decode cX12_here 5 = .ok (.getfield 108, 3) := by decide +kernel
theorem dX12_here_8 : decode cX12_here 8 = .ok (.if_icmp .ge 30, 3) := by decide +kernel
theorem dX12_here_11 : decode cX12_here 11 = .ok (.aload_n 0, 1) := by decide +kernel
theorem dX12_here_12 : decode cX12_here 12 = .ok (.getfield 46, 3) := by decide +kernel
theorem dX12_here_15 : decode cX12_here 15 = .ok (.aload_n 0, 1) := by decide +kernel
theorem dX12_here_16 : decode cX12_here 16 = .ok (.getfield 113, 3) := by decide +kernel
theorem dX12_here_19 : decode cX12_here 19 = .ok (.iaload, 1) := by decide +kernel
theorem dX12_here_20 : decode cX12_here 20 = .ok (.bipush 32, 2) := by decide +kernel
theorem dX12_here_22 : decode cX12_here 22 = .ok (.if_icmp .ne 16, 3) := by decide +kernel
theorem dX12_here_25 : decode cX12_here 25 = .ok (.aload_n 0, 1) := by decide +kernel
theorem dX12_here_26 : decode cX12_here 26 = .ok (.dup, 1) := by decide +kernel
theorem dX12_here_27 : decode cX12_here 27 = .ok (.getfield 113, 3) := by decide +kernel
theorem dX12_here_30 : decode cX12_here 30 = .ok (.iconst 1, 1) := by decide +kernel
theorem dX12_here_31 : decode cX12_here 31 = .ok (.iadd, 1) := by decide +kernel
theorem dX12_here_32 : decode cX12_here 32 = .ok (.putfield 113, 3) := by decide +kernel
theorem dX12_here_35 : decode cX12_here 35 = .ok (.goto (-35), 3) := by decide +kernel
theorem dX12_here_38 : decode cX12_here 38 = .ok (.aload_n 0, 1) := by decide +kernel
theorem dX12_here_39 : decode cX12_here 39 = .ok (.getfield 113, 3) := by decide +kernel
theorem dX12_here_42 : decode cX12_here 42 = .ok (.aload_n 0, 1) := by decide +kernel
theorem dX12_here_43 : decode cX12_here 43 = .ok (.getfield 108, 3) := by decide +kernel
theorem dX12_here_46 : decode cX12_here 46 = .ok (.if_icmp .ge 15, 3) := by decide +kernel
theorem dX12_here_49 : decode cX12_here 49 = .ok (.aload_n 0, 1) := by decide +kernel
theorem dX12_here_50 : decode cX12_here 50 = .ok (.getfield 46, 3) := by decide +kernel
theorem dX12_here_53 : decode cX12_here 53 = .ok (.aload_n 0, 1) := by decide +kernel
theorem dX12_here_54 : decode cX12_here 54 = .ok (.getfield 113, 3) := by decide +kernel
theorem dX12_here_57 : decode cX12_here 57 = .ok (.iaload, 1) := by decide +kernel
theorem dX12_here_58 : decode cX12_here 58 = .ok (.goto 4, 3) := by decide +kernel
theorem dX12_here_61 : decode cX12_here 61 = .ok (.iconst (-1), 1) := by decide +kernel
theorem dX12_here_62 : decode cX12_here 62 = .ok (.ireturn, 1) := by decide +kernel
theorem dX12_fails_0 : decode cX12_fails 0 = .ok (.aload_n 0, 1) := by decide +kernel
theorem dX12_fails_1 : decode cX12_fails 1 = .ok (.iload_n 2, 1) := by decide +kernel
theorem dX12_fails_2 : decode cX12_fails 2 = .ok (.putfield 49, 3) := by decide +kernel
theorem dX12_fails_5 : decode cX12_fails 5 = .ok (.iload_n 1, 1) := by decide +kernel
theorem dX12_fails_6 : decode cX12_fails 6 = .ok (.ireturn, 1) := by decide +kernel
theorem dX12_readNumber_0 : decode cX12_readNumber 0 = .ok (.aload_n 0, 1) := by decide +kernel
theorem dX12_readNumber_1 : decode cX12_readNumber 1 = .ok (.invokevirtual 116, 3) := by decide +kernel
theorem dX12_readNumber_4 : decode cX12_readNumber 4 = .ok (.istore_n 2, 1) := by decide +kernel
theorem dX12_readNumber_5 : decode cX12_readNumber 5 = .ok (.iload_n 2, 1) := by decide +kernel
theorem dX12_readNumber_6 : decode cX12_readNumber 6 = .ok (.i2l, 1) := by decide +kernel
theorem dX12_readNumber_7 : decode cX12_readNumber 7 = .ok (.ldc2_w 120, 3) := by decide +kernel
theorem dX12_readNumber_10 : decode cX12_readNumber 10 = .ok (.ldc2_w 122, 3) := by decide +kernel
theorem dX12_readNumber_13 : decode cX12_readNumber 13 = .ok (.invokestatic 100, 3) := by decide +kernel
theorem dX12_readNumber_16 : decode cX12_readNumber 16 = .ok (.ifCond .ne 13, 3) := by decide +kernel
theorem dX12_readNumber_19 : decode cX12_readNumber 19 = .ok (.aload_n 0, 1) := by decide +kernel
theorem dX12_readNumber_20 : decode cX12_readNumber 20 = .ok (.iconst 1, 1) := by decide +kernel
theorem dX12_readNumber_21 : decode cX12_readNumber 21 = .ok (.aload_n 0, 1) := by decide +kernel
theorem dX12_readNumber_22 : decode cX12_readNumber 22 = .ok (.getfield 113, 3) := by decide +kernel
theorem dX12_readNumber_25 : decode cX12_readNumber 25 = .ok (.invokevirtual 124, 3) := by decide +kernel
theorem dX12_readNumber_28 : decode cX12_readNumber 28 = .ok (.ireturn, 1) := by decide +kernel
theorem dX12_readNumber_29 : decode cX12_readNumber 29 = .ok (.aload_n 0, 1) := by decide +kernel
theorem dX12_readNumber_30 : decode cX12_readNumber 30 = .ok (.aload_n 0, 1) := by decide +kernel
theorem dX12_readNumber_31 : decode cX12_readNumber 31 = .ok (.getfield 113, 3) := by decide +kernel
theorem dX12_readNumber_34 : decode cX12_readNumber 34 = .ok (.putfield 128, 3) := by decide +kernel
theorem dX12_readNumber_37 : decode cX12_readNumber 37 = .ok (.aload_n 0, 1) := by decide +kernel
theorem dX12_readNumber_38 : decode cX12_readNumber 38 = .ok (.iconst 0, 1) := by decide +kernel
theorem dX12_readNumber_39 : decode cX12_readNumber 39 = .ok (.putfield 131, 3) := by decide +kernel
theorem dX12_readNumber_42 : decode cX12_readNumber 42 = .ok (.aload_n 0, 1) := by decide +kernel
theorem dX12_readNumber_43 : decode cX12_readNumber 43 = .ok (.getfield 113, 3) := by decide +kernel
theorem dX12_readNumber_46 : decode cX12_readNumber 46 = .ok (.aload_n 0, 1) := by decide +kernel
theorem dX12_readNumber_47 : decode cX12_readNumber 47 = .ok (.getfield 108, 3) := by decide +kernel
theorem dX12_readNumber_50 : decode cX12_readNumber 50 = .ok (.if_icmp .ge 79, 3) := by decide +kernel
theorem dX12_readNumber_53 : decode cX12_readNumber 53 = .ok (.aload_n 0, 1) := by decide +kernel
theorem dX12_readNumber_54 : decode cX12_readNumber 54 = .ok (.getfield 46, 3) := by decide +kernel
theorem dX12_readNumber_57 : decode cX12_readNumber 57 = .ok (.aload_n 0, 1) := by decide +kernel
theorem dX12_readNumber_58 : decode cX12_readNumber 58 = .ok (.getfield 113, 3) := by decide +kernel
theorem dX12_readNumber_61 : decode cX12_readNumber 61 = .ok (.iaload, 1) := by decide +kernel
theorem dX12_readNumber_62 : decode cX12_readNumber 62 = .ok (.i2l, 1) := by decide +kernel
theorem dX12_readNumber_63 : decode cX12_readNumber 63 = .ok (.ldc2_w 120, 3) := by decide +kernel
theorem dX12_readNumber_66 : decode cX12_readNumber 66 = .ok (.ldc2_w 122, 3) := by decide +kernel
theorem dX12_readNumber_69 : decode cX12_readNumber 69 = .ok (.invokestatic 100, 3) := by decide +kernel
theorem dX12_readNumber_72 : decode cX12_readNumber 72 = .ok (.ifCond .eq 57, 3) := by decide +kernel
theorem dX12_readNumber_75 : decode cX12_readNumber 75 = .ok (.aload_n 0, 1) := by decide +kernel
theorem dX12_readNumber_76 : decode cX12_readNumber 76 = .ok (.aload_n 0, 1) := by decide +kernel
theorem dX12_readNumber_77 : decode cX12_readNumber 77 = .ok (.getfield 131, 3) := by decide +kernel
theorem dX12_readNumber_80 : decode cX12_readNumber 80 = .ok (.sipush 10000, 3) := by decide +kernel
theorem dX12_readNumber_83 : decode cX12_readNumber 83 = .ok (.if_icmp .le 10, 3) := by decide +kernel
theorem dX12_readNumber_86 : decode cX12_readNumber 86 = .ok (.aload_n 0, 1) := by decide +kernel
theorem dX12_readNumber_87 : decode cX12_readNumber 87 = .ok (.getfield 131, 3) := by decide +kernel
theorem dX12_readNumber_90 : decode cX12_readNumber 90 = .ok (.goto 23, 3) := by decide +kernel
theorem dX12_readNumber_93 : decode cX12_readNumber 93 = .ok (.bipush 10, 2) := by decide +kernel
theorem dX12_readNumber_95 : decode cX12_readNumber 95 = .ok (.aload_n 0, 1) := by decide +kernel
theorem dX12_readNumber_96 : decode cX12_readNumber 96 = .ok (.getfield 131, 3) := by decide +kernel
theorem dX12_readNumber_99 : decode cX12_readNumber 99 = .ok (.imul, 1) := by decide +kernel
theorem dX12_readNumber_100 : decode cX12_readNumber 100 = .ok (.aload_n 0, 1) := by decide +kernel
theorem dX12_readNumber_101 : decode cX12_readNumber 101 = .ok (.getfield 46, 3) := by decide +kernel
theorem dX12_readNumber_104 : decode cX12_readNumber 104 = .ok (.aload_n 0, 1) := by decide +kernel
theorem dX12_readNumber_105 : decode cX12_readNumber 105 = .ok (.getfield 113, 3) := by decide +kernel
theorem dX12_readNumber_108 : decode cX12_readNumber 108 = .ok (.iaload, 1) := by decide +kernel
theorem dX12_readNumber_109 : decode cX12_readNumber 109 = .ok (.iadd, 1) := by decide +kernel
theorem dX12_readNumber_110 : decode cX12_readNumber 110 = .ok (.bipush 48, 2) := by decide +kernel
theorem dX12_readNumber_112 : decode cX12_readNumber 112 = .ok (.isub, 1) := by decide +kernel
theorem dX12_readNumber_113 : decode cX12_readNumber 113 = .ok (.putfield 131, 3) := by decide +kernel
theorem dX12_readNumber_116 : decode cX12_readNumber 116 = .ok (.aload_n 0, 1) := by decide +kernel
theorem dX12_readNumber_117 : decode cX12_readNumber 117 = .ok (.dup, 1) := by decide +kernel
theorem dX12_readNumber_118 : decode cX12_readNumber 118 = .ok (.getfield 113, 3) := by decide +kernel
theorem dX12_readNumber_121 : decode cX12_readNumber 121 = .ok (.iconst 1, 1) := by decide +kernel
theorem dX12_readNumber_122 : decode cX12_readNumber 122 = .ok (.iadd, 1) := by decide +kernel
theorem dX12_readNumber_123 : decode cX12_readNumber 123 = .ok (.putfield 113, 3) := by decide +kernel
theorem dX12_readNumber_126 : decode cX12_readNumber 126 = .ok (.goto (-84), 3) := by decide +kernel
theorem dX12_readNumber_129 : decode cX12_readNumber 129 = .ok (.aload_n 0, 1) := by decide +kernel
theorem dX12_readNumber_130 : decode cX12_readNumber 130 = .ok (.getfield 113, 3) := by decide +kernel
theorem dX12_readNumber_133 : decode cX12_readNumber 133 = .ok (.aload_n 0, 1) := by decide +kernel
theorem dX12_readNumber_134 : decode cX12_readNumber 134 = .ok (.getfield 128, 3) := by decide +kernel
theorem dX12_readNumber_137 : decode cX12_readNumber 137 = .ok (.isub, 1) := by decide +kernel
theorem dX12_readNumber_138 : decode cX12_readNumber 138 = .ok (.iconst 2, 1) := by decide +kernel
theorem dX12_readNumber_139 : decode cX12_readNumber 139 = .ok (.if_icmp .gt 11, 3) := by decide +kernel
theorem dX12_readNumber_142 : decode cX12_readNumber 142 = .ok (.aload_n 0, 1) := by decide +kernel
theorem dX12_readNumber_143 : decode cX12_readNumber 143 = .ok (.getfield 131, 3) := by decide +kernel
theorem dX12_readNumber_146 : decode cX12_readNumber 146 = .ok (.iload_n 1, 1) := by decide +kernel
theorem dX12_readNumber_147 : decode cX12_readNumber 147 = .ok (.if_icmp .le 15, 3) := by decide +kernel
theorem dX12_readNumber_150 : decode cX12_readNumber 150 = .ok (.aload_n 0, 1) := by decide +kernel
theorem dX12_readNumber_151 : decode cX12_readNumber 151 = .ok (.iconst 2, 1) := by decide +kernel
theorem dX12_readNumber_152 : decode cX12_readNumber 152 = .ok (.aload_n 0, 1) := by decide +kernel
theorem dX12_readNumber_153 : decode cX12_readNumber 153 = .ok (.getfield 128, 3) := by decide +kernel
theorem dX12_readNumber_156 : decode cX12_readNumber 156 = .ok (.invokevirtual 124, 3) := by decide +kernel
theorem dX12_readNumber_159 : decode cX12_readNumber 159 = .ok (.goto 4, 3) := by decide +kernel
theorem dX12_readNumber_162 : decode cX12_readNumber 162 = .ok (.iconst 0, 1) := by decide +kernel
theorem dX12_readNumber_163 : decode cX12_readNumber 163 = .ok (.ireturn, 1) := by decide +kernel
theorem dX12_readSign_0 : decode cX12_readSign 0 = .ok (.aload_n 0, 1) := by decide +kernel
theorem dX12_readSign_1 : decode cX12_readSign 1 = .ok (.invokevirtual 116, 3) := by decide +kernel
theorem dX12_readSign_4 : decode cX12_readSign 4 = .ok (.iload_n 1, 1) := by decide +kernel
theorem dX12_readSign_5 : decode cX12_readSign 5 = .ok (.if_icmp .eq 13, 3) := by decide +kernel
theorem dX12_readSign_8 : decode cX12_readSign 8 = .ok (.aload_n 0, 1) := by decide +kernel
theorem dX12_readSign_9 : decode cX12_readSign 9 = .ok (.iconst 1, 1) := by decide +kernel
theorem dX12_readSign_10 : decode cX12_readSign 10 = .ok (.aload_n 0, 1) := by decide +kernel
theorem dX12_readSign_11 : decode cX12_readSign 11 = .ok (.getfield 113, 3) := by decide +kernel
theorem dX12_readSign_14 : decode cX12_readSign 14 = .ok (.invokevirtual 124, 3) := by decide +kernel
theorem dX12_readSign_17 : decode cX12_readSign 17 = .ok (.ireturn, 1) := by decide +kernel
theorem dX12_readSign_18 : decode cX12_readSign 18 = .ok (.aload_n 0, 1) := by decide +kernel
theorem dX12_readSign_19 : decode cX12_readSign 19 = .ok (.dup, 1) := by decide +kernel
theorem dX12_readSign_20 : decode cX12_readSign 20 = .ok (.getfield 113, 3) := by decide +kernel
theorem dX12_readSign_23 : decode cX12_readSign 23 = .ok (.iconst 1, 1) := by decide +kernel
theorem dX12_readSign_24 : decode cX12_readSign 24 = .ok (.iadd, 1) := by decide +kernel
theorem dX12_readSign_25 : decode cX12_readSign 25 = .ok (.putfield 113, 3) := by decide +kernel
theorem dX12_readSign_28 : decode cX12_readSign 28 = .ok (.iconst 0, 1) := by decide +kernel
theorem dX12_readSign_29 : decode cX12_readSign 29 = .ok (.ireturn, 1) := by decide +kernel
theorem dX12_readWords_0 : decode cX12_readWords 0 = .ok (.iconst 1, 1) := by decide +kernel
theorem dX12_readWords_1 : decode cX12_readWords 1 = .ok (.istore_n 2, 1) := by decide +kernel
theorem dX12_readWords_2 : decode cX12_readWords 2 = .ok (.iload_n 2, 1) := by decide +kernel
theorem dX12_readWords_3 : decode cX12_readWords 3 = .ok (.ifCond .eq 203, 3) := by decide +kernel
theorem dX12_readWords_6 : decode cX12_readWords 6 = .ok (.aload_n 0, 1) := by decide +kernel
theorem dX12_readWords_7 : decode cX12_readWords 7 = .ok (.bipush 59, 2) := by decide +kernel
theorem dX12_readWords_9 : decode cX12_readWords 9 = .ok (.invokevirtual 134, 3) := by decide +kernel
theorem dX12_readWords_12 : decode cX12_readWords 12 = .ok (.istore_n 3, 1) := by decide +kernel
theorem dX12_readWords_13 : decode cX12_readWords 13 = .ok (.iload_n 3, 1) := by decide +kernel
theorem dX12_readWords_14 : decode cX12_readWords 14 = .ok (.ifCond .le 5, 3) := by decide +kernel
theorem dX12_readWords_17 : decode cX12_readWords 17 = .ok (.iload_n 3, 1) := by decide +kernel
theorem dX12_readWords_18 : decode cX12_readWords 18 = .ok (.ireturn, 1) := by decide +kernel
theorem dX12_readWords_19 : decode cX12_readWords 19 = .ok (.aload_n 0, 1) := by decide +kernel
theorem dX12_readWords_20 : decode cX12_readWords 20 = .ok (.getfield 25, 3) := by decide +kernel
theorem dX12_readWords_23 : decode cX12_readWords 23 = .ok (.iload_n 1, 1) := by decide +kernel
theorem dX12_readWords_24 : decode cX12_readWords 24 = .ok (.iaload, 1) := by decide +kernel
theorem dX12_readWords_25 : decode cX12_readWords 25 = .ok (.istore 4, 2) := by decide +kernel
theorem dX12_readWords_27 : decode cX12_readWords 27 = .ok (.iconst 0, 1) := by decide +kernel
theorem dX12_readWords_28 : decode cX12_readWords 28 = .ok (.istore 5, 2) := by decide +kernel
theorem dX12_readWords_30 : decode cX12_readWords 30 = .ok (.iload 5, 2) := by decide +kernel
theorem dX12_readWords_32 : decode cX12_readWords 32 = .ok (.iload 4, 2) := by decide +kernel
theorem dX12_readWords_34 : decode cX12_readWords 34 = .ok (.if_icmp .ge 38, 3) := by decide +kernel
theorem dX12_readWords_37 : decode cX12_readWords 37 = .ok (.aload_n 0, 1) := by decide +kernel
theorem dX12_readWords_38 : decode cX12_readWords 38 = .ok (.getfield 28, 3) := by decide +kernel
theorem dX12_readWords_41 : decode cX12_readWords 41 = .ok (.bipush 6, 2) := by decide +kernel
theorem dX12_readWords_43 : decode cX12_readWords 43 = .ok (.iload_n 1, 1) := by decide +kernel
theorem dX12_readWords_44 : decode cX12_readWords 44 = .ok (.imul, 1) := by decide +kernel
theorem dX12_readWords_45 : decode cX12_readWords 45 = .ok (.iload 5, 2) := by decide +kernel
theorem dX12_readWords_47 : decode cX12_readWords 47 = .ok (.iadd, 1) := by decide +kernel
theorem dX12_readWords_48 : decode cX12_readWords 48 = .ok (.iaload, 1) := by decide +kernel
theorem dX12_readWords_49 : decode cX12_readWords 49 = .ok (.aload_n 0, 1) := by decide +kernel
theorem dX12_readWords_50 : decode cX12_readWords 50 = .ok (.getfield 131, 3) := by decide +kernel
theorem dX12_readWords_53 : decode cX12_readWords 53 = .ok (.if_icmp .ne 13, 3) := by decide +kernel
theorem dX12_readWords_56 : decode cX12_readWords 56 = .ok (.aload_n 0, 1) := by decide +kernel
theorem dX12_readWords_57 : decode cX12_readWords 57 = .ok (.iconst 4, 1) := by decide +kernel
theorem dX12_readWords_58 : decode cX12_readWords 58 = .ok (.aload_n 0, 1) := by decide +kernel
theorem dX12_readWords_59 : decode cX12_readWords 59 = .ok (.getfield 128, 3) := by decide +kernel
theorem dX12_readWords_62 : decode cX12_readWords 62 = .ok (.invokevirtual 124, 3) := by decide +kernel
theorem dX12_readWords_65 : decode cX12_readWords 65 = .ok (.ireturn, 1) := by decide +kernel
theorem dX12_readWords_66 : decode cX12_readWords 66 = .ok (.iinc 5 1, 3) := by decide +kernel
theorem dX12_readWords_69 : decode cX12_readWords 69 = .ok (.goto (-39), 3) := by decide +kernel
theorem dX12_readWords_72 : decode cX12_readWords 72 = .ok (.iload 4, 2) := by decide +kernel
theorem dX12_readWords_74 : decode cX12_readWords 74 = .ok (.bipush 6, 2) := by decide +kernel
theorem dX12_readWords_76 : decode cX12_readWords 76 = .ok (.if_icmp .ne 13, 3) := by decide +kernel
theorem dX12_readWords_79 : decode cX12_readWords 79 = .ok (.aload_n 0, 1) := by decide +kernel
theorem dX12_readWords_80 : decode cX12_readWords 80 = .ok (.iconst 5, 1) := by decide +kernel
theorem dX12_readWords_81 : decode cX12_readWords 81 = .ok (.aload_n 0, 1) := by decide +kernel
theorem dX12_readWords_82 : decode cX12_readWords 82 = .ok (.getfield 128, 3) := by decide +kernel
theorem dX12_readWords_85 : decode cX12_readWords 85 = .ok (.invokevirtual 124, 3) := by decide +kernel
theorem dX12_readWords_88 : decode cX12_readWords 88 = .ok (.ireturn, 1) := by decide +kernel
theorem dX12_readWords_89 : decode cX12_readWords 89 = .ok (.aload_n 0, 1) := by decide +kernel
theorem dX12_readWords_90 : decode cX12_readWords 90 = .ok (.getfield 28, 3) := by decide +kernel
theorem dX12_readWords_93 : decode cX12_readWords 93 = .ok (.bipush 6, 2) := by decide +kernel
theorem dX12_readWords_95 : decode cX12_readWords 95 = .ok (.iload_n 1, 1) := by decide +kernel
theorem dX12_readWords_96 : decode cX12_readWords 96 = .ok (.imul, 1) := by decide +kernel
theorem dX12_readWords_97 : decode cX12_readWords 97 = .ok (.iload 4, 2) := by decide +kernel
theorem dX12_readWords_99 : decode cX12_readWords 99 = .ok (.iadd, 1) := by decide +kernel
theorem dX12_readWords_100 : decode cX12_readWords 100 = .ok (.aload_n 0, 1) := by decide +kernel
theorem dX12_readWords_101 : decode cX12_readWords 101 = .ok (.getfield 131, 3) := by decide +kernel
theorem dX12_readWords_104 : decode cX12_readWords 104 = .ok (.iastore, 1) := by decide +kernel
theorem dX12_readWords_105 : decode cX12_readWords 105 = .ok (.aload_n 0, 1) := by decide +kernel
theorem dX12_readWords_106 : decode cX12_readWords 106 = .ok (.getfield 31, 3) := by decide +kernel
theorem dX12_readWords_109 : decode cX12_readWords 109 = .ok (.bipush 6, 2) := by decide +kernel
theorem dX12_readWords_111 : decode cX12_readWords 111 = .ok (.iload_n 1, 1) := by decide +kernel
theorem dX12_readWords_112 : decode cX12_readWords 112 = .ok (.imul, 1) := by decide +kernel
theorem dX12_readWords_113 : decode cX12_readWords 113 = .ok (.iload 4, 2) := by decide +kernel
theorem dX12_readWords_115 : decode cX12_readWords 115 = .ok (.iadd, 1) := by decide +kernel
theorem dX12_readWords_116 : decode cX12_readWords 116 = .ok (.aload_n 0, 1) := by decide +kernel
theorem dX12_readWords_117 : decode cX12_readWords 117 = .ok (.invokevirtual 116, 3) := by decide +kernel
theorem dX12_readWords_120 : decode cX12_readWords 120 = .ok (.bipush 42, 2) := by decide +kernel
theorem dX12_readWords_122 : decode cX12_readWords 122 = .ok (.if_icmp .ne 7, 3) := by decide +kernel
theorem dX12_readWords_125 : decode cX12_readWords 125 = .ok (.iconst 1, 1) := by decide +kernel
theorem dX12_readWords_126 : decode cX12_readWords 126 = .ok (.goto 4, 3) := by decide +kernel
theorem dX12_readWords_129 : decode cX12_readWords 129 = .ok (.iconst 0, 1) := by decide +kernel
theorem dX12_readWords_130 : decode cX12_readWords 130 = .ok (.bastore, 1) := by decide +kernel
theorem dX12_readWords_131 : decode cX12_readWords 131 = .ok (.aload_n 0, 1) := by decide +kernel
theorem dX12_readWords_132 : decode cX12_readWords 132 = .ok (.dup, 1) := by decide +kernel
theorem dX12_readWords_133 : decode cX12_readWords 133 = .ok (.getfield 113, 3) := by decide +kernel
theorem dX12_readWords_136 : decode cX12_readWords 136 = .ok (.aload_n 0, 1) := by decide +kernel
theorem dX12_readWords_137 : decode cX12_readWords 137 = .ok (.getfield 31, 3) := by decide +kernel
theorem dX12_readWords_140 : decode cX12_readWords 140 = .ok (.bipush 6, 2) := by decide +kernel
theorem dX12_readWords_142 : decode cX12_readWords 142 = .ok (.iload_n 1, 1) := by decide +kernel
theorem dX12_readWords_143 : decode cX12_readWords 143 = .ok (.imul, 1) := by decide +kernel
theorem dX12_readWords_144 : decode cX12_readWords 144 = .ok (.iload 4, 2) := by decide +kernel
theorem dX12_readWords_146 : decode cX12_readWords 146 = .ok (.iadd, 1) := by decide +kernel
theorem dX12_readWords_147 : decode cX12_readWords 147 = .ok (.baload, 1) := by decide +kernel
theorem dX12_readWords_148 : decode cX12_readWords 148 = .ok (.ifCond .eq 7, 3) := by decide +kernel
theorem dX12_readWords_151 : decode cX12_readWords 151 = .ok (.iconst 1, 1) := by decide +kernel
theorem dX12_readWords_152 : decode cX12_readWords 152 = .ok (.goto 4, 3) := by decide +kernel
theorem dX12_readWords_155 : decode cX12_readWords 155 = .ok (.iconst 0, 1) := by decide +kernel
theorem dX12_readWords_156 : decode cX12_readWords 156 = .ok (.iadd, 1) := by decide +kernel
theorem dX12_readWords_157 : decode cX12_readWords 157 = .ok (.putfield 113, 3) := by decide +kernel
theorem dX12_readWords_160 : decode cX12_readWords 160 = .ok (.aload_n 0, 1) := by decide +kernel
theorem dX12_readWords_161 : decode cX12_readWords 161 = .ok (.getfield 25, 3) := by decide +kernel
theorem dX12_readWords_164 : decode cX12_readWords 164 = .ok (.iload_n 1, 1) := by decide +kernel
theorem dX12_readWords_165 : decode cX12_readWords 165 = .ok (.dup2, 1) := by decide +kernel
theorem dX12_readWords_166 : decode cX12_readWords 166 = .ok (.iaload, 1) := by decide +kernel
theorem dX12_readWords_167 : decode cX12_readWords 167 = .ok (.iconst 1, 1) := by decide +kernel
theorem dX12_readWords_168 : decode cX12_readWords 168 = .ok (.iadd, 1) := by decide +kernel
theorem dX12_readWords_169 : decode cX12_readWords 169 = .ok (.iastore, 1) := by decide +kernel
theorem dX12_readWords_170 : decode cX12_readWords 170 = .ok (.aload_n 0, 1) := by decide +kernel
theorem dX12_readWords_171 : decode cX12_readWords 171 = .ok (.invokevirtual 116, 3) := by decide +kernel
theorem dX12_readWords_174 : decode cX12_readWords 174 = .ok (.bipush 44, 2) := by decide +kernel
theorem dX12_readWords_176 : decode cX12_readWords 176 = .ok (.if_icmp .ne 7, 3) := by decide +kernel
theorem dX12_readWords_179 : decode cX12_readWords 179 = .ok (.iconst 1, 1) := by decide +kernel
theorem dX12_readWords_180 : decode cX12_readWords 180 = .ok (.goto 4, 3) := by decide +kernel
theorem dX12_readWords_183 : decode cX12_readWords 183 = .ok (.iconst 0, 1) := by decide +kernel
theorem dX12_readWords_184 : decode cX12_readWords 184 = .ok (.istore_n 2, 1) := by decide +kernel
theorem dX12_readWords_185 : decode cX12_readWords 185 = .ok (.aload_n 0, 1) := by decide +kernel
theorem dX12_readWords_186 : decode cX12_readWords 186 = .ok (.dup, 1) := by decide +kernel
theorem dX12_readWords_187 : decode cX12_readWords 187 = .ok (.getfield 113, 3) := by decide +kernel
theorem dX12_readWords_190 : decode cX12_readWords 190 = .ok (.iload_n 2, 1) := by decide +kernel
theorem dX12_readWords_191 : decode cX12_readWords 191 = .ok (.ifCond .eq 7, 3) := by decide +kernel
theorem dX12_readWords_194 : decode cX12_readWords 194 = .ok (.iconst 1, 1) := by decide +kernel
theorem dX12_readWords_195 : decode cX12_readWords 195 = .ok (.goto 4, 3) := by decide +kernel
theorem dX12_readWords_198 : decode cX12_readWords 198 = .ok (.iconst 0, 1) := by decide +kernel
theorem dX12_readWords_199 : decode cX12_readWords 199 = .ok (.iadd, 1) := by decide +kernel
theorem dX12_readWords_200 : decode cX12_readWords 200 = .ok (.putfield 113, 3) := by decide +kernel
theorem dX12_readWords_203 : decode cX12_readWords 203 = .ok (.goto (-201), 3) := by decide +kernel
theorem dX12_readWords_206 : decode cX12_readWords 206 = .ok (.iconst 0, 1) := by decide +kernel
theorem dX12_readWords_207 : decode cX12_readWords 207 = .ok (.ireturn, 1) := by decide +kernel
theorem dX12_readSense_0 : decode cX12_readSense 0 = .ok (.aload_n 0, 1) := by decide +kernel
theorem dX12_readSense_1 : decode cX12_readSense 1 = .ok (.getfield 22, 3) := by decide +kernel
theorem dX12_readSense_4 : decode cX12_readSense 4 = .ok (.iload_n 1, 1) := by decide +kernel
theorem dX12_readSense_5 : decode cX12_readSense 5 = .ok (.iconst (-1), 1) := by decide +kernel
theorem dX12_readSense_6 : decode cX12_readSense 6 = .ok (.iastore, 1) := by decide +kernel
theorem dX12_readSense_7 : decode cX12_readSense 7 = .ok (.aload_n 0, 1) := by decide +kernel
theorem dX12_readSense_8 : decode cX12_readSense 8 = .ok (.getfield 25, 3) := by decide +kernel
theorem dX12_readSense_11 : decode cX12_readSense 11 = .ok (.iload_n 1, 1) := by decide +kernel
theorem dX12_readSense_12 : decode cX12_readSense 12 = .ok (.iconst 0, 1) := by decide +kernel
theorem dX12_readSense_13 : decode cX12_readSense 13 = .ok (.iastore, 1) := by decide +kernel
theorem dX12_readSense_14 : decode cX12_readSense 14 = .ok (.aload_n 0, 1) := by decide +kernel
theorem dX12_readSense_15 : decode cX12_readSense 15 = .ok (.invokevirtual 116, 3) := by decide +kernel
theorem dX12_readSense_18 : decode cX12_readSense 18 = .ok (.bipush 40, 2) := by decide +kernel
theorem dX12_readSense_20 : decode cX12_readSense 20 = .ok (.if_icmp .ne 48, 3) := by decide +kernel
theorem dX12_readSense_23 : decode cX12_readSense 23 = .ok (.aload_n 0, 1) := by decide +kernel
theorem dX12_readSense_24 : decode cX12_readSense 24 = .ok (.dup, 1) := by decide +kernel
theorem dX12_readSense_25 : decode cX12_readSense 25 = .ok (.getfield 113, 3) := by decide +kernel
theorem dX12_readSense_28 : decode cX12_readSense 28 = .ok (.iconst 1, 1) := by decide +kernel
theorem dX12_readSense_29 : decode cX12_readSense 29 = .ok (.iadd, 1) := by decide +kernel
theorem dX12_readSense_30 : decode cX12_readSense 30 = .ok (.putfield 113, 3) := by decide +kernel
theorem dX12_readSense_33 : decode cX12_readSense 33 = .ok (.aload_n 0, 1) := by decide +kernel
theorem dX12_readSense_34 : decode cX12_readSense 34 = .ok (.iconst 5, 1) := by decide +kernel
theorem dX12_readSense_35 : decode cX12_readSense 35 = .ok (.invokevirtual 134, 3) := by decide +kernel
theorem dX12_readSense_38 : decode cX12_readSense 38 = .ok (.istore_n 2, 1) := by decide +kernel
theorem dX12_readSense_39 : decode cX12_readSense 39 = .ok (.iload_n 2, 1) := by decide +kernel
theorem dX12_readSense_40 : decode cX12_readSense 40 = .ok (.ifCond .le 5, 3) := by decide +kernel
theorem dX12_readSense_43 : decode cX12_readSense 43 = .ok (.iload_n 2, 1) := by decide +kernel
theorem dX12_readSense_44 : decode cX12_readSense 44 = .ok (.ireturn, 1) := by decide +kernel
theorem dX12_readSense_45 : decode cX12_readSense 45 = .ok (.aload_n 0, 1) := by decide +kernel
theorem dX12_readSense_46 : decode cX12_readSense 46 = .ok (.getfield 22, 3) := by decide +kernel
theorem dX12_readSense_49 : decode cX12_readSense 49 = .ok (.iload_n 1, 1) := by decide +kernel
theorem dX12_readSense_50 : decode cX12_readSense 50 = .ok (.aload_n 0, 1) := by decide +kernel
theorem dX12_readSense_51 : decode cX12_readSense 51 = .ok (.getfield 131, 3) := by decide +kernel
theorem dX12_readSense_54 : decode cX12_readSense 54 = .ok (.iastore, 1) := by decide +kernel
theorem dX12_readSense_55 : decode cX12_readSense 55 = .ok (.aload_n 0, 1) := by decide +kernel
theorem dX12_readSense_56 : decode cX12_readSense 56 = .ok (.bipush 41, 2) := by decide +kernel
theorem dX12_readSense_58 : decode cX12_readSense 58 = .ok (.invokevirtual 138, 3) := by decide +kernel
theorem dX12_readSense_61 : decode cX12_readSense 61 = .ok (.istore_n 2, 1) := by decide +kernel
theorem dX12_readSense_62 : decode cX12_readSense 62 = .ok (.iload_n 2, 1) := by decide +kernel
theorem dX12_readSense_63 : decode cX12_readSense 63 = .ok (.ifCond .le 5, 3) := by decide +kernel
theorem dX12_readSense_66 : decode cX12_readSense 66 = .ok (.iload_n 2, 1) := by decide +kernel
theorem dX12_readSense_67 : decode cX12_readSense 67 = .ok (.ireturn, 1) := by decide +kernel
theorem dX12_readSense_68 : decode cX12_readSense 68 = .ok (.aload_n 0, 1) := by decide +kernel
theorem dX12_readSense_69 : decode cX12_readSense 69 = .ok (.iload_n 1, 1) := by decide +kernel
theorem dX12_readSense_70 : decode cX12_readSense 70 = .ok (.invokevirtual 141, 3) := by decide +kernel
theorem dX12_readSense_73 : decode cX12_readSense 73 = .ok (.ireturn, 1) := by decide +kernel
theorem dX12_readClause_0 : decode cX12_readClause 0 = .ok (.aload_n 0, 1) := by decide +kernel
theorem dX12_readClause_1 : decode cX12_readClause 1 = .ok (.bipush 59, 2) := by decide +kernel
theorem dX12_readClause_3 : decode cX12_readClause 3 = .ok (.invokevirtual 134, 3) := by decide +kernel
theorem dX12_readClause_6 : decode cX12_readClause 6 = .ok (.istore_n 2, 1) := by decide +kernel
theorem dX12_readClause_7 : decode cX12_readClause 7 = .ok (.iload_n 2, 1) := by decide +kernel
theorem dX12_readClause_8 : decode cX12_readClause 8 = .ok (.ifCond .le 5, 3) := by decide +kernel
theorem dX12_readClause_11 : decode cX12_readClause 11 = .ok (.iload_n 2, 1) := by decide +kernel
theorem dX12_readClause_12 : decode cX12_readClause 12 = .ok (.ireturn, 1) := by decide +kernel
theorem dX12_readClause_13 : decode cX12_readClause 13 = .ok (.bipush 60, 2) := by decide +kernel
theorem dX12_readClause_15 : decode cX12_readClause 15 = .ok (.iload_n 1, 1) := by decide +kernel
theorem dX12_readClause_16 : decode cX12_readClause 16 = .ok (.imul, 1) := by decide +kernel
theorem dX12_readClause_17 : decode cX12_readClause 17 = .ok (.aload_n 0, 1) := by decide +kernel
theorem dX12_readClause_18 : decode cX12_readClause 18 = .ok (.getfield 131, 3) := by decide +kernel
theorem dX12_readClause_21 : decode cX12_readClause 21 = .ok (.iadd, 1) := by decide +kernel
theorem dX12_readClause_22 : decode cX12_readClause 22 = .ok (.istore_n 3, 1) := by decide +kernel
theorem dX12_readClause_23 : decode cX12_readClause 23 = .ok (.aload_n 0, 1) := by decide +kernel
theorem dX12_readClause_24 : decode cX12_readClause 24 = .ok (.getfield 19, 3) := by decide +kernel
theorem dX12_readClause_27 : decode cX12_readClause 27 = .ok (.iload_n 3, 1) := by decide +kernel
theorem dX12_readClause_28 : decode cX12_readClause 28 = .ok (.iaload, 1) := by decide +kernel
theorem dX12_readClause_29 : decode cX12_readClause 29 = .ok (.ifCond .le 13, 3) := by decide +kernel
theorem dX12_readClause_32 : decode cX12_readClause 32 = .ok (.aload_n 0, 1) := by decide +kernel
theorem dX12_readClause_33 : decode cX12_readClause 33 = .ok (.iconst 3, 1) := by decide +kernel
theorem dX12_readClause_34 : decode cX12_readClause 34 = .ok (.aload_n 0, 1) := by decide +kernel
theorem dX12_readClause_35 : decode cX12_readClause 35 = .ok (.getfield 128, 3) := by decide +kernel
theorem dX12_readClause_38 : decode cX12_readClause 38 = .ok (.invokevirtual 124, 3) := by decide +kernel
theorem dX12_readClause_41 : decode cX12_readClause 41 = .ok (.ireturn, 1) := by decide +kernel
theorem dX12_readClause_42 : decode cX12_readClause 42 = .ok (.aload_n 0, 1) := by decide +kernel
theorem dX12_readClause_43 : decode cX12_readClause 43 = .ok (.bipush 58, 2) := by decide +kernel
theorem dX12_readClause_45 : decode cX12_readClause 45 = .ok (.invokevirtual 138, 3) := by decide +kernel
theorem dX12_readClause_48 : decode cX12_readClause 48 = .ok (.istore_n 2, 1) := by decide +kernel
theorem dX12_readClause_49 : decode cX12_readClause 49 = .ok (.iload_n 2, 1) := by decide +kernel
theorem dX12_readClause_50 : decode cX12_readClause 50 = .ok (.ifCond .ne 7, 3) := by decide +kernel
theorem dX12_readClause_53 : decode cX12_readClause 53 = .ok (.iconst 1, 1) := by decide +kernel
theorem dX12_readClause_54 : decode cX12_readClause 54 = .ok (.goto 4, 3) := by decide +kernel
theorem dX12_readClause_57 : decode cX12_readClause 57 = .ok (.iconst 0, 1) := by decide +kernel
theorem dX12_readClause_58 : decode cX12_readClause 58 = .ok (.istore 4, 2) := by decide +kernel
theorem dX12_readClause_60 : decode cX12_readClause 60 = .ok (.iload 4, 2) := by decide +kernel
theorem dX12_readClause_62 : decode cX12_readClause 62 = .ok (.ifCond .eq 97, 3) := by decide +kernel
theorem dX12_readClause_65 : decode cX12_readClause 65 = .ok (.aload_n 0, 1) := by decide +kernel
theorem dX12_readClause_66 : decode cX12_readClause 66 = .ok (.iconst 3, 1) := by decide +kernel
theorem dX12_readClause_67 : decode cX12_readClause 67 = .ok (.iload_n 3, 1) := by decide +kernel
theorem dX12_readClause_68 : decode cX12_readClause 68 = .ok (.imul, 1) := by decide +kernel
theorem dX12_readClause_69 : decode cX12_readClause 69 = .ok (.aload_n 0, 1) := by decide +kernel
theorem dX12_readClause_70 : decode cX12_readClause 70 = .ok (.getfield 19, 3) := by decide +kernel
theorem dX12_readClause_73 : decode cX12_readClause 73 = .ok (.iload_n 3, 1) := by decide +kernel
theorem dX12_readClause_74 : decode cX12_readClause 74 = .ok (.iaload, 1) := by decide +kernel
theorem dX12_readClause_75 : decode cX12_readClause 75 = .ok (.iadd, 1) := by decide +kernel
theorem dX12_readClause_76 : decode cX12_readClause 76 = .ok (.invokevirtual 144, 3) := by decide +kernel
theorem dX12_readClause_79 : decode cX12_readClause 79 = .ok (.istore_n 2, 1) := by decide +kernel
theorem dX12_readClause_80 : decode cX12_readClause 80 = .ok (.iload_n 2, 1) := by decide +kernel
theorem dX12_readClause_81 : decode cX12_readClause 81 = .ok (.ifCond .le 5, 3) := by decide +kernel
theorem dX12_readClause_84 : decode cX12_readClause 84 = .ok (.iload_n 2, 1) := by decide +kernel
theorem dX12_readClause_85 : decode cX12_readClause 85 = .ok (.ireturn, 1) := by decide +kernel
theorem dX12_readClause_86 : decode cX12_readClause 86 = .ok (.aload_n 0, 1) := by decide +kernel
theorem dX12_readClause_87 : decode cX12_readClause 87 = .ok (.getfield 19, 3) := by decide +kernel
theorem dX12_readClause_90 : decode cX12_readClause 90 = .ok (.iload_n 3, 1) := by decide +kernel
theorem dX12_readClause_91 : decode cX12_readClause 91 = .ok (.dup2, 1) := by decide +kernel
theorem dX12_readClause_92 : decode cX12_readClause 92 = .ok (.iaload, 1) := by decide +kernel
theorem dX12_readClause_93 : decode cX12_readClause 93 = .ok (.iconst 1, 1) := by decide +kernel
theorem dX12_readClause_94 : decode cX12_readClause 94 = .ok (.iadd, 1) := by decide +kernel
theorem dX12_readClause_95 : decode cX12_readClause 95 = .ok (.iastore, 1) := by decide +kernel
theorem dX12_readClause_96 : decode cX12_readClause 96 = .ok (.aload_n 0, 1) := by decide +kernel
theorem dX12_readClause_97 : decode cX12_readClause 97 = .ok (.invokevirtual 116, 3) := by decide +kernel
theorem dX12_readClause_100 : decode cX12_readClause 100 = .ok (.bipush 124, 2) := by decide +kernel
theorem dX12_readClause_102 : decode cX12_readClause 102 = .ok (.if_icmp .ne 7, 3) := by decide +kernel
theorem dX12_readClause_105 : decode cX12_readClause 105 = .ok (.iconst 1, 1) := by decide +kernel
theorem dX12_readClause_106 : decode cX12_readClause 106 = .ok (.goto 4, 3) := by decide +kernel
theorem dX12_readClause_109 : decode cX12_readClause 109 = .ok (.iconst 0, 1) := by decide +kernel
theorem dX12_readClause_110 : decode cX12_readClause 110 = .ok (.istore 4, 2) := by decide +kernel
theorem dX12_readClause_112 : decode cX12_readClause 112 = .ok (.iload 4, 2) := by decide +kernel
theorem dX12_readClause_114 : decode cX12_readClause 114 = .ok (.ifCond .eq 23, 3) := by decide +kernel
theorem dX12_readClause_117 : decode cX12_readClause 117 = .ok (.aload_n 0, 1) := by decide +kernel
theorem dX12_readClause_118 : decode cX12_readClause 118 = .ok (.getfield 19, 3) := by decide +kernel
theorem dX12_readClause_121 : decode cX12_readClause 121 = .ok (.iload_n 3, 1) := by decide +kernel
theorem dX12_readClause_122 : decode cX12_readClause 122 = .ok (.iaload, 1) := by decide +kernel
theorem dX12_readClause_123 : decode cX12_readClause 123 = .ok (.iconst 3, 1) := by decide +kernel
theorem dX12_readClause_124 : decode cX12_readClause 124 = .ok (.if_icmp .ne 13, 3) := by decide +kernel
theorem dX12_readClause_127 : decode cX12_readClause 127 = .ok (.aload_n 0, 1) := by decide +kernel
theorem dX12_readClause_128 : decode cX12_readClause 128 = .ok (.iconst 5, 1) := by decide +kernel
theorem dX12_readClause_129 : decode cX12_readClause 129 = .ok (.aload_n 0, 1) := by decide +kernel
theorem dX12_readClause_130 : decode cX12_readClause 130 = .ok (.getfield 113, 3) := by decide +kernel
theorem dX12_readClause_133 : decode cX12_readClause 133 = .ok (.invokevirtual 124, 3) := by decide +kernel
theorem dX12_readClause_136 : decode cX12_readClause 136 = .ok (.ireturn, 1) := by decide +kernel
theorem dX12_readClause_137 : decode cX12_readClause 137 = .ok (.aload_n 0, 1) := by decide +kernel
theorem dX12_readClause_138 : decode cX12_readClause 138 = .ok (.dup, 1) := by decide +kernel
theorem dX12_readClause_139 : decode cX12_readClause 139 = .ok (.getfield 113, 3) := by decide +kernel
theorem dX12_readClause_142 : decode cX12_readClause 142 = .ok (.iload 4, 2) := by decide +kernel
theorem dX12_readClause_144 : decode cX12_readClause 144 = .ok (.ifCond .eq 7, 3) := by decide +kernel
theorem dX12_readClause_147 : decode cX12_readClause 147 = .ok (.iconst 1, 1) := by decide +kernel
theorem dX12_readClause_148 : decode cX12_readClause 148 = .ok (.goto 4, 3) := by decide +kernel
theorem dX12_readClause_151 : decode cX12_readClause 151 = .ok (.iconst 0, 1) := by decide +kernel
theorem dX12_readClause_152 : decode cX12_readClause 152 = .ok (.iadd, 1) := by decide +kernel
theorem dX12_readClause_153 : decode cX12_readClause 153 = .ok (.putfield 113, 3) := by decide +kernel
theorem dX12_readClause_156 : decode cX12_readClause 156 = .ok (.goto (-96), 3) := by decide +kernel
theorem dX12_readClause_159 : decode cX12_readClause 159 = .ok (.iload_n 2, 1) := by decide +kernel
theorem dX12_readClause_160 : decode cX12_readClause 160 = .ok (.ifCond .le 7, 3) := by decide +kernel
theorem dX12_readClause_163 : decode cX12_readClause 163 = .ok (.iload_n 2, 1) := by decide +kernel
theorem dX12_readClause_164 : decode cX12_readClause 164 = .ok (.goto 9, 3) := by decide +kernel
theorem dX12_readClause_167 : decode cX12_readClause 167 = .ok (.aload_n 0, 1) := by decide +kernel
theorem dX12_readClause_168 : decode cX12_readClause 168 = .ok (.bipush 59, 2) := by decide +kernel
theorem dX12_readClause_170 : decode cX12_readClause 170 = .ok (.invokevirtual 138, 3) := by decide +kernel
theorem dX12_readClause_173 : decode cX12_readClause 173 = .ok (.ireturn, 1) := by decide +kernel
theorem dX12_book_0 : decode cX12_book 0 = .ok (.iload_n 1, 1) := by decide +kernel
theorem dX12_book_1 : decode cX12_book 1 = .ok (.invokestatic 147, 3) := by decide +kernel
theorem dX12_book_4 : decode cX12_book 4 = .ok (.ifCond .eq 10, 3) := by decide +kernel
theorem dX12_book_7 : decode cX12_book 7 = .ok (.iload_n 2, 1) := by decide +kernel
theorem dX12_book_8 : decode cX12_book 8 = .ok (.invokestatic 147, 3) := by decide +kernel
theorem dX12_book_11 : decode cX12_book 11 = .ok (.ifCond .ne 7, 3) := by decide +kernel
theorem dX12_book_14 : decode cX12_book 14 = .ok (.sipush (-1001), 3) := by decide +kernel
theorem dX12_book_17 : decode cX12_book 17 = .ok (.ireturn, 1) := by decide +kernel
theorem dX12_book_18 : decode cX12_book 18 = .ok (.iload_n 1, 1) := by decide +kernel
theorem dX12_book_19 : decode cX12_book 19 = .ok (.iload_n 2, 1) := by decide +kernel
theorem dX12_book_20 : decode cX12_book 20 = .ok (.if_icmp .eq 15, 3) := by decide +kernel
theorem dX12_book_23 : decode cX12_book 23 = .ok (.iload_n 3, 1) := by decide +kernel
theorem dX12_book_24 : decode cX12_book 24 = .ok (.i2l, 1) := by decide +kernel
theorem dX12_book_25 : decode cX12_book 25 = .ok (.lconst 0, 1) := by decide +kernel
theorem dX12_book_26 : decode cX12_book 26 = .ok (.ldc2_w 151, 3) := by decide +kernel
theorem dX12_book_29 : decode cX12_book 29 = .ok (.invokestatic 100, 3) := by decide +kernel
theorem dX12_book_32 : decode cX12_book 32 = .ok (.ifCond .ne 7, 3) := by decide +kernel
theorem dX12_book_35 : decode cX12_book 35 = .ok (.sipush (-1002), 3) := by decide +kernel
theorem dX12_book_38 : decode cX12_book 38 = .ok (.ireturn, 1) := by decide +kernel
theorem dX12_book_39 : decode cX12_book 39 = .ok (.aload_n 0, 1) := by decide +kernel
theorem dX12_book_40 : decode cX12_book 40 = .ok (.getfield 153, 3) := by decide +kernel
theorem dX12_book_43 : decode cX12_book 43 = .ok (.bipush 8, 2) := by decide +kernel
theorem dX12_book_45 : decode cX12_book 45 = .ok (.if_icmp .ne 7, 3) := by decide +kernel
theorem dX12_book_48 : decode cX12_book 48 = .ok (.sipush (-1004), 3) := by decide +kernel
theorem dX12_book_51 : decode cX12_book 51 = .ok (.ireturn, 1) := by decide +kernel
theorem dX12_book_52 : decode cX12_book 52 = .ok (.aload_n 0, 1) := by decide +kernel
theorem dX12_book_53 : decode cX12_book 53 = .ok (.iconst (-1), 1) := by decide +kernel
theorem dX12_book_54 : decode cX12_book 54 = .ok (.putfield 49, 3) := by decide +kernel
