theorem dX1_append_0 : decode mX1_append.2.1 0 = .ok (.aload_n 0, 1) := by decide +kernel
theorem dX1_append_1 : decode mX1_append.2.1 1 = .ok (.getfield 15, 3) := by decide +kernel
theorem dX1_append_4 : decode mX1_append.2.1 4 = .ok (.bipush 40, 2) := by decide +kernel
theorem dX1_append_6 : decode mX1_append.2.1 6 = .ok (.if_icmp .lt 5, 3) := by decide +kernel
theorem dX1_append_9 : decode mX1_append.2.1 9 = .ok (.iconst 0, 1) := by decide +kernel
theorem dX1_append_10 : decode mX1_append.2.1 10 = .ok (.ireturn, 1) := by decide +kernel
theorem dX1_append_11 : decode mX1_append.2.1 11 = .ok (.aload_n 0, 1) := by decide +kernel
theorem dX1_append_12 : decode mX1_append.2.1 12 = .ok (.getfield 9, 3) := by decide +kernel
theorem dX1_append_15 : decode mX1_append.2.1 15 = .ok (.aload_n 0, 1) := by decide +kernel
theorem dX1_append_16 : decode mX1_append.2.1 16 = .ok (.getfield 15, 3) := by decide +kernel
theorem dX1_append_19 : decode mX1_append.2.1 19 = .ok (.iload_n 1, 1) := by decide +kernel
theorem dX1_append_20 : decode mX1_append.2.1 20 = .ok (.iastore, 1) := by decide +kernel
theorem dX1_append_21 : decode mX1_append.2.1 21 = .ok (.aload_n 0, 1) := by decide +kernel
theorem dX1_append_22 : decode mX1_append.2.1 22 = .ok (.dup, 1) := by decide +kernel
theorem dX1_append_23 : decode mX1_append.2.1 23 = .ok (.getfield 15, 3) := by decide +kernel
theorem dX1_append_26 : decode mX1_append.2.1 26 = .ok (.iconst 1, 1) := by decide +kernel
theorem dX1_append_27 : decode mX1_append.2.1 27 = .ok (.iadd, 1) := by decide +kernel
theorem dX1_append_28 : decode mX1_append.2.1 28 = .ok (.putfield 15, 3) := by decide +kernel
theorem dX1_append_31 : decode mX1_append.2.1 31 = .ok (.iconst 1, 1) := by decide +kernel
theorem dX1_append_32 : decode mX1_append.2.1 32 = .ok (.ireturn, 1) := by decide +kernel
theorem dX1_wipe_0 : decode mX1_wipe.2.1 0 = .ok (.aload_n 0, 1) := by decide +kernel
theorem dX1_wipe_1 : decode mX1_wipe.2.1 1 = .ok (.iconst 0, 1) := by decide +kernel
theorem dX1_wipe_2 : decode mX1_wipe.2.1 2 = .ok (.putfield 15, 3) := by decide +kernel
theorem dX1_wipe_5 : decode mX1_wipe.2.1 5 = .ok (.return_, 1) := by decide +kernel
theorem dX1_codeAt_0 : decode mX1_codeAt.2.1 0 = .ok (.iload_n 1, 1) := by decide +kernel
theorem dX1_codeAt_1 : decode mX1_codeAt.2.1 1 = .ok (.ifCond .lt 26, 3) := by decide +kernel
theorem dX1_codeAt_4 : decode mX1_codeAt.2.1 4 = .ok (.iload_n 1, 1) := by decide +kernel
theorem dX1_codeAt_5 : decode mX1_codeAt.2.1 5 = .ok (.aload_n 0, 1) := by decide +kernel
theorem dX1_codeAt_6 : decode mX1_codeAt.2.1 6 = .ok (.getfield 15, 3) := by decide +kernel
theorem dX1_codeAt_9 : decode mX1_codeAt.2.1 9 = .ok (.if_icmp .ge 18, 3) := by decide +kernel
theorem dX1_codeAt_12 : decode mX1_codeAt.2.1 12 = .ok (.iload_n 1, 1) := by decide +kernel
theorem dX1_codeAt_13 : decode mX1_codeAt.2.1 13 = .ok (.bipush 40, 2) := by decide +kernel
theorem dX1_codeAt_15 : decode mX1_codeAt.2.1 15 = .ok (.if_icmp .ge 12, 3) := by decide +kernel
theorem dX1_codeAt_18 : decode mX1_codeAt.2.1 18 = .ok (.aload_n 0, 1) := by decide +kernel
theorem dX1_codeAt_19 : decode mX1_codeAt.2.1 19 = .ok (.getfield 9, 3) := by decide +kernel
theorem dX1_codeAt_22 : decode mX1_codeAt.2.1 22 = .ok (.iload_n 1, 1) := by decide +kernel
theorem dX1_codeAt_23 : decode mX1_codeAt.2.1 23 = .ok (.iaload, 1) := by decide +kernel
theorem dX1_codeAt_24 : decode mX1_codeAt.2.1 24 = .ok (.goto 4, 3) := by decide +kernel
theorem dX1_codeAt_27 : decode mX1_codeAt.2.1 27 = .ok (.iconst (-1), 1) := by decide +kernel
theorem dX1_codeAt_28 : decode mX1_codeAt.2.1 28 = .ok (.ireturn, 1) := by decide +kernel
theorem dX2_read_0 : decode mX2_read.2.1 0 = .ok (.aload_n 0, 1) := by decide +kernel
theorem dX2_read_1 : decode mX2_read.2.1 1 = .ok (.iload_n 2, 1) := by decide +kernel
theorem dX2_read_2 : decode mX2_read.2.1 2 = .ok (.invokevirtual 21, 3) := by decide +kernel
theorem dX2_read_5 : decode mX2_read.2.1 5 = .ok (.iconst 0, 1) := by decide +kernel
theorem dX2_read_6 : decode mX2_read.2.1 6 = .ok (.istore_n 3, 1) := by decide +kernel
theorem dX2_read_7 : decode mX2_read.2.1 7 = .ok (.iload_n 3, 1) := by decide +kernel
theorem dX2_read_8 : decode mX2_read.2.1 8 = .ok (.aload_n 1, 1) := by decide +kernel
theorem dX2_read_9 : decode mX2_read.2.1 9 = .ok (.getfield 25, 3) := by decide +kernel
theorem dX2_read_12 : decode mX2_read.2.1 12 = .ok (.if_icmp .ge 23, 3) := by decide +kernel
theorem dX2_read_15 : decode mX2_read.2.1 15 = .ok (.aload_n 0, 1) := by decide +kernel
theorem dX2_read_16 : decode mX2_read.2.1 16 = .ok (.aload_n 1, 1) := by decide +kernel
theorem dX2_read_17 : decode mX2_read.2.1 17 = .ok (.iload_n 3, 1) := by decide +kernel
theorem dX2_read_18 : decode mX2_read.2.1 18 = .ok (.invokevirtual 31, 3) := by decide +kernel
theorem dX2_read_21 : decode mX2_read.2.1 21 = .ok (.invokevirtual 35, 3) := by decide +kernel
theorem dX2_read_24 : decode mX2_read.2.1 24 = .ok (.ifCond .ne 5, 3) := by decide +kernel
theorem dX2_read_27 : decode mX2_read.2.1 27 = .ok (.iload_n 3, 1) := by decide +kernel
theorem dX2_read_28 : decode mX2_read.2.1 28 = .ok (.ireturn, 1) := by decide +kernel
theorem dX2_read_29 : decode mX2_read.2.1 29 = .ok (.iinc 3 1, 3) := by decide +kernel
theorem dX2_read_32 : decode mX2_read.2.1 32 = .ok (.goto (-25), 3) := by decide +kernel
theorem dX2_read_35 : decode mX2_read.2.1 35 = .ok (.aload_n 1, 1) := by decide +kernel
theorem dX2_read_36 : decode mX2_read.2.1 36 = .ok (.getfield 25, 3) := by decide +kernel
theorem dX2_read_39 : decode mX2_read.2.1 39 = .ok (.ireturn, 1) := by decide +kernel
theorem dX2_isWhole_0 : decode mX2_isWhole.2.1 0 = .ok (.aload_n 0, 1) := by decide +kernel
theorem dX2_isWhole_1 : decode mX2_isWhole.2.1 1 = .ok (.getfield 39, 3) := by decide +kernel
theorem dX2_isWhole_4 : decode mX2_isWhole.2.1 4 = .ok (.iconst 4, 1) := by decide +kernel
theorem dX2_isWhole_5 : decode mX2_isWhole.2.1 5 = .ok (.if_icmp .eq 20, 3) := by decide +kernel
theorem dX2_isWhole_8 : decode mX2_isWhole.2.1 8 = .ok (.aload_n 0, 1) := by decide +kernel
theorem dX2_isWhole_9 : decode mX2_isWhole.2.1 9 = .ok (.getfield 39, 3) := by decide +kernel
theorem dX2_isWhole_12 : decode mX2_isWhole.2.1 12 = .ok (.iconst 5, 1) := by decide +kernel
theorem dX2_isWhole_13 : decode mX2_isWhole.2.1 13 = .ok (.if_icmp .eq 12, 3) := by decide +kernel
theorem dX2_isWhole_16 : decode mX2_isWhole.2.1 16 = .ok (.aload_n 0, 1) := by decide +kernel
theorem dX2_isWhole_17 : decode mX2_isWhole.2.1 17 = .ok (.getfield 39, 3) := by decide +kernel
theorem dX2_isWhole_20 : decode mX2_isWhole.2.1 20 = .ok (.bipush 6, 2) := by decide +kernel
theorem dX2_isWhole_22 : decode mX2_isWhole.2.1 22 = .ok (.if_icmp .ne 7, 3) := by decide +kernel
theorem dX2_isWhole_25 : decode mX2_isWhole.2.1 25 = .ok (.iconst 1, 1) := by decide +kernel
theorem dX2_isWhole_26 : decode mX2_isWhole.2.1 26 = .ok (.goto 4, 3) := by decide +kernel
theorem dX2_isWhole_29 : decode mX2_isWhole.2.1 29 = .ok (.iconst 0, 1) := by decide +kernel
theorem dX2_isWhole_30 : decode mX2_isWhole.2.1 30 = .ok (.ireturn, 1) := by decide +kernel
theorem dX2_methodCount_0 : decode mX2_methodCount.2.1 0 = .ok (.aload_n 0, 1) := by decide +kernel
theorem dX2_methodCount_1 : decode mX2_methodCount.2.1 1 = .ok (.getfield 42, 3) := by decide +kernel
theorem dX2_methodCount_4 : decode mX2_methodCount.2.1 4 = .ok (.bipush 63, 2) := by decide +kernel
theorem dX2_methodCount_6 : decode mX2_methodCount.2.1 6 = .ok (.iand, 1) := by decide +kernel
theorem dX2_methodCount_7 : decode mX2_methodCount.2.1 7 = .ok (.invokestatic 45, 3) := by decide +kernel
theorem dX2_methodCount_10 : decode mX2_methodCount.2.1 10 = .ok (.ireturn, 1) := by decide +kernel
theorem dX2_memberAt_0 : decode mX2_memberAt.2.1 0 = .ok (.iload_n 1, 1) := by decide +kernel
theorem dX2_memberAt_1 : decode mX2_memberAt.2.1 1 = .ok (.ifCond .lt 26, 3) := by decide +kernel
theorem dX2_memberAt_4 : decode mX2_memberAt.2.1 4 = .ok (.iload_n 1, 1) := by decide +kernel
theorem dX2_memberAt_5 : decode mX2_memberAt.2.1 5 = .ok (.aload_n 0, 1) := by decide +kernel
theorem dX2_memberAt_6 : decode mX2_memberAt.2.1 6 = .ok (.getfield 50, 3) := by decide +kernel
theorem dX2_memberAt_9 : decode mX2_memberAt.2.1 9 = .ok (.if_icmp .ge 18, 3) := by decide +kernel
theorem dX2_memberAt_12 : decode mX2_memberAt.2.1 12 = .ok (.iload_n 1, 1) := by decide +kernel
theorem dX2_memberAt_13 : decode mX2_memberAt.2.1 13 = .ok (.bipush 12, 2) := by decide +kernel
theorem dX2_memberAt_15 : decode mX2_memberAt.2.1 15 = .ok (.if_icmp .ge 12, 3) := by decide +kernel
theorem dX2_memberAt_18 : decode mX2_memberAt.2.1 18 = .ok (.aload_n 0, 1) := by decide +kernel
theorem dX2_memberAt_19 : decode mX2_memberAt.2.1 19 = .ok (.getfield 9, 3) := by decide +kernel
theorem dX2_memberAt_22 : decode mX2_memberAt.2.1 22 = .ok (.iload_n 1, 1) := by decide +kernel
theorem dX2_memberAt_23 : decode mX2_memberAt.2.1 23 = .ok (.iaload, 1) := by decide +kernel
theorem dX2_memberAt_24 : decode mX2_memberAt.2.1 24 = .ok (.goto 4, 3) := by decide +kernel
theorem dX2_memberAt_27 : decode mX2_memberAt.2.1 27 = .ok (.iconst (-1), 1) := by decide +kernel
theorem dX2_memberAt_28 : decode mX2_memberAt.2.1 28 = .ok (.ireturn, 1) := by decide +kernel
theorem dX2_itemCountOf_0 : decode mX2_itemCountOf.2.1 0 = .ok (.iload_n 1, 1) := by decide +kernel
theorem dX2_itemCountOf_1 : decode mX2_itemCountOf.2.1 1 = .ok (.ifCond .lt 18, 3) := by decide +kernel
theorem dX2_itemCountOf_4 : decode mX2_itemCountOf.2.1 4 = .ok (.iload_n 1, 1) := by decide +kernel
theorem dX2_itemCountOf_5 : decode mX2_itemCountOf.2.1 5 = .ok (.bipush 12, 2) := by decide +kernel
theorem dX2_itemCountOf_7 : decode mX2_itemCountOf.2.1 7 = .ok (.if_icmp .ge 12, 3) := by decide +kernel
theorem dX2_itemCountOf_10 : decode mX2_itemCountOf.2.1 10 = .ok (.aload_n 0, 1) := by decide +kernel
theorem dX2_itemCountOf_11 : decode mX2_itemCountOf.2.1 11 = .ok (.getfield 15, 3) := by decide +kernel
theorem dX2_itemCountOf_14 : decode mX2_itemCountOf.2.1 14 = .ok (.iload_n 1, 1) := by decide +kernel
theorem dX2_itemCountOf_15 : decode mX2_itemCountOf.2.1 15 = .ok (.iaload, 1) := by decide +kernel
theorem dX2_itemCountOf_16 : decode mX2_itemCountOf.2.1 16 = .ok (.goto 4, 3) := by decide +kernel
theorem dX2_itemCountOf_19 : decode mX2_itemCountOf.2.1 19 = .ok (.iconst 0, 1) := by decide +kernel
theorem dX2_itemCountOf_20 : decode mX2_itemCountOf.2.1 20 = .ok (.ireturn, 1) := by decide +kernel
theorem dX2_itemAt_0 : decode mX2_itemAt.2.1 0 = .ok (.iload_n 1, 1) := by decide +kernel
theorem dX2_itemAt_1 : decode mX2_itemAt.2.1 1 = .ok (.invokestatic 53, 3) := by decide +kernel
theorem dX2_itemAt_4 : decode mX2_itemAt.2.1 4 = .ok (.ifCond .eq 27, 3) := by decide +kernel
theorem dX2_itemAt_7 : decode mX2_itemAt.2.1 7 = .ok (.iload_n 2, 1) := by decide +kernel
theorem dX2_itemAt_8 : decode mX2_itemAt.2.1 8 = .ok (.ifCond .lt 23, 3) := by decide +kernel
theorem dX2_itemAt_11 : decode mX2_itemAt.2.1 11 = .ok (.iload_n 2, 1) := by decide +kernel
theorem dX2_itemAt_12 : decode mX2_itemAt.2.1 12 = .ok (.bipush 6, 2) := by decide +kernel
theorem dX2_itemAt_14 : decode mX2_itemAt.2.1 14 = .ok (.if_icmp .ge 17, 3) := by decide +kernel
theorem dX2_itemAt_17 : decode mX2_itemAt.2.1 17 = .ok (.aload_n 0, 1) := by decide +kernel
theorem dX2_itemAt_18 : decode mX2_itemAt.2.1 18 = .ok (.getfield 18, 3) := by decide +kernel
theorem dX2_itemAt_21 : decode mX2_itemAt.2.1 21 = .ok (.iload_n 1, 1) := by decide +kernel
theorem dX2_itemAt_22 : decode mX2_itemAt.2.1 22 = .ok (.bipush 6, 2) := by decide +kernel
theorem dX2_itemAt_24 : decode mX2_itemAt.2.1 24 = .ok (.imul, 1) := by decide +kernel
theorem dX2_itemAt_25 : decode mX2_itemAt.2.1 25 = .ok (.iload_n 2, 1) := by decide +kernel
theorem dX2_itemAt_26 : decode mX2_itemAt.2.1 26 = .ok (.iadd, 1) := by decide +kernel
theorem dX2_itemAt_27 : decode mX2_itemAt.2.1 27 = .ok (.iaload, 1) := by decide +kernel
theorem dX2_itemAt_28 : decode mX2_itemAt.2.1 28 = .ok (.goto 4, 3) := by decide +kernel
theorem dX2_itemAt_31 : decode mX2_itemAt.2.1 31 = .ok (.iconst (-1), 1) := by decide +kernel
theorem dX2_itemAt_32 : decode mX2_itemAt.2.1 32 = .ok (.ireturn, 1) := by decide +kernel
theorem dX2_start_0 : decode mX2_start.2.1 0 = .ok (.aload_n 0, 1) := by decide +kernel
theorem dX2_start_1 : decode mX2_start.2.1 1 = .ok (.iconst 0, 1) := by decide +kernel
theorem dX2_start_2 : decode mX2_start.2.1 2 = .ok (.putfield 39, 3) := by decide +kernel
theorem dX2_start_5 : decode mX2_start.2.1 5 = .ok (.aload_n 0, 1) := by decide +kernel
theorem dX2_start_6 : decode mX2_start.2.1 6 = .ok (.iload_n 1, 1) := by decide +kernel
theorem dX2_start_7 : decode mX2_start.2.1 7 = .ok (.putfield 56, 3) := by decide +kernel
theorem dX2_start_10 : decode mX2_start.2.1 10 = .ok (.aload_n 0, 1) := by decide +kernel
theorem dX2_start_11 : decode mX2_start.2.1 11 = .ok (.iconst (-1), 1) := by decide +kernel
theorem dX2_start_12 : decode mX2_start.2.1 12 = .ok (.putfield 59, 3) := by decide +kernel
theorem dX2_start_15 : decode mX2_start.2.1 15 = .ok (.aload_n 0, 1) := by decide +kernel
theorem dX2_start_16 : decode mX2_start.2.1 16 = .ok (.iconst 0, 1) := by decide +kernel
theorem dX2_start_17 : decode mX2_start.2.1 17 = .ok (.putfield 50, 3) := by decide +kernel
theorem dX2_start_20 : decode mX2_start.2.1 20 = .ok (.aload_n 0, 1) := by decide +kernel
theorem dX2_start_21 : decode mX2_start.2.1 21 = .ok (.iconst 0, 1) := by decide +kernel
theorem dX2_start_22 : decode mX2_start.2.1 22 = .ok (.putfield 42, 3) := by decide +kernel
theorem dX2_start_25 : decode mX2_start.2.1 25 = .ok (.aload_n 0, 1) := by decide +kernel
theorem dX2_start_26 : decode mX2_start.2.1 26 = .ok (.iconst 0, 1) := by decide +kernel
theorem dX2_start_27 : decode mX2_start.2.1 27 = .ok (.putfield 62, 3) := by decide +kernel
theorem dX2_start_30 : decode mX2_start.2.1 30 = .ok (.return_, 1) := by decide +kernel
theorem dX2_take_0 : decode mX2_take.2.1 0 = .ok (.aload_n 0, 1) := by decide +kernel
theorem dX2_take_1 : decode mX2_take.2.1 1 = .ok (.getfield 39, 3) := by decide +kernel
theorem dX2_take_4 : decode mX2_take.2.1 4 = .ok (.tableswitch 200 0 7 #[48, 70, 109, 146, 163, 169, 188, 194], 48) := by decide +kernel
theorem dX2_take_52 : decode mX2_take.2.1 52 = .ok (.aload_n 0, 1) := by decide +kernel
theorem dX2_take_53 : decode mX2_take.2.1 53 = .ok (.iload_n 1, 1) := by decide +kernel
theorem dX2_take_54 : decode mX2_take.2.1 54 = .ok (.bipush 65, 2) := by decide +kernel
theorem dX2_take_56 : decode mX2_take.2.1 56 = .ok (.aload_n 0, 1) := by decide +kernel
theorem dX2_take_57 : decode mX2_take.2.1 57 = .ok (.getfield 56, 3) := by decide +kernel
theorem dX2_take_60 : decode mX2_take.2.1 60 = .ok (.iadd, 1) := by decide +kernel
theorem dX2_take_61 : decode mX2_take.2.1 61 = .ok (.if_icmp .ne 7, 3) := by decide +kernel
theorem dX2_take_64 : decode mX2_take.2.1 64 = .ok (.iconst 1, 1) := by decide +kernel
theorem dX2_take_65 : decode mX2_take.2.1 65 = .ok (.goto 4, 3) := by decide +kernel
theorem dX2_take_68 : decode mX2_take.2.1 68 = .ok (.iconst 0, 1) := by decide +kernel
theorem dX2_take_69 : decode mX2_take.2.1 69 = .ok (.iconst 1, 1) := by decide +kernel
theorem dX2_take_70 : decode mX2_take.2.1 70 = .ok (.invokevirtual 65, 3) := by decide +kernel
theorem dX2_take_73 : decode mX2_take.2.1 73 = .ok (.ireturn, 1) := by decide +kernel
theorem dX2_take_74 : decode mX2_take.2.1 74 = .ok (.iload_n 1, 1) := by decide +kernel
theorem dX2_take_75 : decode mX2_take.2.1 75 = .ok (.bipush 58, 2) := by decide +kernel
theorem dX2_take_77 : decode mX2_take.2.1 77 = .ok (.if_icmp .ne 12, 3) := by decide +kernel
theorem dX2_take_80 : decode mX2_take.2.1 80 = .ok (.aload_n 0, 1) := by decide +kernel
theorem dX2_take_81 : decode mX2_take.2.1 81 = .ok (.iconst 1, 1) := by decide +kernel
theorem dX2_take_82 : decode mX2_take.2.1 82 = .ok (.iconst 4, 1) := by decide +kernel
theorem dX2_take_83 : decode mX2_take.2.1 83 = .ok (.invokevirtual 65, 3) := by decide +kernel
theorem dX2_take_86 : decode mX2_take.2.1 86 = .ok (.goto 26, 3) := by decide +kernel
theorem dX2_take_89 : decode mX2_take.2.1 89 = .ok (.aload_n 0, 1) := by decide +kernel
theorem dX2_take_90 : decode mX2_take.2.1 90 = .ok (.iload_n 1, 1) := by decide +kernel
theorem dX2_take_91 : decode mX2_take.2.1 91 = .ok (.bipush 60, 2) := by decide +kernel
theorem dX2_take_93 : decode mX2_take.2.1 93 = .ok (.if_icmp .ne 14, 3) := by decide +kernel
theorem dX2_take_96 : decode mX2_take.2.1 96 = .ok (.aload_n 0, 1) := by decide +kernel
theorem dX2_take_97 : decode mX2_take.2.1 97 = .ok (.getfield 56, 3) := by decide +kernel
theorem dX2_take_100 : decode mX2_take.2.1 100 = .ok (.ifCond .le 7, 3) := by decide +kernel
theorem dX2_take_103 : decode mX2_take.2.1 103 = .ok (.iconst 1, 1) := by decide +kernel
theorem dX2_take_104 : decode mX2_take.2.1 104 = .ok (.goto 4, 3) := by decide +kernel
theorem dX2_take_107 : decode mX2_take.2.1 107 = .ok (.iconst 0, 1) := by decide +kernel
theorem dX2_take_108 : decode mX2_take.2.1 108 = .ok (.iconst 2, 1) := by decide +kernel
theorem dX2_take_109 : decode mX2_take.2.1 109 = .ok (.invokevirtual 65, 3) := by decide +kernel
theorem dX2_take_112 : decode mX2_take.2.1 112 = .ok (.ireturn, 1) := by decide +kernel
theorem dX2_take_113 : decode mX2_take.2.1 113 = .ok (.aload_n 0, 1) := by decide +kernel
theorem dX2_take_114 : decode mX2_take.2.1 114 = .ok (.iload_n 1, 1) := by decide +kernel
theorem dX2_take_115 : decode mX2_take.2.1 115 = .ok (.bipush 65, 2) := by decide +kernel
theorem dX2_take_117 : decode mX2_take.2.1 117 = .ok (.isub, 1) := by decide +kernel
theorem dX2_take_118 : decode mX2_take.2.1 118 = .ok (.putfield 59, 3) := by decide +kernel
theorem dX2_take_121 : decode mX2_take.2.1 121 = .ok (.aload_n 0, 1) := by decide +kernel
theorem dX2_take_122 : decode mX2_take.2.1 122 = .ok (.aload_n 0, 1) := by decide +kernel
theorem dX2_take_123 : decode mX2_take.2.1 123 = .ok (.getfield 59, 3) := by decide +kernel
theorem dX2_take_126 : decode mX2_take.2.1 126 = .ok (.ifCond .lt 18, 3) := by decide +kernel
theorem dX2_take_129 : decode mX2_take.2.1 129 = .ok (.aload_n 0, 1) := by decide +kernel
theorem dX2_take_130 : decode mX2_take.2.1 130 = .ok (.getfield 59, 3) := by decide +kernel
theorem dX2_take_133 : decode mX2_take.2.1 133 = .ok (.aload_n 0, 1) := by decide +kernel
theorem dX2_take_134 : decode mX2_take.2.1 134 = .ok (.getfield 56, 3) := by decide +kernel
theorem dX2_take_137 : decode mX2_take.2.1 137 = .ok (.if_icmp .ge 7, 3) := by decide +kernel
theorem dX2_take_140 : decode mX2_take.2.1 140 = .ok (.iconst 1, 1) := by decide +kernel
theorem dX2_take_141 : decode mX2_take.2.1 141 = .ok (.goto 4, 3) := by decide +kernel
theorem dX2_take_144 : decode mX2_take.2.1 144 = .ok (.iconst 0, 1) := by decide +kernel
theorem dX2_take_145 : decode mX2_take.2.1 145 = .ok (.iconst 3, 1) := by decide +kernel
theorem dX2_take_146 : decode mX2_take.2.1 146 = .ok (.invokevirtual 65, 3) := by decide +kernel
theorem dX2_take_149 : decode mX2_take.2.1 149 = .ok (.ireturn, 1) := by decide +kernel
theorem dX2_take_150 : decode mX2_take.2.1 150 = .ok (.aload_n 0, 1) := by decide +kernel
theorem dX2_take_151 : decode mX2_take.2.1 151 = .ok (.iload_n 1, 1) := by decide +kernel
theorem dX2_take_152 : decode mX2_take.2.1 152 = .ok (.bipush 58, 2) := by decide +kernel
theorem dX2_take_154 : decode mX2_take.2.1 154 = .ok (.if_icmp .ne 7, 3) := by decide +kernel
theorem dX2_take_157 : decode mX2_take.2.1 157 = .ok (.iconst 1, 1) := by decide +kernel
theorem dX2_take_158 : decode mX2_take.2.1 158 = .ok (.goto 4, 3) := by decide +kernel
theorem dX2_take_161 : decode mX2_take.2.1 161 = .ok (.iconst 0, 1) := by decide +kernel
theorem dX2_take_162 : decode mX2_take.2.1 162 = .ok (.iconst 4, 1) := by decide +kernel
theorem dX2_take_163 : decode mX2_take.2.1 163 = .ok (.invokevirtual 65, 3) := by decide +kernel
theorem dX2_take_166 : decode mX2_take.2.1 166 = .ok (.ireturn, 1) := by decide +kernel
theorem dX2_take_167 : decode mX2_take.2.1 167 = .ok (.aload_n 0, 1) := by decide +kernel
theorem dX2_take_168 : decode mX2_take.2.1 168 = .ok (.iload_n 1, 1) := by decide +kernel
theorem dX2_take_169 : decode mX2_take.2.1 169 = .ok (.invokevirtual 69, 3) := by decide +kernel
theorem dX2_take_172 : decode mX2_take.2.1 172 = .ok (.ireturn, 1) := by decide +kernel
theorem dX2_take_173 : decode mX2_take.2.1 173 = .ok (.iload_n 1, 1) := by decide +kernel
theorem dX2_take_174 : decode mX2_take.2.1 174 = .ok (.bipush 45, 2) := by decide +kernel
theorem dX2_take_176 : decode mX2_take.2.1 176 = .ok (.if_icmp .ne 10, 3) := by decide +kernel
theorem dX2_take_179 : decode mX2_take.2.1 179 = .ok (.aload_n 0, 1) := by decide +kernel
theorem dX2_take_180 : decode mX2_take.2.1 180 = .ok (.invokevirtual 72, 3) := by decide +kernel
theorem dX2_take_183 : decode mX2_take.2.1 183 = .ok (.goto 8, 3) := by decide +kernel
theorem dX2_take_186 : decode mX2_take.2.1 186 = .ok (.aload_n 0, 1) := by decide +kernel
theorem dX2_take_187 : decode mX2_take.2.1 187 = .ok (.iload_n 1, 1) := by decide +kernel
theorem dX2_take_188 : decode mX2_take.2.1 188 = .ok (.invokevirtual 76, 3) := by decide +kernel
theorem dX2_take_191 : decode mX2_take.2.1 191 = .ok (.ireturn, 1) := by decide +kernel
theorem dX2_take_192 : decode mX2_take.2.1 192 = .ok (.aload_n 0, 1) := by decide +kernel
theorem dX2_take_193 : decode mX2_take.2.1 193 = .ok (.iload_n 1, 1) := by decide +kernel
theorem dX2_take_194 : decode mX2_take.2.1 194 = .ok (.invokevirtual 76, 3) := by decide +kernel
theorem dX2_take_197 : decode mX2_take.2.1 197 = .ok (.ireturn, 1) := by decide +kernel
theorem dX2_take_198 : decode mX2_take.2.1 198 = .ok (.aload_n 0, 1) := by decide +kernel
theorem dX2_take_199 : decode mX2_take.2.1 199 = .ok (.iload_n 1, 1) := by decide +kernel
theorem dX2_take_200 : decode mX2_take.2.1 200 = .ok (.invokevirtual 79, 3) := by decide +kernel
theorem dX2_take_203 : decode mX2_take.2.1 203 = .ok (.ireturn, 1) := by decide +kernel
theorem dX2_take_204 : decode mX2_take.2.1 204 = .ok (.aload_n 0, 1) := by decide +kernel
theorem dX2_take_205 : decode mX2_take.2.1 205 = .ok (.iload_n 1, 1) := by decide +kernel
theorem dX2_take_206 : decode mX2_take.2.1 206 = .ok (.invokevirtual 82, 3) := by decide +kernel
theorem dX2_take_209 : decode mX2_take.2.1 209 = .ok (.ireturn, 1) := by decide +kernel
theorem dX2_goOn_0 : decode mX2_goOn.2.1 0 = .ok (.iload_n 1, 1) := by decide +kernel
theorem dX2_goOn_1 : decode mX2_goOn.2.1 1 = .ok (.ifCond .eq 8, 3) := by decide +kernel
theorem dX2_goOn_4 : decode mX2_goOn.2.1 4 = .ok (.aload_n 0, 1) := by decide +kernel
theorem dX2_goOn_5 : decode mX2_goOn.2.1 5 = .ok (.iload_n 2, 1) := by decide +kernel
theorem dX2_goOn_6 : decode mX2_goOn.2.1 6 = .ok (.putfield 39, 3) := by decide +kernel
theorem dX2_goOn_9 : decode mX2_goOn.2.1 9 = .ok (.iload_n 1, 1) := by decide +kernel
theorem dX2_goOn_10 : decode mX2_goOn.2.1 10 = .ok (.ireturn, 1) := by decide +kernel
theorem dX2_takeMember_0 : decode mX2_takeMember.2.1 0 = .ok (.iload_n 1, 1) := by decide +kernel
theorem dX2_takeMember_1 : decode mX2_takeMember.2.1 1 = .ok (.invokestatic 85, 3) := by decide +kernel
theorem dX2_takeMember_4 : decode mX2_takeMember.2.1 4 = .ok (.istore_n 2, 1) := by decide +kernel
theorem dX2_takeMember_5 : decode mX2_takeMember.2.1 5 = .ok (.iload_n 2, 1) := by decide +kernel
theorem dX2_takeMember_6 : decode mX2_takeMember.2.1 6 = .ok (.invokestatic 53, 3) := by decide +kernel
theorem dX2_takeMember_9 : decode mX2_takeMember.2.1 9 = .ok (.ifCond .eq 23, 3) := by decide +kernel
theorem dX2_takeMember_12 : decode mX2_takeMember.2.1 12 = .ok (.aload_n 0, 1) := by decide +kernel
theorem dX2_takeMember_13 : decode mX2_takeMember.2.1 13 = .ok (.getfield 42, 3) := by decide +kernel
theorem dX2_takeMember_16 : decode mX2_takeMember.2.1 16 = .ok (.iload_n 2, 1) := by decide +kernel
theorem dX2_takeMember_17 : decode mX2_takeMember.2.1 17 = .ok (.ishr, 1) := by decide +kernel
theorem dX2_takeMember_18 : decode mX2_takeMember.2.1 18 = .ok (.iconst 1, 1) := by decide +kernel
theorem dX2_takeMember_19 : decode mX2_takeMember.2.1 19 = .ok (.iand, 1) := by decide +kernel
theorem dX2_takeMember_20 : decode mX2_takeMember.2.1 20 = .ok (.ifCond .ne 12, 3) := by decide +kernel
theorem dX2_takeMember_23 : decode mX2_takeMember.2.1 23 = .ok (.aload_n 0, 1) := by decide +kernel
theorem dX2_takeMember_24 : decode mX2_takeMember.2.1 24 = .ok (.getfield 50, 3) := by decide +kernel
theorem dX2_takeMember_27 : decode mX2_takeMember.2.1 27 = .ok (.bipush 12, 2) := by decide +kernel
theorem dX2_takeMember_29 : decode mX2_takeMember.2.1 29 = .ok (.if_icmp .lt 5, 3) := by decide +kernel
theorem dX2_takeMember_32 : decode mX2_takeMember.2.1 32 = .ok (.iconst 0, 1) := by decide +kernel
theorem dX2_takeMember_33 : decode mX2_takeMember.2.1 33 = .ok (.ireturn, 1) := by decide +kernel
theorem dX2_takeMember_34 : decode mX2_takeMember.2.1 34 = .ok (.aload_n 0, 1) := by decide +kernel
theorem dX2_takeMember_35 : decode mX2_takeMember.2.1 35 = .ok (.getfield 9, 3) := by decide +kernel
theorem dX2_takeMember_38 : decode mX2_takeMember.2.1 38 = .ok (.aload_n 0, 1) := by decide +kernel
theorem dX2_takeMember_39 : decode mX2_takeMember.2.1 39 = .ok (.getfield 50, 3) := by decide +kernel
theorem dX2_takeMember_42 : decode mX2_takeMember.2.1 42 = .ok (.iload_n 2, 1) := by decide +kernel
theorem dX2_takeMember_43 : decode mX2_takeMember.2.1 43 = .ok (.iastore, 1) := by decide +kernel
theorem dX2_takeMember_44 : decode mX2_takeMember.2.1 44 = .ok (.aload_n 0, 1) := by decide +kernel
theorem dX2_takeMember_45 : decode mX2_takeMember.2.1 45 = .ok (.dup, 1) := by decide +kernel
theorem dX2_takeMember_46 : decode mX2_takeMember.2.1 46 = .ok (.getfield 50, 3) := by decide +kernel
theorem dX2_takeMember_49 : decode mX2_takeMember.2.1 49 = .ok (.iconst 1, 1) := by decide +kernel
theorem dX2_takeMember_50 : decode mX2_takeMember.2.1 50 = .ok (.iadd, 1) := by decide +kernel
theorem dX2_takeMember_51 : decode mX2_takeMember.2.1 51 = .ok (.putfield 50, 3) := by decide +kernel
theorem dX2_takeMember_54 : decode mX2_takeMember.2.1 54 = .ok (.aload_n 0, 1) := by decide +kernel
theorem dX2_takeMember_55 : decode mX2_takeMember.2.1 55 = .ok (.dup, 1) := by decide +kernel
theorem dX2_takeMember_56 : decode mX2_takeMember.2.1 56 = .ok (.getfield 42, 3) := by decide +kernel
theorem dX2_takeMember_59 : decode mX2_takeMember.2.1 59 = .ok (.iconst 1, 1) := by decide +kernel
theorem dX2_takeMember_60 : decode mX2_takeMember.2.1 60 = .ok (.iload_n 2, 1) := by decide +kernel
theorem dX2_takeMember_61 : decode mX2_takeMember.2.1 61 = .ok (.ishl, 1) := by decide +kernel
theorem dX2_takeMember_62 : decode mX2_takeMember.2.1 62 = .ok (.ior, 1) := by decide +kernel
theorem dX2_takeMember_63 : decode mX2_takeMember.2.1 63 = .ok (.putfield 42, 3) := by decide +kernel
theorem dX2_takeMember_66 : decode mX2_takeMember.2.1 66 = .ok (.aload_n 0, 1) := by decide +kernel
theorem dX2_takeMember_67 : decode mX2_takeMember.2.1 67 = .ok (.getfield 15, 3) := by decide +kernel
theorem dX2_takeMember_70 : decode mX2_takeMember.2.1 70 = .ok (.iload_n 2, 1) := by decide +kernel
theorem dX2_takeMember_71 : decode mX2_takeMember.2.1 71 = .ok (.iconst 0, 1) := by decide +kernel
theorem dX2_takeMember_72 : decode mX2_takeMember.2.1 72 = .ok (.iastore, 1) := by decide +kernel
theorem dX2_takeMember_73 : decode mX2_takeMember.2.1 73 = .ok (.aload_n 0, 1) := by decide +kernel
theorem dX2_takeMember_74 : decode mX2_takeMember.2.1 74 = .ok (.iconst 1, 1) := by decide +kernel
theorem dX2_takeMember_75 : decode mX2_takeMember.2.1 75 = .ok (.iload_n 2, 1) := by decide +kernel
theorem dX2_takeMember_76 : decode mX2_takeMember.2.1 76 = .ok (.invokestatic 88, 3) := by decide +kernel
theorem dX2_takeMember_79 : decode mX2_takeMember.2.1 79 = .ok (.ifCond .eq 7, 3) := by decide +kernel
theorem dX2_takeMember_82 : decode mX2_takeMember.2.1 82 = .ok (.iconst 5, 1) := by decide +kernel
theorem dX2_takeMember_83 : decode mX2_takeMember.2.1 83 = .ok (.goto 4, 3) := by decide +kernel
theorem dX2_takeMember_86 : decode mX2_takeMember.2.1 86 = .ok (.iconst 4, 1) := by decide +kernel
theorem dX2_takeMember_87 : decode mX2_takeMember.2.1 87 = .ok (.invokevirtual 65, 3) := by decide +kernel
theorem dX2_takeMember_90 : decode mX2_takeMember.2.1 90 = .ok (.ireturn, 1) := by decide +kernel
theorem dX2_takeDash_0 : decode mX2_takeDash.2.1 0 = .ok (.aload_n 0, 1) := by decide +kernel
theorem dX2_takeDash_1 : decode mX2_takeDash.2.1 1 = .ok (.dup, 1) := by decide +kernel
theorem dX2_takeDash_2 : decode mX2_takeDash.2.1 2 = .ok (.getfield 62, 3) := by decide +kernel
theorem dX2_takeDash_5 : decode mX2_takeDash.2.1 5 = .ok (.iconst 1, 1) := by decide +kernel
theorem dX2_takeDash_6 : decode mX2_takeDash.2.1 6 = .ok (.aload_n 0, 1) := by decide +kernel
theorem dX2_takeDash_7 : decode mX2_takeDash.2.1 7 = .ok (.aload_n 0, 1) := by decide +kernel
theorem dX2_takeDash_8 : decode mX2_takeDash.2.1 8 = .ok (.getfield 50, 3) := by decide +kernel
theorem dX2_takeDash_11 : decode mX2_takeDash.2.1 11 = .ok (.iconst 1, 1) := by decide +kernel
theorem dX2_takeDash_12 : decode mX2_takeDash.2.1 12 = .ok (.isub, 1) := by decide +kernel
theorem dX2_takeDash_13 : decode mX2_takeDash.2.1 13 = .ok (.invokevirtual 91, 3) := by decide +kernel
theorem dX2_takeDash_16 : decode mX2_takeDash.2.1 16 = .ok (.ishl, 1) := by decide +kernel
theorem dX2_takeDash_17 : decode mX2_takeDash.2.1 17 = .ok (.ior, 1) := by decide +kernel
theorem dX2_takeDash_18 : decode mX2_takeDash.2.1 18 = .ok (.putfield 62, 3) := by decide +kernel
theorem dX2_takeDash_21 : decode mX2_takeDash.2.1 21 = .ok (.aload_n 0, 1) := by decide +kernel
theorem dX2_takeDash_22 : decode mX2_takeDash.2.1 22 = .ok (.iconst 1, 1) := by decide +kernel
theorem dX2_takeDash_23 : decode mX2_takeDash.2.1 23 = .ok (.bipush 6, 2) := by decide +kernel
theorem dX2_takeDash_25 : decode mX2_takeDash.2.1 25 = .ok (.invokevirtual 65, 3) := by decide +kernel
theorem dX2_takeDash_28 : decode mX2_takeDash.2.1 28 = .ok (.ireturn, 1) := by decide +kernel
theorem dX2_takeBehindDash_0 : decode mX2_takeBehindDash.2.1 0 = .ok (.iload_n 1, 1) := by decide +kernel
theorem dX2_takeBehindDash_1 : decode mX2_takeBehindDash.2.1 1 = .ok (.bipush 40, 2) := by decide +kernel
theorem dX2_takeBehindDash_3 : decode mX2_takeBehindDash.2.1 3 = .ok (.if_icmp .ne 13, 3) := by decide +kernel
theorem dX2_takeBehindDash_6 : decode mX2_takeBehindDash.2.1 6 = .ok (.aload_n 0, 1) := by decide +kernel
theorem dX2_takeBehindDash_7 : decode mX2_takeBehindDash.2.1 7 = .ok (.iconst 1, 1) := by decide +kernel
theorem dX2_takeBehindDash_8 : decode mX2_takeBehindDash.2.1 8 = .ok (.bipush 7, 2) := by decide +kernel
theorem dX2_takeBehindDash_10 : decode mX2_takeBehindDash.2.1 10 = .ok (.invokevirtual 65, 3) := by decide +kernel
theorem dX2_takeBehindDash_13 : decode mX2_takeBehindDash.2.1 13 = .ok (.goto 8, 3) := by decide +kernel
theorem dX2_takeBehindDash_16 : decode mX2_takeBehindDash.2.1 16 = .ok (.aload_n 0, 1) := by decide +kernel
theorem dX2_takeBehindDash_17 : decode mX2_takeBehindDash.2.1 17 = .ok (.iload_n 1, 1) := by decide +kernel
theorem dX2_takeBehindDash_18 : decode mX2_takeBehindDash.2.1 18 = .ok (.invokevirtual 69, 3) := by decide +kernel
theorem dX2_takeBehindDash_21 : decode mX2_takeBehindDash.2.1 21 = .ok (.ireturn, 1) := by decide +kernel
theorem dX2_takeItem_0 : decode mX2_takeItem.2.1 0 = .ok (.aload_n 0, 1) := by decide +kernel
theorem dX2_takeItem_1 : decode mX2_takeItem.2.1 1 = .ok (.aload_n 0, 1) := by decide +kernel
theorem dX2_takeItem_2 : decode mX2_takeItem.2.1 2 = .ok (.aload_n 0, 1) := by decide +kernel
theorem dX2_takeItem_3 : decode mX2_takeItem.2.1 3 = .ok (.getfield 50, 3) := by decide +kernel
theorem dX2_takeItem_6 : decode mX2_takeItem.2.1 6 = .ok (.iconst 1, 1) := by decide +kernel
theorem dX2_takeItem_7 : decode mX2_takeItem.2.1 7 = .ok (.isub, 1) := by decide +kernel
theorem dX2_takeItem_8 : decode mX2_takeItem.2.1 8 = .ok (.invokevirtual 91, 3) := by decide +kernel
theorem dX2_takeItem_11 : decode mX2_takeItem.2.1 11 = .ok (.invokevirtual 94, 3) := by decide +kernel
theorem dX2_takeItem_14 : decode mX2_takeItem.2.1 14 = .ok (.istore_n 2, 1) := by decide +kernel
theorem dX2_takeItem_15 : decode mX2_takeItem.2.1 15 = .ok (.iload_n 1, 1) := by decide +kernel
theorem dX2_takeItem_16 : decode mX2_takeItem.2.1 16 = .ok (.bipush 41, 2) := by decide +kernel
theorem dX2_takeItem_18 : decode mX2_takeItem.2.1 18 = .ok (.if_icmp .ne 18, 3) := by decide +kernel
theorem dX2_takeItem_21 : decode mX2_takeItem.2.1 21 = .ok (.aload_n 0, 1) := by decide +kernel
theorem dX2_takeItem_22 : decode mX2_takeItem.2.1 22 = .ok (.iload_n 2, 1) := by decide +kernel
theorem dX2_takeItem_23 : decode mX2_takeItem.2.1 23 = .ok (.ifCond .le 7, 3) := by decide +kernel
theorem dX2_takeItem_26 : decode mX2_takeItem.2.1 26 = .ok (.iconst 1, 1) := by decide +kernel
theorem dX2_takeItem_27 : decode mX2_takeItem.2.1 27 = .ok (.goto 4, 3) := by decide +kernel
theorem dX2_takeItem_30 : decode mX2_takeItem.2.1 30 = .ok (.iconst 0, 1) := by decide +kernel
theorem dX2_takeItem_31 : decode mX2_takeItem.2.1 31 = .ok (.iconst 4, 1) := by decide +kernel
theorem dX2_takeItem_32 : decode mX2_takeItem.2.1 32 = .ok (.invokevirtual 65, 3) := by decide +kernel
theorem dX2_takeItem_35 : decode mX2_takeItem.2.1 35 = .ok (.ireturn, 1) := by decide +kernel
theorem dX2_takeItem_36 : decode mX2_takeItem.2.1 36 = .ok (.iload_n 2, 1) := by decide +kernel
theorem dX2_takeItem_37 : decode mX2_takeItem.2.1 37 = .ok (.bipush 6, 2) := by decide +kernel
theorem dX2_takeItem_39 : decode mX2_takeItem.2.1 39 = .ok (.if_icmp .lt 5, 3) := by decide +kernel
theorem dX2_takeItem_42 : decode mX2_takeItem.2.1 42 = .ok (.iconst 0, 1) := by decide +kernel
theorem dX2_takeItem_43 : decode mX2_takeItem.2.1 43 = .ok (.ireturn, 1) := by decide +kernel
theorem dX2_takeItem_44 : decode mX2_takeItem.2.1 44 = .ok (.iload_n 1, 1) := by decide +kernel
theorem dX2_takeItem_45 : decode mX2_takeItem.2.1 45 = .ok (.bipush 94, 2) := by decide +kernel
theorem dX2_takeItem_47 : decode mX2_takeItem.2.1 47 = .ok (.if_icmp .ne 11, 3) := by decide +kernel
theorem dX2_takeItem_50 : decode mX2_takeItem.2.1 50 = .ok (.aload_n 0, 1) := by decide +kernel
theorem dX2_takeItem_51 : decode mX2_takeItem.2.1 51 = .ok (.iconst 1, 1) := by decide +kernel
theorem dX2_takeItem_52 : decode mX2_takeItem.2.1 52 = .ok (.bipush 8, 2) := by decide +kernel
theorem dX2_takeItem_54 : decode mX2_takeItem.2.1 54 = .ok (.invokevirtual 65, 3) := by decide +kernel
theorem dX2_takeItem_57 : decode mX2_takeItem.2.1 57 = .ok (.ireturn, 1) := by decide +kernel
theorem dX2_takeItem_58 : decode mX2_takeItem.2.1 58 = .ok (.iload_n 1, 1) := by decide +kernel
theorem dX2_takeItem_59 : decode mX2_takeItem.2.1 59 = .ok (.invokestatic 85, 3) := by decide +kernel
theorem dX2_takeItem_62 : decode mX2_takeItem.2.1 62 = .ok (.istore_n 3, 1) := by decide +kernel
theorem dX2_takeItem_63 : decode mX2_takeItem.2.1 63 = .ok (.iload_n 3, 1) := by decide +kernel
theorem dX2_takeItem_64 : decode mX2_takeItem.2.1 64 = .ok (.invokestatic 53, 3) := by decide +kernel
theorem dX2_takeItem_67 : decode mX2_takeItem.2.1 67 = .ok (.ifCond .eq 15, 3) := by decide +kernel
theorem dX2_takeItem_70 : decode mX2_takeItem.2.1 70 = .ok (.aload_n 0, 1) := by decide +kernel
theorem dX2_takeItem_71 : decode mX2_takeItem.2.1 71 = .ok (.iload_n 3, 1) := by decide +kernel
theorem dX2_takeItem_72 : decode mX2_takeItem.2.1 72 = .ok (.invokevirtual 97, 3) := by decide +kernel
theorem dX2_takeItem_75 : decode mX2_takeItem.2.1 75 = .ok (.ifCond .eq 7, 3) := by decide +kernel
theorem dX2_takeItem_78 : decode mX2_takeItem.2.1 78 = .ok (.iconst 1, 1) := by decide +kernel
theorem dX2_takeItem_79 : decode mX2_takeItem.2.1 79 = .ok (.goto 4, 3) := by decide +kernel
theorem dX2_takeItem_82 : decode mX2_takeItem.2.1 82 = .ok (.iconst 0, 1) := by decide +kernel
theorem dX2_takeItem_83 : decode mX2_takeItem.2.1 83 = .ok (.ireturn, 1) := by decide +kernel
theorem dX2_takeAsked_0 : decode mX2_takeAsked.2.1 0 = .ok (.iload_n 1, 1) := by decide +kernel
theorem dX2_takeAsked_1 : decode mX2_takeAsked.2.1 1 = .ok (.invokestatic 85, 3) := by decide +kernel
theorem dX2_takeAsked_4 : decode mX2_takeAsked.2.1 4 = .ok (.istore_n 2, 1) := by decide +kernel
theorem dX2_takeAsked_5 : decode mX2_takeAsked.2.1 5 = .ok (.iload_n 2, 1) := by decide +kernel
theorem dX2_takeAsked_6 : decode mX2_takeAsked.2.1 6 = .ok (.invokestatic 88, 3) := by decide +kernel
theorem dX2_takeAsked_9 : decode mX2_takeAsked.2.1 9 = .ok (.ifCond .eq 18, 3) := by decide +kernel
theorem dX2_takeAsked_12 : decode mX2_takeAsked.2.1 12 = .ok (.aload_n 0, 1) := by decide +kernel
theorem dX2_takeAsked_13 : decode mX2_takeAsked.2.1 13 = .ok (.bipush 20, 2) := by decide +kernel
theorem dX2_takeAsked_15 : decode mX2_takeAsked.2.1 15 = .ok (.iload_n 2, 1) := by decide +kernel
theorem dX2_takeAsked_16 : decode mX2_takeAsked.2.1 16 = .ok (.iadd, 1) := by decide +kernel
theorem dX2_takeAsked_17 : decode mX2_takeAsked.2.1 17 = .ok (.invokevirtual 97, 3) := by decide +kernel
theorem dX2_takeAsked_20 : decode mX2_takeAsked.2.1 20 = .ok (.ifCond .eq 7, 3) := by decide +kernel
theorem dX2_takeAsked_23 : decode mX2_takeAsked.2.1 23 = .ok (.iconst 1, 1) := by decide +kernel
theorem dX2_takeAsked_24 : decode mX2_takeAsked.2.1 24 = .ok (.goto 4, 3) := by decide +kernel
theorem dX2_takeAsked_27 : decode mX2_takeAsked.2.1 27 = .ok (.iconst 0, 1) := by decide +kernel
theorem dX2_takeAsked_28 : decode mX2_takeAsked.2.1 28 = .ok (.ireturn, 1) := by decide +kernel
theorem dX2_addItem_0 : decode mX2_addItem.2.1 0 = .ok (.aload_n 0, 1) := by decide +kernel
theorem dX2_addItem_1 : decode mX2_addItem.2.1 1 = .ok (.aload_n 0, 1) := by decide +kernel
theorem dX2_addItem_2 : decode mX2_addItem.2.1 2 = .ok (.getfield 50, 3) := by decide +kernel
theorem dX2_addItem_5 : decode mX2_addItem.2.1 5 = .ok (.iconst 1, 1) := by decide +kernel
theorem dX2_addItem_6 : decode mX2_addItem.2.1 6 = .ok (.isub, 1) := by decide +kernel
theorem dX2_addItem_7 : decode mX2_addItem.2.1 7 = .ok (.invokevirtual 91, 3) := by decide +kernel
theorem dX2_addItem_10 : decode mX2_addItem.2.1 10 = .ok (.istore_n 2, 1) := by decide +kernel
theorem dX2_addItem_11 : decode mX2_addItem.2.1 11 = .ok (.iload_n 2, 1) := by decide +kernel
theorem dX2_addItem_12 : decode mX2_addItem.2.1 12 = .ok (.invokestatic 53, 3) := by decide +kernel
theorem dX2_addItem_15 : decode mX2_addItem.2.1 15 = .ok (.ifCond .eq 14, 3) := by decide +kernel
theorem dX2_addItem_18 : decode mX2_addItem.2.1 18 = .ok (.aload_n 0, 1) := by decide +kernel
theorem dX2_addItem_19 : decode mX2_addItem.2.1 19 = .ok (.getfield 15, 3) := by decide +kernel
theorem dX2_addItem_22 : decode mX2_addItem.2.1 22 = .ok (.iload_n 2, 1) := by decide +kernel
theorem dX2_addItem_23 : decode mX2_addItem.2.1 23 = .ok (.iaload, 1) := by decide +kernel
theorem dX2_addItem_24 : decode mX2_addItem.2.1 24 = .ok (.bipush 6, 2) := by decide +kernel
theorem dX2_addItem_26 : decode mX2_addItem.2.1 26 = .ok (.if_icmp .lt 5, 3) := by decide +kernel
theorem dX2_addItem_29 : decode mX2_addItem.2.1 29 = .ok (.iconst 0, 1) := by decide +kernel
theorem dX2_addItem_30 : decode mX2_addItem.2.1 30 = .ok (.ireturn, 1) := by decide +kernel
theorem dX2_addItem_31 : decode mX2_addItem.2.1 31 = .ok (.aload_n 0, 1) := by decide +kernel
theorem dX2_addItem_32 : decode mX2_addItem.2.1 32 = .ok (.getfield 18, 3) := by decide +kernel
theorem dX2_addItem_35 : decode mX2_addItem.2.1 35 = .ok (.iload_n 2, 1) := by decide +kernel
theorem dX2_addItem_36 : decode mX2_addItem.2.1 36 = .ok (.bipush 6, 2) := by decide +kernel
theorem dX2_addItem_38 : decode mX2_addItem.2.1 38 = .ok (.imul, 1) := by decide +kernel
theorem dX2_addItem_39 : decode mX2_addItem.2.1 39 = .ok (.aload_n 0, 1) := by decide +kernel
theorem dX2_addItem_40 : decode mX2_addItem.2.1 40 = .ok (.getfield 15, 3) := by decide +kernel
theorem dX2_addItem_43 : decode mX2_addItem.2.1 43 = .ok (.iload_n 2, 1) := by decide +kernel
theorem dX2_addItem_44 : decode mX2_addItem.2.1 44 = .ok (.iaload, 1) := by decide +kernel
theorem dX2_addItem_45 : decode mX2_addItem.2.1 45 = .ok (.iadd, 1) := by decide +kernel
theorem dX2_addItem_46 : decode mX2_addItem.2.1 46 = .ok (.iload_n 1, 1) := by decide +kernel
theorem dX2_addItem_47 : decode mX2_addItem.2.1 47 = .ok (.iastore, 1) := by decide +kernel
theorem dX2_addItem_48 : decode mX2_addItem.2.1 48 = .ok (.aload_n 0, 1) := by decide +kernel
theorem dX2_addItem_49 : decode mX2_addItem.2.1 49 = .ok (.getfield 15, 3) := by decide +kernel
theorem dX2_addItem_52 : decode mX2_addItem.2.1 52 = .ok (.iload_n 2, 1) := by decide +kernel
theorem dX2_addItem_53 : decode mX2_addItem.2.1 53 = .ok (.dup2, 1) := by decide +kernel
theorem dX2_addItem_54 : decode mX2_addItem.2.1 54 = .ok (.iaload, 1) := by decide +kernel
theorem dX2_addItem_55 : decode mX2_addItem.2.1 55 = .ok (.iconst 1, 1) := by decide +kernel
theorem dX2_addItem_56 : decode mX2_addItem.2.1 56 = .ok (.iadd, 1) := by decide +kernel
theorem dX2_addItem_57 : decode mX2_addItem.2.1 57 = .ok (.iastore, 1) := by decide +kernel
theorem dX2_addItem_58 : decode mX2_addItem.2.1 58 = .ok (.aload_n 0, 1) := by decide +kernel
theorem dX2_addItem_59 : decode mX2_addItem.2.1 59 = .ok (.iconst 1, 1) := by decide +kernel
theorem dX2_addItem_60 : decode mX2_addItem.2.1 60 = .ok (.bipush 7, 2) := by decide +kernel
theorem dX2_addItem_62 : decode mX2_addItem.2.1 62 = .ok (.invokevirtual 65, 3) := by decide +kernel
theorem dX2_addItem_65 : decode mX2_addItem.2.1 65 = .ok (.ireturn, 1) := by decide +kernel
theorem dX2_memberOf_0 : decode mX2_memberOf.2.1 0 = .ok (.iload_n 0, 1) := by decide +kernel
theorem dX2_memberOf_1 : decode mX2_memberOf.2.1 1 = .ok (.bipush 97, 2) := by decide +kernel
theorem dX2_memberOf_3 : decode mX2_memberOf.2.1 3 = .ok (.if_icmp .lt 14, 3) := by decide +kernel
theorem dX2_memberOf_6 : decode mX2_memberOf.2.1 6 = .ok (.iload_n 0, 1) := by decide +kernel
theorem dX2_memberOf_7 : decode mX2_memberOf.2.1 7 = .ok (.bipush 102, 2) := by decide +kernel
theorem dX2_memberOf_9 : decode mX2_memberOf.2.1 9 = .ok (.if_icmp .gt 8, 3) := by decide +kernel
theorem dX2_memberOf_12 : decode mX2_memberOf.2.1 12 = .ok (.iload_n 0, 1) := by decide +kernel
theorem dX2_memberOf_13 : decode mX2_memberOf.2.1 13 = .ok (.bipush 97, 2) := by decide +kernel
theorem dX2_memberOf_15 : decode mX2_memberOf.2.1 15 = .ok (.isub, 1) := by decide +kernel
theorem dX2_memberOf_16 : decode mX2_memberOf.2.1 16 = .ok (.ireturn, 1) := by decide +kernel
theorem dX2_memberOf_17 : decode mX2_memberOf.2.1 17 = .ok (.iload_n 0, 1) := by decide +kernel
theorem dX2_memberOf_18 : decode mX2_memberOf.2.1 18 = .ok (.bipush 117, 2) := by decide +kernel
theorem dX2_memberOf_20 : decode mX2_memberOf.2.1 20 = .ok (.if_icmp .lt 19, 3) := by decide +kernel
theorem dX2_memberOf_23 : decode mX2_memberOf.2.1 23 = .ok (.iload_n 0, 1) := by decide +kernel
theorem dX2_memberOf_24 : decode mX2_memberOf.2.1 24 = .ok (.bipush 122, 2) := by decide +kernel
theorem dX2_memberOf_26 : decode mX2_memberOf.2.1 26 = .ok (.if_icmp .gt 13, 3) := by decide +kernel
theorem dX2_memberOf_29 : decode mX2_memberOf.2.1 29 = .ok (.bipush 6, 2) := by decide +kernel
theorem dX2_memberOf_31 : decode mX2_memberOf.2.1 31 = .ok (.iload_n 0, 1) := by decide +kernel
theorem dX2_memberOf_32 : decode mX2_memberOf.2.1 32 = .ok (.iadd, 1) := by decide +kernel
theorem dX2_memberOf_33 : decode mX2_memberOf.2.1 33 = .ok (.bipush 117, 2) := by decide +kernel
theorem dX2_memberOf_35 : decode mX2_memberOf.2.1 35 = .ok (.isub, 1) := by decide +kernel
theorem dX2_memberOf_36 : decode mX2_memberOf.2.1 36 = .ok (.goto 4, 3) := by decide +kernel
theorem dX2_memberOf_39 : decode mX2_memberOf.2.1 39 = .ok (.iconst (-1), 1) := by decide +kernel
theorem dX2_memberOf_40 : decode mX2_memberOf.2.1 40 = .ok (.ireturn, 1) := by decide +kernel
theorem dX5_hasType_0 : decode mX5_hasType.2.1 0 = .ok (.iload_n 1, 1) := by decide +kernel
theorem dX5_hasType_1 : decode mX5_hasType.2.1 1 = .ok (.ifCond .lt 21, 3) := by decide +kernel
theorem dX5_hasType_4 : decode mX5_hasType.2.1 4 = .ok (.iload_n 1, 1) := by decide +kernel
theorem dX5_hasType_5 : decode mX5_hasType.2.1 5 = .ok (.aload_n 0, 1) := by decide +kernel
theorem dX5_hasType_6 : decode mX5_hasType.2.1 6 = .ok (.getfield 34, 3) := by decide +kernel
theorem dX5_hasType_9 : decode mX5_hasType.2.1 9 = .ok (.if_icmp .ge 13, 3) := by decide +kernel
theorem dX5_hasType_12 : decode mX5_hasType.2.1 12 = .ok (.iload_n 1, 1) := by decide +kernel
theorem dX5_hasType_13 : decode mX5_hasType.2.1 13 = .ok (.bipush 8, 2) := by decide +kernel
theorem dX5_hasType_15 : decode mX5_hasType.2.1 15 = .ok (.if_icmp .ge 7, 3) := by decide +kernel
theorem dX5_hasType_18 : decode mX5_hasType.2.1 18 = .ok (.iconst 1, 1) := by decide +kernel
theorem dX5_hasType_19 : decode mX5_hasType.2.1 19 = .ok (.goto 4, 3) := by decide +kernel
theorem dX5_hasType_22 : decode mX5_hasType.2.1 22 = .ok (.iconst 0, 1) := by decide +kernel
theorem dX5_hasType_23 : decode mX5_hasType.2.1 23 = .ok (.ireturn, 1) := by decide +kernel
theorem dX5_hasBody_0 : decode mX5_hasBody.2.1 0 = .ok (.iload_n 1, 1) := by decide +kernel
theorem dX5_hasBody_1 : decode mX5_hasBody.2.1 1 = .ok (.ifCond .lt 21, 3) := by decide +kernel
theorem dX5_hasBody_4 : decode mX5_hasBody.2.1 4 = .ok (.iload_n 1, 1) := by decide +kernel
theorem dX5_hasBody_5 : decode mX5_hasBody.2.1 5 = .ok (.aload_n 0, 1) := by decide +kernel
theorem dX5_hasBody_6 : decode mX5_hasBody.2.1 6 = .ok (.getfield 38, 3) := by decide +kernel
theorem dX5_hasBody_9 : decode mX5_hasBody.2.1 9 = .ok (.if_icmp .ge 13, 3) := by decide +kernel
theorem dX5_hasBody_12 : decode mX5_hasBody.2.1 12 = .ok (.iload_n 1, 1) := by decide +kernel
theorem dX5_hasBody_13 : decode mX5_hasBody.2.1 13 = .ok (.bipush 40, 2) := by decide +kernel
theorem dX5_hasBody_15 : decode mX5_hasBody.2.1 15 = .ok (.if_icmp .ge 7, 3) := by decide +kernel
theorem dX5_hasBody_18 : decode mX5_hasBody.2.1 18 = .ok (.iconst 1, 1) := by decide +kernel
theorem dX5_hasBody_19 : decode mX5_hasBody.2.1 19 = .ok (.goto 4, 3) := by decide +kernel
theorem dX5_hasBody_22 : decode mX5_hasBody.2.1 22 = .ok (.iconst 0, 1) := by decide +kernel
theorem dX5_hasBody_23 : decode mX5_hasBody.2.1 23 = .ok (.ireturn, 1) := by decide +kernel
theorem dX5_parentOf_0 : decode mX5_parentOf.2.1 0 = .ok (.iload_n 1, 1) := by decide +kernel
theorem dX5_parentOf_1 : decode mX5_parentOf.2.1 1 = .ok (.ifCond .lt 26, 3) := by decide +kernel
theorem dX5_parentOf_4 : decode mX5_parentOf.2.1 4 = .ok (.iload_n 1, 1) := by decide +kernel
theorem dX5_parentOf_5 : decode mX5_parentOf.2.1 5 = .ok (.aload_n 0, 1) := by decide +kernel
theorem dX5_parentOf_6 : decode mX5_parentOf.2.1 6 = .ok (.getfield 34, 3) := by decide +kernel
theorem dX5_parentOf_9 : decode mX5_parentOf.2.1 9 = .ok (.if_icmp .ge 18, 3) := by decide +kernel
theorem dX5_parentOf_12 : decode mX5_parentOf.2.1 12 = .ok (.iload_n 1, 1) := by decide +kernel
theorem dX5_parentOf_13 : decode mX5_parentOf.2.1 13 = .ok (.bipush 8, 2) := by decide +kernel
theorem dX5_parentOf_15 : decode mX5_parentOf.2.1 15 = .ok (.if_icmp .ge 12, 3) := by decide +kernel
theorem dX5_parentOf_18 : decode mX5_parentOf.2.1 18 = .ok (.aload_n 0, 1) := by decide +kernel
theorem dX5_parentOf_19 : decode mX5_parentOf.2.1 19 = .ok (.getfield 9, 3) := by decide +kernel
theorem dX5_parentOf_22 : decode mX5_parentOf.2.1 22 = .ok (.iload_n 1, 1) := by decide +kernel
theorem dX5_parentOf_23 : decode mX5_parentOf.2.1 23 = .ok (.iaload, 1) := by decide +kernel
theorem dX5_parentOf_24 : decode mX5_parentOf.2.1 24 = .ok (.goto 4, 3) := by decide +kernel
theorem dX5_parentOf_27 : decode mX5_parentOf.2.1 27 = .ok (.iconst (-1), 1) := by decide +kernel
theorem dX5_parentOf_28 : decode mX5_parentOf.2.1 28 = .ok (.ireturn, 1) := by decide +kernel
theorem dX5_hides_0 : decode mX5_hides.2.1 0 = .ok (.iload_n 1, 1) := by decide +kernel
theorem dX5_hides_1 : decode mX5_hides.2.1 1 = .ok (.ifCond .lt 34, 3) := by decide +kernel
theorem dX5_hides_4 : decode mX5_hides.2.1 4 = .ok (.iload_n 1, 1) := by decide +kernel
theorem dX5_hides_5 : decode mX5_hides.2.1 5 = .ok (.aload_n 0, 1) := by decide +kernel
theorem dX5_hides_6 : decode mX5_hides.2.1 6 = .ok (.getfield 34, 3) := by decide +kernel
theorem dX5_hides_9 : decode mX5_hides.2.1 9 = .ok (.if_icmp .ge 26, 3) := by decide +kernel
theorem dX5_hides_12 : decode mX5_hides.2.1 12 = .ok (.iload_n 1, 1) := by decide +kernel
theorem dX5_hides_13 : decode mX5_hides.2.1 13 = .ok (.bipush 8, 2) := by decide +kernel
theorem dX5_hides_15 : decode mX5_hides.2.1 15 = .ok (.if_icmp .ge 20, 3) := by decide +kernel
theorem dX5_hides_18 : decode mX5_hides.2.1 18 = .ok (.aload_n 0, 1) := by decide +kernel
theorem dX5_hides_19 : decode mX5_hides.2.1 19 = .ok (.getfield 22, 3) := by decide +kernel
theorem dX5_hides_22 : decode mX5_hides.2.1 22 = .ok (.iload_n 1, 1) := by decide +kernel
theorem dX5_hides_23 : decode mX5_hides.2.1 23 = .ok (.iaload, 1) := by decide +kernel
theorem dX5_hides_24 : decode mX5_hides.2.1 24 = .ok (.iload_n 2, 1) := by decide +kernel
theorem dX5_hides_25 : decode mX5_hides.2.1 25 = .ok (.ishr, 1) := by decide +kernel
theorem dX5_hides_26 : decode mX5_hides.2.1 26 = .ok (.iconst 1, 1) := by decide +kernel
theorem dX5_hides_27 : decode mX5_hides.2.1 27 = .ok (.iand, 1) := by decide +kernel
theorem dX5_hides_28 : decode mX5_hides.2.1 28 = .ok (.ifCond .eq 7, 3) := by decide +kernel
theorem dX5_hides_31 : decode mX5_hides.2.1 31 = .ok (.iconst 1, 1) := by decide +kernel
theorem dX5_hides_32 : decode mX5_hides.2.1 32 = .ok (.goto 4, 3) := by decide +kernel
theorem dX5_hides_35 : decode mX5_hides.2.1 35 = .ok (.iconst 0, 1) := by decide +kernel
theorem dX5_hides_36 : decode mX5_hides.2.1 36 = .ok (.ireturn, 1) := by decide +kernel
theorem dX5_heldBy_0 : decode mX5_heldBy.2.1 0 = .ok (.iload_n 1, 1) := by decide +kernel
theorem dX5_heldBy_1 : decode mX5_heldBy.2.1 1 = .ok (.ifCond .lt 41, 3) := by decide +kernel
theorem dX5_heldBy_4 : decode mX5_heldBy.2.1 4 = .ok (.iload_n 1, 1) := by decide +kernel
theorem dX5_heldBy_5 : decode mX5_heldBy.2.1 5 = .ok (.aload_n 0, 1) := by decide +kernel
theorem dX5_heldBy_6 : decode mX5_heldBy.2.1 6 = .ok (.getfield 34, 3) := by decide +kernel
theorem dX5_heldBy_9 : decode mX5_heldBy.2.1 9 = .ok (.if_icmp .ge 33, 3) := by decide +kernel
theorem dX5_heldBy_12 : decode mX5_heldBy.2.1 12 = .ok (.iload_n 1, 1) := by decide +kernel
theorem dX5_heldBy_13 : decode mX5_heldBy.2.1 13 = .ok (.bipush 8, 2) := by decide +kernel
theorem dX5_heldBy_15 : decode mX5_heldBy.2.1 15 = .ok (.if_icmp .ge 27, 3) := by decide +kernel
theorem dX5_heldBy_18 : decode mX5_heldBy.2.1 18 = .ok (.iload_n 2, 1) := by decide +kernel
theorem dX5_heldBy_19 : decode mX5_heldBy.2.1 19 = .ok (.ifCond .lt 23, 3) := by decide +kernel
theorem dX5_heldBy_22 : decode mX5_heldBy.2.1 22 = .ok (.iload_n 2, 1) := by decide +kernel
theorem dX5_heldBy_23 : decode mX5_heldBy.2.1 23 = .ok (.bipush 12, 2) := by decide +kernel
theorem dX5_heldBy_25 : decode mX5_heldBy.2.1 25 = .ok (.if_icmp .ge 17, 3) := by decide +kernel
theorem dX5_heldBy_28 : decode mX5_heldBy.2.1 28 = .ok (.aload_n 0, 1) := by decide +kernel
theorem dX5_heldBy_29 : decode mX5_heldBy.2.1 29 = .ok (.getfield 19, 3) := by decide +kernel
theorem dX5_heldBy_32 : decode mX5_heldBy.2.1 32 = .ok (.iload_n 1, 1) := by decide +kernel
theorem dX5_heldBy_33 : decode mX5_heldBy.2.1 33 = .ok (.bipush 12, 2) := by decide +kernel
theorem dX5_heldBy_35 : decode mX5_heldBy.2.1 35 = .ok (.imul, 1) := by decide +kernel
theorem dX5_heldBy_36 : decode mX5_heldBy.2.1 36 = .ok (.iload_n 2, 1) := by decide +kernel
theorem dX5_heldBy_37 : decode mX5_heldBy.2.1 37 = .ok (.iadd, 1) := by decide +kernel
theorem dX5_heldBy_38 : decode mX5_heldBy.2.1 38 = .ok (.iaload, 1) := by decide +kernel
theorem dX5_heldBy_39 : decode mX5_heldBy.2.1 39 = .ok (.goto 4, 3) := by decide +kernel
theorem dX5_heldBy_42 : decode mX5_heldBy.2.1 42 = .ok (.iconst (-1), 1) := by decide +kernel
theorem dX5_heldBy_43 : decode mX5_heldBy.2.1 43 = .ok (.ireturn, 1) := by decide +kernel
theorem dX5_itemAt_0 : decode mX5_itemAt.2.1 0 = .ok (.iload_n 1, 1) := by decide +kernel
theorem dX5_itemAt_1 : decode mX5_itemAt.2.1 1 = .ok (.ifCond .lt 51, 3) := by decide +kernel
theorem dX5_itemAt_4 : decode mX5_itemAt.2.1 4 = .ok (.iload_n 1, 1) := by decide +kernel
theorem dX5_itemAt_5 : decode mX5_itemAt.2.1 5 = .ok (.aload_n 0, 1) := by decide +kernel
theorem dX5_itemAt_6 : decode mX5_itemAt.2.1 6 = .ok (.getfield 38, 3) := by decide +kernel
theorem dX5_itemAt_9 : decode mX5_itemAt.2.1 9 = .ok (.if_icmp .ge 43, 3) := by decide +kernel
theorem dX5_itemAt_12 : decode mX5_itemAt.2.1 12 = .ok (.iload_n 1, 1) := by decide +kernel
theorem dX5_itemAt_13 : decode mX5_itemAt.2.1 13 = .ok (.bipush 40, 2) := by decide +kernel
theorem dX5_itemAt_15 : decode mX5_itemAt.2.1 15 = .ok (.if_icmp .ge 37, 3) := by decide +kernel
theorem dX5_itemAt_18 : decode mX5_itemAt.2.1 18 = .ok (.iload_n 2, 1) := by decide +kernel
theorem dX5_itemAt_19 : decode mX5_itemAt.2.1 19 = .ok (.ifCond .lt 33, 3) := by decide +kernel
theorem dX5_itemAt_22 : decode mX5_itemAt.2.1 22 = .ok (.iload_n 2, 1) := by decide +kernel
theorem dX5_itemAt_23 : decode mX5_itemAt.2.1 23 = .ok (.aload_n 0, 1) := by decide +kernel
theorem dX5_itemAt_24 : decode mX5_itemAt.2.1 24 = .ok (.getfield 28, 3) := by decide +kernel
theorem dX5_itemAt_27 : decode mX5_itemAt.2.1 27 = .ok (.iload_n 1, 1) := by decide +kernel
theorem dX5_itemAt_28 : decode mX5_itemAt.2.1 28 = .ok (.iaload, 1) := by decide +kernel
theorem dX5_itemAt_29 : decode mX5_itemAt.2.1 29 = .ok (.if_icmp .ge 23, 3) := by decide +kernel
theorem dX5_itemAt_32 : decode mX5_itemAt.2.1 32 = .ok (.iload_n 2, 1) := by decide +kernel
theorem dX5_itemAt_33 : decode mX5_itemAt.2.1 33 = .ok (.bipush 6, 2) := by decide +kernel
theorem dX5_itemAt_35 : decode mX5_itemAt.2.1 35 = .ok (.if_icmp .ge 17, 3) := by decide +kernel
theorem dX5_itemAt_38 : decode mX5_itemAt.2.1 38 = .ok (.aload_n 0, 1) := by decide +kernel
theorem dX5_itemAt_39 : decode mX5_itemAt.2.1 39 = .ok (.getfield 31, 3) := by decide +kernel
theorem dX5_itemAt_42 : decode mX5_itemAt.2.1 42 = .ok (.iload_n 1, 1) := by decide +kernel
theorem dX5_itemAt_43 : decode mX5_itemAt.2.1 43 = .ok (.bipush 6, 2) := by decide +kernel
theorem dX5_itemAt_45 : decode mX5_itemAt.2.1 45 = .ok (.imul, 1) := by decide +kernel
theorem dX5_itemAt_46 : decode mX5_itemAt.2.1 46 = .ok (.iload_n 2, 1) := by decide +kernel
theorem dX5_itemAt_47 : decode mX5_itemAt.2.1 47 = .ok (.iadd, 1) := by decide +kernel
theorem dX5_itemAt_48 : decode mX5_itemAt.2.1 48 = .ok (.iaload, 1) := by decide +kernel
theorem dX5_itemAt_49 : decode mX5_itemAt.2.1 49 = .ok (.goto 4, 3) := by decide +kernel
theorem dX5_itemAt_52 : decode mX5_itemAt.2.1 52 = .ok (.iconst (-1), 1) := by decide +kernel
theorem dX5_itemAt_53 : decode mX5_itemAt.2.1 53 = .ok (.ireturn, 1) := by decide +kernel
theorem dX5_isHollow_0 : decode mX5_isHollow.2.1 0 = .ok (.aload_n 0, 1) := by decide +kernel
theorem dX5_isHollow_1 : decode mX5_isHollow.2.1 1 = .ok (.iload_n 1, 1) := by decide +kernel
theorem dX5_isHollow_2 : decode mX5_isHollow.2.1 2 = .ok (.invokevirtual 44, 3) := by decide +kernel
theorem dX5_isHollow_5 : decode mX5_isHollow.2.1 5 = .ok (.ifCond .eq 16, 3) := by decide +kernel
theorem dX5_isHollow_8 : decode mX5_isHollow.2.1 8 = .ok (.aload_n 0, 1) := by decide +kernel
theorem dX5_isHollow_9 : decode mX5_isHollow.2.1 9 = .ok (.getfield 15, 3) := by decide +kernel
theorem dX5_isHollow_12 : decode mX5_isHollow.2.1 12 = .ok (.iload_n 1, 1) := by decide +kernel
theorem dX5_isHollow_13 : decode mX5_isHollow.2.1 13 = .ok (.baload, 1) := by decide +kernel
theorem dX5_isHollow_14 : decode mX5_isHollow.2.1 14 = .ok (.ifCond .eq 7, 3) := by decide +kernel
theorem dX5_isHollow_17 : decode mX5_isHollow.2.1 17 = .ok (.iconst 1, 1) := by decide +kernel
theorem dX5_isHollow_18 : decode mX5_isHollow.2.1 18 = .ok (.goto 4, 3) := by decide +kernel
theorem dX5_isHollow_21 : decode mX5_isHollow.2.1 21 = .ok (.iconst 0, 1) := by decide +kernel
theorem dX5_isHollow_22 : decode mX5_isHollow.2.1 22 = .ok (.ireturn, 1) := by decide +kernel
theorem dX5_makeHollow_0 : decode mX5_makeHollow.2.1 0 = .ok (.aload_n 0, 1) := by decide +kernel
theorem dX5_makeHollow_1 : decode mX5_makeHollow.2.1 1 = .ok (.iload_n 1, 1) := by decide +kernel
theorem dX5_makeHollow_2 : decode mX5_makeHollow.2.1 2 = .ok (.invokevirtual 44, 3) := by decide +kernel
theorem dX5_makeHollow_5 : decode mX5_makeHollow.2.1 5 = .ok (.ifCond .eq 20, 3) := by decide +kernel
theorem dX5_makeHollow_8 : decode mX5_makeHollow.2.1 8 = .ok (.aload_n 0, 1) := by decide +kernel
theorem dX5_makeHollow_9 : decode mX5_makeHollow.2.1 9 = .ok (.getfield 15, 3) := by decide +kernel
theorem dX5_makeHollow_12 : decode mX5_makeHollow.2.1 12 = .ok (.iload_n 1, 1) := by decide +kernel
theorem dX5_makeHollow_13 : decode mX5_makeHollow.2.1 13 = .ok (.iload_n 2, 1) := by decide +kernel
theorem dX5_makeHollow_14 : decode mX5_makeHollow.2.1 14 = .ok (.bastore, 1) := by decide +kernel
theorem dX5_makeHollow_15 : decode mX5_makeHollow.2.1 15 = .ok (.aload_n 0, 1) := by decide +kernel
theorem dX5_makeHollow_16 : decode mX5_makeHollow.2.1 16 = .ok (.dup, 1) := by decide +kernel
theorem dX5_makeHollow_17 : decode mX5_makeHollow.2.1 17 = .ok (.getfield 41, 3) := by decide +kernel
theorem dX5_makeHollow_20 : decode mX5_makeHollow.2.1 20 = .ok (.iconst 1, 1) := by decide +kernel
theorem dX5_makeHollow_21 : decode mX5_makeHollow.2.1 21 = .ok (.iadd, 1) := by decide +kernel
theorem dX5_makeHollow_22 : decode mX5_makeHollow.2.1 22 = .ok (.putfield 41, 3) := by decide +kernel
theorem dX5_makeHollow_25 : decode mX5_makeHollow.2.1 25 = .ok (.return_, 1) := by decide +kernel
theorem dX5_hiddenOf_0 : decode mX5_hiddenOf.2.1 0 = .ok (.aload_n 0, 1) := by decide +kernel
theorem dX5_hiddenOf_1 : decode mX5_hiddenOf.2.1 1 = .ok (.iload_n 1, 1) := by decide +kernel
theorem dX5_hiddenOf_2 : decode mX5_hiddenOf.2.1 2 = .ok (.invokevirtual 44, 3) := by decide +kernel
theorem dX5_hiddenOf_5 : decode mX5_hiddenOf.2.1 5 = .ok (.ifCond .eq 12, 3) := by decide +kernel
theorem dX5_hiddenOf_8 : decode mX5_hiddenOf.2.1 8 = .ok (.aload_n 0, 1) := by decide +kernel
theorem dX5_hiddenOf_9 : decode mX5_hiddenOf.2.1 9 = .ok (.getfield 22, 3) := by decide +kernel
theorem dX5_hiddenOf_12 : decode mX5_hiddenOf.2.1 12 = .ok (.iload_n 1, 1) := by decide +kernel
theorem dX5_hiddenOf_13 : decode mX5_hiddenOf.2.1 13 = .ok (.iaload, 1) := by decide +kernel
theorem dX5_hiddenOf_14 : decode mX5_hiddenOf.2.1 14 = .ok (.goto 4, 3) := by decide +kernel
theorem dX5_hiddenOf_17 : decode mX5_hiddenOf.2.1 17 = .ok (.iconst 0, 1) := by decide +kernel
theorem dX5_hiddenOf_18 : decode mX5_hiddenOf.2.1 18 = .ok (.ireturn, 1) := by decide +kernel
theorem dX5_put_0 : decode mX5_put.2.1 0 = .ok (.iload_n 1, 1) := by decide +kernel
theorem dX5_put_1 : decode mX5_put.2.1 1 = .ok (.ifCond .lt 16, 3) := by decide +kernel
theorem dX5_put_4 : decode mX5_put.2.1 4 = .ok (.iload_n 1, 1) := by decide +kernel
theorem dX5_put_5 : decode mX5_put.2.1 5 = .ok (.bipush 8, 2) := by decide +kernel
theorem dX5_put_7 : decode mX5_put.2.1 7 = .ok (.if_icmp .ge 10, 3) := by decide +kernel
theorem dX5_put_10 : decode mX5_put.2.1 10 = .ok (.iload_n 2, 1) := by decide +kernel
theorem dX5_put_11 : decode mX5_put.2.1 11 = .ok (.invokestatic 48, 3) := by decide +kernel
theorem dX5_put_14 : decode mX5_put.2.1 14 = .ok (.ifCond .ne 4, 3) := by decide +kernel
theorem dX5_put_17 : decode mX5_put.2.1 17 = .ok (.return_, 1) := by decide +kernel
theorem dX5_put_18 : decode mX5_put.2.1 18 = .ok (.aload_n 0, 1) := by decide +kernel
theorem dX5_put_19 : decode mX5_put.2.1 19 = .ok (.getfield 19, 3) := by decide +kernel
theorem dX5_put_22 : decode mX5_put.2.1 22 = .ok (.iload_n 1, 1) := by decide +kernel
theorem dX5_put_23 : decode mX5_put.2.1 23 = .ok (.bipush 12, 2) := by decide +kernel
theorem dX5_put_25 : decode mX5_put.2.1 25 = .ok (.imul, 1) := by decide +kernel
theorem dX5_put_26 : decode mX5_put.2.1 26 = .ok (.iload_n 2, 1) := by decide +kernel
theorem dX5_put_27 : decode mX5_put.2.1 27 = .ok (.iadd, 1) := by decide +kernel
theorem dX5_put_28 : decode mX5_put.2.1 28 = .ok (.iload_n 3, 1) := by decide +kernel
theorem dX5_put_29 : decode mX5_put.2.1 29 = .ok (.iastore, 1) := by decide +kernel
theorem dX5_put_30 : decode mX5_put.2.1 30 = .ok (.iconst 1, 1) := by decide +kernel
theorem dX5_put_31 : decode mX5_put.2.1 31 = .ok (.iload_n 2, 1) := by decide +kernel
theorem dX5_put_32 : decode mX5_put.2.1 32 = .ok (.ishl, 1) := by decide +kernel
theorem dX5_put_33 : decode mX5_put.2.1 33 = .ok (.istore 5, 2) := by decide +kernel
theorem dX5_put_35 : decode mX5_put.2.1 35 = .ok (.aload_n 0, 1) := by decide +kernel
theorem dX5_put_36 : decode mX5_put.2.1 36 = .ok (.getfield 22, 3) := by decide +kernel
theorem dX5_put_39 : decode mX5_put.2.1 39 = .ok (.iload_n 1, 1) := by decide +kernel
theorem dX5_put_40 : decode mX5_put.2.1 40 = .ok (.iload 4, 2) := by decide +kernel
theorem dX5_put_42 : decode mX5_put.2.1 42 = .ok (.ifCond .eq 15, 3) := by decide +kernel
theorem dX5_put_45 : decode mX5_put.2.1 45 = .ok (.aload_n 0, 1) := by decide +kernel
theorem dX5_put_46 : decode mX5_put.2.1 46 = .ok (.getfield 22, 3) := by decide +kernel
theorem dX5_put_49 : decode mX5_put.2.1 49 = .ok (.iload_n 1, 1) := by decide +kernel
theorem dX5_put_50 : decode mX5_put.2.1 50 = .ok (.iaload, 1) := by decide +kernel
theorem dX5_put_51 : decode mX5_put.2.1 51 = .ok (.iload 5, 2) := by decide +kernel
theorem dX5_put_53 : decode mX5_put.2.1 53 = .ok (.ior, 1) := by decide +kernel
theorem dX5_put_54 : decode mX5_put.2.1 54 = .ok (.goto 14, 3) := by decide +kernel
theorem dX5_put_57 : decode mX5_put.2.1 57 = .ok (.aload_n 0, 1) := by decide +kernel
theorem dX5_put_58 : decode mX5_put.2.1 58 = .ok (.getfield 22, 3) := by decide +kernel
theorem dX5_put_61 : decode mX5_put.2.1 61 = .ok (.iload_n 1, 1) := by decide +kernel
theorem dX5_put_62 : decode mX5_put.2.1 62 = .ok (.iaload, 1) := by decide +kernel
theorem dX5_put_63 : decode mX5_put.2.1 63 = .ok (.iload 5, 2) := by decide +kernel
theorem dX5_put_65 : decode mX5_put.2.1 65 = .ok (.iconst (-1), 1) := by decide +kernel
theorem dX5_put_66 : decode mX5_put.2.1 66 = .ok (.ixor, 1) := by decide +kernel
theorem dX5_put_67 : decode mX5_put.2.1 67 = .ok (.iand, 1) := by decide +kernel
theorem dX5_put_68 : decode mX5_put.2.1 68 = .ok (.iastore, 1) := by decide +kernel
theorem dX5_put_69 : decode mX5_put.2.1 69 = .ok (.return_, 1) := by decide +kernel
theorem dX5_heldBits_0 : decode mX5_heldBits.2.1 0 = .ok (.iconst 0, 1) := by decide +kernel
theorem dX5_heldBits_1 : decode mX5_heldBits.2.1 1 = .ok (.istore 4, 2) := by decide +kernel
theorem dX5_heldBits_3 : decode mX5_heldBits.2.1 3 = .ok (.iload_n 2, 1) := by decide +kernel
theorem dX5_heldBits_4 : decode mX5_heldBits.2.1 4 = .ok (.istore 5, 2) := by decide +kernel
theorem dX5_heldBits_6 : decode mX5_heldBits.2.1 6 = .ok (.iload 5, 2) := by decide +kernel
theorem dX5_heldBits_8 : decode mX5_heldBits.2.1 8 = .ok (.iload_n 3, 1) := by decide +kernel
theorem dX5_heldBits_9 : decode mX5_heldBits.2.1 9 = .ok (.if_icmp .ge 31, 3) := by decide +kernel
theorem dX5_heldBits_12 : decode mX5_heldBits.2.1 12 = .ok (.aload_n 0, 1) := by decide +kernel
theorem dX5_heldBits_13 : decode mX5_heldBits.2.1 13 = .ok (.iload_n 1, 1) := by decide +kernel
theorem dX5_heldBits_14 : decode mX5_heldBits.2.1 14 = .ok (.iload 5, 2) := by decide +kernel
theorem dX5_heldBits_16 : decode mX5_heldBits.2.1 16 = .ok (.invokevirtual 51, 3) := by decide +kernel
theorem dX5_heldBits_19 : decode mX5_heldBits.2.1 19 = .ok (.iconst (-1), 1) := by decide +kernel
theorem dX5_heldBits_20 : decode mX5_heldBits.2.1 20 = .ok (.if_icmp .eq 14, 3) := by decide +kernel
theorem dX5_heldBits_23 : decode mX5_heldBits.2.1 23 = .ok (.iload 4, 2) := by decide +kernel
theorem dX5_heldBits_25 : decode mX5_heldBits.2.1 25 = .ok (.iconst 1, 1) := by decide +kernel
theorem dX5_heldBits_26 : decode mX5_heldBits.2.1 26 = .ok (.iload 5, 2) := by decide +kernel
theorem dX5_heldBits_28 : decode mX5_heldBits.2.1 28 = .ok (.iload_n 2, 1) := by decide +kernel
theorem dX5_heldBits_29 : decode mX5_heldBits.2.1 29 = .ok (.isub, 1) := by decide +kernel
theorem dX5_heldBits_30 : decode mX5_heldBits.2.1 30 = .ok (.ishl, 1) := by decide +kernel
theorem dX5_heldBits_31 : decode mX5_heldBits.2.1 31 = .ok (.ior, 1) := by decide +kernel
theorem dX5_heldBits_32 : decode mX5_heldBits.2.1 32 = .ok (.istore 4, 2) := by decide +kernel
theorem dX5_heldBits_34 : decode mX5_heldBits.2.1 34 = .ok (.iinc 5 1, 3) := by decide +kernel
theorem dX5_heldBits_37 : decode mX5_heldBits.2.1 37 = .ok (.goto (-31), 3) := by decide +kernel
theorem dX5_heldBits_40 : decode mX5_heldBits.2.1 40 = .ok (.iload 4, 2) := by decide +kernel
theorem dX5_heldBits_42 : decode mX5_heldBits.2.1 42 = .ok (.ireturn, 1) := by decide +kernel
theorem dX5_childBits_0 : decode mX5_childBits.2.1 0 = .ok (.iconst 0, 1) := by decide +kernel
theorem dX5_childBits_1 : decode mX5_childBits.2.1 1 = .ok (.istore_n 2, 1) := by decide +kernel
theorem dX5_childBits_2 : decode mX5_childBits.2.1 2 = .ok (.iload_n 1, 1) := by decide +kernel
theorem dX5_childBits_3 : decode mX5_childBits.2.1 3 = .ok (.iconst 1, 1) := by decide +kernel
theorem dX5_childBits_4 : decode mX5_childBits.2.1 4 = .ok (.iadd, 1) := by decide +kernel
theorem dX5_childBits_5 : decode mX5_childBits.2.1 5 = .ok (.istore_n 3, 1) := by decide +kernel
theorem dX5_childBits_6 : decode mX5_childBits.2.1 6 = .ok (.iload_n 3, 1) := by decide +kernel
theorem dX5_childBits_7 : decode mX5_childBits.2.1 7 = .ok (.aload_n 0, 1) := by decide +kernel
theorem dX5_childBits_8 : decode mX5_childBits.2.1 8 = .ok (.getfield 34, 3) := by decide +kernel
theorem dX5_childBits_11 : decode mX5_childBits.2.1 11 = .ok (.if_icmp .ge 24, 3) := by decide +kernel
theorem dX5_childBits_14 : decode mX5_childBits.2.1 14 = .ok (.aload_n 0, 1) := by decide +kernel
theorem dX5_childBits_15 : decode mX5_childBits.2.1 15 = .ok (.iload_n 3, 1) := by decide +kernel
theorem dX5_childBits_16 : decode mX5_childBits.2.1 16 = .ok (.invokevirtual 55, 3) := by decide +kernel
theorem dX5_childBits_19 : decode mX5_childBits.2.1 19 = .ok (.iload_n 1, 1) := by decide +kernel
theorem dX5_childBits_20 : decode mX5_childBits.2.1 20 = .ok (.if_icmp .ne 9, 3) := by decide +kernel
theorem dX5_childBits_23 : decode mX5_childBits.2.1 23 = .ok (.iload_n 2, 1) := by decide +kernel
theorem dX5_childBits_24 : decode mX5_childBits.2.1 24 = .ok (.iconst 1, 1) := by decide +kernel
theorem dX5_childBits_25 : decode mX5_childBits.2.1 25 = .ok (.iload_n 3, 1) := by decide +kernel
theorem dX5_childBits_26 : decode mX5_childBits.2.1 26 = .ok (.ishl, 1) := by decide +kernel
theorem dX5_childBits_27 : decode mX5_childBits.2.1 27 = .ok (.ior, 1) := by decide +kernel
theorem dX5_childBits_28 : decode mX5_childBits.2.1 28 = .ok (.istore_n 2, 1) := by decide +kernel
theorem dX5_childBits_29 : decode mX5_childBits.2.1 29 = .ok (.iinc 3 1, 3) := by decide +kernel
theorem dX5_childBits_32 : decode mX5_childBits.2.1 32 = .ok (.goto (-26), 3) := by decide +kernel
theorem dX5_childBits_35 : decode mX5_childBits.2.1 35 = .ok (.iload_n 2, 1) := by decide +kernel
theorem dX5_childBits_36 : decode mX5_childBits.2.1 36 = .ok (.ireturn, 1) := by decide +kernel
theorem dX5_nearest_0 : decode mX5_nearest.2.1 0 = .ok (.iload_n 2, 1) := by decide +kernel
theorem dX5_nearest_1 : decode mX5_nearest.2.1 1 = .ok (.ifCond .lt 9, 3) := by decide +kernel
theorem dX5_nearest_4 : decode mX5_nearest.2.1 4 = .ok (.iload_n 2, 1) := by decide +kernel
theorem dX5_nearest_5 : decode mX5_nearest.2.1 5 = .ok (.bipush 12, 2) := by decide +kernel
theorem dX5_nearest_7 : decode mX5_nearest.2.1 7 = .ok (.if_icmp .lt 5, 3) := by decide +kernel
theorem dX5_nearest_10 : decode mX5_nearest.2.1 10 = .ok (.iconst (-1), 1) := by decide +kernel
theorem dX5_nearest_11 : decode mX5_nearest.2.1 11 = .ok (.ireturn, 1) := by decide +kernel
theorem dX5_nearest_12 : decode mX5_nearest.2.1 12 = .ok (.iload_n 1, 1) := by decide +kernel
theorem dX5_nearest_13 : decode mX5_nearest.2.1 13 = .ok (.istore_n 3, 1) := by decide +kernel
theorem dX5_nearest_14 : decode mX5_nearest.2.1 14 = .ok (.iconst 0, 1) := by decide +kernel
theorem dX5_nearest_15 : decode mX5_nearest.2.1 15 = .ok (.istore 4, 2) := by decide +kernel
theorem dX5_nearest_17 : decode mX5_nearest.2.1 17 = .ok (.iload 4, 2) := by decide +kernel
theorem dX5_nearest_19 : decode mX5_nearest.2.1 19 = .ok (.bipush 8, 2) := by decide +kernel
theorem dX5_nearest_21 : decode mX5_nearest.2.1 21 = .ok (.if_icmp .ge 64, 3) := by decide +kernel
theorem dX5_nearest_24 : decode mX5_nearest.2.1 24 = .ok (.iload_n 3, 1) := by decide +kernel
theorem dX5_nearest_25 : decode mX5_nearest.2.1 25 = .ok (.ifCond .lt 60, 3) := by decide +kernel
theorem dX5_nearest_28 : decode mX5_nearest.2.1 28 = .ok (.iload_n 3, 1) := by decide +kernel
theorem dX5_nearest_29 : decode mX5_nearest.2.1 29 = .ok (.aload_n 0, 1) := by decide +kernel
theorem dX5_nearest_30 : decode mX5_nearest.2.1 30 = .ok (.getfield 34, 3) := by decide +kernel
theorem dX5_nearest_33 : decode mX5_nearest.2.1 33 = .ok (.if_icmp .ge 52, 3) := by decide +kernel
theorem dX5_nearest_36 : decode mX5_nearest.2.1 36 = .ok (.iload_n 3, 1) := by decide +kernel
theorem dX5_nearest_37 : decode mX5_nearest.2.1 37 = .ok (.bipush 8, 2) := by decide +kernel
theorem dX5_nearest_39 : decode mX5_nearest.2.1 39 = .ok (.if_icmp .ge 46, 3) := by decide +kernel
theorem dX5_nearest_42 : decode mX5_nearest.2.1 42 = .ok (.aload_n 0, 1) := by decide +kernel
theorem dX5_nearest_43 : decode mX5_nearest.2.1 43 = .ok (.getfield 19, 3) := by decide +kernel
theorem dX5_nearest_46 : decode mX5_nearest.2.1 46 = .ok (.iload_n 3, 1) := by decide +kernel
theorem dX5_nearest_47 : decode mX5_nearest.2.1 47 = .ok (.bipush 12, 2) := by decide +kernel
theorem dX5_nearest_49 : decode mX5_nearest.2.1 49 = .ok (.imul, 1) := by decide +kernel
theorem dX5_nearest_50 : decode mX5_nearest.2.1 50 = .ok (.iload_n 2, 1) := by decide +kernel
theorem dX5_nearest_51 : decode mX5_nearest.2.1 51 = .ok (.iadd, 1) := by decide +kernel
theorem dX5_nearest_52 : decode mX5_nearest.2.1 52 = .ok (.iaload, 1) := by decide +kernel
theorem dX5_nearest_53 : decode mX5_nearest.2.1 53 = .ok (.iconst (-1), 1) := by decide +kernel
theorem dX5_nearest_54 : decode mX5_nearest.2.1 54 = .ok (.if_icmp .eq 18, 3) := by decide +kernel
theorem dX5_nearest_57 : decode mX5_nearest.2.1 57 = .ok (.aload_n 0, 1) := by decide +kernel
theorem dX5_nearest_58 : decode mX5_nearest.2.1 58 = .ok (.getfield 22, 3) := by decide +kernel
theorem dX5_nearest_61 : decode mX5_nearest.2.1 61 = .ok (.iload_n 3, 1) := by decide +kernel
theorem dX5_nearest_62 : decode mX5_nearest.2.1 62 = .ok (.iaload, 1) := by decide +kernel
theorem dX5_nearest_63 : decode mX5_nearest.2.1 63 = .ok (.iload_n 2, 1) := by decide +kernel
theorem dX5_nearest_64 : decode mX5_nearest.2.1 64 = .ok (.ishr, 1) := by decide +kernel
theorem dX5_nearest_65 : decode mX5_nearest.2.1 65 = .ok (.iconst 1, 1) := by decide +kernel
theorem dX5_nearest_66 : decode mX5_nearest.2.1 66 = .ok (.iand, 1) := by decide +kernel
theorem dX5_nearest_67 : decode mX5_nearest.2.1 67 = .ok (.ifCond .ne 5, 3) := by decide +kernel
theorem dX5_nearest_70 : decode mX5_nearest.2.1 70 = .ok (.iload_n 3, 1) := by decide +kernel
theorem dX5_nearest_71 : decode mX5_nearest.2.1 71 = .ok (.ireturn, 1) := by decide +kernel
theorem dX5_nearest_72 : decode mX5_nearest.2.1 72 = .ok (.aload_n 0, 1) := by decide +kernel
theorem dX5_nearest_73 : decode mX5_nearest.2.1 73 = .ok (.getfield 9, 3) := by decide +kernel
theorem dX5_nearest_76 : decode mX5_nearest.2.1 76 = .ok (.iload_n 3, 1) := by decide +kernel
theorem dX5_nearest_77 : decode mX5_nearest.2.1 77 = .ok (.iaload, 1) := by decide +kernel
theorem dX5_nearest_78 : decode mX5_nearest.2.1 78 = .ok (.istore_n 3, 1) := by decide +kernel
theorem dX5_nearest_79 : decode mX5_nearest.2.1 79 = .ok (.iinc 4 1, 3) := by decide +kernel
theorem dX5_nearest_82 : decode mX5_nearest.2.1 82 = .ok (.goto (-65), 3) := by decide +kernel
theorem dX5_nearest_85 : decode mX5_nearest.2.1 85 = .ok (.iconst (-1), 1) := by decide +kernel
theorem dX5_nearest_86 : decode mX5_nearest.2.1 86 = .ok (.ireturn, 1) := by decide +kernel
theorem dX5_answerBits_0 : decode mX5_answerBits.2.1 0 = .ok (.iconst 0, 1) := by decide +kernel
theorem dX5_answerBits_1 : decode mX5_answerBits.2.1 1 = .ok (.istore_n 2, 1) := by decide +kernel
theorem dX5_answerBits_2 : decode mX5_answerBits.2.1 2 = .ok (.iconst 0, 1) := by decide +kernel
theorem dX5_answerBits_3 : decode mX5_answerBits.2.1 3 = .ok (.istore_n 3, 1) := by decide +kernel
theorem dX5_answerBits_4 : decode mX5_answerBits.2.1 4 = .ok (.iload_n 3, 1) := by decide +kernel
theorem dX5_answerBits_5 : decode mX5_answerBits.2.1 5 = .ok (.bipush 6, 2) := by decide +kernel
theorem dX5_answerBits_7 : decode mX5_answerBits.2.1 7 = .ok (.if_icmp .ge 25, 3) := by decide +kernel
theorem dX5_answerBits_10 : decode mX5_answerBits.2.1 10 = .ok (.aload_n 0, 1) := by decide +kernel
theorem dX5_answerBits_11 : decode mX5_answerBits.2.1 11 = .ok (.iload_n 1, 1) := by decide +kernel
theorem dX5_answerBits_12 : decode mX5_answerBits.2.1 12 = .ok (.iload_n 3, 1) := by decide +kernel
theorem dX5_answerBits_13 : decode mX5_answerBits.2.1 13 = .ok (.invokevirtual 59, 3) := by decide +kernel
theorem dX5_answerBits_16 : decode mX5_answerBits.2.1 16 = .ok (.iconst (-1), 1) := by decide +kernel
theorem dX5_answerBits_17 : decode mX5_answerBits.2.1 17 = .ok (.if_icmp .eq 9, 3) := by decide +kernel
theorem dX5_answerBits_20 : decode mX5_answerBits.2.1 20 = .ok (.iload_n 2, 1) := by decide +kernel
theorem dX5_answerBits_21 : decode mX5_answerBits.2.1 21 = .ok (.iconst 1, 1) := by decide +kernel
theorem dX5_answerBits_22 : decode mX5_answerBits.2.1 22 = .ok (.iload_n 3, 1) := by decide +kernel
theorem dX5_answerBits_23 : decode mX5_answerBits.2.1 23 = .ok (.ishl, 1) := by decide +kernel
theorem dX5_answerBits_24 : decode mX5_answerBits.2.1 24 = .ok (.ior, 1) := by decide +kernel
theorem dX5_answerBits_25 : decode mX5_answerBits.2.1 25 = .ok (.istore_n 2, 1) := by decide +kernel
theorem dX5_answerBits_26 : decode mX5_answerBits.2.1 26 = .ok (.iinc 3 1, 3) := by decide +kernel
theorem dX5_answerBits_29 : decode mX5_answerBits.2.1 29 = .ok (.goto (-25), 3) := by decide +kernel
theorem dX5_answerBits_32 : decode mX5_answerBits.2.1 32 = .ok (.iload_n 2, 1) := by decide +kernel
theorem dX5_answerBits_33 : decode mX5_answerBits.2.1 33 = .ok (.ireturn, 1) := by decide +kernel
theorem dX5_itemCountOf_0 : decode mX5_itemCountOf.2.1 0 = .ok (.aload_n 0, 1) := by decide +kernel
theorem dX5_itemCountOf_1 : decode mX5_itemCountOf.2.1 1 = .ok (.iload_n 1, 1) := by decide +kernel
theorem dX5_itemCountOf_2 : decode mX5_itemCountOf.2.1 2 = .ok (.invokevirtual 62, 3) := by decide +kernel
theorem dX5_itemCountOf_5 : decode mX5_itemCountOf.2.1 5 = .ok (.ifCond .eq 12, 3) := by decide +kernel
theorem dX5_itemCountOf_8 : decode mX5_itemCountOf.2.1 8 = .ok (.aload_n 0, 1) := by decide +kernel
theorem dX5_itemCountOf_9 : decode mX5_itemCountOf.2.1 9 = .ok (.getfield 28, 3) := by decide +kernel
theorem dX5_itemCountOf_12 : decode mX5_itemCountOf.2.1 12 = .ok (.iload_n 1, 1) := by decide +kernel
theorem dX5_itemCountOf_13 : decode mX5_itemCountOf.2.1 13 = .ok (.iaload, 1) := by decide +kernel
theorem dX5_itemCountOf_14 : decode mX5_itemCountOf.2.1 14 = .ok (.goto 4, 3) := by decide +kernel
theorem dX5_itemCountOf_17 : decode mX5_itemCountOf.2.1 17 = .ok (.iconst 0, 1) := by decide +kernel
theorem dX5_itemCountOf_18 : decode mX5_itemCountOf.2.1 18 = .ok (.ireturn, 1) := by decide +kernel
theorem dX5_hasRoomFor_0 : decode mX5_hasRoomFor.2.1 0 = .ok (.aload_n 0, 1) := by decide +kernel
theorem dX5_hasRoomFor_1 : decode mX5_hasRoomFor.2.1 1 = .ok (.getfield 34, 3) := by decide +kernel
theorem dX5_hasRoomFor_4 : decode mX5_hasRoomFor.2.1 4 = .ok (.bipush 8, 2) := by decide +kernel
theorem dX5_hasRoomFor_6 : decode mX5_hasRoomFor.2.1 6 = .ok (.if_icmp .ge 21, 3) := by decide +kernel
theorem dX5_hasRoomFor_9 : decode mX5_hasRoomFor.2.1 9 = .ok (.aload_n 0, 1) := by decide +kernel
theorem dX5_hasRoomFor_10 : decode mX5_hasRoomFor.2.1 10 = .ok (.getfield 38, 3) := by decide +kernel
theorem dX5_hasRoomFor_13 : decode mX5_hasRoomFor.2.1 13 = .ok (.aload_n 1, 1) := by decide +kernel
theorem dX5_hasRoomFor_14 : decode mX5_hasRoomFor.2.1 14 = .ok (.invokevirtual 65, 3) := by decide +kernel
theorem dX5_hasRoomFor_17 : decode mX5_hasRoomFor.2.1 17 = .ok (.iadd, 1) := by decide +kernel
theorem dX5_hasRoomFor_18 : decode mX5_hasRoomFor.2.1 18 = .ok (.bipush 40, 2) := by decide +kernel
theorem dX5_hasRoomFor_20 : decode mX5_hasRoomFor.2.1 20 = .ok (.if_icmp .gt 7, 3) := by decide +kernel
theorem dX5_hasRoomFor_23 : decode mX5_hasRoomFor.2.1 23 = .ok (.iconst 1, 1) := by decide +kernel
theorem dX5_hasRoomFor_24 : decode mX5_hasRoomFor.2.1 24 = .ok (.goto 4, 3) := by decide +kernel
theorem dX5_hasRoomFor_27 : decode mX5_hasRoomFor.2.1 27 = .ok (.iconst 0, 1) := by decide +kernel
theorem dX5_hasRoomFor_28 : decode mX5_hasRoomFor.2.1 28 = .ok (.ireturn, 1) := by decide +kernel
theorem dX5_accept_0 : decode mX5_accept.2.1 0 = .ok (.aload_n 0, 1) := by decide +kernel
theorem dX5_accept_1 : decode mX5_accept.2.1 1 = .ok (.getfield 34, 3) := by decide +kernel
theorem dX5_accept_4 : decode mX5_accept.2.1 4 = .ok (.istore_n 2, 1) := by decide +kernel
theorem dX5_accept_5 : decode mX5_accept.2.1 5 = .ok (.iload_n 2, 1) := by decide +kernel
theorem dX5_accept_6 : decode mX5_accept.2.1 6 = .ok (.ifCond .lt 9, 3) := by decide +kernel
theorem dX5_accept_9 : decode mX5_accept.2.1 9 = .ok (.iload_n 2, 1) := by decide +kernel
theorem dX5_accept_10 : decode mX5_accept.2.1 10 = .ok (.bipush 8, 2) := by decide +kernel
theorem dX5_accept_12 : decode mX5_accept.2.1 12 = .ok (.if_icmp .lt 7, 3) := by decide +kernel
theorem dX5_accept_15 : decode mX5_accept.2.1 15 = .ok (.sipush (-1004), 3) := by decide +kernel
theorem dX5_accept_18 : decode mX5_accept.2.1 18 = .ok (.ireturn, 1) := by decide +kernel
theorem dX5_accept_19 : decode mX5_accept.2.1 19 = .ok (.aload_n 0, 1) := by decide +kernel
theorem dX5_accept_20 : decode mX5_accept.2.1 20 = .ok (.dup, 1) := by decide +kernel
theorem dX5_accept_21 : decode mX5_accept.2.1 21 = .ok (.getfield 34, 3) := by decide +kernel
theorem dX5_accept_24 : decode mX5_accept.2.1 24 = .ok (.iconst 1, 1) := by decide +kernel
theorem dX5_accept_25 : decode mX5_accept.2.1 25 = .ok (.iadd, 1) := by decide +kernel
theorem dX5_accept_26 : decode mX5_accept.2.1 26 = .ok (.putfield 34, 3) := by decide +kernel
theorem dX5_accept_29 : decode mX5_accept.2.1 29 = .ok (.aload_n 0, 1) := by decide +kernel
theorem dX5_accept_30 : decode mX5_accept.2.1 30 = .ok (.getfield 9, 3) := by decide +kernel
theorem dX5_accept_33 : decode mX5_accept.2.1 33 = .ok (.iload_n 2, 1) := by decide +kernel
theorem dX5_accept_34 : decode mX5_accept.2.1 34 = .ok (.aload_n 1, 1) := by decide +kernel
theorem dX5_accept_35 : decode mX5_accept.2.1 35 = .ok (.getfield 71, 3) := by decide +kernel
theorem dX5_accept_38 : decode mX5_accept.2.1 38 = .ok (.iastore, 1) := by decide +kernel
theorem dX5_accept_39 : decode mX5_accept.2.1 39 = .ok (.aload_n 0, 1) := by decide +kernel
theorem dX5_accept_40 : decode mX5_accept.2.1 40 = .ok (.getfield 15, 3) := by decide +kernel
theorem dX5_accept_43 : decode mX5_accept.2.1 43 = .ok (.iload_n 2, 1) := by decide +kernel
theorem dX5_accept_44 : decode mX5_accept.2.1 44 = .ok (.iconst 0, 1) := by decide +kernel
theorem dX5_accept_45 : decode mX5_accept.2.1 45 = .ok (.bastore, 1) := by decide +kernel
theorem dX5_accept_46 : decode mX5_accept.2.1 46 = .ok (.aload_n 0, 1) := by decide +kernel
theorem dX5_accept_47 : decode mX5_accept.2.1 47 = .ok (.getfield 25, 3) := by decide +kernel
theorem dX5_accept_50 : decode mX5_accept.2.1 50 = .ok (.iload_n 2, 1) := by decide +kernel
theorem dX5_accept_51 : decode mX5_accept.2.1 51 = .ok (.aload_n 0, 1) := by decide +kernel
theorem dX5_accept_52 : decode mX5_accept.2.1 52 = .ok (.getfield 38, 3) := by decide +kernel
theorem dX5_accept_55 : decode mX5_accept.2.1 55 = .ok (.iastore, 1) := by decide +kernel
theorem dX5_accept_56 : decode mX5_accept.2.1 56 = .ok (.iconst 0, 1) := by decide +kernel
theorem dX5_accept_57 : decode mX5_accept.2.1 57 = .ok (.istore_n 3, 1) := by decide +kernel
theorem dX5_accept_58 : decode mX5_accept.2.1 58 = .ok (.iload_n 3, 1) := by decide +kernel
theorem dX5_accept_59 : decode mX5_accept.2.1 59 = .ok (.bipush 12, 2) := by decide +kernel
theorem dX5_accept_61 : decode mX5_accept.2.1 61 = .ok (.if_icmp .ge 17, 3) := by decide +kernel
theorem dX5_accept_64 : decode mX5_accept.2.1 64 = .ok (.aload_n 0, 1) := by decide +kernel
theorem dX5_accept_65 : decode mX5_accept.2.1 65 = .ok (.iload_n 2, 1) := by decide +kernel
theorem dX5_accept_66 : decode mX5_accept.2.1 66 = .ok (.iload_n 3, 1) := by decide +kernel
theorem dX5_accept_67 : decode mX5_accept.2.1 67 = .ok (.iconst (-1), 1) := by decide +kernel
theorem dX5_accept_68 : decode mX5_accept.2.1 68 = .ok (.iconst 0, 1) := by decide +kernel
theorem dX5_accept_69 : decode mX5_accept.2.1 69 = .ok (.invokevirtual 74, 3) := by decide +kernel
theorem dX5_accept_72 : decode mX5_accept.2.1 72 = .ok (.iinc 3 1, 3) := by decide +kernel
theorem dX5_accept_75 : decode mX5_accept.2.1 75 = .ok (.goto (-17), 3) := by decide +kernel
theorem dX5_accept_78 : decode mX5_accept.2.1 78 = .ok (.iconst 0, 1) := by decide +kernel
theorem dX5_accept_79 : decode mX5_accept.2.1 79 = .ok (.istore_n 3, 1) := by decide +kernel
theorem dX5_accept_80 : decode mX5_accept.2.1 80 = .ok (.iload_n 3, 1) := by decide +kernel
theorem dX5_accept_81 : decode mX5_accept.2.1 81 = .ok (.aload_n 1, 1) := by decide +kernel
theorem dX5_accept_82 : decode mX5_accept.2.1 82 = .ok (.getfield 78, 3) := by decide +kernel
theorem dX5_accept_85 : decode mX5_accept.2.1 85 = .ok (.if_icmp .ge 69, 3) := by decide +kernel
theorem dX5_accept_88 : decode mX5_accept.2.1 88 = .ok (.aload_n 1, 1) := by decide +kernel
theorem dX5_accept_89 : decode mX5_accept.2.1 89 = .ok (.iload_n 3, 1) := by decide +kernel
theorem dX5_accept_90 : decode mX5_accept.2.1 90 = .ok (.invokevirtual 81, 3) := by decide +kernel
theorem dX5_accept_93 : decode mX5_accept.2.1 93 = .ok (.istore 4, 2) := by decide +kernel
theorem dX5_accept_95 : decode mX5_accept.2.1 95 = .ok (.aload_n 1, 1) := by decide +kernel
theorem dX5_accept_96 : decode mX5_accept.2.1 96 = .ok (.getfield 84, 3) := by decide +kernel
theorem dX5_accept_99 : decode mX5_accept.2.1 99 = .ok (.iload 4, 2) := by decide +kernel
theorem dX5_accept_101 : decode mX5_accept.2.1 101 = .ok (.ishr, 1) := by decide +kernel
theorem dX5_accept_102 : decode mX5_accept.2.1 102 = .ok (.iconst 1, 1) := by decide +kernel
theorem dX5_accept_103 : decode mX5_accept.2.1 103 = .ok (.iand, 1) := by decide +kernel
theorem dX5_accept_104 : decode mX5_accept.2.1 104 = .ok (.ifCond .eq 7, 3) := by decide +kernel
theorem dX5_accept_107 : decode mX5_accept.2.1 107 = .ok (.iconst 1, 1) := by decide +kernel
theorem dX5_accept_108 : decode mX5_accept.2.1 108 = .ok (.goto 4, 3) := by decide +kernel
theorem dX5_accept_111 : decode mX5_accept.2.1 111 = .ok (.iconst 0, 1) := by decide +kernel
theorem dX5_accept_112 : decode mX5_accept.2.1 112 = .ok (.istore 5, 2) := by decide +kernel
theorem dX5_accept_114 : decode mX5_accept.2.1 114 = .ok (.aload_n 0, 1) := by decide +kernel
theorem dX5_accept_115 : decode mX5_accept.2.1 115 = .ok (.iload_n 2, 1) := by decide +kernel
theorem dX5_accept_116 : decode mX5_accept.2.1 116 = .ok (.iload 4, 2) := by decide +kernel
theorem dX5_accept_118 : decode mX5_accept.2.1 118 = .ok (.iload 4, 2) := by decide +kernel
theorem dX5_accept_120 : decode mX5_accept.2.1 120 = .ok (.invokestatic 86, 3) := by decide +kernel
theorem dX5_accept_123 : decode mX5_accept.2.1 123 = .ok (.ifCond .eq 13, 3) := by decide +kernel
theorem dX5_accept_126 : decode mX5_accept.2.1 126 = .ok (.aload_n 0, 1) := by decide +kernel
theorem dX5_accept_127 : decode mX5_accept.2.1 127 = .ok (.aload_n 1, 1) := by decide +kernel
theorem dX5_accept_128 : decode mX5_accept.2.1 128 = .ok (.iload 4, 2) := by decide +kernel
theorem dX5_accept_130 : decode mX5_accept.2.1 130 = .ok (.invokevirtual 89, 3) := by decide +kernel
theorem dX5_accept_133 : decode mX5_accept.2.1 133 = .ok (.goto 10, 3) := by decide +kernel
theorem dX5_accept_136 : decode mX5_accept.2.1 136 = .ok (.bipush 12, 2) := by decide +kernel
theorem dX5_accept_138 : decode mX5_accept.2.1 138 = .ok (.iload_n 2, 1) := by decide +kernel
theorem dX5_accept_139 : decode mX5_accept.2.1 139 = .ok (.imul, 1) := by decide +kernel
theorem dX5_accept_140 : decode mX5_accept.2.1 140 = .ok (.iload 4, 2) := by decide +kernel
theorem dX5_accept_142 : decode mX5_accept.2.1 142 = .ok (.iadd, 1) := by decide +kernel
theorem dX5_accept_143 : decode mX5_accept.2.1 143 = .ok (.iload 5, 2) := by decide +kernel
theorem dX5_accept_145 : decode mX5_accept.2.1 145 = .ok (.invokevirtual 74, 3) := by decide +kernel
theorem dX5_accept_148 : decode mX5_accept.2.1 148 = .ok (.iinc 3 1, 3) := by decide +kernel
theorem dX5_accept_151 : decode mX5_accept.2.1 151 = .ok (.goto (-71), 3) := by decide +kernel
theorem dX5_accept_154 : decode mX5_accept.2.1 154 = .ok (.aload_n 0, 1) := by decide +kernel
theorem dX5_accept_155 : decode mX5_accept.2.1 155 = .ok (.dup, 1) := by decide +kernel
theorem dX5_accept_156 : decode mX5_accept.2.1 156 = .ok (.getfield 41, 3) := by decide +kernel
theorem dX5_accept_159 : decode mX5_accept.2.1 159 = .ok (.iconst 1, 1) := by decide +kernel
theorem dX5_accept_160 : decode mX5_accept.2.1 160 = .ok (.iadd, 1) := by decide +kernel
theorem dX5_accept_161 : decode mX5_accept.2.1 161 = .ok (.putfield 41, 3) := by decide +kernel
theorem dX5_accept_164 : decode mX5_accept.2.1 164 = .ok (.iload_n 2, 1) := by decide +kernel
theorem dX5_accept_165 : decode mX5_accept.2.1 165 = .ok (.ireturn, 1) := by decide +kernel
theorem dX5_newBody_0 : decode mX5_newBody.2.1 0 = .ok (.aload_n 0, 1) := by decide +kernel
theorem dX5_newBody_1 : decode mX5_newBody.2.1 1 = .ok (.getfield 38, 3) := by decide +kernel
theorem dX5_newBody_4 : decode mX5_newBody.2.1 4 = .ok (.istore_n 3, 1) := by decide +kernel
theorem dX5_newBody_5 : decode mX5_newBody.2.1 5 = .ok (.iload_n 3, 1) := by decide +kernel
theorem dX5_newBody_6 : decode mX5_newBody.2.1 6 = .ok (.ifCond .lt 9, 3) := by decide +kernel
theorem dX5_newBody_9 : decode mX5_newBody.2.1 9 = .ok (.iload_n 3, 1) := by decide +kernel
theorem dX5_newBody_10 : decode mX5_newBody.2.1 10 = .ok (.bipush 40, 2) := by decide +kernel
theorem dX5_newBody_12 : decode mX5_newBody.2.1 12 = .ok (.if_icmp .lt 5, 3) := by decide +kernel
theorem dX5_newBody_15 : decode mX5_newBody.2.1 15 = .ok (.iconst (-1), 1) := by decide +kernel
theorem dX5_newBody_16 : decode mX5_newBody.2.1 16 = .ok (.ireturn, 1) := by decide +kernel
theorem dX5_newBody_17 : decode mX5_newBody.2.1 17 = .ok (.aload_n 0, 1) := by decide +kernel
theorem dX5_newBody_18 : decode mX5_newBody.2.1 18 = .ok (.dup, 1) := by decide +kernel
theorem dX5_newBody_19 : decode mX5_newBody.2.1 19 = .ok (.getfield 38, 3) := by decide +kernel
theorem dX5_newBody_22 : decode mX5_newBody.2.1 22 = .ok (.iconst 1, 1) := by decide +kernel
theorem dX5_newBody_23 : decode mX5_newBody.2.1 23 = .ok (.iadd, 1) := by decide +kernel
theorem dX5_newBody_24 : decode mX5_newBody.2.1 24 = .ok (.putfield 38, 3) := by decide +kernel
theorem dX5_newBody_27 : decode mX5_newBody.2.1 27 = .ok (.aload_n 0, 1) := by decide +kernel
theorem dX5_newBody_28 : decode mX5_newBody.2.1 28 = .ok (.getfield 28, 3) := by decide +kernel
theorem dX5_newBody_31 : decode mX5_newBody.2.1 31 = .ok (.iload_n 3, 1) := by decide +kernel
theorem dX5_newBody_32 : decode mX5_newBody.2.1 32 = .ok (.aload_n 1, 1) := by decide +kernel
theorem dX5_newBody_33 : decode mX5_newBody.2.1 33 = .ok (.iload_n 2, 1) := by decide +kernel
theorem dX5_newBody_34 : decode mX5_newBody.2.1 34 = .ok (.invokevirtual 93, 3) := by decide +kernel
theorem dX5_newBody_37 : decode mX5_newBody.2.1 37 = .ok (.iastore, 1) := by decide +kernel
theorem dX5_newBody_38 : decode mX5_newBody.2.1 38 = .ok (.iconst 0, 1) := by decide +kernel
theorem dX5_newBody_39 : decode mX5_newBody.2.1 39 = .ok (.istore 4, 2) := by decide +kernel
theorem dX5_newBody_41 : decode mX5_newBody.2.1 41 = .ok (.iload 4, 2) := by decide +kernel
theorem dX5_newBody_43 : decode mX5_newBody.2.1 43 = .ok (.bipush 6, 2) := by decide +kernel
theorem dX5_newBody_45 : decode mX5_newBody.2.1 45 = .ok (.if_icmp .ge 28, 3) := by decide +kernel
theorem dX5_newBody_48 : decode mX5_newBody.2.1 48 = .ok (.aload_n 0, 1) := by decide +kernel
theorem dX5_newBody_49 : decode mX5_newBody.2.1 49 = .ok (.getfield 31, 3) := by decide +kernel
theorem dX5_newBody_52 : decode mX5_newBody.2.1 52 = .ok (.iload_n 3, 1) := by decide +kernel
theorem dX5_newBody_53 : decode mX5_newBody.2.1 53 = .ok (.bipush 6, 2) := by decide +kernel
theorem dX5_newBody_55 : decode mX5_newBody.2.1 55 = .ok (.imul, 1) := by decide +kernel
theorem dX5_newBody_56 : decode mX5_newBody.2.1 56 = .ok (.iload 4, 2) := by decide +kernel
theorem dX5_newBody_58 : decode mX5_newBody.2.1 58 = .ok (.iadd, 1) := by decide +kernel
theorem dX5_newBody_59 : decode mX5_newBody.2.1 59 = .ok (.aload_n 1, 1) := by decide +kernel
theorem dX5_newBody_60 : decode mX5_newBody.2.1 60 = .ok (.iload_n 2, 1) := by decide +kernel
theorem dX5_newBody_61 : decode mX5_newBody.2.1 61 = .ok (.iload 4, 2) := by decide +kernel
theorem dX5_newBody_63 : decode mX5_newBody.2.1 63 = .ok (.invokevirtual 96, 3) := by decide +kernel
theorem dX5_newBody_66 : decode mX5_newBody.2.1 66 = .ok (.iastore, 1) := by decide +kernel
theorem dX5_newBody_67 : decode mX5_newBody.2.1 67 = .ok (.iinc 4 1, 3) := by decide +kernel
theorem dX5_newBody_70 : decode mX5_newBody.2.1 70 = .ok (.goto (-29), 3) := by decide +kernel
theorem dX5_newBody_73 : decode mX5_newBody.2.1 73 = .ok (.iload_n 3, 1) := by decide +kernel
theorem dX5_newBody_74 : decode mX5_newBody.2.1 74 = .ok (.ireturn, 1) := by decide +kernel
theorem dX5_lastLiesElsewhere_0 : decode mX5_lastLiesElsewhere.2.1 0 = .ok (.aload_n 0, 1) := by decide +kernel
theorem dX5_lastLiesElsewhere_1 : decode mX5_lastLiesElsewhere.2.1 1 = .ok (.getfield 34, 3) := by decide +kernel
theorem dX5_lastLiesElsewhere_4 : decode mX5_lastLiesElsewhere.2.1 4 = .ok (.iconst 1, 1) := by decide +kernel
theorem dX5_lastLiesElsewhere_5 : decode mX5_lastLiesElsewhere.2.1 5 = .ok (.isub, 1) := by decide +kernel
theorem dX5_lastLiesElsewhere_6 : decode mX5_lastLiesElsewhere.2.1 6 = .ok (.istore_n 1, 1) := by decide +kernel
theorem dX5_lastLiesElsewhere_7 : decode mX5_lastLiesElsewhere.2.1 7 = .ok (.aload_n 0, 1) := by decide +kernel
theorem dX5_lastLiesElsewhere_8 : decode mX5_lastLiesElsewhere.2.1 8 = .ok (.iload_n 1, 1) := by decide +kernel
theorem dX5_lastLiesElsewhere_9 : decode mX5_lastLiesElsewhere.2.1 9 = .ok (.invokevirtual 44, 3) := by decide +kernel
theorem dX5_lastLiesElsewhere_12 : decode mX5_lastLiesElsewhere.2.1 12 = .ok (.ifCond .ne 5, 3) := by decide +kernel
theorem dX5_lastLiesElsewhere_15 : decode mX5_lastLiesElsewhere.2.1 15 = .ok (.iconst 0, 1) := by decide +kernel
theorem dX5_lastLiesElsewhere_16 : decode mX5_lastLiesElsewhere.2.1 16 = .ok (.ireturn, 1) := by decide +kernel
theorem dX5_lastLiesElsewhere_17 : decode mX5_lastLiesElsewhere.2.1 17 = .ok (.iconst 0, 1) := by decide +kernel
theorem dX5_lastLiesElsewhere_18 : decode mX5_lastLiesElsewhere.2.1 18 = .ok (.istore_n 2, 1) := by decide +kernel
theorem dX5_lastLiesElsewhere_19 : decode mX5_lastLiesElsewhere.2.1 19 = .ok (.iload_n 2, 1) := by decide +kernel
theorem dX5_lastLiesElsewhere_20 : decode mX5_lastLiesElsewhere.2.1 20 = .ok (.iload_n 1, 1) := by decide +kernel
theorem dX5_lastLiesElsewhere_21 : decode mX5_lastLiesElsewhere.2.1 21 = .ok (.if_icmp .ge 58, 3) := by decide +kernel
theorem dX5_lastLiesElsewhere_24 : decode mX5_lastLiesElsewhere.2.1 24 = .ok (.iconst 0, 1) := by decide +kernel
theorem dX5_lastLiesElsewhere_25 : decode mX5_lastLiesElsewhere.2.1 25 = .ok (.istore_n 3, 1) := by decide +kernel
theorem dX5_lastLiesElsewhere_26 : decode mX5_lastLiesElsewhere.2.1 26 = .ok (.iload_n 3, 1) := by decide +kernel
theorem dX5_lastLiesElsewhere_27 : decode mX5_lastLiesElsewhere.2.1 27 = .ok (.bipush 12, 2) := by decide +kernel
theorem dX5_lastLiesElsewhere_29 : decode mX5_lastLiesElsewhere.2.1 29 = .ok (.if_icmp .ge 44, 3) := by decide +kernel
theorem dX5_lastLiesElsewhere_32 : decode mX5_lastLiesElsewhere.2.1 32 = .ok (.iload_n 3, 1) := by decide +kernel
theorem dX5_lastLiesElsewhere_33 : decode mX5_lastLiesElsewhere.2.1 33 = .ok (.invokestatic 86, 3) := by decide +kernel
theorem dX5_lastLiesElsewhere_36 : decode mX5_lastLiesElsewhere.2.1 36 = .ok (.ifCond .eq 12, 3) := by decide +kernel
theorem dX5_lastLiesElsewhere_39 : decode mX5_lastLiesElsewhere.2.1 39 = .ok (.aload_n 0, 1) := by decide +kernel
theorem dX5_lastLiesElsewhere_40 : decode mX5_lastLiesElsewhere.2.1 40 = .ok (.getfield 25, 3) := by decide +kernel
theorem dX5_lastLiesElsewhere_43 : decode mX5_lastLiesElsewhere.2.1 43 = .ok (.iload_n 1, 1) := by decide +kernel
theorem dX5_lastLiesElsewhere_44 : decode mX5_lastLiesElsewhere.2.1 44 = .ok (.iaload, 1) := by decide +kernel
theorem dX5_lastLiesElsewhere_45 : decode mX5_lastLiesElsewhere.2.1 45 = .ok (.goto 7, 3) := by decide +kernel
theorem dX5_lastLiesElsewhere_48 : decode mX5_lastLiesElsewhere.2.1 48 = .ok (.bipush 12, 2) := by decide +kernel
theorem dX5_lastLiesElsewhere_50 : decode mX5_lastLiesElsewhere.2.1 50 = .ok (.iload_n 1, 1) := by decide +kernel
theorem dX5_lastLiesElsewhere_51 : decode mX5_lastLiesElsewhere.2.1 51 = .ok (.imul, 1) := by decide +kernel
theorem dX5_lastLiesElsewhere_52 : decode mX5_lastLiesElsewhere.2.1 52 = .ok (.istore 4, 2) := by decide +kernel
theorem dX5_lastLiesElsewhere_54 : decode mX5_lastLiesElsewhere.2.1 54 = .ok (.aload_n 0, 1) := by decide +kernel
theorem dX5_lastLiesElsewhere_55 : decode mX5_lastLiesElsewhere.2.1 55 = .ok (.iload_n 2, 1) := by decide +kernel
theorem dX5_lastLiesElsewhere_56 : decode mX5_lastLiesElsewhere.2.1 56 = .ok (.iload_n 3, 1) := by decide +kernel
theorem dX5_lastLiesElsewhere_57 : decode mX5_lastLiesElsewhere.2.1 57 = .ok (.invokevirtual 51, 3) := by decide +kernel
theorem dX5_lastLiesElsewhere_60 : decode mX5_lastLiesElsewhere.2.1 60 = .ok (.iload 4, 2) := by decide +kernel
theorem dX5_lastLiesElsewhere_62 : decode mX5_lastLiesElsewhere.2.1 62 = .ok (.if_icmp .lt 5, 3) := by decide +kernel
theorem dX5_lastLiesElsewhere_65 : decode mX5_lastLiesElsewhere.2.1 65 = .ok (.iconst 1, 1) := by decide +kernel
theorem dX5_lastLiesElsewhere_66 : decode mX5_lastLiesElsewhere.2.1 66 = .ok (.ireturn, 1) := by decide +kernel
theorem dX5_lastLiesElsewhere_67 : decode mX5_lastLiesElsewhere.2.1 67 = .ok (.iinc 3 1, 3) := by decide +kernel
theorem dX5_lastLiesElsewhere_70 : decode mX5_lastLiesElsewhere.2.1 70 = .ok (.goto (-44), 3) := by decide +kernel
theorem dX5_lastLiesElsewhere_73 : decode mX5_lastLiesElsewhere.2.1 73 = .ok (.iinc 2 1, 3) := by decide +kernel
theorem dX5_lastLiesElsewhere_76 : decode mX5_lastLiesElsewhere.2.1 76 = .ok (.goto (-57), 3) := by decide +kernel
theorem dX5_lastLiesElsewhere_79 : decode mX5_lastLiesElsewhere.2.1 79 = .ok (.iconst 0, 1) := by decide +kernel
theorem dX5_lastLiesElsewhere_80 : decode mX5_lastLiesElsewhere.2.1 80 = .ok (.ireturn, 1) := by decide +kernel
theorem dX5_removeLast_0 : decode mX5_removeLast.2.1 0 = .ok (.aload_n 0, 1) := by decide +kernel
theorem dX5_removeLast_1 : decode mX5_removeLast.2.1 1 = .ok (.getfield 34, 3) := by decide +kernel
theorem dX5_removeLast_4 : decode mX5_removeLast.2.1 4 = .ok (.iconst 1, 1) := by decide +kernel
theorem dX5_removeLast_5 : decode mX5_removeLast.2.1 5 = .ok (.isub, 1) := by decide +kernel
theorem dX5_removeLast_6 : decode mX5_removeLast.2.1 6 = .ok (.istore_n 1, 1) := by decide +kernel
theorem dX5_removeLast_7 : decode mX5_removeLast.2.1 7 = .ok (.aload_n 0, 1) := by decide +kernel
theorem dX5_removeLast_8 : decode mX5_removeLast.2.1 8 = .ok (.iload_n 1, 1) := by decide +kernel
theorem dX5_removeLast_9 : decode mX5_removeLast.2.1 9 = .ok (.invokevirtual 44, 3) := by decide +kernel
theorem dX5_removeLast_12 : decode mX5_removeLast.2.1 12 = .ok (.ifCond .eq 28, 3) := by decide +kernel
theorem dX5_removeLast_15 : decode mX5_removeLast.2.1 15 = .ok (.aload_n 0, 1) := by decide +kernel
theorem dX5_removeLast_16 : decode mX5_removeLast.2.1 16 = .ok (.aload_n 0, 1) := by decide +kernel
theorem dX5_removeLast_17 : decode mX5_removeLast.2.1 17 = .ok (.getfield 25, 3) := by decide +kernel
theorem dX5_removeLast_20 : decode mX5_removeLast.2.1 20 = .ok (.iload_n 1, 1) := by decide +kernel
theorem dX5_removeLast_21 : decode mX5_removeLast.2.1 21 = .ok (.iaload, 1) := by decide +kernel
theorem dX5_removeLast_22 : decode mX5_removeLast.2.1 22 = .ok (.putfield 38, 3) := by decide +kernel
theorem dX5_removeLast_25 : decode mX5_removeLast.2.1 25 = .ok (.aload_n 0, 1) := by decide +kernel
theorem dX5_removeLast_26 : decode mX5_removeLast.2.1 26 = .ok (.iload_n 1, 1) := by decide +kernel
theorem dX5_removeLast_27 : decode mX5_removeLast.2.1 27 = .ok (.putfield 34, 3) := by decide +kernel
theorem dX5_removeLast_30 : decode mX5_removeLast.2.1 30 = .ok (.aload_n 0, 1) := by decide +kernel
theorem dX5_removeLast_31 : decode mX5_removeLast.2.1 31 = .ok (.dup, 1) := by decide +kernel
theorem dX5_removeLast_32 : decode mX5_removeLast.2.1 32 = .ok (.getfield 41, 3) := by decide +kernel
theorem dX5_removeLast_35 : decode mX5_removeLast.2.1 35 = .ok (.iconst 1, 1) := by decide +kernel
theorem dX5_removeLast_36 : decode mX5_removeLast.2.1 36 = .ok (.iadd, 1) := by decide +kernel
theorem dX5_removeLast_37 : decode mX5_removeLast.2.1 37 = .ok (.putfield 41, 3) := by decide +kernel
theorem dX5_removeLast_40 : decode mX5_removeLast.2.1 40 = .ok (.return_, 1) := by decide +kernel
