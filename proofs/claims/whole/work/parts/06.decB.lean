theorem dX0_forgetKept_0 : decode mX0_forgetKept.2.1 0 = .ok (.aload_n 0, 1) := by decide +kernel
theorem dX0_forgetKept_1 : decode mX0_forgetKept.2.1 1 = .ok (.iconst 0, 1) := by decide +kernel
theorem dX0_forgetKept_2 : decode mX0_forgetKept.2.1 2 = .ok (.putfield 21, 3) := by decide +kernel
theorem dX0_forgetKept_5 : decode mX0_forgetKept.2.1 5 = .ok (.return_, 1) := by decide +kernel
theorem dX0_reason_0 : decode mX0_reason.2.1 0 = .ok (.aload_n 0, 1) := by decide +kernel
theorem dX0_reason_1 : decode mX0_reason.2.1 1 = .ok (.iconst (-1), 1) := by decide +kernel
theorem dX0_reason_2 : decode mX0_reason.2.1 2 = .ok (.putfield 31, 3) := by decide +kernel
theorem dX0_reason_5 : decode mX0_reason.2.1 5 = .ok (.aload_n 0, 1) := by decide +kernel
theorem dX0_reason_6 : decode mX0_reason.2.1 6 = .ok (.getfield 37, 3) := by decide +kernel
theorem dX0_reason_9 : decode mX0_reason.2.1 9 = .ok (.iload_n 1, 1) := by decide +kernel
theorem dX0_reason_10 : decode mX0_reason.2.1 10 = .ok (.iload_n 2, 1) := by decide +kernel
theorem dX0_reason_11 : decode mX0_reason.2.1 11 = .ok (.invokevirtual 49, 3) := by decide +kernel
theorem dX0_reason_14 : decode mX0_reason.2.1 14 = .ok (.iconst (-1), 1) := by decide +kernel
theorem dX0_reason_15 : decode mX0_reason.2.1 15 = .ok (.if_icmp .ne 5, 3) := by decide +kernel
theorem dX0_reason_18 : decode mX0_reason.2.1 18 = .ok (.iconst 1, 1) := by decide +kernel
theorem dX0_reason_19 : decode mX0_reason.2.1 19 = .ok (.ireturn, 1) := by decide +kernel
theorem dX0_reason_20 : decode mX0_reason.2.1 20 = .ok (.aload_n 0, 1) := by decide +kernel
theorem dX0_reason_21 : decode mX0_reason.2.1 21 = .ok (.getfield 37, 3) := by decide +kernel
theorem dX0_reason_24 : decode mX0_reason.2.1 24 = .ok (.iload_n 1, 1) := by decide +kernel
theorem dX0_reason_25 : decode mX0_reason.2.1 25 = .ok (.invokevirtual 55, 3) := by decide +kernel
theorem dX0_reason_28 : decode mX0_reason.2.1 28 = .ok (.istore 4, 2) := by decide +kernel
theorem dX0_reason_30 : decode mX0_reason.2.1 30 = .ok (.iload_n 3, 1) := by decide +kernel
theorem dX0_reason_31 : decode mX0_reason.2.1 31 = .ok (.ifCond .eq 18, 3) := by decide +kernel
theorem dX0_reason_34 : decode mX0_reason.2.1 34 = .ok (.aload_n 0, 1) := by decide +kernel
theorem dX0_reason_35 : decode mX0_reason.2.1 35 = .ok (.getfield 37, 3) := by decide +kernel
theorem dX0_reason_38 : decode mX0_reason.2.1 38 = .ok (.iload_n 1, 1) := by decide +kernel
theorem dX0_reason_39 : decode mX0_reason.2.1 39 = .ok (.invokevirtual 59, 3) := by decide +kernel
theorem dX0_reason_42 : decode mX0_reason.2.1 42 = .ok (.iconst (-1), 1) := by decide +kernel
theorem dX0_reason_43 : decode mX0_reason.2.1 43 = .ok (.if_icmp .ne 13, 3) := by decide +kernel
theorem dX0_reason_46 : decode mX0_reason.2.1 46 = .ok (.goto 8, 3) := by decide +kernel
theorem dX0_reason_49 : decode mX0_reason.2.1 49 = .ok (.iload 4, 2) := by decide +kernel
theorem dX0_reason_51 : decode mX0_reason.2.1 51 = .ok (.ifCond .ne 5, 3) := by decide +kernel
theorem dX0_reason_54 : decode mX0_reason.2.1 54 = .ok (.iconst 2, 1) := by decide +kernel
theorem dX0_reason_55 : decode mX0_reason.2.1 55 = .ok (.ireturn, 1) := by decide +kernel
theorem dX0_reason_56 : decode mX0_reason.2.1 56 = .ok (.iload_n 3, 1) := by decide +kernel
theorem dX0_reason_57 : decode mX0_reason.2.1 57 = .ok (.ifCond .eq 26, 3) := by decide +kernel
theorem dX0_reason_60 : decode mX0_reason.2.1 60 = .ok (.aload_n 0, 1) := by decide +kernel
theorem dX0_reason_61 : decode mX0_reason.2.1 61 = .ok (.getfield 37, 3) := by decide +kernel
theorem dX0_reason_64 : decode mX0_reason.2.1 64 = .ok (.aload_n 0, 1) := by decide +kernel
theorem dX0_reason_65 : decode mX0_reason.2.1 65 = .ok (.getfield 37, 3) := by decide +kernel
theorem dX0_reason_68 : decode mX0_reason.2.1 68 = .ok (.iload_n 1, 1) := by decide +kernel
theorem dX0_reason_69 : decode mX0_reason.2.1 69 = .ok (.invokevirtual 59, 3) := by decide +kernel
theorem dX0_reason_72 : decode mX0_reason.2.1 72 = .ok (.iload_n 2, 1) := by decide +kernel
theorem dX0_reason_73 : decode mX0_reason.2.1 73 = .ok (.invokevirtual 49, 3) := by decide +kernel
theorem dX0_reason_76 : decode mX0_reason.2.1 76 = .ok (.iconst (-1), 1) := by decide +kernel
theorem dX0_reason_77 : decode mX0_reason.2.1 77 = .ok (.if_icmp .eq 18, 3) := by decide +kernel
theorem dX0_reason_80 : decode mX0_reason.2.1 80 = .ok (.goto 13, 3) := by decide +kernel
theorem dX0_reason_83 : decode mX0_reason.2.1 83 = .ok (.aload_n 0, 1) := by decide +kernel
theorem dX0_reason_84 : decode mX0_reason.2.1 84 = .ok (.iload 4, 2) := by decide +kernel
theorem dX0_reason_86 : decode mX0_reason.2.1 86 = .ok (.iload_n 2, 1) := by decide +kernel
theorem dX0_reason_87 : decode mX0_reason.2.1 87 = .ok (.invokevirtual 62, 3) := by decide +kernel
theorem dX0_reason_90 : decode mX0_reason.2.1 90 = .ok (.ifCond .ne 5, 3) := by decide +kernel
theorem dX0_reason_93 : decode mX0_reason.2.1 93 = .ok (.iconst 3, 1) := by decide +kernel
theorem dX0_reason_94 : decode mX0_reason.2.1 94 = .ok (.ireturn, 1) := by decide +kernel
theorem dX0_reason_95 : decode mX0_reason.2.1 95 = .ok (.aload_n 0, 1) := by decide +kernel
theorem dX0_reason_96 : decode mX0_reason.2.1 96 = .ok (.getfield 45, 3) := by decide +kernel
theorem dX0_reason_99 : decode mX0_reason.2.1 99 = .ok (.invokevirtual 66, 3) := by decide +kernel
theorem dX0_reason_102 : decode mX0_reason.2.1 102 = .ok (.aload_n 0, 1) := by decide +kernel
theorem dX0_reason_103 : decode mX0_reason.2.1 103 = .ok (.bipush 20, 2) := by decide +kernel
theorem dX0_reason_105 : decode mX0_reason.2.1 105 = .ok (.iload_n 2, 1) := by decide +kernel
theorem dX0_reason_106 : decode mX0_reason.2.1 106 = .ok (.invokevirtual 71, 3) := by decide +kernel
theorem dX0_reason_109 : decode mX0_reason.2.1 109 = .ok (.aload_n 0, 1) := by decide +kernel
theorem dX0_reason_110 : decode mX0_reason.2.1 110 = .ok (.iload_n 1, 1) := by decide +kernel
theorem dX0_reason_111 : decode mX0_reason.2.1 111 = .ok (.iload_n 2, 1) := by decide +kernel
theorem dX0_reason_112 : decode mX0_reason.2.1 112 = .ok (.iload_n 3, 1) := by decide +kernel
theorem dX0_reason_113 : decode mX0_reason.2.1 113 = .ok (.invokevirtual 75, 3) := by decide +kernel
theorem dX0_reason_116 : decode mX0_reason.2.1 116 = .ok (.aload_n 0, 1) := by decide +kernel
theorem dX0_reason_117 : decode mX0_reason.2.1 117 = .ok (.aload_n 0, 1) := by decide +kernel
theorem dX0_reason_118 : decode mX0_reason.2.1 118 = .ok (.invokevirtual 79, 3) := by decide +kernel
theorem dX0_reason_121 : decode mX0_reason.2.1 121 = .ok (.putfield 31, 3) := by decide +kernel
theorem dX0_reason_124 : decode mX0_reason.2.1 124 = .ok (.aload_n 0, 1) := by decide +kernel
theorem dX0_reason_125 : decode mX0_reason.2.1 125 = .ok (.bipush 20, 2) := by decide +kernel
theorem dX0_reason_127 : decode mX0_reason.2.1 127 = .ok (.invokevirtual 83, 3) := by decide +kernel
theorem dX0_reason_130 : decode mX0_reason.2.1 130 = .ok (.aload_n 0, 1) := by decide +kernel
theorem dX0_reason_131 : decode mX0_reason.2.1 131 = .ok (.getfield 31, 3) := by decide +kernel
theorem dX0_reason_134 : decode mX0_reason.2.1 134 = .ok (.iconst (-1), 1) := by decide +kernel
theorem dX0_reason_135 : decode mX0_reason.2.1 135 = .ok (.if_icmp .ne 7, 3) := by decide +kernel
theorem dX0_reason_138 : decode mX0_reason.2.1 138 = .ok (.iconst 0, 1) := by decide +kernel
theorem dX0_reason_139 : decode mX0_reason.2.1 139 = .ok (.goto 4, 3) := by decide +kernel
theorem dX0_reason_142 : decode mX0_reason.2.1 142 = .ok (.iconst 4, 1) := by decide +kernel
theorem dX0_reason_143 : decode mX0_reason.2.1 143 = .ok (.ireturn, 1) := by decide +kernel
theorem dX0_keep_0 : decode mX0_keep.2.1 0 = .ok (.aload_n 0, 1) := by decide +kernel
theorem dX0_keep_1 : decode mX0_keep.2.1 1 = .ok (.getfield 21, 3) := by decide +kernel
theorem dX0_keep_4 : decode mX0_keep.2.1 4 = .ok (.bipush 20, 2) := by decide +kernel
theorem dX0_keep_6 : decode mX0_keep.2.1 6 = .ok (.if_icmp .lt 5, 3) := by decide +kernel
theorem dX0_keep_9 : decode mX0_keep.2.1 9 = .ok (.iconst 0, 1) := by decide +kernel
theorem dX0_keep_10 : decode mX0_keep.2.1 10 = .ok (.ireturn, 1) := by decide +kernel
theorem dX0_keep_11 : decode mX0_keep.2.1 11 = .ok (.aload_n 0, 1) := by decide +kernel
theorem dX0_keep_12 : decode mX0_keep.2.1 12 = .ok (.aload_n 0, 1) := by decide +kernel
theorem dX0_keep_13 : decode mX0_keep.2.1 13 = .ok (.getfield 21, 3) := by decide +kernel
theorem dX0_keep_16 : decode mX0_keep.2.1 16 = .ok (.iload_n 2, 1) := by decide +kernel
theorem dX0_keep_17 : decode mX0_keep.2.1 17 = .ok (.invokevirtual 71, 3) := by decide +kernel
theorem dX0_keep_20 : decode mX0_keep.2.1 20 = .ok (.aload_n 0, 1) := by decide +kernel
theorem dX0_keep_21 : decode mX0_keep.2.1 21 = .ok (.iload_n 1, 1) := by decide +kernel
theorem dX0_keep_22 : decode mX0_keep.2.1 22 = .ok (.iload_n 2, 1) := by decide +kernel
theorem dX0_keep_23 : decode mX0_keep.2.1 23 = .ok (.iload_n 3, 1) := by decide +kernel
theorem dX0_keep_24 : decode mX0_keep.2.1 24 = .ok (.invokevirtual 75, 3) := by decide +kernel
theorem dX0_keep_27 : decode mX0_keep.2.1 27 = .ok (.aload_n 0, 1) := by decide +kernel
theorem dX0_keep_28 : decode mX0_keep.2.1 28 = .ok (.getfield 37, 3) := by decide +kernel
theorem dX0_keep_31 : decode mX0_keep.2.1 31 = .ok (.dup, 1) := by decide +kernel
theorem dX0_keep_32 : decode mX0_keep.2.1 32 = .ok (.getfield 87, 3) := by decide +kernel
theorem dX0_keep_35 : decode mX0_keep.2.1 35 = .ok (.iconst 1, 1) := by decide +kernel
theorem dX0_keep_36 : decode mX0_keep.2.1 36 = .ok (.iadd, 1) := by decide +kernel
theorem dX0_keep_37 : decode mX0_keep.2.1 37 = .ok (.putfield 87, 3) := by decide +kernel
theorem dX0_keep_40 : decode mX0_keep.2.1 40 = .ok (.aload_n 0, 1) := by decide +kernel
theorem dX0_keep_41 : decode mX0_keep.2.1 41 = .ok (.dup, 1) := by decide +kernel
theorem dX0_keep_42 : decode mX0_keep.2.1 42 = .ok (.getfield 21, 3) := by decide +kernel
theorem dX0_keep_45 : decode mX0_keep.2.1 45 = .ok (.iconst 1, 1) := by decide +kernel
theorem dX0_keep_46 : decode mX0_keep.2.1 46 = .ok (.iadd, 1) := by decide +kernel
theorem dX0_keep_47 : decode mX0_keep.2.1 47 = .ok (.putfield 21, 3) := by decide +kernel
theorem dX0_keep_50 : decode mX0_keep.2.1 50 = .ok (.aload_n 0, 1) := by decide +kernel
theorem dX0_keep_51 : decode mX0_keep.2.1 51 = .ok (.dup, 1) := by decide +kernel
theorem dX0_keep_52 : decode mX0_keep.2.1 52 = .ok (.getfield 25, 3) := by decide +kernel
theorem dX0_keep_55 : decode mX0_keep.2.1 55 = .ok (.iconst 1, 1) := by decide +kernel
theorem dX0_keep_56 : decode mX0_keep.2.1 56 = .ok (.iadd, 1) := by decide +kernel
theorem dX0_keep_57 : decode mX0_keep.2.1 57 = .ok (.putfield 25, 3) := by decide +kernel
theorem dX0_keep_60 : decode mX0_keep.2.1 60 = .ok (.iconst 1, 1) := by decide +kernel
theorem dX0_keep_61 : decode mX0_keep.2.1 61 = .ok (.ireturn, 1) := by decide +kernel
theorem dX0_takeBack_0 : decode mX0_takeBack.2.1 0 = .ok (.aload_n 0, 1) := by decide +kernel
theorem dX0_takeBack_1 : decode mX0_takeBack.2.1 1 = .ok (.getfield 21, 3) := by decide +kernel
theorem dX0_takeBack_4 : decode mX0_takeBack.2.1 4 = .ok (.ifCond .gt 5, 3) := by decide +kernel
theorem dX0_takeBack_7 : decode mX0_takeBack.2.1 7 = .ok (.iconst 0, 1) := by decide +kernel
theorem dX0_takeBack_8 : decode mX0_takeBack.2.1 8 = .ok (.ireturn, 1) := by decide +kernel
theorem dX0_takeBack_9 : decode mX0_takeBack.2.1 9 = .ok (.aload_n 0, 1) := by decide +kernel
theorem dX0_takeBack_10 : decode mX0_takeBack.2.1 10 = .ok (.dup, 1) := by decide +kernel
theorem dX0_takeBack_11 : decode mX0_takeBack.2.1 11 = .ok (.getfield 21, 3) := by decide +kernel
theorem dX0_takeBack_14 : decode mX0_takeBack.2.1 14 = .ok (.iconst 1, 1) := by decide +kernel
theorem dX0_takeBack_15 : decode mX0_takeBack.2.1 15 = .ok (.isub, 1) := by decide +kernel
theorem dX0_takeBack_16 : decode mX0_takeBack.2.1 16 = .ok (.putfield 21, 3) := by decide +kernel
theorem dX0_takeBack_19 : decode mX0_takeBack.2.1 19 = .ok (.aload_n 0, 1) := by decide +kernel
theorem dX0_takeBack_20 : decode mX0_takeBack.2.1 20 = .ok (.aload_n 0, 1) := by decide +kernel
theorem dX0_takeBack_21 : decode mX0_takeBack.2.1 21 = .ok (.getfield 21, 3) := by decide +kernel
theorem dX0_takeBack_24 : decode mX0_takeBack.2.1 24 = .ok (.invokevirtual 83, 3) := by decide +kernel
theorem dX0_takeBack_27 : decode mX0_takeBack.2.1 27 = .ok (.aload_n 0, 1) := by decide +kernel
theorem dX0_takeBack_28 : decode mX0_takeBack.2.1 28 = .ok (.getfield 37, 3) := by decide +kernel
theorem dX0_takeBack_31 : decode mX0_takeBack.2.1 31 = .ok (.dup, 1) := by decide +kernel
theorem dX0_takeBack_32 : decode mX0_takeBack.2.1 32 = .ok (.getfield 87, 3) := by decide +kernel
theorem dX0_takeBack_35 : decode mX0_takeBack.2.1 35 = .ok (.iconst 1, 1) := by decide +kernel
theorem dX0_takeBack_36 : decode mX0_takeBack.2.1 36 = .ok (.iadd, 1) := by decide +kernel
theorem dX0_takeBack_37 : decode mX0_takeBack.2.1 37 = .ok (.putfield 87, 3) := by decide +kernel
theorem dX0_takeBack_40 : decode mX0_takeBack.2.1 40 = .ok (.aload_n 0, 1) := by decide +kernel
theorem dX0_takeBack_41 : decode mX0_takeBack.2.1 41 = .ok (.dup, 1) := by decide +kernel
theorem dX0_takeBack_42 : decode mX0_takeBack.2.1 42 = .ok (.getfield 28, 3) := by decide +kernel
theorem dX0_takeBack_45 : decode mX0_takeBack.2.1 45 = .ok (.iconst 1, 1) := by decide +kernel
theorem dX0_takeBack_46 : decode mX0_takeBack.2.1 46 = .ok (.iadd, 1) := by decide +kernel
theorem dX0_takeBack_47 : decode mX0_takeBack.2.1 47 = .ok (.putfield 28, 3) := by decide +kernel
theorem dX0_takeBack_50 : decode mX0_takeBack.2.1 50 = .ok (.iconst 1, 1) := by decide +kernel
theorem dX0_takeBack_51 : decode mX0_takeBack.2.1 51 = .ok (.ireturn, 1) := by decide +kernel
theorem dX0_refresh_0 : decode mX0_refresh.2.1 0 = .ok (.aload_n 0, 1) := by decide +kernel
theorem dX0_refresh_1 : decode mX0_refresh.2.1 1 = .ok (.getfield 34, 3) := by decide +kernel
theorem dX0_refresh_4 : decode mX0_refresh.2.1 4 = .ok (.aload_n 0, 1) := by decide +kernel
theorem dX0_refresh_5 : decode mX0_refresh.2.1 5 = .ok (.getfield 37, 3) := by decide +kernel
theorem dX0_refresh_8 : decode mX0_refresh.2.1 8 = .ok (.getfield 87, 3) := by decide +kernel
theorem dX0_refresh_11 : decode mX0_refresh.2.1 11 = .ok (.if_icmp .ne 4, 3) := by decide +kernel
theorem dX0_refresh_14 : decode mX0_refresh.2.1 14 = .ok (.return_, 1) := by decide +kernel
theorem dX0_refresh_15 : decode mX0_refresh.2.1 15 = .ok (.aload_n 0, 1) := by decide +kernel
theorem dX0_refresh_16 : decode mX0_refresh.2.1 16 = .ok (.aload_n 0, 1) := by decide +kernel
theorem dX0_refresh_17 : decode mX0_refresh.2.1 17 = .ok (.getfield 37, 3) := by decide +kernel
theorem dX0_refresh_20 : decode mX0_refresh.2.1 20 = .ok (.getfield 87, 3) := by decide +kernel
theorem dX0_refresh_23 : decode mX0_refresh.2.1 23 = .ok (.putfield 34, 3) := by decide +kernel
theorem dX0_refresh_26 : decode mX0_refresh.2.1 26 = .ok (.aload_n 0, 1) := by decide +kernel
theorem dX0_refresh_27 : decode mX0_refresh.2.1 27 = .ok (.iconst 0, 1) := by decide +kernel
theorem dX0_refresh_28 : decode mX0_refresh.2.1 28 = .ok (.putfield 88, 3) := by decide +kernel
theorem dX0_refresh_31 : decode mX0_refresh.2.1 31 = .ok (.aload_n 0, 1) := by decide +kernel
theorem dX0_refresh_32 : decode mX0_refresh.2.1 32 = .ok (.iconst 0, 1) := by decide +kernel
theorem dX0_refresh_33 : decode mX0_refresh.2.1 33 = .ok (.putfield 91, 3) := by decide +kernel
theorem dX0_refresh_36 : decode mX0_refresh.2.1 36 = .ok (.aload_n 0, 1) := by decide +kernel
theorem dX0_refresh_37 : decode mX0_refresh.2.1 37 = .ok (.iconst 0, 1) := by decide +kernel
theorem dX0_refresh_38 : decode mX0_refresh.2.1 38 = .ok (.putfield 94, 3) := by decide +kernel
theorem dX0_refresh_41 : decode mX0_refresh.2.1 41 = .ok (.iconst 0, 1) := by decide +kernel
theorem dX0_refresh_42 : decode mX0_refresh.2.1 42 = .ok (.istore_n 1, 1) := by decide +kernel
theorem dX0_refresh_43 : decode mX0_refresh.2.1 43 = .ok (.iload_n 1, 1) := by decide +kernel
theorem dX0_refresh_44 : decode mX0_refresh.2.1 44 = .ok (.aload_n 0, 1) := by decide +kernel
theorem dX0_refresh_45 : decode mX0_refresh.2.1 45 = .ok (.getfield 37, 3) := by decide +kernel
theorem dX0_refresh_48 : decode mX0_refresh.2.1 48 = .ok (.getfield 97, 3) := by decide +kernel
theorem dX0_refresh_51 : decode mX0_refresh.2.1 51 = .ok (.if_icmp .ge 108, 3) := by decide +kernel
theorem dX0_refresh_54 : decode mX0_refresh.2.1 54 = .ok (.iconst 0, 1) := by decide +kernel
theorem dX0_refresh_55 : decode mX0_refresh.2.1 55 = .ok (.istore_n 2, 1) := by decide +kernel
theorem dX0_refresh_56 : decode mX0_refresh.2.1 56 = .ok (.iload_n 2, 1) := by decide +kernel
theorem dX0_refresh_57 : decode mX0_refresh.2.1 57 = .ok (.bipush 12, 2) := by decide +kernel
theorem dX0_refresh_59 : decode mX0_refresh.2.1 59 = .ok (.if_icmp .ge 94, 3) := by decide +kernel
theorem dX0_refresh_62 : decode mX0_refresh.2.1 62 = .ok (.aload_n 0, 1) := by decide +kernel
theorem dX0_refresh_63 : decode mX0_refresh.2.1 63 = .ok (.iload_n 1, 1) := by decide +kernel
theorem dX0_refresh_64 : decode mX0_refresh.2.1 64 = .ok (.iload_n 2, 1) := by decide +kernel
theorem dX0_refresh_65 : decode mX0_refresh.2.1 65 = .ok (.iconst 1, 1) := by decide +kernel
theorem dX0_refresh_66 : decode mX0_refresh.2.1 66 = .ok (.invokevirtual 100, 3) := by decide +kernel
theorem dX0_refresh_69 : decode mX0_refresh.2.1 69 = .ok (.istore_n 3, 1) := by decide +kernel
theorem dX0_refresh_70 : decode mX0_refresh.2.1 70 = .ok (.aload_n 0, 1) := by decide +kernel
theorem dX0_refresh_71 : decode mX0_refresh.2.1 71 = .ok (.iload_n 1, 1) := by decide +kernel
theorem dX0_refresh_72 : decode mX0_refresh.2.1 72 = .ok (.iload_n 2, 1) := by decide +kernel
theorem dX0_refresh_73 : decode mX0_refresh.2.1 73 = .ok (.iconst 0, 1) := by decide +kernel
theorem dX0_refresh_74 : decode mX0_refresh.2.1 74 = .ok (.invokevirtual 100, 3) := by decide +kernel
theorem dX0_refresh_77 : decode mX0_refresh.2.1 77 = .ok (.istore 4, 2) := by decide +kernel
theorem dX0_refresh_79 : decode mX0_refresh.2.1 79 = .ok (.aload_n 0, 1) := by decide +kernel
theorem dX0_refresh_80 : decode mX0_refresh.2.1 80 = .ok (.dup, 1) := by decide +kernel
theorem dX0_refresh_81 : decode mX0_refresh.2.1 81 = .ok (.getfield 88, 3) := by decide +kernel
theorem dX0_refresh_84 : decode mX0_refresh.2.1 84 = .ok (.iload_n 3, 1) := by decide +kernel
theorem dX0_refresh_85 : decode mX0_refresh.2.1 85 = .ok (.ifCond .ne 7, 3) := by decide +kernel
theorem dX0_refresh_88 : decode mX0_refresh.2.1 88 = .ok (.iconst 1, 1) := by decide +kernel
theorem dX0_refresh_89 : decode mX0_refresh.2.1 89 = .ok (.goto 4, 3) := by decide +kernel
theorem dX0_refresh_92 : decode mX0_refresh.2.1 92 = .ok (.iconst 0, 1) := by decide +kernel
theorem dX0_refresh_93 : decode mX0_refresh.2.1 93 = .ok (.iadd, 1) := by decide +kernel
theorem dX0_refresh_94 : decode mX0_refresh.2.1 94 = .ok (.putfield 88, 3) := by decide +kernel
theorem dX0_refresh_97 : decode mX0_refresh.2.1 97 = .ok (.aload_n 0, 1) := by decide +kernel
theorem dX0_refresh_98 : decode mX0_refresh.2.1 98 = .ok (.dup, 1) := by decide +kernel
theorem dX0_refresh_99 : decode mX0_refresh.2.1 99 = .ok (.getfield 91, 3) := by decide +kernel
theorem dX0_refresh_102 : decode mX0_refresh.2.1 102 = .ok (.iload 4, 2) := by decide +kernel
theorem dX0_refresh_104 : decode mX0_refresh.2.1 104 = .ok (.ifCond .ne 7, 3) := by decide +kernel
theorem dX0_refresh_107 : decode mX0_refresh.2.1 107 = .ok (.iconst 1, 1) := by decide +kernel
theorem dX0_refresh_108 : decode mX0_refresh.2.1 108 = .ok (.goto 4, 3) := by decide +kernel
theorem dX0_refresh_111 : decode mX0_refresh.2.1 111 = .ok (.iconst 0, 1) := by decide +kernel
theorem dX0_refresh_112 : decode mX0_refresh.2.1 112 = .ok (.iadd, 1) := by decide +kernel
theorem dX0_refresh_113 : decode mX0_refresh.2.1 113 = .ok (.putfield 91, 3) := by decide +kernel
theorem dX0_refresh_116 : decode mX0_refresh.2.1 116 = .ok (.aload_n 0, 1) := by decide +kernel
theorem dX0_refresh_117 : decode mX0_refresh.2.1 117 = .ok (.dup, 1) := by decide +kernel
theorem dX0_refresh_118 : decode mX0_refresh.2.1 118 = .ok (.getfield 94, 3) := by decide +kernel
theorem dX0_refresh_121 : decode mX0_refresh.2.1 121 = .ok (.iload_n 3, 1) := by decide +kernel
theorem dX0_refresh_122 : decode mX0_refresh.2.1 122 = .ok (.iconst 4, 1) := by decide +kernel
theorem dX0_refresh_123 : decode mX0_refresh.2.1 123 = .ok (.if_icmp .ne 7, 3) := by decide +kernel
theorem dX0_refresh_126 : decode mX0_refresh.2.1 126 = .ok (.iconst 1, 1) := by decide +kernel
theorem dX0_refresh_127 : decode mX0_refresh.2.1 127 = .ok (.goto 4, 3) := by decide +kernel
theorem dX0_refresh_130 : decode mX0_refresh.2.1 130 = .ok (.iconst 0, 1) := by decide +kernel
theorem dX0_refresh_131 : decode mX0_refresh.2.1 131 = .ok (.iload 4, 2) := by decide +kernel
theorem dX0_refresh_133 : decode mX0_refresh.2.1 133 = .ok (.iconst 4, 1) := by decide +kernel
theorem dX0_refresh_134 : decode mX0_refresh.2.1 134 = .ok (.if_icmp .ne 7, 3) := by decide +kernel
theorem dX0_refresh_137 : decode mX0_refresh.2.1 137 = .ok (.iconst 1, 1) := by decide +kernel
theorem dX0_refresh_138 : decode mX0_refresh.2.1 138 = .ok (.goto 4, 3) := by decide +kernel
theorem dX0_refresh_141 : decode mX0_refresh.2.1 141 = .ok (.iconst 0, 1) := by decide +kernel
theorem dX0_refresh_142 : decode mX0_refresh.2.1 142 = .ok (.iadd, 1) := by decide +kernel
theorem dX0_refresh_143 : decode mX0_refresh.2.1 143 = .ok (.iadd, 1) := by decide +kernel
theorem dX0_refresh_144 : decode mX0_refresh.2.1 144 = .ok (.putfield 94, 3) := by decide +kernel
theorem dX0_refresh_147 : decode mX0_refresh.2.1 147 = .ok (.iinc 2 1, 3) := by decide +kernel
theorem dX0_refresh_150 : decode mX0_refresh.2.1 150 = .ok (.goto (-94), 3) := by decide +kernel
theorem dX0_refresh_153 : decode mX0_refresh.2.1 153 = .ok (.iinc 1 1, 3) := by decide +kernel
theorem dX0_refresh_156 : decode mX0_refresh.2.1 156 = .ok (.goto (-113), 3) := by decide +kernel
theorem dX0_refresh_159 : decode mX0_refresh.2.1 159 = .ok (.return_, 1) := by decide +kernel
theorem dX0_someLack_0 : decode mX0_someLack.2.1 0 = .ok (.iconst 0, 1) := by decide +kernel
theorem dX0_someLack_1 : decode mX0_someLack.2.1 1 = .ok (.istore_n 3, 1) := by decide +kernel
theorem dX0_someLack_2 : decode mX0_someLack.2.1 2 = .ok (.iload_n 3, 1) := by decide +kernel
theorem dX0_someLack_3 : decode mX0_someLack.2.1 3 = .ok (.aload_n 0, 1) := by decide +kernel
theorem dX0_someLack_4 : decode mX0_someLack.2.1 4 = .ok (.getfield 37, 3) := by decide +kernel
theorem dX0_someLack_7 : decode mX0_someLack.2.1 7 = .ok (.getfield 97, 3) := by decide +kernel
theorem dX0_someLack_10 : decode mX0_someLack.2.1 10 = .ok (.if_icmp .ge 32, 3) := by decide +kernel
theorem dX0_someLack_13 : decode mX0_someLack.2.1 13 = .ok (.iload_n 1, 1) := by decide +kernel
theorem dX0_someLack_14 : decode mX0_someLack.2.1 14 = .ok (.iload_n 3, 1) := by decide +kernel
theorem dX0_someLack_15 : decode mX0_someLack.2.1 15 = .ok (.ishr, 1) := by decide +kernel
theorem dX0_someLack_16 : decode mX0_someLack.2.1 16 = .ok (.iconst 1, 1) := by decide +kernel
theorem dX0_someLack_17 : decode mX0_someLack.2.1 17 = .ok (.iand, 1) := by decide +kernel
theorem dX0_someLack_18 : decode mX0_someLack.2.1 18 = .ok (.ifCond .eq 18, 3) := by decide +kernel
theorem dX0_someLack_21 : decode mX0_someLack.2.1 21 = .ok (.aload_n 0, 1) := by decide +kernel
theorem dX0_someLack_22 : decode mX0_someLack.2.1 22 = .ok (.getfield 37, 3) := by decide +kernel
theorem dX0_someLack_25 : decode mX0_someLack.2.1 25 = .ok (.iload_n 3, 1) := by decide +kernel
theorem dX0_someLack_26 : decode mX0_someLack.2.1 26 = .ok (.iload_n 2, 1) := by decide +kernel
theorem dX0_someLack_27 : decode mX0_someLack.2.1 27 = .ok (.invokevirtual 49, 3) := by decide +kernel
theorem dX0_someLack_30 : decode mX0_someLack.2.1 30 = .ok (.iconst (-1), 1) := by decide +kernel
theorem dX0_someLack_31 : decode mX0_someLack.2.1 31 = .ok (.if_icmp .ne 5, 3) := by decide +kernel
theorem dX0_someLack_34 : decode mX0_someLack.2.1 34 = .ok (.iconst 1, 1) := by decide +kernel
theorem dX0_someLack_35 : decode mX0_someLack.2.1 35 = .ok (.ireturn, 1) := by decide +kernel
theorem dX0_someLack_36 : decode mX0_someLack.2.1 36 = .ok (.iinc 3 1, 3) := by decide +kernel
theorem dX0_someLack_39 : decode mX0_someLack.2.1 39 = .ok (.goto (-37), 3) := by decide +kernel
theorem dX0_someLack_42 : decode mX0_someLack.2.1 42 = .ok (.iconst 0, 1) := by decide +kernel
theorem dX0_someLack_43 : decode mX0_someLack.2.1 43 = .ok (.ireturn, 1) := by decide +kernel
theorem dX0_shift_0 : decode mX0_shift.2.1 0 = .ok (.aload_n 0, 1) := by decide +kernel
theorem dX0_shift_1 : decode mX0_shift.2.1 1 = .ok (.getfield 37, 3) := by decide +kernel
theorem dX0_shift_4 : decode mX0_shift.2.1 4 = .ok (.iload_n 1, 1) := by decide +kernel
theorem dX0_shift_5 : decode mX0_shift.2.1 5 = .ok (.iload_n 2, 1) := by decide +kernel
theorem dX0_shift_6 : decode mX0_shift.2.1 6 = .ok (.invokevirtual 49, 3) := by decide +kernel
theorem dX0_shift_9 : decode mX0_shift.2.1 9 = .ok (.istore 4, 2) := by decide +kernel
theorem dX0_shift_11 : decode mX0_shift.2.1 11 = .ok (.aload_n 0, 1) := by decide +kernel
theorem dX0_shift_12 : decode mX0_shift.2.1 12 = .ok (.getfield 37, 3) := by decide +kernel
theorem dX0_shift_15 : decode mX0_shift.2.1 15 = .ok (.iload_n 1, 1) := by decide +kernel
theorem dX0_shift_16 : decode mX0_shift.2.1 16 = .ok (.iload_n 2, 1) := by decide +kernel
theorem dX0_shift_17 : decode mX0_shift.2.1 17 = .ok (.invokevirtual 104, 3) := by decide +kernel
theorem dX0_shift_20 : decode mX0_shift.2.1 20 = .ok (.istore 5, 2) := by decide +kernel
theorem dX0_shift_22 : decode mX0_shift.2.1 22 = .ok (.iload_n 3, 1) := by decide +kernel
theorem dX0_shift_23 : decode mX0_shift.2.1 23 = .ok (.ifCond .eq 23, 3) := by decide +kernel
theorem dX0_shift_26 : decode mX0_shift.2.1 26 = .ok (.aload_n 0, 1) := by decide +kernel
theorem dX0_shift_27 : decode mX0_shift.2.1 27 = .ok (.aload_n 0, 1) := by decide +kernel
theorem dX0_shift_28 : decode mX0_shift.2.1 28 = .ok (.getfield 37, 3) := by decide +kernel
theorem dX0_shift_31 : decode mX0_shift.2.1 31 = .ok (.iload_n 1, 1) := by decide +kernel
theorem dX0_shift_32 : decode mX0_shift.2.1 32 = .ok (.invokevirtual 59, 3) := by decide +kernel
theorem dX0_shift_35 : decode mX0_shift.2.1 35 = .ok (.iload_n 2, 1) := by decide +kernel
theorem dX0_shift_36 : decode mX0_shift.2.1 36 = .ok (.iload 4, 2) := by decide +kernel
theorem dX0_shift_38 : decode mX0_shift.2.1 38 = .ok (.iload 5, 2) := by decide +kernel
theorem dX0_shift_40 : decode mX0_shift.2.1 40 = .ok (.invokevirtual 107, 3) := by decide +kernel
theorem dX0_shift_43 : decode mX0_shift.2.1 43 = .ok (.goto 13, 3) := by decide +kernel
theorem dX0_shift_46 : decode mX0_shift.2.1 46 = .ok (.aload_n 0, 1) := by decide +kernel
theorem dX0_shift_47 : decode mX0_shift.2.1 47 = .ok (.iload_n 1, 1) := by decide +kernel
theorem dX0_shift_48 : decode mX0_shift.2.1 48 = .ok (.iload_n 2, 1) := by decide +kernel
theorem dX0_shift_49 : decode mX0_shift.2.1 49 = .ok (.iload 4, 2) := by decide +kernel
theorem dX0_shift_51 : decode mX0_shift.2.1 51 = .ok (.iload 5, 2) := by decide +kernel
theorem dX0_shift_53 : decode mX0_shift.2.1 53 = .ok (.invokevirtual 111, 3) := by decide +kernel
theorem dX0_shift_56 : decode mX0_shift.2.1 56 = .ok (.return_, 1) := by decide +kernel
theorem dX0_shiftUp_0 : decode mX0_shiftUp.2.1 0 = .ok (.iconst 0, 1) := by decide +kernel
theorem dX0_shiftUp_1 : decode mX0_shiftUp.2.1 1 = .ok (.istore 5, 2) := by decide +kernel
theorem dX0_shiftUp_3 : decode mX0_shiftUp.2.1 3 = .ok (.iload 5, 2) := by decide +kernel
theorem dX0_shiftUp_5 : decode mX0_shiftUp.2.1 5 = .ok (.aload_n 0, 1) := by decide +kernel
theorem dX0_shiftUp_6 : decode mX0_shiftUp.2.1 6 = .ok (.getfield 37, 3) := by decide +kernel
theorem dX0_shiftUp_9 : decode mX0_shiftUp.2.1 9 = .ok (.getfield 97, 3) := by decide +kernel
theorem dX0_shiftUp_12 : decode mX0_shiftUp.2.1 12 = .ok (.if_icmp .ge 63, 3) := by decide +kernel
theorem dX0_shiftUp_15 : decode mX0_shiftUp.2.1 15 = .ok (.aload_n 0, 1) := by decide +kernel
theorem dX0_shiftUp_16 : decode mX0_shiftUp.2.1 16 = .ok (.getfield 37, 3) := by decide +kernel
theorem dX0_shiftUp_19 : decode mX0_shiftUp.2.1 19 = .ok (.iload 5, 2) := by decide +kernel
theorem dX0_shiftUp_21 : decode mX0_shiftUp.2.1 21 = .ok (.invokevirtual 59, 3) := by decide +kernel
theorem dX0_shiftUp_24 : decode mX0_shiftUp.2.1 24 = .ok (.iload_n 1, 1) := by decide +kernel
theorem dX0_shiftUp_25 : decode mX0_shiftUp.2.1 25 = .ok (.if_icmp .ne 44, 3) := by decide +kernel
theorem dX0_shiftUp_28 : decode mX0_shiftUp.2.1 28 = .ok (.aload_n 0, 1) := by decide +kernel
theorem dX0_shiftUp_29 : decode mX0_shiftUp.2.1 29 = .ok (.getfield 37, 3) := by decide +kernel
theorem dX0_shiftUp_32 : decode mX0_shiftUp.2.1 32 = .ok (.iload 5, 2) := by decide +kernel
theorem dX0_shiftUp_34 : decode mX0_shiftUp.2.1 34 = .ok (.iload_n 2, 1) := by decide +kernel
theorem dX0_shiftUp_35 : decode mX0_shiftUp.2.1 35 = .ok (.invokevirtual 49, 3) := by decide +kernel
theorem dX0_shiftUp_38 : decode mX0_shiftUp.2.1 38 = .ok (.iload_n 3, 1) := by decide +kernel
theorem dX0_shiftUp_39 : decode mX0_shiftUp.2.1 39 = .ok (.if_icmp .ne 30, 3) := by decide +kernel
theorem dX0_shiftUp_42 : decode mX0_shiftUp.2.1 42 = .ok (.aload_n 0, 1) := by decide +kernel
theorem dX0_shiftUp_43 : decode mX0_shiftUp.2.1 43 = .ok (.getfield 37, 3) := by decide +kernel
theorem dX0_shiftUp_46 : decode mX0_shiftUp.2.1 46 = .ok (.iload 5, 2) := by decide +kernel
theorem dX0_shiftUp_48 : decode mX0_shiftUp.2.1 48 = .ok (.iload_n 2, 1) := by decide +kernel
theorem dX0_shiftUp_49 : decode mX0_shiftUp.2.1 49 = .ok (.invokevirtual 104, 3) := by decide +kernel
theorem dX0_shiftUp_52 : decode mX0_shiftUp.2.1 52 = .ok (.iload 4, 2) := by decide +kernel
theorem dX0_shiftUp_54 : decode mX0_shiftUp.2.1 54 = .ok (.if_icmp .ne 15, 3) := by decide +kernel
theorem dX0_shiftUp_57 : decode mX0_shiftUp.2.1 57 = .ok (.aload_n 0, 1) := by decide +kernel
theorem dX0_shiftUp_58 : decode mX0_shiftUp.2.1 58 = .ok (.getfield 37, 3) := by decide +kernel
theorem dX0_shiftUp_61 : decode mX0_shiftUp.2.1 61 = .ok (.iload 5, 2) := by decide +kernel
theorem dX0_shiftUp_63 : decode mX0_shiftUp.2.1 63 = .ok (.iload_n 2, 1) := by decide +kernel
theorem dX0_shiftUp_64 : decode mX0_shiftUp.2.1 64 = .ok (.iconst (-1), 1) := by decide +kernel
theorem dX0_shiftUp_65 : decode mX0_shiftUp.2.1 65 = .ok (.iconst 0, 1) := by decide +kernel
theorem dX0_shiftUp_66 : decode mX0_shiftUp.2.1 66 = .ok (.invokevirtual 114, 3) := by decide +kernel
theorem dX0_shiftUp_69 : decode mX0_shiftUp.2.1 69 = .ok (.iinc 5 1, 3) := by decide +kernel
theorem dX0_shiftUp_72 : decode mX0_shiftUp.2.1 72 = .ok (.goto (-69), 3) := by decide +kernel
theorem dX0_shiftUp_75 : decode mX0_shiftUp.2.1 75 = .ok (.aload_n 0, 1) := by decide +kernel
theorem dX0_shiftUp_76 : decode mX0_shiftUp.2.1 76 = .ok (.getfield 37, 3) := by decide +kernel
theorem dX0_shiftUp_79 : decode mX0_shiftUp.2.1 79 = .ok (.iload_n 1, 1) := by decide +kernel
theorem dX0_shiftUp_80 : decode mX0_shiftUp.2.1 80 = .ok (.iload_n 2, 1) := by decide +kernel
theorem dX0_shiftUp_81 : decode mX0_shiftUp.2.1 81 = .ok (.iload_n 3, 1) := by decide +kernel
theorem dX0_shiftUp_82 : decode mX0_shiftUp.2.1 82 = .ok (.iload 4, 2) := by decide +kernel
theorem dX0_shiftUp_84 : decode mX0_shiftUp.2.1 84 = .ok (.invokevirtual 114, 3) := by decide +kernel
theorem dX0_shiftUp_87 : decode mX0_shiftUp.2.1 87 = .ok (.return_, 1) := by decide +kernel
theorem dX0_shiftDown_0 : decode mX0_shiftDown.2.1 0 = .ok (.iconst 0, 1) := by decide +kernel
theorem dX0_shiftDown_1 : decode mX0_shiftDown.2.1 1 = .ok (.istore 5, 2) := by decide +kernel
theorem dX0_shiftDown_3 : decode mX0_shiftDown.2.1 3 = .ok (.iload 5, 2) := by decide +kernel
theorem dX0_shiftDown_5 : decode mX0_shiftDown.2.1 5 = .ok (.aload_n 0, 1) := by decide +kernel
theorem dX0_shiftDown_6 : decode mX0_shiftDown.2.1 6 = .ok (.getfield 37, 3) := by decide +kernel
theorem dX0_shiftDown_9 : decode mX0_shiftDown.2.1 9 = .ok (.getfield 97, 3) := by decide +kernel
theorem dX0_shiftDown_12 : decode mX0_shiftDown.2.1 12 = .ok (.if_icmp .ge 49, 3) := by decide +kernel
theorem dX0_shiftDown_15 : decode mX0_shiftDown.2.1 15 = .ok (.aload_n 0, 1) := by decide +kernel
theorem dX0_shiftDown_16 : decode mX0_shiftDown.2.1 16 = .ok (.getfield 37, 3) := by decide +kernel
theorem dX0_shiftDown_19 : decode mX0_shiftDown.2.1 19 = .ok (.iload 5, 2) := by decide +kernel
theorem dX0_shiftDown_21 : decode mX0_shiftDown.2.1 21 = .ok (.invokevirtual 59, 3) := by decide +kernel
theorem dX0_shiftDown_24 : decode mX0_shiftDown.2.1 24 = .ok (.iload_n 1, 1) := by decide +kernel
theorem dX0_shiftDown_25 : decode mX0_shiftDown.2.1 25 = .ok (.if_icmp .ne 30, 3) := by decide +kernel
theorem dX0_shiftDown_28 : decode mX0_shiftDown.2.1 28 = .ok (.aload_n 0, 1) := by decide +kernel
theorem dX0_shiftDown_29 : decode mX0_shiftDown.2.1 29 = .ok (.getfield 37, 3) := by decide +kernel
theorem dX0_shiftDown_32 : decode mX0_shiftDown.2.1 32 = .ok (.iload 5, 2) := by decide +kernel
theorem dX0_shiftDown_34 : decode mX0_shiftDown.2.1 34 = .ok (.iload_n 2, 1) := by decide +kernel
theorem dX0_shiftDown_35 : decode mX0_shiftDown.2.1 35 = .ok (.invokevirtual 49, 3) := by decide +kernel
theorem dX0_shiftDown_38 : decode mX0_shiftDown.2.1 38 = .ok (.iconst (-1), 1) := by decide +kernel
theorem dX0_shiftDown_39 : decode mX0_shiftDown.2.1 39 = .ok (.if_icmp .ne 16, 3) := by decide +kernel
theorem dX0_shiftDown_42 : decode mX0_shiftDown.2.1 42 = .ok (.aload_n 0, 1) := by decide +kernel
theorem dX0_shiftDown_43 : decode mX0_shiftDown.2.1 43 = .ok (.getfield 37, 3) := by decide +kernel
theorem dX0_shiftDown_46 : decode mX0_shiftDown.2.1 46 = .ok (.iload 5, 2) := by decide +kernel
theorem dX0_shiftDown_48 : decode mX0_shiftDown.2.1 48 = .ok (.iload_n 2, 1) := by decide +kernel
theorem dX0_shiftDown_49 : decode mX0_shiftDown.2.1 49 = .ok (.iload_n 3, 1) := by decide +kernel
theorem dX0_shiftDown_50 : decode mX0_shiftDown.2.1 50 = .ok (.iload 4, 2) := by decide +kernel
theorem dX0_shiftDown_52 : decode mX0_shiftDown.2.1 52 = .ok (.invokevirtual 114, 3) := by decide +kernel
theorem dX0_shiftDown_55 : decode mX0_shiftDown.2.1 55 = .ok (.iinc 5 1, 3) := by decide +kernel
theorem dX0_shiftDown_58 : decode mX0_shiftDown.2.1 58 = .ok (.goto (-55), 3) := by decide +kernel
theorem dX0_shiftDown_61 : decode mX0_shiftDown.2.1 61 = .ok (.aload_n 0, 1) := by decide +kernel
theorem dX0_shiftDown_62 : decode mX0_shiftDown.2.1 62 = .ok (.getfield 37, 3) := by decide +kernel
theorem dX0_shiftDown_65 : decode mX0_shiftDown.2.1 65 = .ok (.iload_n 1, 1) := by decide +kernel
theorem dX0_shiftDown_66 : decode mX0_shiftDown.2.1 66 = .ok (.iload_n 2, 1) := by decide +kernel
theorem dX0_shiftDown_67 : decode mX0_shiftDown.2.1 67 = .ok (.iconst (-1), 1) := by decide +kernel
theorem dX0_shiftDown_68 : decode mX0_shiftDown.2.1 68 = .ok (.iconst 0, 1) := by decide +kernel
theorem dX0_shiftDown_69 : decode mX0_shiftDown.2.1 69 = .ok (.invokevirtual 114, 3) := by decide +kernel
theorem dX0_shiftDown_72 : decode mX0_shiftDown.2.1 72 = .ok (.return_, 1) := by decide +kernel
theorem dX0_firstChange_0 : decode mX0_firstChange.2.1 0 = .ok (.iconst 0, 1) := by decide +kernel
theorem dX0_firstChange_1 : decode mX0_firstChange.2.1 1 = .ok (.istore_n 1, 1) := by decide +kernel
theorem dX0_firstChange_2 : decode mX0_firstChange.2.1 2 = .ok (.iload_n 1, 1) := by decide +kernel
theorem dX0_firstChange_3 : decode mX0_firstChange.2.1 3 = .ok (.aload_n 0, 1) := by decide +kernel
theorem dX0_firstChange_4 : decode mX0_firstChange.2.1 4 = .ok (.getfield 37, 3) := by decide +kernel
theorem dX0_firstChange_7 : decode mX0_firstChange.2.1 7 = .ok (.getfield 97, 3) := by decide +kernel
theorem dX0_firstChange_10 : decode mX0_firstChange.2.1 10 = .ok (.if_icmp .ge 78, 3) := by decide +kernel
theorem dX0_firstChange_13 : decode mX0_firstChange.2.1 13 = .ok (.iconst 0, 1) := by decide +kernel
theorem dX0_firstChange_14 : decode mX0_firstChange.2.1 14 = .ok (.istore_n 2, 1) := by decide +kernel
theorem dX0_firstChange_15 : decode mX0_firstChange.2.1 15 = .ok (.iload_n 2, 1) := by decide +kernel
theorem dX0_firstChange_16 : decode mX0_firstChange.2.1 16 = .ok (.bipush 6, 2) := by decide +kernel
theorem dX0_firstChange_18 : decode mX0_firstChange.2.1 18 = .ok (.if_icmp .ge 64, 3) := by decide +kernel
theorem dX0_firstChange_21 : decode mX0_firstChange.2.1 21 = .ok (.aload_n 0, 1) := by decide +kernel
theorem dX0_firstChange_22 : decode mX0_firstChange.2.1 22 = .ok (.getfield 37, 3) := by decide +kernel
theorem dX0_firstChange_25 : decode mX0_firstChange.2.1 25 = .ok (.iload_n 1, 1) := by decide +kernel
theorem dX0_firstChange_26 : decode mX0_firstChange.2.1 26 = .ok (.invokevirtual 117, 3) := by decide +kernel
theorem dX0_firstChange_29 : decode mX0_firstChange.2.1 29 = .ok (.ifCond .ne 53, 3) := by decide +kernel
theorem dX0_firstChange_32 : decode mX0_firstChange.2.1 32 = .ok (.aload_n 0, 1) := by decide +kernel
theorem dX0_firstChange_33 : decode mX0_firstChange.2.1 33 = .ok (.getfield 45, 3) := by decide +kernel
theorem dX0_firstChange_36 : decode mX0_firstChange.2.1 36 = .ok (.iload_n 1, 1) := by decide +kernel
theorem dX0_firstChange_37 : decode mX0_firstChange.2.1 37 = .ok (.iload_n 2, 1) := by decide +kernel
theorem dX0_firstChange_38 : decode mX0_firstChange.2.1 38 = .ok (.invokevirtual 121, 3) := by decide +kernel
theorem dX0_firstChange_41 : decode mX0_firstChange.2.1 41 = .ok (.iconst (-1), 1) := by decide +kernel
theorem dX0_firstChange_42 : decode mX0_firstChange.2.1 42 = .ok (.if_icmp .ne 6, 3) := by decide +kernel
theorem dX0_firstChange_45 : decode mX0_firstChange.2.1 45 = .ok (.goto 31, 3) := by decide +kernel
theorem dX0_firstChange_48 : decode mX0_firstChange.2.1 48 = .ok (.aload_n 0, 1) := by decide +kernel
theorem dX0_firstChange_49 : decode mX0_firstChange.2.1 49 = .ok (.getfield 41, 3) := by decide +kernel
theorem dX0_firstChange_52 : decode mX0_firstChange.2.1 52 = .ok (.iload_n 1, 1) := by decide +kernel
theorem dX0_firstChange_53 : decode mX0_firstChange.2.1 53 = .ok (.iload_n 2, 1) := by decide +kernel
theorem dX0_firstChange_54 : decode mX0_firstChange.2.1 54 = .ok (.invokevirtual 124, 3) := by decide +kernel
theorem dX0_firstChange_57 : decode mX0_firstChange.2.1 57 = .ok (.aload_n 0, 1) := by decide +kernel
theorem dX0_firstChange_58 : decode mX0_firstChange.2.1 58 = .ok (.getfield 45, 3) := by decide +kernel
theorem dX0_firstChange_61 : decode mX0_firstChange.2.1 61 = .ok (.iload_n 1, 1) := by decide +kernel
theorem dX0_firstChange_62 : decode mX0_firstChange.2.1 62 = .ok (.iload_n 2, 1) := by decide +kernel
theorem dX0_firstChange_63 : decode mX0_firstChange.2.1 63 = .ok (.invokevirtual 129, 3) := by decide +kernel
theorem dX0_firstChange_66 : decode mX0_firstChange.2.1 66 = .ok (.ifCond .ne 10, 3) := by decide +kernel
theorem dX0_firstChange_69 : decode mX0_firstChange.2.1 69 = .ok (.bipush 6, 2) := by decide +kernel
theorem dX0_firstChange_71 : decode mX0_firstChange.2.1 71 = .ok (.iload_n 1, 1) := by decide +kernel
theorem dX0_firstChange_72 : decode mX0_firstChange.2.1 72 = .ok (.imul, 1) := by decide +kernel
theorem dX0_firstChange_73 : decode mX0_firstChange.2.1 73 = .ok (.iload_n 2, 1) := by decide +kernel
theorem dX0_firstChange_74 : decode mX0_firstChange.2.1 74 = .ok (.iadd, 1) := by decide +kernel
theorem dX0_firstChange_75 : decode mX0_firstChange.2.1 75 = .ok (.ireturn, 1) := by decide +kernel
theorem dX0_firstChange_76 : decode mX0_firstChange.2.1 76 = .ok (.iinc 2 1, 3) := by decide +kernel
theorem dX0_firstChange_79 : decode mX0_firstChange.2.1 79 = .ok (.goto (-64), 3) := by decide +kernel
theorem dX0_firstChange_82 : decode mX0_firstChange.2.1 82 = .ok (.iinc 1 1, 3) := by decide +kernel
theorem dX0_firstChange_85 : decode mX0_firstChange.2.1 85 = .ok (.goto (-83), 3) := by decide +kernel
theorem dX0_firstChange_88 : decode mX0_firstChange.2.1 88 = .ok (.iconst (-1), 1) := by decide +kernel
theorem dX0_firstChange_89 : decode mX0_firstChange.2.1 89 = .ok (.ireturn, 1) := by decide +kernel
theorem dX0_save_0 : decode mX0_save.2.1 0 = .ok (.iload_n 1, 1) := by decide +kernel
theorem dX0_save_1 : decode mX0_save.2.1 1 = .ok (.ifCond .lt 9, 3) := by decide +kernel
theorem dX0_save_4 : decode mX0_save.2.1 4 = .ok (.iload_n 1, 1) := by decide +kernel
theorem dX0_save_5 : decode mX0_save.2.1 5 = .ok (.bipush 21, 2) := by decide +kernel
theorem dX0_save_7 : decode mX0_save.2.1 7 = .ok (.if_icmp .lt 4, 3) := by decide +kernel
theorem dX0_save_10 : decode mX0_save.2.1 10 = .ok (.return_, 1) := by decide +kernel
theorem dX0_save_11 : decode mX0_save.2.1 11 = .ok (.aload_n 0, 1) := by decide +kernel
theorem dX0_save_12 : decode mX0_save.2.1 12 = .ok (.getfield 18, 3) := by decide +kernel
theorem dX0_save_15 : decode mX0_save.2.1 15 = .ok (.iload_n 1, 1) := by decide +kernel
theorem dX0_save_16 : decode mX0_save.2.1 16 = .ok (.iload_n 2, 1) := by decide +kernel
theorem dX0_save_17 : decode mX0_save.2.1 17 = .ok (.iastore, 1) := by decide +kernel
theorem dX0_save_18 : decode mX0_save.2.1 18 = .ok (.aload_n 0, 1) := by decide +kernel
theorem dX0_save_19 : decode mX0_save.2.1 19 = .ok (.getfield 15, 3) := by decide +kernel
theorem dX0_save_22 : decode mX0_save.2.1 22 = .ok (.iload_n 1, 1) := by decide +kernel
theorem dX0_save_23 : decode mX0_save.2.1 23 = .ok (.iconst 0, 1) := by decide +kernel
theorem dX0_save_24 : decode mX0_save.2.1 24 = .ok (.iastore, 1) := by decide +kernel
theorem dX0_save_25 : decode mX0_save.2.1 25 = .ok (.iconst 0, 1) := by decide +kernel
theorem dX0_save_26 : decode mX0_save.2.1 26 = .ok (.istore_n 3, 1) := by decide +kernel
theorem dX0_save_27 : decode mX0_save.2.1 27 = .ok (.iload_n 3, 1) := by decide +kernel
theorem dX0_save_28 : decode mX0_save.2.1 28 = .ok (.bipush 8, 2) := by decide +kernel
theorem dX0_save_30 : decode mX0_save.2.1 30 = .ok (.if_icmp .ge 53, 3) := by decide +kernel
theorem dX0_save_33 : decode mX0_save.2.1 33 = .ok (.aload_n 0, 1) := by decide +kernel
theorem dX0_save_34 : decode mX0_save.2.1 34 = .ok (.getfield 11, 3) := by decide +kernel
theorem dX0_save_37 : decode mX0_save.2.1 37 = .ok (.iload_n 1, 1) := by decide +kernel
theorem dX0_save_38 : decode mX0_save.2.1 38 = .ok (.bipush 8, 2) := by decide +kernel
theorem dX0_save_40 : decode mX0_save.2.1 40 = .ok (.imul, 1) := by decide +kernel
theorem dX0_save_41 : decode mX0_save.2.1 41 = .ok (.iload_n 3, 1) := by decide +kernel
theorem dX0_save_42 : decode mX0_save.2.1 42 = .ok (.iadd, 1) := by decide +kernel
theorem dX0_save_43 : decode mX0_save.2.1 43 = .ok (.aload_n 0, 1) := by decide +kernel
theorem dX0_save_44 : decode mX0_save.2.1 44 = .ok (.getfield 37, 3) := by decide +kernel
theorem dX0_save_47 : decode mX0_save.2.1 47 = .ok (.iload_n 3, 1) := by decide +kernel
theorem dX0_save_48 : decode mX0_save.2.1 48 = .ok (.iload_n 2, 1) := by decide +kernel
theorem dX0_save_49 : decode mX0_save.2.1 49 = .ok (.invokevirtual 49, 3) := by decide +kernel
theorem dX0_save_52 : decode mX0_save.2.1 52 = .ok (.iastore, 1) := by decide +kernel
theorem dX0_save_53 : decode mX0_save.2.1 53 = .ok (.aload_n 0, 1) := by decide +kernel
theorem dX0_save_54 : decode mX0_save.2.1 54 = .ok (.getfield 37, 3) := by decide +kernel
theorem dX0_save_57 : decode mX0_save.2.1 57 = .ok (.iload_n 3, 1) := by decide +kernel
theorem dX0_save_58 : decode mX0_save.2.1 58 = .ok (.iload_n 2, 1) := by decide +kernel
theorem dX0_save_59 : decode mX0_save.2.1 59 = .ok (.invokevirtual 104, 3) := by decide +kernel
theorem dX0_save_62 : decode mX0_save.2.1 62 = .ok (.ifCond .eq 15, 3) := by decide +kernel
theorem dX0_save_65 : decode mX0_save.2.1 65 = .ok (.aload_n 0, 1) := by decide +kernel
theorem dX0_save_66 : decode mX0_save.2.1 66 = .ok (.getfield 15, 3) := by decide +kernel
theorem dX0_save_69 : decode mX0_save.2.1 69 = .ok (.iload_n 1, 1) := by decide +kernel
theorem dX0_save_70 : decode mX0_save.2.1 70 = .ok (.dup2, 1) := by decide +kernel
theorem dX0_save_71 : decode mX0_save.2.1 71 = .ok (.iaload, 1) := by decide +kernel
theorem dX0_save_72 : decode mX0_save.2.1 72 = .ok (.iconst 1, 1) := by decide +kernel
theorem dX0_save_73 : decode mX0_save.2.1 73 = .ok (.iload_n 3, 1) := by decide +kernel
theorem dX0_save_74 : decode mX0_save.2.1 74 = .ok (.ishl, 1) := by decide +kernel
theorem dX0_save_75 : decode mX0_save.2.1 75 = .ok (.ior, 1) := by decide +kernel
theorem dX0_save_76 : decode mX0_save.2.1 76 = .ok (.iastore, 1) := by decide +kernel
theorem dX0_save_77 : decode mX0_save.2.1 77 = .ok (.iinc 3 1, 3) := by decide +kernel
theorem dX0_save_80 : decode mX0_save.2.1 80 = .ok (.goto (-53), 3) := by decide +kernel
theorem dX0_save_83 : decode mX0_save.2.1 83 = .ok (.return_, 1) := by decide +kernel
theorem dX0_restore_0 : decode mX0_restore.2.1 0 = .ok (.iload_n 1, 1) := by decide +kernel
theorem dX0_restore_1 : decode mX0_restore.2.1 1 = .ok (.ifCond .lt 9, 3) := by decide +kernel
theorem dX0_restore_4 : decode mX0_restore.2.1 4 = .ok (.iload_n 1, 1) := by decide +kernel
theorem dX0_restore_5 : decode mX0_restore.2.1 5 = .ok (.bipush 21, 2) := by decide +kernel
theorem dX0_restore_7 : decode mX0_restore.2.1 7 = .ok (.if_icmp .lt 4, 3) := by decide +kernel
theorem dX0_restore_10 : decode mX0_restore.2.1 10 = .ok (.return_, 1) := by decide +kernel
theorem dX0_restore_11 : decode mX0_restore.2.1 11 = .ok (.iconst 0, 1) := by decide +kernel
theorem dX0_restore_12 : decode mX0_restore.2.1 12 = .ok (.istore_n 2, 1) := by decide +kernel
theorem dX0_restore_13 : decode mX0_restore.2.1 13 = .ok (.iload_n 2, 1) := by decide +kernel
theorem dX0_restore_14 : decode mX0_restore.2.1 14 = .ok (.bipush 8, 2) := by decide +kernel
theorem dX0_restore_16 : decode mX0_restore.2.1 16 = .ok (.if_icmp .ge 54, 3) := by decide +kernel
theorem dX0_restore_19 : decode mX0_restore.2.1 19 = .ok (.aload_n 0, 1) := by decide +kernel
theorem dX0_restore_20 : decode mX0_restore.2.1 20 = .ok (.getfield 15, 3) := by decide +kernel
theorem dX0_restore_23 : decode mX0_restore.2.1 23 = .ok (.iload_n 1, 1) := by decide +kernel
theorem dX0_restore_24 : decode mX0_restore.2.1 24 = .ok (.iaload, 1) := by decide +kernel
theorem dX0_restore_25 : decode mX0_restore.2.1 25 = .ok (.iload_n 2, 1) := by decide +kernel
theorem dX0_restore_26 : decode mX0_restore.2.1 26 = .ok (.ishr, 1) := by decide +kernel
theorem dX0_restore_27 : decode mX0_restore.2.1 27 = .ok (.iconst 1, 1) := by decide +kernel
theorem dX0_restore_28 : decode mX0_restore.2.1 28 = .ok (.iand, 1) := by decide +kernel
theorem dX0_restore_29 : decode mX0_restore.2.1 29 = .ok (.ifCond .eq 7, 3) := by decide +kernel
theorem dX0_restore_32 : decode mX0_restore.2.1 32 = .ok (.iconst 1, 1) := by decide +kernel
theorem dX0_restore_33 : decode mX0_restore.2.1 33 = .ok (.goto 4, 3) := by decide +kernel
theorem dX0_restore_36 : decode mX0_restore.2.1 36 = .ok (.iconst 0, 1) := by decide +kernel
theorem dX0_restore_37 : decode mX0_restore.2.1 37 = .ok (.istore_n 3, 1) := by decide +kernel
theorem dX0_restore_38 : decode mX0_restore.2.1 38 = .ok (.aload_n 0, 1) := by decide +kernel
theorem dX0_restore_39 : decode mX0_restore.2.1 39 = .ok (.getfield 37, 3) := by decide +kernel
theorem dX0_restore_42 : decode mX0_restore.2.1 42 = .ok (.iload_n 2, 1) := by decide +kernel
theorem dX0_restore_43 : decode mX0_restore.2.1 43 = .ok (.aload_n 0, 1) := by decide +kernel
theorem dX0_restore_44 : decode mX0_restore.2.1 44 = .ok (.getfield 18, 3) := by decide +kernel
theorem dX0_restore_47 : decode mX0_restore.2.1 47 = .ok (.iload_n 1, 1) := by decide +kernel
theorem dX0_restore_48 : decode mX0_restore.2.1 48 = .ok (.iaload, 1) := by decide +kernel
theorem dX0_restore_49 : decode mX0_restore.2.1 49 = .ok (.aload_n 0, 1) := by decide +kernel
theorem dX0_restore_50 : decode mX0_restore.2.1 50 = .ok (.getfield 11, 3) := by decide +kernel
theorem dX0_restore_53 : decode mX0_restore.2.1 53 = .ok (.iload_n 1, 1) := by decide +kernel
theorem dX0_restore_54 : decode mX0_restore.2.1 54 = .ok (.bipush 8, 2) := by decide +kernel
theorem dX0_restore_56 : decode mX0_restore.2.1 56 = .ok (.imul, 1) := by decide +kernel
theorem dX0_restore_57 : decode mX0_restore.2.1 57 = .ok (.iload_n 2, 1) := by decide +kernel
theorem dX0_restore_58 : decode mX0_restore.2.1 58 = .ok (.iadd, 1) := by decide +kernel
theorem dX0_restore_59 : decode mX0_restore.2.1 59 = .ok (.iaload, 1) := by decide +kernel
theorem dX0_restore_60 : decode mX0_restore.2.1 60 = .ok (.iload_n 3, 1) := by decide +kernel
theorem dX0_restore_61 : decode mX0_restore.2.1 61 = .ok (.invokevirtual 114, 3) := by decide +kernel
theorem dX0_restore_64 : decode mX0_restore.2.1 64 = .ok (.iinc 2 1, 3) := by decide +kernel
theorem dX0_restore_67 : decode mX0_restore.2.1 67 = .ok (.goto (-54), 3) := by decide +kernel
theorem dX0_restore_70 : decode mX0_restore.2.1 70 = .ok (.return_, 1) := by decide +kernel
theorem dX3_refresh_0 : decode mX3_refresh.2.1 0 = .ok (.aload_n 0, 1) := by decide +kernel
theorem dX3_refresh_1 : decode mX3_refresh.2.1 1 = .ok (.getfield 21, 3) := by decide +kernel
theorem dX3_refresh_4 : decode mX3_refresh.2.1 4 = .ok (.aload_n 0, 1) := by decide +kernel
theorem dX3_refresh_5 : decode mX3_refresh.2.1 5 = .ok (.getfield 25, 3) := by decide +kernel
theorem dX3_refresh_8 : decode mX3_refresh.2.1 8 = .ok (.getfield 33, 3) := by decide +kernel
theorem dX3_refresh_11 : decode mX3_refresh.2.1 11 = .ok (.if_icmp .ne 4, 3) := by decide +kernel
theorem dX3_refresh_14 : decode mX3_refresh.2.1 14 = .ok (.return_, 1) := by decide +kernel
theorem dX3_refresh_15 : decode mX3_refresh.2.1 15 = .ok (.aload_n 0, 1) := by decide +kernel
theorem dX3_refresh_16 : decode mX3_refresh.2.1 16 = .ok (.aload_n 0, 1) := by decide +kernel
theorem dX3_refresh_17 : decode mX3_refresh.2.1 17 = .ok (.getfield 25, 3) := by decide +kernel
theorem dX3_refresh_20 : decode mX3_refresh.2.1 20 = .ok (.getfield 33, 3) := by decide +kernel
theorem dX3_refresh_23 : decode mX3_refresh.2.1 23 = .ok (.putfield 21, 3) := by decide +kernel
theorem dX3_refresh_26 : decode mX3_refresh.2.1 26 = .ok (.aload_n 0, 1) := by decide +kernel
theorem dX3_refresh_27 : decode mX3_refresh.2.1 27 = .ok (.lconst 0, 1) := by decide +kernel
theorem dX3_refresh_28 : decode mX3_refresh.2.1 28 = .ok (.putfield 36, 3) := by decide +kernel
theorem dX3_refresh_31 : decode mX3_refresh.2.1 31 = .ok (.aload_n 0, 1) := by decide +kernel
theorem dX3_refresh_32 : decode mX3_refresh.2.1 32 = .ok (.iconst 0, 1) := by decide +kernel
theorem dX3_refresh_33 : decode mX3_refresh.2.1 33 = .ok (.putfield 40, 3) := by decide +kernel
theorem dX3_refresh_36 : decode mX3_refresh.2.1 36 = .ok (.iconst 0, 1) := by decide +kernel
theorem dX3_refresh_37 : decode mX3_refresh.2.1 37 = .ok (.istore_n 1, 1) := by decide +kernel
theorem dX3_refresh_38 : decode mX3_refresh.2.1 38 = .ok (.iload_n 1, 1) := by decide +kernel
theorem dX3_refresh_39 : decode mX3_refresh.2.1 39 = .ok (.aload_n 0, 1) := by decide +kernel
theorem dX3_refresh_40 : decode mX3_refresh.2.1 40 = .ok (.getfield 25, 3) := by decide +kernel
theorem dX3_refresh_43 : decode mX3_refresh.2.1 43 = .ok (.getfield 43, 3) := by decide +kernel
theorem dX3_refresh_46 : decode mX3_refresh.2.1 46 = .ok (.if_icmp .ge 53, 3) := by decide +kernel
theorem dX3_refresh_49 : decode mX3_refresh.2.1 49 = .ok (.iconst 0, 1) := by decide +kernel
theorem dX3_refresh_50 : decode mX3_refresh.2.1 50 = .ok (.istore_n 2, 1) := by decide +kernel
theorem dX3_refresh_51 : decode mX3_refresh.2.1 51 = .ok (.iload_n 2, 1) := by decide +kernel
theorem dX3_refresh_52 : decode mX3_refresh.2.1 52 = .ok (.bipush 6, 2) := by decide +kernel
theorem dX3_refresh_54 : decode mX3_refresh.2.1 54 = .ok (.if_icmp .ge 39, 3) := by decide +kernel
theorem dX3_refresh_57 : decode mX3_refresh.2.1 57 = .ok (.aload_n 0, 1) := by decide +kernel
theorem dX3_refresh_58 : decode mX3_refresh.2.1 58 = .ok (.getfield 29, 3) := by decide +kernel
theorem dX3_refresh_61 : decode mX3_refresh.2.1 61 = .ok (.iload_n 1, 1) := by decide +kernel
theorem dX3_refresh_62 : decode mX3_refresh.2.1 62 = .ok (.iload_n 2, 1) := by decide +kernel
theorem dX3_refresh_63 : decode mX3_refresh.2.1 63 = .ok (.invokevirtual 46, 3) := by decide +kernel
theorem dX3_refresh_66 : decode mX3_refresh.2.1 66 = .ok (.aload_n 0, 1) := by decide +kernel
theorem dX3_refresh_67 : decode mX3_refresh.2.1 67 = .ok (.iload_n 1, 1) := by decide +kernel
theorem dX3_refresh_68 : decode mX3_refresh.2.1 68 = .ok (.iload_n 2, 1) := by decide +kernel
theorem dX3_refresh_69 : decode mX3_refresh.2.1 69 = .ok (.invokevirtual 52, 3) := by decide +kernel
theorem dX3_refresh_72 : decode mX3_refresh.2.1 72 = .ok (.aload_n 0, 1) := by decide +kernel
theorem dX3_refresh_73 : decode mX3_refresh.2.1 73 = .ok (.getfield 25, 3) := by decide +kernel
theorem dX3_refresh_76 : decode mX3_refresh.2.1 76 = .ok (.iload_n 1, 1) := by decide +kernel
theorem dX3_refresh_77 : decode mX3_refresh.2.1 77 = .ok (.invokevirtual 55, 3) := by decide +kernel
theorem dX3_refresh_80 : decode mX3_refresh.2.1 80 = .ok (.ifCond .ne 7, 3) := by decide +kernel
theorem dX3_refresh_83 : decode mX3_refresh.2.1 83 = .ok (.aload_n 0, 1) := by decide +kernel
theorem dX3_refresh_84 : decode mX3_refresh.2.1 84 = .ok (.invokevirtual 59, 3) := by decide +kernel
theorem dX3_refresh_87 : decode mX3_refresh.2.1 87 = .ok (.iinc 2 1, 3) := by decide +kernel
theorem dX3_refresh_90 : decode mX3_refresh.2.1 90 = .ok (.goto (-39), 3) := by decide +kernel
theorem dX3_refresh_93 : decode mX3_refresh.2.1 93 = .ok (.iinc 1 1, 3) := by decide +kernel
theorem dX3_refresh_96 : decode mX3_refresh.2.1 96 = .ok (.goto (-58), 3) := by decide +kernel
theorem dX3_refresh_99 : decode mX3_refresh.2.1 99 = .ok (.return_, 1) := by decide +kernel
theorem dX3_store_0 : decode mX3_store.2.1 0 = .ok (.iload_n 1, 1) := by decide +kernel
theorem dX3_store_1 : decode mX3_store.2.1 1 = .ok (.iload_n 2, 1) := by decide +kernel
theorem dX3_store_2 : decode mX3_store.2.1 2 = .ok (.invokestatic 62, 3) := by decide +kernel
theorem dX3_store_5 : decode mX3_store.2.1 5 = .ok (.istore_n 3, 1) := by decide +kernel
theorem dX3_store_6 : decode mX3_store.2.1 6 = .ok (.iload_n 3, 1) := by decide +kernel
theorem dX3_store_7 : decode mX3_store.2.1 7 = .ok (.iconst (-1), 1) := by decide +kernel
theorem dX3_store_8 : decode mX3_store.2.1 8 = .ok (.if_icmp .ne 4, 3) := by decide +kernel
theorem dX3_store_11 : decode mX3_store.2.1 11 = .ok (.return_, 1) := by decide +kernel
theorem dX3_store_12 : decode mX3_store.2.1 12 = .ok (.aload_n 0, 1) := by decide +kernel
theorem dX3_store_13 : decode mX3_store.2.1 13 = .ok (.getfield 15, 3) := by decide +kernel
theorem dX3_store_16 : decode mX3_store.2.1 16 = .ok (.iload_n 3, 1) := by decide +kernel
theorem dX3_store_17 : decode mX3_store.2.1 17 = .ok (.aload_n 0, 1) := by decide +kernel
theorem dX3_store_18 : decode mX3_store.2.1 18 = .ok (.getfield 29, 3) := by decide +kernel
theorem dX3_store_21 : decode mX3_store.2.1 21 = .ok (.getfield 66, 3) := by decide +kernel
theorem dX3_store_24 : decode mX3_store.2.1 24 = .ok (.iastore, 1) := by decide +kernel
theorem dX3_store_25 : decode mX3_store.2.1 25 = .ok (.aload_n 0, 1) := by decide +kernel
theorem dX3_store_26 : decode mX3_store.2.1 26 = .ok (.getfield 18, 3) := by decide +kernel
theorem dX3_store_29 : decode mX3_store.2.1 29 = .ok (.iload_n 3, 1) := by decide +kernel
theorem dX3_store_30 : decode mX3_store.2.1 30 = .ok (.aload_n 0, 1) := by decide +kernel
theorem dX3_store_31 : decode mX3_store.2.1 31 = .ok (.getfield 29, 3) := by decide +kernel
theorem dX3_store_34 : decode mX3_store.2.1 34 = .ok (.getfield 69, 3) := by decide +kernel
theorem dX3_store_37 : decode mX3_store.2.1 37 = .ok (.iastore, 1) := by decide +kernel
theorem dX3_store_38 : decode mX3_store.2.1 38 = .ok (.iconst 0, 1) := by decide +kernel
theorem dX3_store_39 : decode mX3_store.2.1 39 = .ok (.istore 4, 2) := by decide +kernel
theorem dX3_store_41 : decode mX3_store.2.1 41 = .ok (.iload 4, 2) := by decide +kernel
theorem dX3_store_43 : decode mX3_store.2.1 43 = .ok (.aload_n 0, 1) := by decide +kernel
theorem dX3_store_44 : decode mX3_store.2.1 44 = .ok (.getfield 29, 3) := by decide +kernel
theorem dX3_store_47 : decode mX3_store.2.1 47 = .ok (.getfield 66, 3) := by decide +kernel
theorem dX3_store_50 : decode mX3_store.2.1 50 = .ok (.if_icmp .ge 37, 3) := by decide +kernel
theorem dX3_store_53 : decode mX3_store.2.1 53 = .ok (.iload 4, 2) := by decide +kernel
theorem dX3_store_55 : decode mX3_store.2.1 55 = .ok (.bipush 60, 2) := by decide +kernel
theorem dX3_store_57 : decode mX3_store.2.1 57 = .ok (.if_icmp .ge 30, 3) := by decide +kernel
theorem dX3_store_60 : decode mX3_store.2.1 60 = .ok (.aload_n 0, 1) := by decide +kernel
theorem dX3_store_61 : decode mX3_store.2.1 61 = .ok (.getfield 9, 3) := by decide +kernel
theorem dX3_store_64 : decode mX3_store.2.1 64 = .ok (.iload_n 3, 1) := by decide +kernel
theorem dX3_store_65 : decode mX3_store.2.1 65 = .ok (.bipush 60, 2) := by decide +kernel
theorem dX3_store_67 : decode mX3_store.2.1 67 = .ok (.imul, 1) := by decide +kernel
theorem dX3_store_68 : decode mX3_store.2.1 68 = .ok (.iload 4, 2) := by decide +kernel
theorem dX3_store_70 : decode mX3_store.2.1 70 = .ok (.iadd, 1) := by decide +kernel
theorem dX3_store_71 : decode mX3_store.2.1 71 = .ok (.aload_n 0, 1) := by decide +kernel
theorem dX3_store_72 : decode mX3_store.2.1 72 = .ok (.getfield 29, 3) := by decide +kernel
theorem dX3_store_75 : decode mX3_store.2.1 75 = .ok (.iload 4, 2) := by decide +kernel
theorem dX3_store_77 : decode mX3_store.2.1 77 = .ok (.invokevirtual 72, 3) := by decide +kernel
theorem dX3_store_80 : decode mX3_store.2.1 80 = .ok (.iastore, 1) := by decide +kernel
theorem dX3_store_81 : decode mX3_store.2.1 81 = .ok (.iinc 4 1, 3) := by decide +kernel
theorem dX3_store_84 : decode mX3_store.2.1 84 = .ok (.goto (-43), 3) := by decide +kernel
theorem dX3_store_87 : decode mX3_store.2.1 87 = .ok (.return_, 1) := by decide +kernel
theorem dX3_addUp_0 : decode mX3_addUp.2.1 0 = .ok (.iconst 0, 1) := by decide +kernel
theorem dX3_addUp_1 : decode mX3_addUp.2.1 1 = .ok (.istore_n 1, 1) := by decide +kernel
theorem dX3_addUp_2 : decode mX3_addUp.2.1 2 = .ok (.iload_n 1, 1) := by decide +kernel
theorem dX3_addUp_3 : decode mX3_addUp.2.1 3 = .ok (.aload_n 0, 1) := by decide +kernel
theorem dX3_addUp_4 : decode mX3_addUp.2.1 4 = .ok (.getfield 29, 3) := by decide +kernel
theorem dX3_addUp_7 : decode mX3_addUp.2.1 7 = .ok (.getfield 66, 3) := by decide +kernel
theorem dX3_addUp_10 : decode mX3_addUp.2.1 10 = .ok (.if_icmp .ge 58, 3) := by decide +kernel
theorem dX3_addUp_13 : decode mX3_addUp.2.1 13 = .ok (.aload_n 0, 1) := by decide +kernel
theorem dX3_addUp_14 : decode mX3_addUp.2.1 14 = .ok (.getfield 29, 3) := by decide +kernel
theorem dX3_addUp_17 : decode mX3_addUp.2.1 17 = .ok (.iload_n 1, 1) := by decide +kernel
theorem dX3_addUp_18 : decode mX3_addUp.2.1 18 = .ok (.invokevirtual 72, 3) := by decide +kernel
theorem dX3_addUp_21 : decode mX3_addUp.2.1 21 = .ok (.istore_n 2, 1) := by decide +kernel
theorem dX3_addUp_22 : decode mX3_addUp.2.1 22 = .ok (.iload_n 2, 1) := by decide +kernel
theorem dX3_addUp_23 : decode mX3_addUp.2.1 23 = .ok (.iconst 4, 1) := by decide +kernel
theorem dX3_addUp_24 : decode mX3_addUp.2.1 24 = .ok (.irem, 1) := by decide +kernel
theorem dX3_addUp_25 : decode mX3_addUp.2.1 25 = .ok (.ifCond .ne 20, 3) := by decide +kernel
theorem dX3_addUp_28 : decode mX3_addUp.2.1 28 = .ok (.aload_n 0, 1) := by decide +kernel
theorem dX3_addUp_29 : decode mX3_addUp.2.1 29 = .ok (.dup, 1) := by decide +kernel
theorem dX3_addUp_30 : decode mX3_addUp.2.1 30 = .ok (.getfield 36, 3) := by decide +kernel
theorem dX3_addUp_33 : decode mX3_addUp.2.1 33 = .ok (.lconst 1, 1) := by decide +kernel
theorem dX3_addUp_34 : decode mX3_addUp.2.1 34 = .ok (.iload_n 2, 1) := by decide +kernel
theorem dX3_addUp_35 : decode mX3_addUp.2.1 35 = .ok (.iconst 4, 1) := by decide +kernel
theorem dX3_addUp_36 : decode mX3_addUp.2.1 36 = .ok (.idiv, 1) := by decide +kernel
theorem dX3_addUp_37 : decode mX3_addUp.2.1 37 = .ok (.lshl, 1) := by decide +kernel
theorem dX3_addUp_38 : decode mX3_addUp.2.1 38 = .ok (.lor, 1) := by decide +kernel
theorem dX3_addUp_39 : decode mX3_addUp.2.1 39 = .ok (.putfield 36, 3) := by decide +kernel
theorem dX3_addUp_42 : decode mX3_addUp.2.1 42 = .ok (.goto 20, 3) := by decide +kernel
theorem dX3_addUp_45 : decode mX3_addUp.2.1 45 = .ok (.iload_n 2, 1) := by decide +kernel
theorem dX3_addUp_46 : decode mX3_addUp.2.1 46 = .ok (.iconst 4, 1) := by decide +kernel
theorem dX3_addUp_47 : decode mX3_addUp.2.1 47 = .ok (.irem, 1) := by decide +kernel
theorem dX3_addUp_48 : decode mX3_addUp.2.1 48 = .ok (.iconst 3, 1) := by decide +kernel
theorem dX3_addUp_49 : decode mX3_addUp.2.1 49 = .ok (.if_icmp .ne 13, 3) := by decide +kernel
theorem dX3_addUp_52 : decode mX3_addUp.2.1 52 = .ok (.aload_n 0, 1) := by decide +kernel
theorem dX3_addUp_53 : decode mX3_addUp.2.1 53 = .ok (.dup, 1) := by decide +kernel
theorem dX3_addUp_54 : decode mX3_addUp.2.1 54 = .ok (.getfield 40, 3) := by decide +kernel
theorem dX3_addUp_57 : decode mX3_addUp.2.1 57 = .ok (.iconst 1, 1) := by decide +kernel
theorem dX3_addUp_58 : decode mX3_addUp.2.1 58 = .ok (.iadd, 1) := by decide +kernel
theorem dX3_addUp_59 : decode mX3_addUp.2.1 59 = .ok (.putfield 40, 3) := by decide +kernel
theorem dX3_addUp_62 : decode mX3_addUp.2.1 62 = .ok (.iinc 1 1, 3) := by decide +kernel
theorem dX3_addUp_65 : decode mX3_addUp.2.1 65 = .ok (.goto (-63), 3) := by decide +kernel
theorem dX3_addUp_68 : decode mX3_addUp.2.1 68 = .ok (.return_, 1) := by decide +kernel
theorem dX3_rowOf_0 : decode mX3_rowOf.2.1 0 = .ok (.iload_n 0, 1) := by decide +kernel
theorem dX3_rowOf_1 : decode mX3_rowOf.2.1 1 = .ok (.ifCond .lt 28, 3) := by decide +kernel
theorem dX3_rowOf_4 : decode mX3_rowOf.2.1 4 = .ok (.iload_n 0, 1) := by decide +kernel
theorem dX3_rowOf_5 : decode mX3_rowOf.2.1 5 = .ok (.bipush 8, 2) := by decide +kernel
theorem dX3_rowOf_7 : decode mX3_rowOf.2.1 7 = .ok (.if_icmp .ge 22, 3) := by decide +kernel
theorem dX3_rowOf_10 : decode mX3_rowOf.2.1 10 = .ok (.iload_n 1, 1) := by decide +kernel
theorem dX3_rowOf_11 : decode mX3_rowOf.2.1 11 = .ok (.ifCond .lt 18, 3) := by decide +kernel
theorem dX3_rowOf_14 : decode mX3_rowOf.2.1 14 = .ok (.iload_n 1, 1) := by decide +kernel
theorem dX3_rowOf_15 : decode mX3_rowOf.2.1 15 = .ok (.bipush 6, 2) := by decide +kernel
theorem dX3_rowOf_17 : decode mX3_rowOf.2.1 17 = .ok (.if_icmp .ge 12, 3) := by decide +kernel
theorem dX3_rowOf_20 : decode mX3_rowOf.2.1 20 = .ok (.iload_n 0, 1) := by decide +kernel
theorem dX3_rowOf_21 : decode mX3_rowOf.2.1 21 = .ok (.bipush 6, 2) := by decide +kernel
theorem dX3_rowOf_23 : decode mX3_rowOf.2.1 23 = .ok (.imul, 1) := by decide +kernel
theorem dX3_rowOf_24 : decode mX3_rowOf.2.1 24 = .ok (.iload_n 1, 1) := by decide +kernel
theorem dX3_rowOf_25 : decode mX3_rowOf.2.1 25 = .ok (.iadd, 1) := by decide +kernel
theorem dX3_rowOf_26 : decode mX3_rowOf.2.1 26 = .ok (.goto 4, 3) := by decide +kernel
theorem dX3_rowOf_29 : decode mX3_rowOf.2.1 29 = .ok (.iconst (-1), 1) := by decide +kernel
theorem dX3_rowOf_30 : decode mX3_rowOf.2.1 30 = .ok (.ireturn, 1) := by decide +kernel
theorem dX3_sizeOf_0 : decode mX3_sizeOf.2.1 0 = .ok (.iload_n 1, 1) := by decide +kernel
theorem dX3_sizeOf_1 : decode mX3_sizeOf.2.1 1 = .ok (.iload_n 2, 1) := by decide +kernel
theorem dX3_sizeOf_2 : decode mX3_sizeOf.2.1 2 = .ok (.invokestatic 62, 3) := by decide +kernel
theorem dX3_sizeOf_5 : decode mX3_sizeOf.2.1 5 = .ok (.istore_n 3, 1) := by decide +kernel
theorem dX3_sizeOf_6 : decode mX3_sizeOf.2.1 6 = .ok (.iload_n 3, 1) := by decide +kernel
theorem dX3_sizeOf_7 : decode mX3_sizeOf.2.1 7 = .ok (.iconst (-1), 1) := by decide +kernel
theorem dX3_sizeOf_8 : decode mX3_sizeOf.2.1 8 = .ok (.if_icmp .ne 7, 3) := by decide +kernel
theorem dX3_sizeOf_11 : decode mX3_sizeOf.2.1 11 = .ok (.iconst (-1), 1) := by decide +kernel
theorem dX3_sizeOf_12 : decode mX3_sizeOf.2.1 12 = .ok (.goto 9, 3) := by decide +kernel
theorem dX3_sizeOf_15 : decode mX3_sizeOf.2.1 15 = .ok (.aload_n 0, 1) := by decide +kernel
theorem dX3_sizeOf_16 : decode mX3_sizeOf.2.1 16 = .ok (.getfield 15, 3) := by decide +kernel
theorem dX3_sizeOf_19 : decode mX3_sizeOf.2.1 19 = .ok (.iload_n 3, 1) := by decide +kernel
theorem dX3_sizeOf_20 : decode mX3_sizeOf.2.1 20 = .ok (.iaload, 1) := by decide +kernel
theorem dX3_sizeOf_21 : decode mX3_sizeOf.2.1 21 = .ok (.ireturn, 1) := by decide +kernel
theorem dX3_depthOf_0 : decode mX3_depthOf.2.1 0 = .ok (.iload_n 1, 1) := by decide +kernel
theorem dX3_depthOf_1 : decode mX3_depthOf.2.1 1 = .ok (.iload_n 2, 1) := by decide +kernel
theorem dX3_depthOf_2 : decode mX3_depthOf.2.1 2 = .ok (.invokestatic 62, 3) := by decide +kernel
theorem dX3_depthOf_5 : decode mX3_depthOf.2.1 5 = .ok (.istore_n 3, 1) := by decide +kernel
theorem dX3_depthOf_6 : decode mX3_depthOf.2.1 6 = .ok (.iload_n 3, 1) := by decide +kernel
theorem dX3_depthOf_7 : decode mX3_depthOf.2.1 7 = .ok (.iconst (-1), 1) := by decide +kernel
theorem dX3_depthOf_8 : decode mX3_depthOf.2.1 8 = .ok (.if_icmp .ne 7, 3) := by decide +kernel
theorem dX3_depthOf_11 : decode mX3_depthOf.2.1 11 = .ok (.iconst (-1), 1) := by decide +kernel
theorem dX3_depthOf_12 : decode mX3_depthOf.2.1 12 = .ok (.goto 9, 3) := by decide +kernel
theorem dX3_depthOf_15 : decode mX3_depthOf.2.1 15 = .ok (.aload_n 0, 1) := by decide +kernel
theorem dX3_depthOf_16 : decode mX3_depthOf.2.1 16 = .ok (.getfield 18, 3) := by decide +kernel
theorem dX3_depthOf_19 : decode mX3_depthOf.2.1 19 = .ok (.iload_n 3, 1) := by decide +kernel
theorem dX3_depthOf_20 : decode mX3_depthOf.2.1 20 = .ok (.iaload, 1) := by decide +kernel
theorem dX3_depthOf_21 : decode mX3_depthOf.2.1 21 = .ok (.ireturn, 1) := by decide +kernel
theorem dX3_eventAt_0 : decode mX3_eventAt.2.1 0 = .ok (.iload_n 1, 1) := by decide +kernel
theorem dX3_eventAt_1 : decode mX3_eventAt.2.1 1 = .ok (.iload_n 2, 1) := by decide +kernel
theorem dX3_eventAt_2 : decode mX3_eventAt.2.1 2 = .ok (.invokestatic 62, 3) := by decide +kernel
theorem dX3_eventAt_5 : decode mX3_eventAt.2.1 5 = .ok (.istore 4, 2) := by decide +kernel
theorem dX3_eventAt_7 : decode mX3_eventAt.2.1 7 = .ok (.iload 4, 2) := by decide +kernel
theorem dX3_eventAt_9 : decode mX3_eventAt.2.1 9 = .ok (.iconst (-1), 1) := by decide +kernel
theorem dX3_eventAt_10 : decode mX3_eventAt.2.1 10 = .ok (.if_icmp .eq 13, 3) := by decide +kernel
theorem dX3_eventAt_13 : decode mX3_eventAt.2.1 13 = .ok (.iload_n 3, 1) := by decide +kernel
theorem dX3_eventAt_14 : decode mX3_eventAt.2.1 14 = .ok (.ifCond .lt 9, 3) := by decide +kernel
theorem dX3_eventAt_17 : decode mX3_eventAt.2.1 17 = .ok (.iload_n 3, 1) := by decide +kernel
theorem dX3_eventAt_18 : decode mX3_eventAt.2.1 18 = .ok (.bipush 60, 2) := by decide +kernel
theorem dX3_eventAt_20 : decode mX3_eventAt.2.1 20 = .ok (.if_icmp .lt 7, 3) := by decide +kernel
theorem dX3_eventAt_23 : decode mX3_eventAt.2.1 23 = .ok (.iconst (-1), 1) := by decide +kernel
theorem dX3_eventAt_24 : decode mX3_eventAt.2.1 24 = .ok (.goto 15, 3) := by decide +kernel
theorem dX3_eventAt_27 : decode mX3_eventAt.2.1 27 = .ok (.aload_n 0, 1) := by decide +kernel
theorem dX3_eventAt_28 : decode mX3_eventAt.2.1 28 = .ok (.getfield 9, 3) := by decide +kernel
theorem dX3_eventAt_31 : decode mX3_eventAt.2.1 31 = .ok (.iload 4, 2) := by decide +kernel
theorem dX3_eventAt_33 : decode mX3_eventAt.2.1 33 = .ok (.bipush 60, 2) := by decide +kernel
theorem dX3_eventAt_35 : decode mX3_eventAt.2.1 35 = .ok (.imul, 1) := by decide +kernel
theorem dX3_eventAt_36 : decode mX3_eventAt.2.1 36 = .ok (.iload_n 3, 1) := by decide +kernel
theorem dX3_eventAt_37 : decode mX3_eventAt.2.1 37 = .ok (.iadd, 1) := by decide +kernel
theorem dX3_eventAt_38 : decode mX3_eventAt.2.1 38 = .ok (.iaload, 1) := by decide +kernel
theorem dX3_eventAt_39 : decode mX3_eventAt.2.1 39 = .ok (.ireturn, 1) := by decide +kernel
theorem dX3_isReached_0 : decode mX3_isReached.2.1 0 = .ok (.iload_n 1, 1) := by decide +kernel
theorem dX3_isReached_1 : decode mX3_isReached.2.1 1 = .ok (.ifCond .lt 26, 3) := by decide +kernel
theorem dX3_isReached_4 : decode mX3_isReached.2.1 4 = .ok (.iload_n 1, 1) := by decide +kernel
theorem dX3_isReached_5 : decode mX3_isReached.2.1 5 = .ok (.bipush 40, 2) := by decide +kernel
theorem dX3_isReached_7 : decode mX3_isReached.2.1 7 = .ok (.if_icmp .ge 20, 3) := by decide +kernel
theorem dX3_isReached_10 : decode mX3_isReached.2.1 10 = .ok (.aload_n 0, 1) := by decide +kernel
theorem dX3_isReached_11 : decode mX3_isReached.2.1 11 = .ok (.getfield 36, 3) := by decide +kernel
theorem dX3_isReached_14 : decode mX3_isReached.2.1 14 = .ok (.iload_n 1, 1) := by decide +kernel
theorem dX3_isReached_15 : decode mX3_isReached.2.1 15 = .ok (.lshr, 1) := by decide +kernel
theorem dX3_isReached_16 : decode mX3_isReached.2.1 16 = .ok (.lconst 1, 1) := by decide +kernel
theorem dX3_isReached_17 : decode mX3_isReached.2.1 17 = .ok (.land, 1) := by decide +kernel
theorem dX3_isReached_18 : decode mX3_isReached.2.1 18 = .ok (.lconst 0, 1) := by decide +kernel
theorem dX3_isReached_19 : decode mX3_isReached.2.1 19 = .ok (.lcmp, 1) := by decide +kernel
theorem dX3_isReached_20 : decode mX3_isReached.2.1 20 = .ok (.ifCond .eq 7, 3) := by decide +kernel
theorem dX3_isReached_23 : decode mX3_isReached.2.1 23 = .ok (.iconst 1, 1) := by decide +kernel
theorem dX3_isReached_24 : decode mX3_isReached.2.1 24 = .ok (.goto 4, 3) := by decide +kernel
theorem dX3_isReached_27 : decode mX3_isReached.2.1 27 = .ok (.iconst 0, 1) := by decide +kernel
theorem dX3_isReached_28 : decode mX3_isReached.2.1 28 = .ok (.ireturn, 1) := by decide +kernel
theorem dX3_reachedCount_0 : decode mX3_reachedCount.2.1 0 = .ok (.aload_n 0, 1) := by decide +kernel
theorem dX3_reachedCount_1 : decode mX3_reachedCount.2.1 1 = .ok (.getfield 36, 3) := by decide +kernel
theorem dX3_reachedCount_4 : decode mX3_reachedCount.2.1 4 = .ok (.invokestatic 76, 3) := by decide +kernel
theorem dX3_reachedCount_7 : decode mX3_reachedCount.2.1 7 = .ok (.ireturn, 1) := by decide +kernel
theorem dX3_isAsTraced_0 : decode mX3_isAsTraced.2.1 0 = .ok (.aload_n 0, 1) := by decide +kernel
theorem dX3_isAsTraced_1 : decode mX3_isAsTraced.2.1 1 = .ok (.getfield 29, 3) := by decide +kernel
theorem dX3_isAsTraced_4 : decode mX3_isAsTraced.2.1 4 = .ok (.getfield 66, 3) := by decide +kernel
theorem dX3_isAsTraced_7 : decode mX3_isAsTraced.2.1 7 = .ok (.aload_n 0, 1) := by decide +kernel
theorem dX3_isAsTraced_8 : decode mX3_isAsTraced.2.1 8 = .ok (.iload_n 1, 1) := by decide +kernel
theorem dX3_isAsTraced_9 : decode mX3_isAsTraced.2.1 9 = .ok (.iload_n 2, 1) := by decide +kernel
theorem dX3_isAsTraced_10 : decode mX3_isAsTraced.2.1 10 = .ok (.invokevirtual 82, 3) := by decide +kernel
theorem dX3_isAsTraced_13 : decode mX3_isAsTraced.2.1 13 = .ok (.if_icmp .eq 5, 3) := by decide +kernel
theorem dX3_isAsTraced_16 : decode mX3_isAsTraced.2.1 16 = .ok (.iconst 0, 1) := by decide +kernel
theorem dX3_isAsTraced_17 : decode mX3_isAsTraced.2.1 17 = .ok (.ireturn, 1) := by decide +kernel
theorem dX3_isAsTraced_18 : decode mX3_isAsTraced.2.1 18 = .ok (.iconst 0, 1) := by decide +kernel
theorem dX3_isAsTraced_19 : decode mX3_isAsTraced.2.1 19 = .ok (.istore_n 3, 1) := by decide +kernel
theorem dX3_isAsTraced_20 : decode mX3_isAsTraced.2.1 20 = .ok (.iload_n 3, 1) := by decide +kernel
theorem dX3_isAsTraced_21 : decode mX3_isAsTraced.2.1 21 = .ok (.aload_n 0, 1) := by decide +kernel
theorem dX3_isAsTraced_22 : decode mX3_isAsTraced.2.1 22 = .ok (.getfield 29, 3) := by decide +kernel
theorem dX3_isAsTraced_25 : decode mX3_isAsTraced.2.1 25 = .ok (.getfield 66, 3) := by decide +kernel
theorem dX3_isAsTraced_28 : decode mX3_isAsTraced.2.1 28 = .ok (.if_icmp .ge 29, 3) := by decide +kernel
theorem dX3_isAsTraced_31 : decode mX3_isAsTraced.2.1 31 = .ok (.aload_n 0, 1) := by decide +kernel
theorem dX3_isAsTraced_32 : decode mX3_isAsTraced.2.1 32 = .ok (.getfield 29, 3) := by decide +kernel
theorem dX3_isAsTraced_35 : decode mX3_isAsTraced.2.1 35 = .ok (.iload_n 3, 1) := by decide +kernel
theorem dX3_isAsTraced_36 : decode mX3_isAsTraced.2.1 36 = .ok (.invokevirtual 72, 3) := by decide +kernel
theorem dX3_isAsTraced_39 : decode mX3_isAsTraced.2.1 39 = .ok (.aload_n 0, 1) := by decide +kernel
theorem dX3_isAsTraced_40 : decode mX3_isAsTraced.2.1 40 = .ok (.iload_n 1, 1) := by decide +kernel
theorem dX3_isAsTraced_41 : decode mX3_isAsTraced.2.1 41 = .ok (.iload_n 2, 1) := by decide +kernel
theorem dX3_isAsTraced_42 : decode mX3_isAsTraced.2.1 42 = .ok (.iload_n 3, 1) := by decide +kernel
theorem dX3_isAsTraced_43 : decode mX3_isAsTraced.2.1 43 = .ok (.invokevirtual 85, 3) := by decide +kernel
theorem dX3_isAsTraced_46 : decode mX3_isAsTraced.2.1 46 = .ok (.if_icmp .eq 5, 3) := by decide +kernel
theorem dX3_isAsTraced_49 : decode mX3_isAsTraced.2.1 49 = .ok (.iconst 0, 1) := by decide +kernel
theorem dX3_isAsTraced_50 : decode mX3_isAsTraced.2.1 50 = .ok (.ireturn, 1) := by decide +kernel
theorem dX3_isAsTraced_51 : decode mX3_isAsTraced.2.1 51 = .ok (.iinc 3 1, 3) := by decide +kernel
theorem dX3_isAsTraced_54 : decode mX3_isAsTraced.2.1 54 = .ok (.goto (-34), 3) := by decide +kernel
theorem dX3_isAsTraced_57 : decode mX3_isAsTraced.2.1 57 = .ok (.iconst 1, 1) := by decide +kernel
theorem dX3_isAsTraced_58 : decode mX3_isAsTraced.2.1 58 = .ok (.ireturn, 1) := by decide +kernel
theorem dX4_run_0 : decode mX4_run.2.1 0 = .ok (.aload_n 0, 1) := by decide +kernel
theorem dX4_run_1 : decode mX4_run.2.1 1 = .ok (.iconst 0, 1) := by decide +kernel
theorem dX4_run_2 : decode mX4_run.2.1 2 = .ok (.putfield 28, 3) := by decide +kernel
theorem dX4_run_5 : decode mX4_run.2.1 5 = .ok (.aload_n 0, 1) := by decide +kernel
theorem dX4_run_6 : decode mX4_run.2.1 6 = .ok (.lconst 0, 1) := by decide +kernel
theorem dX4_run_7 : decode mX4_run.2.1 7 = .ok (.putfield 32, 3) := by decide +kernel
theorem dX4_run_10 : decode mX4_run.2.1 10 = .ok (.aload_n 0, 1) := by decide +kernel
theorem dX4_run_11 : decode mX4_run.2.1 11 = .ok (.iconst (-1), 1) := by decide +kernel
theorem dX4_run_12 : decode mX4_run.2.1 12 = .ok (.putfield 36, 3) := by decide +kernel
theorem dX4_run_15 : decode mX4_run.2.1 15 = .ok (.aload_n 0, 1) := by decide +kernel
theorem dX4_run_16 : decode mX4_run.2.1 16 = .ok (.iconst (-1), 1) := by decide +kernel
theorem dX4_run_17 : decode mX4_run.2.1 17 = .ok (.putfield 39, 3) := by decide +kernel
theorem dX4_run_20 : decode mX4_run.2.1 20 = .ok (.aload_n 0, 1) := by decide +kernel
theorem dX4_run_21 : decode mX4_run.2.1 21 = .ok (.getfield 24, 3) := by decide +kernel
theorem dX4_run_24 : decode mX4_run.2.1 24 = .ok (.iload_n 1, 1) := by decide +kernel
theorem dX4_run_25 : decode mX4_run.2.1 25 = .ok (.iload_n 2, 1) := by decide +kernel
theorem dX4_run_26 : decode mX4_run.2.1 26 = .ok (.invokevirtual 42, 3) := by decide +kernel
theorem dX4_run_29 : decode mX4_run.2.1 29 = .ok (.istore_n 3, 1) := by decide +kernel
theorem dX4_run_30 : decode mX4_run.2.1 30 = .ok (.iload_n 3, 1) := by decide +kernel
theorem dX4_run_31 : decode mX4_run.2.1 31 = .ok (.iconst (-1), 1) := by decide +kernel
theorem dX4_run_32 : decode mX4_run.2.1 32 = .ok (.if_icmp .ne 4, 3) := by decide +kernel
theorem dX4_run_35 : decode mX4_run.2.1 35 = .ok (.return_, 1) := by decide +kernel
theorem dX4_run_36 : decode mX4_run.2.1 36 = .ok (.aload_n 0, 1) := by decide +kernel
theorem dX4_run_37 : decode mX4_run.2.1 37 = .ok (.iconst 0, 1) := by decide +kernel
theorem dX4_run_38 : decode mX4_run.2.1 38 = .ok (.putfield 36, 3) := by decide +kernel
theorem dX4_run_41 : decode mX4_run.2.1 41 = .ok (.aload_n 0, 1) := by decide +kernel
theorem dX4_run_42 : decode mX4_run.2.1 42 = .ok (.iload_n 3, 1) := by decide +kernel
theorem dX4_run_43 : decode mX4_run.2.1 43 = .ok (.iload_n 2, 1) := by decide +kernel
theorem dX4_run_44 : decode mX4_run.2.1 44 = .ok (.invokevirtual 48, 3) := by decide +kernel
theorem dX4_run_47 : decode mX4_run.2.1 47 = .ok (.iconst 0, 1) := by decide +kernel
theorem dX4_run_48 : decode mX4_run.2.1 48 = .ok (.istore 4, 2) := by decide +kernel
theorem dX4_run_50 : decode mX4_run.2.1 50 = .ok (.iload 4, 2) := by decide +kernel
theorem dX4_run_52 : decode mX4_run.2.1 52 = .ok (.bipush 120, 2) := by decide +kernel
theorem dX4_run_54 : decode mX4_run.2.1 54 = .ok (.if_icmp .ge 83, 3) := by decide +kernel
theorem dX4_run_57 : decode mX4_run.2.1 57 = .ok (.aload_n 0, 1) := by decide +kernel
theorem dX4_run_58 : decode mX4_run.2.1 58 = .ok (.getfield 28, 3) := by decide +kernel
theorem dX4_run_61 : decode mX4_run.2.1 61 = .ok (.ifCond .le 76, 3) := by decide +kernel
theorem dX4_run_64 : decode mX4_run.2.1 64 = .ok (.aload_n 0, 1) := by decide +kernel
theorem dX4_run_65 : decode mX4_run.2.1 65 = .ok (.getfield 36, 3) := by decide +kernel
theorem dX4_run_68 : decode mX4_run.2.1 68 = .ok (.bipush 60, 2) := by decide +kernel
theorem dX4_run_70 : decode mX4_run.2.1 70 = .ok (.if_icmp .ge 67, 3) := by decide +kernel
theorem dX4_run_73 : decode mX4_run.2.1 73 = .ok (.aload_n 0, 1) := by decide +kernel
theorem dX4_run_74 : decode mX4_run.2.1 74 = .ok (.invokevirtual 52, 3) := by decide +kernel
theorem dX4_run_77 : decode mX4_run.2.1 77 = .ok (.istore 5, 2) := by decide +kernel
theorem dX4_run_79 : decode mX4_run.2.1 79 = .ok (.iload 5, 2) := by decide +kernel
theorem dX4_run_81 : decode mX4_run.2.1 81 = .ok (.iconst (-1), 1) := by decide +kernel
theorem dX4_run_82 : decode mX4_run.2.1 82 = .ok (.if_icmp .ne 10, 3) := by decide +kernel
theorem dX4_run_85 : decode mX4_run.2.1 85 = .ok (.aload_n 0, 1) := by decide +kernel
theorem dX4_run_86 : decode mX4_run.2.1 86 = .ok (.invokevirtual 56, 3) := by decide +kernel
theorem dX4_run_89 : decode mX4_run.2.1 89 = .ok (.goto 42, 3) := by decide +kernel
theorem dX4_run_92 : decode mX4_run.2.1 92 = .ok (.iload 5, 2) := by decide +kernel
theorem dX4_run_94 : decode mX4_run.2.1 94 = .ok (.bipush 6, 2) := by decide +kernel
theorem dX4_run_96 : decode mX4_run.2.1 96 = .ok (.if_icmp .lt 19, 3) := by decide +kernel
theorem dX4_run_99 : decode mX4_run.2.1 99 = .ok (.iload 5, 2) := by decide +kernel
theorem dX4_run_101 : decode mX4_run.2.1 101 = .ok (.bipush 12, 2) := by decide +kernel
theorem dX4_run_103 : decode mX4_run.2.1 103 = .ok (.if_icmp .ge 12, 3) := by decide +kernel
theorem dX4_run_106 : decode mX4_run.2.1 106 = .ok (.aload_n 0, 1) := by decide +kernel
theorem dX4_run_107 : decode mX4_run.2.1 107 = .ok (.iload 5, 2) := by decide +kernel
theorem dX4_run_109 : decode mX4_run.2.1 109 = .ok (.invokevirtual 59, 3) := by decide +kernel
theorem dX4_run_112 : decode mX4_run.2.1 112 = .ok (.goto 19, 3) := by decide +kernel
theorem dX4_run_115 : decode mX4_run.2.1 115 = .ok (.aload_n 0, 1) := by decide +kernel
theorem dX4_run_116 : decode mX4_run.2.1 116 = .ok (.aload_n 0, 1) := by decide +kernel
theorem dX4_run_117 : decode mX4_run.2.1 117 = .ok (.iload_n 1, 1) := by decide +kernel
theorem dX4_run_118 : decode mX4_run.2.1 118 = .ok (.iload 5, 2) := by decide +kernel
theorem dX4_run_120 : decode mX4_run.2.1 120 = .ok (.invokevirtual 63, 3) := by decide +kernel
theorem dX4_run_123 : decode mX4_run.2.1 123 = .ok (.iload 5, 2) := by decide +kernel
theorem dX4_run_125 : decode mX4_run.2.1 125 = .ok (.bipush 20, 2) := by decide +kernel
theorem dX4_run_127 : decode mX4_run.2.1 127 = .ok (.irem, 1) := by decide +kernel
theorem dX4_run_128 : decode mX4_run.2.1 128 = .ok (.invokevirtual 48, 3) := by decide +kernel
theorem dX4_run_131 : decode mX4_run.2.1 131 = .ok (.iinc 4 1, 3) := by decide +kernel
theorem dX4_run_134 : decode mX4_run.2.1 134 = .ok (.goto (-84), 3) := by decide +kernel
theorem dX4_run_137 : decode mX4_run.2.1 137 = .ok (.return_, 1) := by decide +kernel
theorem dX4_nextItem_0 : decode mX4_nextItem.2.1 0 = .ok (.aload_n 0, 1) := by decide +kernel
theorem dX4_nextItem_1 : decode mX4_nextItem.2.1 1 = .ok (.getfield 28, 3) := by decide +kernel
theorem dX4_nextItem_4 : decode mX4_nextItem.2.1 4 = .ok (.iconst 1, 1) := by decide +kernel
theorem dX4_nextItem_5 : decode mX4_nextItem.2.1 5 = .ok (.isub, 1) := by decide +kernel
theorem dX4_nextItem_6 : decode mX4_nextItem.2.1 6 = .ok (.istore_n 1, 1) := by decide +kernel
theorem dX4_nextItem_7 : decode mX4_nextItem.2.1 7 = .ok (.iload_n 1, 1) := by decide +kernel
theorem dX4_nextItem_8 : decode mX4_nextItem.2.1 8 = .ok (.ifCond .lt 9, 3) := by decide +kernel
theorem dX4_nextItem_11 : decode mX4_nextItem.2.1 11 = .ok (.iload_n 1, 1) := by decide +kernel
theorem dX4_nextItem_12 : decode mX4_nextItem.2.1 12 = .ok (.bipush 40, 2) := by decide +kernel
theorem dX4_nextItem_14 : decode mX4_nextItem.2.1 14 = .ok (.if_icmp .lt 5, 3) := by decide +kernel
theorem dX4_nextItem_17 : decode mX4_nextItem.2.1 17 = .ok (.iconst (-1), 1) := by decide +kernel
theorem dX4_nextItem_18 : decode mX4_nextItem.2.1 18 = .ok (.ireturn, 1) := by decide +kernel
theorem dX4_nextItem_19 : decode mX4_nextItem.2.1 19 = .ok (.aload_n 0, 1) := by decide +kernel
theorem dX4_nextItem_20 : decode mX4_nextItem.2.1 20 = .ok (.getfield 24, 3) := by decide +kernel
theorem dX4_nextItem_23 : decode mX4_nextItem.2.1 23 = .ok (.aload_n 0, 1) := by decide +kernel
theorem dX4_nextItem_24 : decode mX4_nextItem.2.1 24 = .ok (.getfield 15, 3) := by decide +kernel
theorem dX4_nextItem_27 : decode mX4_nextItem.2.1 27 = .ok (.iload_n 1, 1) := by decide +kernel
theorem dX4_nextItem_28 : decode mX4_nextItem.2.1 28 = .ok (.iaload, 1) := by decide +kernel
theorem dX4_nextItem_29 : decode mX4_nextItem.2.1 29 = .ok (.aload_n 0, 1) := by decide +kernel
theorem dX4_nextItem_30 : decode mX4_nextItem.2.1 30 = .ok (.getfield 21, 3) := by decide +kernel
theorem dX4_nextItem_33 : decode mX4_nextItem.2.1 33 = .ok (.iload_n 1, 1) := by decide +kernel
theorem dX4_nextItem_34 : decode mX4_nextItem.2.1 34 = .ok (.iaload, 1) := by decide +kernel
theorem dX4_nextItem_35 : decode mX4_nextItem.2.1 35 = .ok (.invokevirtual 66, 3) := by decide +kernel
theorem dX4_nextItem_38 : decode mX4_nextItem.2.1 38 = .ok (.istore_n 2, 1) := by decide +kernel
theorem dX4_nextItem_39 : decode mX4_nextItem.2.1 39 = .ok (.aload_n 0, 1) := by decide +kernel
theorem dX4_nextItem_40 : decode mX4_nextItem.2.1 40 = .ok (.getfield 21, 3) := by decide +kernel
theorem dX4_nextItem_43 : decode mX4_nextItem.2.1 43 = .ok (.iload_n 1, 1) := by decide +kernel
theorem dX4_nextItem_44 : decode mX4_nextItem.2.1 44 = .ok (.dup2, 1) := by decide +kernel
theorem dX4_nextItem_45 : decode mX4_nextItem.2.1 45 = .ok (.iaload, 1) := by decide +kernel
theorem dX4_nextItem_46 : decode mX4_nextItem.2.1 46 = .ok (.iconst 1, 1) := by decide +kernel
theorem dX4_nextItem_47 : decode mX4_nextItem.2.1 47 = .ok (.iadd, 1) := by decide +kernel
theorem dX4_nextItem_48 : decode mX4_nextItem.2.1 48 = .ok (.iastore, 1) := by decide +kernel
theorem dX4_nextItem_49 : decode mX4_nextItem.2.1 49 = .ok (.iload_n 2, 1) := by decide +kernel
theorem dX4_nextItem_50 : decode mX4_nextItem.2.1 50 = .ok (.ireturn, 1) := by decide +kernel
theorem dX4_openHome_0 : decode mX4_openHome.2.1 0 = .ok (.aload_n 0, 1) := by decide +kernel
theorem dX4_openHome_1 : decode mX4_openHome.2.1 1 = .ok (.getfield 28, 3) := by decide +kernel
theorem dX4_openHome_4 : decode mX4_openHome.2.1 4 = .ok (.ifCond .le 26, 3) := by decide +kernel
theorem dX4_openHome_7 : decode mX4_openHome.2.1 7 = .ok (.aload_n 0, 1) := by decide +kernel
theorem dX4_openHome_8 : decode mX4_openHome.2.1 8 = .ok (.getfield 28, 3) := by decide +kernel
theorem dX4_openHome_11 : decode mX4_openHome.2.1 11 = .ok (.bipush 40, 2) := by decide +kernel
theorem dX4_openHome_13 : decode mX4_openHome.2.1 13 = .ok (.if_icmp .gt 17, 3) := by decide +kernel
theorem dX4_openHome_16 : decode mX4_openHome.2.1 16 = .ok (.aload_n 0, 1) := by decide +kernel
theorem dX4_openHome_17 : decode mX4_openHome.2.1 17 = .ok (.getfield 18, 3) := by decide +kernel
theorem dX4_openHome_20 : decode mX4_openHome.2.1 20 = .ok (.aload_n 0, 1) := by decide +kernel
theorem dX4_openHome_21 : decode mX4_openHome.2.1 21 = .ok (.getfield 28, 3) := by decide +kernel
theorem dX4_openHome_24 : decode mX4_openHome.2.1 24 = .ok (.iconst 1, 1) := by decide +kernel
theorem dX4_openHome_25 : decode mX4_openHome.2.1 25 = .ok (.isub, 1) := by decide +kernel
theorem dX4_openHome_26 : decode mX4_openHome.2.1 26 = .ok (.iaload, 1) := by decide +kernel
theorem dX4_openHome_27 : decode mX4_openHome.2.1 27 = .ok (.goto 4, 3) := by decide +kernel
theorem dX4_openHome_30 : decode mX4_openHome.2.1 30 = .ok (.iconst (-1), 1) := by decide +kernel
theorem dX4_openHome_31 : decode mX4_openHome.2.1 31 = .ok (.ireturn, 1) := by decide +kernel
theorem dX4_homeFor_0 : decode mX4_homeFor.2.1 0 = .ok (.aload_n 0, 1) := by decide +kernel
theorem dX4_homeFor_1 : decode mX4_homeFor.2.1 1 = .ok (.invokevirtual 69, 3) := by decide +kernel
theorem dX4_homeFor_4 : decode mX4_homeFor.2.1 4 = .ok (.istore_n 3, 1) := by decide +kernel
theorem dX4_homeFor_5 : decode mX4_homeFor.2.1 5 = .ok (.iload_n 2, 1) := by decide +kernel
theorem dX4_homeFor_6 : decode mX4_homeFor.2.1 6 = .ok (.bipush 20, 2) := by decide +kernel
theorem dX4_homeFor_8 : decode mX4_homeFor.2.1 8 = .ok (.if_icmp .lt 23, 3) := by decide +kernel
theorem dX4_homeFor_11 : decode mX4_homeFor.2.1 11 = .ok (.aload_n 0, 1) := by decide +kernel
theorem dX4_homeFor_12 : decode mX4_homeFor.2.1 12 = .ok (.getfield 24, 3) := by decide +kernel
theorem dX4_homeFor_15 : decode mX4_homeFor.2.1 15 = .ok (.aload_n 0, 1) := by decide +kernel
theorem dX4_homeFor_16 : decode mX4_homeFor.2.1 16 = .ok (.getfield 24, 3) := by decide +kernel
theorem dX4_homeFor_19 : decode mX4_homeFor.2.1 19 = .ok (.iload_n 3, 1) := by decide +kernel
theorem dX4_homeFor_20 : decode mX4_homeFor.2.1 20 = .ok (.invokevirtual 72, 3) := by decide +kernel
theorem dX4_homeFor_23 : decode mX4_homeFor.2.1 23 = .ok (.iload_n 2, 1) := by decide +kernel
theorem dX4_homeFor_24 : decode mX4_homeFor.2.1 24 = .ok (.bipush 20, 2) := by decide +kernel
theorem dX4_homeFor_26 : decode mX4_homeFor.2.1 26 = .ok (.isub, 1) := by decide +kernel
theorem dX4_homeFor_27 : decode mX4_homeFor.2.1 27 = .ok (.invokevirtual 42, 3) := by decide +kernel
theorem dX4_homeFor_30 : decode mX4_homeFor.2.1 30 = .ok (.ireturn, 1) := by decide +kernel
theorem dX4_homeFor_31 : decode mX4_homeFor.2.1 31 = .ok (.aload_n 0, 1) := by decide +kernel
theorem dX4_homeFor_32 : decode mX4_homeFor.2.1 32 = .ok (.getfield 24, 3) := by decide +kernel
theorem dX4_homeFor_35 : decode mX4_homeFor.2.1 35 = .ok (.iload_n 3, 1) := by decide +kernel
theorem dX4_homeFor_36 : decode mX4_homeFor.2.1 36 = .ok (.iload_n 2, 1) := by decide +kernel
theorem dX4_homeFor_37 : decode mX4_homeFor.2.1 37 = .ok (.invokevirtual 76, 3) := by decide +kernel
theorem dX4_homeFor_40 : decode mX4_homeFor.2.1 40 = .ok (.ifCond .eq 7, 3) := by decide +kernel
theorem dX4_homeFor_43 : decode mX4_homeFor.2.1 43 = .ok (.iload_n 3, 1) := by decide +kernel
theorem dX4_homeFor_44 : decode mX4_homeFor.2.1 44 = .ok (.goto 12, 3) := by decide +kernel
theorem dX4_homeFor_47 : decode mX4_homeFor.2.1 47 = .ok (.aload_n 0, 1) := by decide +kernel
theorem dX4_homeFor_48 : decode mX4_homeFor.2.1 48 = .ok (.getfield 24, 3) := by decide +kernel
theorem dX4_homeFor_51 : decode mX4_homeFor.2.1 51 = .ok (.iload_n 1, 1) := by decide +kernel
theorem dX4_homeFor_52 : decode mX4_homeFor.2.1 52 = .ok (.iload_n 2, 1) := by decide +kernel
theorem dX4_homeFor_53 : decode mX4_homeFor.2.1 53 = .ok (.invokevirtual 42, 3) := by decide +kernel
theorem dX4_homeFor_56 : decode mX4_homeFor.2.1 56 = .ok (.ireturn, 1) := by decide +kernel
theorem dX4_use_0 : decode mX4_use.2.1 0 = .ok (.aload_n 0, 1) := by decide +kernel
theorem dX4_use_1 : decode mX4_use.2.1 1 = .ok (.getfield 24, 3) := by decide +kernel
theorem dX4_use_4 : decode mX4_use.2.1 4 = .ok (.aload_n 0, 1) := by decide +kernel
theorem dX4_use_5 : decode mX4_use.2.1 5 = .ok (.getfield 24, 3) := by decide +kernel
theorem dX4_use_8 : decode mX4_use.2.1 8 = .ok (.aload_n 0, 1) := by decide +kernel
theorem dX4_use_9 : decode mX4_use.2.1 9 = .ok (.invokevirtual 69, 3) := by decide +kernel
theorem dX4_use_12 : decode mX4_use.2.1 12 = .ok (.iload_n 1, 1) := by decide +kernel
theorem dX4_use_13 : decode mX4_use.2.1 13 = .ok (.invokevirtual 42, 3) := by decide +kernel
theorem dX4_use_16 : decode mX4_use.2.1 16 = .ok (.iload_n 1, 1) := by decide +kernel
theorem dX4_use_17 : decode mX4_use.2.1 17 = .ok (.invokevirtual 80, 3) := by decide +kernel
theorem dX4_use_20 : decode mX4_use.2.1 20 = .ok (.istore_n 2, 1) := by decide +kernel
theorem dX4_use_21 : decode mX4_use.2.1 21 = .ok (.aload_n 0, 1) := by decide +kernel
theorem dX4_use_22 : decode mX4_use.2.1 22 = .ok (.iload_n 2, 1) := by decide +kernel
theorem dX4_use_23 : decode mX4_use.2.1 23 = .ok (.iconst (-1), 1) := by decide +kernel
theorem dX4_use_24 : decode mX4_use.2.1 24 = .ok (.if_icmp .ne 7, 3) := by decide +kernel
theorem dX4_use_27 : decode mX4_use.2.1 27 = .ok (.iconst 3, 1) := by decide +kernel
theorem dX4_use_28 : decode mX4_use.2.1 28 = .ok (.goto 4, 3) := by decide +kernel
theorem dX4_use_31 : decode mX4_use.2.1 31 = .ok (.iconst 2, 1) := by decide +kernel
theorem dX4_use_32 : decode mX4_use.2.1 32 = .ok (.iload_n 2, 1) := by decide +kernel
theorem dX4_use_33 : decode mX4_use.2.1 33 = .ok (.iconst (-1), 1) := by decide +kernel
theorem dX4_use_34 : decode mX4_use.2.1 34 = .ok (.if_icmp .ne 7, 3) := by decide +kernel
theorem dX4_use_37 : decode mX4_use.2.1 37 = .ok (.iload_n 1, 1) := by decide +kernel
theorem dX4_use_38 : decode mX4_use.2.1 38 = .ok (.goto 4, 3) := by decide +kernel
theorem dX4_use_41 : decode mX4_use.2.1 41 = .ok (.iload_n 2, 1) := by decide +kernel
theorem dX4_use_42 : decode mX4_use.2.1 42 = .ok (.invokevirtual 83, 3) := by decide +kernel
theorem dX4_use_45 : decode mX4_use.2.1 45 = .ok (.return_, 1) := by decide +kernel
theorem dX4_meet_0 : decode mX4_meet.2.1 0 = .ok (.aload_n 0, 1) := by decide +kernel
theorem dX4_meet_1 : decode mX4_meet.2.1 1 = .ok (.getfield 24, 3) := by decide +kernel
theorem dX4_meet_4 : decode mX4_meet.2.1 4 = .ok (.iload_n 1, 1) := by decide +kernel
theorem dX4_meet_5 : decode mX4_meet.2.1 5 = .ok (.iload_n 2, 1) := by decide +kernel
theorem dX4_meet_6 : decode mX4_meet.2.1 6 = .ok (.invokevirtual 80, 3) := by decide +kernel
theorem dX4_meet_9 : decode mX4_meet.2.1 9 = .ok (.istore_n 3, 1) := by decide +kernel
theorem dX4_meet_10 : decode mX4_meet.2.1 10 = .ok (.iload_n 3, 1) := by decide +kernel
theorem dX4_meet_11 : decode mX4_meet.2.1 11 = .ok (.iconst (-1), 1) := by decide +kernel
theorem dX4_meet_12 : decode mX4_meet.2.1 12 = .ok (.if_icmp .ne 12, 3) := by decide +kernel
theorem dX4_meet_15 : decode mX4_meet.2.1 15 = .ok (.aload_n 0, 1) := by decide +kernel
theorem dX4_meet_16 : decode mX4_meet.2.1 16 = .ok (.iconst 3, 1) := by decide +kernel
theorem dX4_meet_17 : decode mX4_meet.2.1 17 = .ok (.iload_n 2, 1) := by decide +kernel
theorem dX4_meet_18 : decode mX4_meet.2.1 18 = .ok (.invokevirtual 83, 3) := by decide +kernel
theorem dX4_meet_21 : decode mX4_meet.2.1 21 = .ok (.goto 37, 3) := by decide +kernel
theorem dX4_meet_24 : decode mX4_meet.2.1 24 = .ok (.aload_n 0, 1) := by decide +kernel
theorem dX4_meet_25 : decode mX4_meet.2.1 25 = .ok (.getfield 32, 3) := by decide +kernel
theorem dX4_meet_28 : decode mX4_meet.2.1 28 = .ok (.iload_n 3, 1) := by decide +kernel
theorem dX4_meet_29 : decode mX4_meet.2.1 29 = .ok (.lshr, 1) := by decide +kernel
theorem dX4_meet_30 : decode mX4_meet.2.1 30 = .ok (.lconst 1, 1) := by decide +kernel
theorem dX4_meet_31 : decode mX4_meet.2.1 31 = .ok (.land, 1) := by decide +kernel
theorem dX4_meet_32 : decode mX4_meet.2.1 32 = .ok (.lconst 0, 1) := by decide +kernel
theorem dX4_meet_33 : decode mX4_meet.2.1 33 = .ok (.lcmp, 1) := by decide +kernel
theorem dX4_meet_34 : decode mX4_meet.2.1 34 = .ok (.ifCond .eq 12, 3) := by decide +kernel
theorem dX4_meet_37 : decode mX4_meet.2.1 37 = .ok (.aload_n 0, 1) := by decide +kernel
theorem dX4_meet_38 : decode mX4_meet.2.1 38 = .ok (.iconst 1, 1) := by decide +kernel
theorem dX4_meet_39 : decode mX4_meet.2.1 39 = .ok (.iload_n 3, 1) := by decide +kernel
theorem dX4_meet_40 : decode mX4_meet.2.1 40 = .ok (.invokevirtual 83, 3) := by decide +kernel
theorem dX4_meet_43 : decode mX4_meet.2.1 43 = .ok (.goto 15, 3) := by decide +kernel
theorem dX4_meet_46 : decode mX4_meet.2.1 46 = .ok (.aload_n 0, 1) := by decide +kernel
theorem dX4_meet_47 : decode mX4_meet.2.1 47 = .ok (.iconst 0, 1) := by decide +kernel
theorem dX4_meet_48 : decode mX4_meet.2.1 48 = .ok (.iload_n 3, 1) := by decide +kernel
theorem dX4_meet_49 : decode mX4_meet.2.1 49 = .ok (.invokevirtual 83, 3) := by decide +kernel
theorem dX4_meet_52 : decode mX4_meet.2.1 52 = .ok (.aload_n 0, 1) := by decide +kernel
theorem dX4_meet_53 : decode mX4_meet.2.1 53 = .ok (.iload_n 3, 1) := by decide +kernel
theorem dX4_meet_54 : decode mX4_meet.2.1 54 = .ok (.iload_n 1, 1) := by decide +kernel
theorem dX4_meet_55 : decode mX4_meet.2.1 55 = .ok (.invokevirtual 86, 3) := by decide +kernel
theorem dX4_meet_58 : decode mX4_meet.2.1 58 = .ok (.return_, 1) := by decide +kernel
theorem dX4_enter_0 : decode mX4_enter.2.1 0 = .ok (.aload_n 0, 1) := by decide +kernel
theorem dX4_enter_1 : decode mX4_enter.2.1 1 = .ok (.getfield 28, 3) := by decide +kernel
theorem dX4_enter_4 : decode mX4_enter.2.1 4 = .ok (.ifCond .lt 12, 3) := by decide +kernel
theorem dX4_enter_7 : decode mX4_enter.2.1 7 = .ok (.aload_n 0, 1) := by decide +kernel
theorem dX4_enter_8 : decode mX4_enter.2.1 8 = .ok (.getfield 28, 3) := by decide +kernel
theorem dX4_enter_11 : decode mX4_enter.2.1 11 = .ok (.bipush 40, 2) := by decide +kernel
theorem dX4_enter_13 : decode mX4_enter.2.1 13 = .ok (.if_icmp .lt 4, 3) := by decide +kernel
theorem dX4_enter_16 : decode mX4_enter.2.1 16 = .ok (.return_, 1) := by decide +kernel
theorem dX4_enter_17 : decode mX4_enter.2.1 17 = .ok (.aload_n 0, 1) := by decide +kernel
theorem dX4_enter_18 : decode mX4_enter.2.1 18 = .ok (.getfield 15, 3) := by decide +kernel
theorem dX4_enter_21 : decode mX4_enter.2.1 21 = .ok (.aload_n 0, 1) := by decide +kernel
theorem dX4_enter_22 : decode mX4_enter.2.1 22 = .ok (.getfield 28, 3) := by decide +kernel
theorem dX4_enter_25 : decode mX4_enter.2.1 25 = .ok (.iload_n 1, 1) := by decide +kernel
theorem dX4_enter_26 : decode mX4_enter.2.1 26 = .ok (.iastore, 1) := by decide +kernel
theorem dX4_enter_27 : decode mX4_enter.2.1 27 = .ok (.aload_n 0, 1) := by decide +kernel
theorem dX4_enter_28 : decode mX4_enter.2.1 28 = .ok (.getfield 18, 3) := by decide +kernel
theorem dX4_enter_31 : decode mX4_enter.2.1 31 = .ok (.aload_n 0, 1) := by decide +kernel
theorem dX4_enter_32 : decode mX4_enter.2.1 32 = .ok (.getfield 28, 3) := by decide +kernel
theorem dX4_enter_35 : decode mX4_enter.2.1 35 = .ok (.iload_n 2, 1) := by decide +kernel
theorem dX4_enter_36 : decode mX4_enter.2.1 36 = .ok (.iastore, 1) := by decide +kernel
theorem dX4_enter_37 : decode mX4_enter.2.1 37 = .ok (.aload_n 0, 1) := by decide +kernel
theorem dX4_enter_38 : decode mX4_enter.2.1 38 = .ok (.getfield 21, 3) := by decide +kernel
theorem dX4_enter_41 : decode mX4_enter.2.1 41 = .ok (.aload_n 0, 1) := by decide +kernel
theorem dX4_enter_42 : decode mX4_enter.2.1 42 = .ok (.getfield 28, 3) := by decide +kernel
theorem dX4_enter_45 : decode mX4_enter.2.1 45 = .ok (.iconst 0, 1) := by decide +kernel
theorem dX4_enter_46 : decode mX4_enter.2.1 46 = .ok (.iastore, 1) := by decide +kernel
theorem dX4_enter_47 : decode mX4_enter.2.1 47 = .ok (.aload_n 0, 1) := by decide +kernel
theorem dX4_enter_48 : decode mX4_enter.2.1 48 = .ok (.dup, 1) := by decide +kernel
theorem dX4_enter_49 : decode mX4_enter.2.1 49 = .ok (.getfield 32, 3) := by decide +kernel
theorem dX4_enter_52 : decode mX4_enter.2.1 52 = .ok (.lconst 1, 1) := by decide +kernel
theorem dX4_enter_53 : decode mX4_enter.2.1 53 = .ok (.iload_n 1, 1) := by decide +kernel
theorem dX4_enter_54 : decode mX4_enter.2.1 54 = .ok (.lshl, 1) := by decide +kernel
theorem dX4_enter_55 : decode mX4_enter.2.1 55 = .ok (.lor, 1) := by decide +kernel
theorem dX4_enter_56 : decode mX4_enter.2.1 56 = .ok (.putfield 32, 3) := by decide +kernel
theorem dX4_enter_59 : decode mX4_enter.2.1 59 = .ok (.aload_n 0, 1) := by decide +kernel
theorem dX4_enter_60 : decode mX4_enter.2.1 60 = .ok (.dup, 1) := by decide +kernel
theorem dX4_enter_61 : decode mX4_enter.2.1 61 = .ok (.getfield 28, 3) := by decide +kernel
theorem dX4_enter_64 : decode mX4_enter.2.1 64 = .ok (.iconst 1, 1) := by decide +kernel
theorem dX4_enter_65 : decode mX4_enter.2.1 65 = .ok (.iadd, 1) := by decide +kernel
theorem dX4_enter_66 : decode mX4_enter.2.1 66 = .ok (.putfield 28, 3) := by decide +kernel
theorem dX4_enter_69 : decode mX4_enter.2.1 69 = .ok (.aload_n 0, 1) := by decide +kernel
theorem dX4_enter_70 : decode mX4_enter.2.1 70 = .ok (.getfield 28, 3) := by decide +kernel
theorem dX4_enter_73 : decode mX4_enter.2.1 73 = .ok (.aload_n 0, 1) := by decide +kernel
theorem dX4_enter_74 : decode mX4_enter.2.1 74 = .ok (.getfield 39, 3) := by decide +kernel
theorem dX4_enter_77 : decode mX4_enter.2.1 77 = .ok (.if_icmp .le 11, 3) := by decide +kernel
theorem dX4_enter_80 : decode mX4_enter.2.1 80 = .ok (.aload_n 0, 1) := by decide +kernel
theorem dX4_enter_81 : decode mX4_enter.2.1 81 = .ok (.aload_n 0, 1) := by decide +kernel
theorem dX4_enter_82 : decode mX4_enter.2.1 82 = .ok (.getfield 28, 3) := by decide +kernel
theorem dX4_enter_85 : decode mX4_enter.2.1 85 = .ok (.putfield 39, 3) := by decide +kernel
theorem dX4_enter_88 : decode mX4_enter.2.1 88 = .ok (.return_, 1) := by decide +kernel
theorem dX4_leave_0 : decode mX4_leave.2.1 0 = .ok (.aload_n 0, 1) := by decide +kernel
theorem dX4_leave_1 : decode mX4_leave.2.1 1 = .ok (.getfield 28, 3) := by decide +kernel
theorem dX4_leave_4 : decode mX4_leave.2.1 4 = .ok (.ifCond .le 46, 3) := by decide +kernel
theorem dX4_leave_7 : decode mX4_leave.2.1 7 = .ok (.aload_n 0, 1) := by decide +kernel
theorem dX4_leave_8 : decode mX4_leave.2.1 8 = .ok (.getfield 28, 3) := by decide +kernel
theorem dX4_leave_11 : decode mX4_leave.2.1 11 = .ok (.bipush 40, 2) := by decide +kernel
theorem dX4_leave_13 : decode mX4_leave.2.1 13 = .ok (.if_icmp .gt 37, 3) := by decide +kernel
theorem dX4_leave_16 : decode mX4_leave.2.1 16 = .ok (.aload_n 0, 1) := by decide +kernel
theorem dX4_leave_17 : decode mX4_leave.2.1 17 = .ok (.dup, 1) := by decide +kernel
theorem dX4_leave_18 : decode mX4_leave.2.1 18 = .ok (.getfield 28, 3) := by decide +kernel
theorem dX4_leave_21 : decode mX4_leave.2.1 21 = .ok (.iconst 1, 1) := by decide +kernel
theorem dX4_leave_22 : decode mX4_leave.2.1 22 = .ok (.isub, 1) := by decide +kernel
theorem dX4_leave_23 : decode mX4_leave.2.1 23 = .ok (.putfield 28, 3) := by decide +kernel
theorem dX4_leave_26 : decode mX4_leave.2.1 26 = .ok (.aload_n 0, 1) := by decide +kernel
theorem dX4_leave_27 : decode mX4_leave.2.1 27 = .ok (.dup, 1) := by decide +kernel
theorem dX4_leave_28 : decode mX4_leave.2.1 28 = .ok (.getfield 32, 3) := by decide +kernel
theorem dX4_leave_31 : decode mX4_leave.2.1 31 = .ok (.lconst 1, 1) := by decide +kernel
theorem dX4_leave_32 : decode mX4_leave.2.1 32 = .ok (.aload_n 0, 1) := by decide +kernel
theorem dX4_leave_33 : decode mX4_leave.2.1 33 = .ok (.getfield 15, 3) := by decide +kernel
theorem dX4_leave_36 : decode mX4_leave.2.1 36 = .ok (.aload_n 0, 1) := by decide +kernel
theorem dX4_leave_37 : decode mX4_leave.2.1 37 = .ok (.getfield 28, 3) := by decide +kernel
theorem dX4_leave_40 : decode mX4_leave.2.1 40 = .ok (.iaload, 1) := by decide +kernel
theorem dX4_leave_41 : decode mX4_leave.2.1 41 = .ok (.lshl, 1) := by decide +kernel
theorem dX4_leave_42 : decode mX4_leave.2.1 42 = .ok (.ldc2_w 89, 3) := by decide +kernel
theorem dX4_leave_45 : decode mX4_leave.2.1 45 = .ok (.lxor, 1) := by decide +kernel
theorem dX4_leave_46 : decode mX4_leave.2.1 46 = .ok (.land, 1) := by decide +kernel
theorem dX4_leave_47 : decode mX4_leave.2.1 47 = .ok (.putfield 32, 3) := by decide +kernel
theorem dX4_leave_50 : decode mX4_leave.2.1 50 = .ok (.return_, 1) := by decide +kernel
theorem dX4_note_0 : decode mX4_note.2.1 0 = .ok (.aload_n 0, 1) := by decide +kernel
theorem dX4_note_1 : decode mX4_note.2.1 1 = .ok (.getfield 36, 3) := by decide +kernel
theorem dX4_note_4 : decode mX4_note.2.1 4 = .ok (.ifCond .lt 36, 3) := by decide +kernel
theorem dX4_note_7 : decode mX4_note.2.1 7 = .ok (.aload_n 0, 1) := by decide +kernel
theorem dX4_note_8 : decode mX4_note.2.1 8 = .ok (.getfield 36, 3) := by decide +kernel
theorem dX4_note_11 : decode mX4_note.2.1 11 = .ok (.bipush 60, 2) := by decide +kernel
theorem dX4_note_13 : decode mX4_note.2.1 13 = .ok (.if_icmp .ge 27, 3) := by decide +kernel
theorem dX4_note_16 : decode mX4_note.2.1 16 = .ok (.aload_n 0, 1) := by decide +kernel
theorem dX4_note_17 : decode mX4_note.2.1 17 = .ok (.getfield 9, 3) := by decide +kernel
theorem dX4_note_20 : decode mX4_note.2.1 20 = .ok (.aload_n 0, 1) := by decide +kernel
theorem dX4_note_21 : decode mX4_note.2.1 21 = .ok (.getfield 36, 3) := by decide +kernel
theorem dX4_note_24 : decode mX4_note.2.1 24 = .ok (.iconst 4, 1) := by decide +kernel
theorem dX4_note_25 : decode mX4_note.2.1 25 = .ok (.iload_n 2, 1) := by decide +kernel
theorem dX4_note_26 : decode mX4_note.2.1 26 = .ok (.imul, 1) := by decide +kernel
theorem dX4_note_27 : decode mX4_note.2.1 27 = .ok (.iload_n 1, 1) := by decide +kernel
theorem dX4_note_28 : decode mX4_note.2.1 28 = .ok (.iadd, 1) := by decide +kernel
theorem dX4_note_29 : decode mX4_note.2.1 29 = .ok (.iastore, 1) := by decide +kernel
theorem dX4_note_30 : decode mX4_note.2.1 30 = .ok (.aload_n 0, 1) := by decide +kernel
theorem dX4_note_31 : decode mX4_note.2.1 31 = .ok (.dup, 1) := by decide +kernel
theorem dX4_note_32 : decode mX4_note.2.1 32 = .ok (.getfield 36, 3) := by decide +kernel
theorem dX4_note_35 : decode mX4_note.2.1 35 = .ok (.iconst 1, 1) := by decide +kernel
theorem dX4_note_36 : decode mX4_note.2.1 36 = .ok (.iadd, 1) := by decide +kernel
theorem dX4_note_37 : decode mX4_note.2.1 37 = .ok (.putfield 36, 3) := by decide +kernel
theorem dX4_note_40 : decode mX4_note.2.1 40 = .ok (.return_, 1) := by decide +kernel
theorem dX4_eventAt_0 : decode mX4_eventAt.2.1 0 = .ok (.iload_n 1, 1) := by decide +kernel
theorem dX4_eventAt_1 : decode mX4_eventAt.2.1 1 = .ok (.ifCond .lt 26, 3) := by decide +kernel
theorem dX4_eventAt_4 : decode mX4_eventAt.2.1 4 = .ok (.iload_n 1, 1) := by decide +kernel
theorem dX4_eventAt_5 : decode mX4_eventAt.2.1 5 = .ok (.aload_n 0, 1) := by decide +kernel
theorem dX4_eventAt_6 : decode mX4_eventAt.2.1 6 = .ok (.getfield 36, 3) := by decide +kernel
theorem dX4_eventAt_9 : decode mX4_eventAt.2.1 9 = .ok (.if_icmp .ge 18, 3) := by decide +kernel
theorem dX4_eventAt_12 : decode mX4_eventAt.2.1 12 = .ok (.iload_n 1, 1) := by decide +kernel
theorem dX4_eventAt_13 : decode mX4_eventAt.2.1 13 = .ok (.bipush 60, 2) := by decide +kernel
theorem dX4_eventAt_15 : decode mX4_eventAt.2.1 15 = .ok (.if_icmp .ge 12, 3) := by decide +kernel
theorem dX4_eventAt_18 : decode mX4_eventAt.2.1 18 = .ok (.aload_n 0, 1) := by decide +kernel
theorem dX4_eventAt_19 : decode mX4_eventAt.2.1 19 = .ok (.getfield 9, 3) := by decide +kernel
theorem dX4_eventAt_22 : decode mX4_eventAt.2.1 22 = .ok (.iload_n 1, 1) := by decide +kernel
theorem dX4_eventAt_23 : decode mX4_eventAt.2.1 23 = .ok (.iaload, 1) := by decide +kernel
theorem dX4_eventAt_24 : decode mX4_eventAt.2.1 24 = .ok (.goto 4, 3) := by decide +kernel
theorem dX4_eventAt_27 : decode mX4_eventAt.2.1 27 = .ok (.iconst (-1), 1) := by decide +kernel
theorem dX4_eventAt_28 : decode mX4_eventAt.2.1 28 = .ok (.ireturn, 1) := by decide +kernel
