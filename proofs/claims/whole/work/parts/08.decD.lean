theorem dX7_within_0 : decode mX7_within.2.1 0 = .ok (.iload_n 0, 1) := by decide +kernel
theorem dX7_within_1 : decode mX7_within.2.1 1 = .ok (.iload_n 1, 1) := by decide +kernel
theorem dX7_within_2 : decode mX7_within.2.1 2 = .ok (.if_icmp .lt 12, 3) := by decide +kernel
theorem dX7_within_5 : decode mX7_within.2.1 5 = .ok (.iload_n 0, 1) := by decide +kernel
theorem dX7_within_6 : decode mX7_within.2.1 6 = .ok (.iload_n 2, 1) := by decide +kernel
theorem dX7_within_7 : decode mX7_within.2.1 7 = .ok (.if_icmp .gt 7, 3) := by decide +kernel
theorem dX7_within_10 : decode mX7_within.2.1 10 = .ok (.iconst 1, 1) := by decide +kernel
theorem dX7_within_11 : decode mX7_within.2.1 11 = .ok (.goto 4, 3) := by decide +kernel
theorem dX7_within_14 : decode mX7_within.2.1 14 = .ok (.iconst 0, 1) := by decide +kernel
theorem dX7_within_15 : decode mX7_within.2.1 15 = .ok (.ireturn, 1) := by decide +kernel
theorem dX7_hasBit_0 : decode mX7_hasBit.2.1 0 = .ok (.iload_n 0, 1) := by decide +kernel
theorem dX7_hasBit_1 : decode mX7_hasBit.2.1 1 = .ok (.iload_n 1, 1) := by decide +kernel
theorem dX7_hasBit_2 : decode mX7_hasBit.2.1 2 = .ok (.ishr, 1) := by decide +kernel
theorem dX7_hasBit_3 : decode mX7_hasBit.2.1 3 = .ok (.iconst 1, 1) := by decide +kernel
theorem dX7_hasBit_4 : decode mX7_hasBit.2.1 4 = .ok (.iand, 1) := by decide +kernel
theorem dX7_hasBit_5 : decode mX7_hasBit.2.1 5 = .ok (.iconst 1, 1) := by decide +kernel
theorem dX7_hasBit_6 : decode mX7_hasBit.2.1 6 = .ok (.if_icmp .ne 7, 3) := by decide +kernel
theorem dX7_hasBit_9 : decode mX7_hasBit.2.1 9 = .ok (.iconst 1, 1) := by decide +kernel
theorem dX7_hasBit_10 : decode mX7_hasBit.2.1 10 = .ok (.goto 4, 3) := by decide +kernel
theorem dX7_hasBit_13 : decode mX7_hasBit.2.1 13 = .ok (.iconst 0, 1) := by decide +kernel
theorem dX7_hasBit_14 : decode mX7_hasBit.2.1 14 = .ok (.ireturn, 1) := by decide +kernel
theorem dX7_ones_0 : decode mX7_ones.2.1 0 = .ok (.iconst 0, 1) := by decide +kernel
theorem dX7_ones_1 : decode mX7_ones.2.1 1 = .ok (.istore_n 1, 1) := by decide +kernel
theorem dX7_ones_2 : decode mX7_ones.2.1 2 = .ok (.iconst 0, 1) := by decide +kernel
theorem dX7_ones_3 : decode mX7_ones.2.1 3 = .ok (.istore_n 2, 1) := by decide +kernel
theorem dX7_ones_4 : decode mX7_ones.2.1 4 = .ok (.iload_n 2, 1) := by decide +kernel
theorem dX7_ones_5 : decode mX7_ones.2.1 5 = .ok (.bipush 12, 2) := by decide +kernel
theorem dX7_ones_7 : decode mX7_ones.2.1 7 = .ok (.if_icmp .ge 17, 3) := by decide +kernel
theorem dX7_ones_10 : decode mX7_ones.2.1 10 = .ok (.iload_n 1, 1) := by decide +kernel
theorem dX7_ones_11 : decode mX7_ones.2.1 11 = .ok (.iload_n 0, 1) := by decide +kernel
theorem dX7_ones_12 : decode mX7_ones.2.1 12 = .ok (.iload_n 2, 1) := by decide +kernel
theorem dX7_ones_13 : decode mX7_ones.2.1 13 = .ok (.ishr, 1) := by decide +kernel
theorem dX7_ones_14 : decode mX7_ones.2.1 14 = .ok (.iconst 1, 1) := by decide +kernel
theorem dX7_ones_15 : decode mX7_ones.2.1 15 = .ok (.iand, 1) := by decide +kernel
theorem dX7_ones_16 : decode mX7_ones.2.1 16 = .ok (.iadd, 1) := by decide +kernel
theorem dX7_ones_17 : decode mX7_ones.2.1 17 = .ok (.istore_n 1, 1) := by decide +kernel
theorem dX7_ones_18 : decode mX7_ones.2.1 18 = .ok (.iinc 2 1, 3) := by decide +kernel
theorem dX7_ones_21 : decode mX7_ones.2.1 21 = .ok (.goto (-17), 3) := by decide +kernel
theorem dX7_ones_24 : decode mX7_ones.2.1 24 = .ok (.iload_n 1, 1) := by decide +kernel
theorem dX7_ones_25 : decode mX7_ones.2.1 25 = .ok (.ireturn, 1) := by decide +kernel
theorem dX7_letter_0 : decode mX7_letter.2.1 0 = .ok (.iload_n 1, 1) := by decide +kernel
theorem dX7_letter_1 : decode mX7_letter.2.1 1 = .ok (.bipush 32, 2) := by decide +kernel
theorem dX7_letter_3 : decode mX7_letter.2.1 3 = .ok (.bipush 126, 2) := by decide +kernel
theorem dX7_letter_5 : decode mX7_letter.2.1 5 = .ok (.invokestatic 77, 3) := by decide +kernel
theorem dX7_letter_8 : decode mX7_letter.2.1 8 = .ok (.ifCond .ne 7, 3) := by decide +kernel
theorem dX7_letter_11 : decode mX7_letter.2.1 11 = .ok (.sipush (-1002), 3) := by decide +kernel
theorem dX7_letter_14 : decode mX7_letter.2.1 14 = .ok (.ireturn, 1) := by decide +kernel
theorem dX7_letter_15 : decode mX7_letter.2.1 15 = .ok (.aload_n 0, 1) := by decide +kernel
theorem dX7_letter_16 : decode mX7_letter.2.1 16 = .ok (.getfield 81, 3) := by decide +kernel
theorem dX7_letter_19 : decode mX7_letter.2.1 19 = .ok (.bipush 40, 2) := by decide +kernel
theorem dX7_letter_21 : decode mX7_letter.2.1 21 = .ok (.if_icmp .ne 7, 3) := by decide +kernel
theorem dX7_letter_24 : decode mX7_letter.2.1 24 = .ok (.sipush (-1004), 3) := by decide +kernel
theorem dX7_letter_27 : decode mX7_letter.2.1 27 = .ok (.ireturn, 1) := by decide +kernel
theorem dX7_letter_28 : decode mX7_letter.2.1 28 = .ok (.aload_n 0, 1) := by decide +kernel
theorem dX7_letter_29 : decode mX7_letter.2.1 29 = .ok (.getfield 7, 3) := by decide +kernel
theorem dX7_letter_32 : decode mX7_letter.2.1 32 = .ok (.aload_n 0, 1) := by decide +kernel
theorem dX7_letter_33 : decode mX7_letter.2.1 33 = .ok (.getfield 81, 3) := by decide +kernel
theorem dX7_letter_36 : decode mX7_letter.2.1 36 = .ok (.iload_n 1, 1) := by decide +kernel
theorem dX7_letter_37 : decode mX7_letter.2.1 37 = .ok (.iastore, 1) := by decide +kernel
theorem dX7_letter_38 : decode mX7_letter.2.1 38 = .ok (.aload_n 0, 1) := by decide +kernel
theorem dX7_letter_39 : decode mX7_letter.2.1 39 = .ok (.dup, 1) := by decide +kernel
theorem dX7_letter_40 : decode mX7_letter.2.1 40 = .ok (.getfield 81, 3) := by decide +kernel
theorem dX7_letter_43 : decode mX7_letter.2.1 43 = .ok (.iconst 1, 1) := by decide +kernel
theorem dX7_letter_44 : decode mX7_letter.2.1 44 = .ok (.iadd, 1) := by decide +kernel
theorem dX7_letter_45 : decode mX7_letter.2.1 45 = .ok (.putfield 81, 3) := by decide +kernel
theorem dX7_letter_48 : decode mX7_letter.2.1 48 = .ok (.aload_n 0, 1) := by decide +kernel
theorem dX7_letter_49 : decode mX7_letter.2.1 49 = .ok (.getfield 81, 3) := by decide +kernel
theorem dX7_letter_52 : decode mX7_letter.2.1 52 = .ok (.ireturn, 1) := by decide +kernel
theorem dX7_blank_0 : decode mX7_blank.2.1 0 = .ok (.aload_n 0, 1) := by decide +kernel
theorem dX7_blank_1 : decode mX7_blank.2.1 1 = .ok (.getfield 81, 3) := by decide +kernel
theorem dX7_blank_4 : decode mX7_blank.2.1 4 = .ok (.istore_n 1, 1) := by decide +kernel
theorem dX7_blank_5 : decode mX7_blank.2.1 5 = .ok (.aload_n 0, 1) := by decide +kernel
theorem dX7_blank_6 : decode mX7_blank.2.1 6 = .ok (.iconst 0, 1) := by decide +kernel
theorem dX7_blank_7 : decode mX7_blank.2.1 7 = .ok (.putfield 81, 3) := by decide +kernel
theorem dX7_blank_10 : decode mX7_blank.2.1 10 = .ok (.iload_n 1, 1) := by decide +kernel
theorem dX7_blank_11 : decode mX7_blank.2.1 11 = .ok (.ireturn, 1) := by decide +kernel
theorem dX7_memberAt_0 : decode mX7_memberAt.2.1 0 = .ok (.iload_n 0, 1) := by decide +kernel
theorem dX7_memberAt_1 : decode mX7_memberAt.2.1 1 = .ok (.bipush 97, 2) := by decide +kernel
theorem dX7_memberAt_3 : decode mX7_memberAt.2.1 3 = .ok (.bipush 102, 2) := by decide +kernel
theorem dX7_memberAt_5 : decode mX7_memberAt.2.1 5 = .ok (.invokestatic 77, 3) := by decide +kernel
theorem dX7_memberAt_8 : decode mX7_memberAt.2.1 8 = .ok (.ifCond .eq 10, 3) := by decide +kernel
theorem dX7_memberAt_11 : decode mX7_memberAt.2.1 11 = .ok (.iload_n 0, 1) := by decide +kernel
theorem dX7_memberAt_12 : decode mX7_memberAt.2.1 12 = .ok (.bipush 97, 2) := by decide +kernel
theorem dX7_memberAt_14 : decode mX7_memberAt.2.1 14 = .ok (.isub, 1) := by decide +kernel
theorem dX7_memberAt_15 : decode mX7_memberAt.2.1 15 = .ok (.goto 25, 3) := by decide +kernel
theorem dX7_memberAt_18 : decode mX7_memberAt.2.1 18 = .ok (.iload_n 0, 1) := by decide +kernel
theorem dX7_memberAt_19 : decode mX7_memberAt.2.1 19 = .ok (.bipush 117, 2) := by decide +kernel
theorem dX7_memberAt_21 : decode mX7_memberAt.2.1 21 = .ok (.bipush 122, 2) := by decide +kernel
theorem dX7_memberAt_23 : decode mX7_memberAt.2.1 23 = .ok (.invokestatic 77, 3) := by decide +kernel
theorem dX7_memberAt_26 : decode mX7_memberAt.2.1 26 = .ok (.ifCond .eq 13, 3) := by decide +kernel
theorem dX7_memberAt_29 : decode mX7_memberAt.2.1 29 = .ok (.iload_n 0, 1) := by decide +kernel
theorem dX7_memberAt_30 : decode mX7_memberAt.2.1 30 = .ok (.bipush 117, 2) := by decide +kernel
theorem dX7_memberAt_32 : decode mX7_memberAt.2.1 32 = .ok (.isub, 1) := by decide +kernel
theorem dX7_memberAt_33 : decode mX7_memberAt.2.1 33 = .ok (.bipush 6, 2) := by decide +kernel
theorem dX7_memberAt_35 : decode mX7_memberAt.2.1 35 = .ok (.iadd, 1) := by decide +kernel
theorem dX7_memberAt_36 : decode mX7_memberAt.2.1 36 = .ok (.goto 4, 3) := by decide +kernel
theorem dX7_memberAt_39 : decode mX7_memberAt.2.1 39 = .ok (.iconst (-1), 1) := by decide +kernel
theorem dX7_memberAt_40 : decode mX7_memberAt.2.1 40 = .ok (.ireturn, 1) := by decide +kernel
theorem dX7_takesMember_0 : decode mX7_takesMember.2.1 0 = .ok (.iload_n 1, 1) := by decide +kernel
theorem dX7_takesMember_1 : decode mX7_takesMember.2.1 1 = .ok (.invokestatic 85, 3) := by decide +kernel
theorem dX7_takesMember_4 : decode mX7_takesMember.2.1 4 = .ok (.istore_n 2, 1) := by decide +kernel
theorem dX7_takesMember_5 : decode mX7_takesMember.2.1 5 = .ok (.iload_n 2, 1) := by decide +kernel
theorem dX7_takesMember_6 : decode mX7_takesMember.2.1 6 = .ok (.iconst (-1), 1) := by decide +kernel
theorem dX7_takesMember_7 : decode mX7_takesMember.2.1 7 = .ok (.if_icmp .eq 14, 3) := by decide +kernel
theorem dX7_takesMember_10 : decode mX7_takesMember.2.1 10 = .ok (.aload_n 0, 1) := by decide +kernel
theorem dX7_takesMember_11 : decode mX7_takesMember.2.1 11 = .ok (.getfield 89, 3) := by decide +kernel
theorem dX7_takesMember_14 : decode mX7_takesMember.2.1 14 = .ok (.iload_n 2, 1) := by decide +kernel
theorem dX7_takesMember_15 : decode mX7_takesMember.2.1 15 = .ok (.invokestatic 92, 3) := by decide +kernel
theorem dX7_takesMember_18 : decode mX7_takesMember.2.1 18 = .ok (.ifCond .eq 5, 3) := by decide +kernel
theorem dX7_takesMember_21 : decode mX7_takesMember.2.1 21 = .ok (.iconst 0, 1) := by decide +kernel
theorem dX7_takesMember_22 : decode mX7_takesMember.2.1 22 = .ok (.ireturn, 1) := by decide +kernel
theorem dX7_takesMember_23 : decode mX7_takesMember.2.1 23 = .ok (.aload_n 0, 1) := by decide +kernel
theorem dX7_takesMember_24 : decode mX7_takesMember.2.1 24 = .ok (.dup, 1) := by decide +kernel
theorem dX7_takesMember_25 : decode mX7_takesMember.2.1 25 = .ok (.getfield 89, 3) := by decide +kernel
theorem dX7_takesMember_28 : decode mX7_takesMember.2.1 28 = .ok (.iconst 1, 1) := by decide +kernel
theorem dX7_takesMember_29 : decode mX7_takesMember.2.1 29 = .ok (.iload_n 2, 1) := by decide +kernel
theorem dX7_takesMember_30 : decode mX7_takesMember.2.1 30 = .ok (.ishl, 1) := by decide +kernel
theorem dX7_takesMember_31 : decode mX7_takesMember.2.1 31 = .ok (.ior, 1) := by decide +kernel
theorem dX7_takesMember_32 : decode mX7_takesMember.2.1 32 = .ok (.putfield 89, 3) := by decide +kernel
theorem dX7_takesMember_35 : decode mX7_takesMember.2.1 35 = .ok (.aload_n 0, 1) := by decide +kernel
theorem dX7_takesMember_36 : decode mX7_takesMember.2.1 36 = .ok (.iconst 4, 1) := by decide +kernel
theorem dX7_takesMember_37 : decode mX7_takesMember.2.1 37 = .ok (.putfield 96, 3) := by decide +kernel
theorem dX7_takesMember_40 : decode mX7_takesMember.2.1 40 = .ok (.iload_n 2, 1) := by decide +kernel
theorem dX7_takesMember_41 : decode mX7_takesMember.2.1 41 = .ok (.bipush 6, 2) := by decide +kernel
theorem dX7_takesMember_43 : decode mX7_takesMember.2.1 43 = .ok (.if_icmp .ge 38, 3) := by decide +kernel
theorem dX7_takesMember_46 : decode mX7_takesMember.2.1 46 = .ok (.aload_n 0, 1) := by decide +kernel
theorem dX7_takesMember_47 : decode mX7_takesMember.2.1 47 = .ok (.getfield 44, 3) := by decide +kernel
theorem dX7_takesMember_50 : decode mX7_takesMember.2.1 50 = .ok (.iload_n 2, 1) := by decide +kernel
theorem dX7_takesMember_51 : decode mX7_takesMember.2.1 51 = .ok (.aload_n 0, 1) := by decide +kernel
theorem dX7_takesMember_52 : decode mX7_takesMember.2.1 52 = .ok (.getfield 99, 3) := by decide +kernel
theorem dX7_takesMember_55 : decode mX7_takesMember.2.1 55 = .ok (.iastore, 1) := by decide +kernel
theorem dX7_takesMember_56 : decode mX7_takesMember.2.1 56 = .ok (.aload_n 0, 1) := by decide +kernel
theorem dX7_takesMember_57 : decode mX7_takesMember.2.1 57 = .ok (.getfield 47, 3) := by decide +kernel
theorem dX7_takesMember_60 : decode mX7_takesMember.2.1 60 = .ok (.aload_n 0, 1) := by decide +kernel
theorem dX7_takesMember_61 : decode mX7_takesMember.2.1 61 = .ok (.getfield 99, 3) := by decide +kernel
theorem dX7_takesMember_64 : decode mX7_takesMember.2.1 64 = .ok (.iconst 0, 1) := by decide +kernel
theorem dX7_takesMember_65 : decode mX7_takesMember.2.1 65 = .ok (.iastore, 1) := by decide +kernel
theorem dX7_takesMember_66 : decode mX7_takesMember.2.1 66 = .ok (.aload_n 0, 1) := by decide +kernel
theorem dX7_takesMember_67 : decode mX7_takesMember.2.1 67 = .ok (.dup, 1) := by decide +kernel
theorem dX7_takesMember_68 : decode mX7_takesMember.2.1 68 = .ok (.getfield 99, 3) := by decide +kernel
theorem dX7_takesMember_71 : decode mX7_takesMember.2.1 71 = .ok (.iconst 1, 1) := by decide +kernel
theorem dX7_takesMember_72 : decode mX7_takesMember.2.1 72 = .ok (.iadd, 1) := by decide +kernel
theorem dX7_takesMember_73 : decode mX7_takesMember.2.1 73 = .ok (.putfield 99, 3) := by decide +kernel
theorem dX7_takesMember_76 : decode mX7_takesMember.2.1 76 = .ok (.aload_n 0, 1) := by decide +kernel
theorem dX7_takesMember_77 : decode mX7_takesMember.2.1 77 = .ok (.iconst 5, 1) := by decide +kernel
theorem dX7_takesMember_78 : decode mX7_takesMember.2.1 78 = .ok (.putfield 96, 3) := by decide +kernel
theorem dX7_takesMember_81 : decode mX7_takesMember.2.1 81 = .ok (.aload_n 0, 1) := by decide +kernel
theorem dX7_takesMember_82 : decode mX7_takesMember.2.1 82 = .ok (.iload_n 2, 1) := by decide +kernel
theorem dX7_takesMember_83 : decode mX7_takesMember.2.1 83 = .ok (.putfield 102, 3) := by decide +kernel
theorem dX7_takesMember_86 : decode mX7_takesMember.2.1 86 = .ok (.iconst 1, 1) := by decide +kernel
theorem dX7_takesMember_87 : decode mX7_takesMember.2.1 87 = .ok (.ireturn, 1) := by decide +kernel
theorem dX7_takesBehindMethod_0 : decode mX7_takesBehindMethod.2.1 0 = .ok (.iload_n 1, 1) := by decide +kernel
theorem dX7_takesBehindMethod_1 : decode mX7_takesBehindMethod.2.1 1 = .ok (.bipush 45, 2) := by decide +kernel
theorem dX7_takesBehindMethod_3 : decode mX7_takesBehindMethod.2.1 3 = .ok (.if_icmp .ne 34, 3) := by decide +kernel
theorem dX7_takesBehindMethod_6 : decode mX7_takesBehindMethod.2.1 6 = .ok (.aload_n 0, 1) := by decide +kernel
theorem dX7_takesBehindMethod_7 : decode mX7_takesBehindMethod.2.1 7 = .ok (.getfield 96, 3) := by decide +kernel
theorem dX7_takesBehindMethod_10 : decode mX7_takesBehindMethod.2.1 10 = .ok (.iconst 5, 1) := by decide +kernel
theorem dX7_takesBehindMethod_11 : decode mX7_takesBehindMethod.2.1 11 = .ok (.if_icmp .ne 26, 3) := by decide +kernel
theorem dX7_takesBehindMethod_14 : decode mX7_takesBehindMethod.2.1 14 = .ok (.aload_n 0, 1) := by decide +kernel
theorem dX7_takesBehindMethod_15 : decode mX7_takesBehindMethod.2.1 15 = .ok (.dup, 1) := by decide +kernel
theorem dX7_takesBehindMethod_16 : decode mX7_takesBehindMethod.2.1 16 = .ok (.getfield 105, 3) := by decide +kernel
theorem dX7_takesBehindMethod_19 : decode mX7_takesBehindMethod.2.1 19 = .ok (.iconst 1, 1) := by decide +kernel
theorem dX7_takesBehindMethod_20 : decode mX7_takesBehindMethod.2.1 20 = .ok (.aload_n 0, 1) := by decide +kernel
theorem dX7_takesBehindMethod_21 : decode mX7_takesBehindMethod.2.1 21 = .ok (.getfield 102, 3) := by decide +kernel
theorem dX7_takesBehindMethod_24 : decode mX7_takesBehindMethod.2.1 24 = .ok (.ishl, 1) := by decide +kernel
theorem dX7_takesBehindMethod_25 : decode mX7_takesBehindMethod.2.1 25 = .ok (.ior, 1) := by decide +kernel
theorem dX7_takesBehindMethod_26 : decode mX7_takesBehindMethod.2.1 26 = .ok (.putfield 105, 3) := by decide +kernel
theorem dX7_takesBehindMethod_29 : decode mX7_takesBehindMethod.2.1 29 = .ok (.aload_n 0, 1) := by decide +kernel
theorem dX7_takesBehindMethod_30 : decode mX7_takesBehindMethod.2.1 30 = .ok (.bipush 6, 2) := by decide +kernel
theorem dX7_takesBehindMethod_32 : decode mX7_takesBehindMethod.2.1 32 = .ok (.putfield 96, 3) := by decide +kernel
theorem dX7_takesBehindMethod_35 : decode mX7_takesBehindMethod.2.1 35 = .ok (.iconst 1, 1) := by decide +kernel
theorem dX7_takesBehindMethod_36 : decode mX7_takesBehindMethod.2.1 36 = .ok (.ireturn, 1) := by decide +kernel
theorem dX7_takesBehindMethod_37 : decode mX7_takesBehindMethod.2.1 37 = .ok (.iload_n 1, 1) := by decide +kernel
theorem dX7_takesBehindMethod_38 : decode mX7_takesBehindMethod.2.1 38 = .ok (.bipush 40, 2) := by decide +kernel
theorem dX7_takesBehindMethod_40 : decode mX7_takesBehindMethod.2.1 40 = .ok (.if_icmp .ne 11, 3) := by decide +kernel
theorem dX7_takesBehindMethod_43 : decode mX7_takesBehindMethod.2.1 43 = .ok (.aload_n 0, 1) := by decide +kernel
theorem dX7_takesBehindMethod_44 : decode mX7_takesBehindMethod.2.1 44 = .ok (.bipush 7, 2) := by decide +kernel
theorem dX7_takesBehindMethod_46 : decode mX7_takesBehindMethod.2.1 46 = .ok (.putfield 96, 3) := by decide +kernel
theorem dX7_takesBehindMethod_49 : decode mX7_takesBehindMethod.2.1 49 = .ok (.iconst 1, 1) := by decide +kernel
theorem dX7_takesBehindMethod_50 : decode mX7_takesBehindMethod.2.1 50 = .ok (.ireturn, 1) := by decide +kernel
theorem dX7_takesBehindMethod_51 : decode mX7_takesBehindMethod.2.1 51 = .ok (.aload_n 0, 1) := by decide +kernel
theorem dX7_takesBehindMethod_52 : decode mX7_takesBehindMethod.2.1 52 = .ok (.iload_n 1, 1) := by decide +kernel
theorem dX7_takesBehindMethod_53 : decode mX7_takesBehindMethod.2.1 53 = .ok (.invokevirtual 108, 3) := by decide +kernel
theorem dX7_takesBehindMethod_56 : decode mX7_takesBehindMethod.2.1 56 = .ok (.ireturn, 1) := by decide +kernel
theorem dX7_takesItem_0 : decode mX7_takesItem.2.1 0 = .ok (.aload_n 0, 1) := by decide +kernel
theorem dX7_takesItem_1 : decode mX7_takesItem.2.1 1 = .ok (.getfield 99, 3) := by decide +kernel
theorem dX7_takesItem_4 : decode mX7_takesItem.2.1 4 = .ok (.iconst 1, 1) := by decide +kernel
theorem dX7_takesItem_5 : decode mX7_takesItem.2.1 5 = .ok (.isub, 1) := by decide +kernel
theorem dX7_takesItem_6 : decode mX7_takesItem.2.1 6 = .ok (.istore_n 2, 1) := by decide +kernel
theorem dX7_takesItem_7 : decode mX7_takesItem.2.1 7 = .ok (.iload_n 1, 1) := by decide +kernel
theorem dX7_takesItem_8 : decode mX7_takesItem.2.1 8 = .ok (.invokestatic 85, 3) := by decide +kernel
theorem dX7_takesItem_11 : decode mX7_takesItem.2.1 11 = .ok (.istore_n 3, 1) := by decide +kernel
theorem dX7_takesItem_12 : decode mX7_takesItem.2.1 12 = .ok (.iload_n 1, 1) := by decide +kernel
theorem dX7_takesItem_13 : decode mX7_takesItem.2.1 13 = .ok (.bipush 41, 2) := by decide +kernel
theorem dX7_takesItem_15 : decode mX7_takesItem.2.1 15 = .ok (.if_icmp .ne 28, 3) := by decide +kernel
theorem dX7_takesItem_18 : decode mX7_takesItem.2.1 18 = .ok (.aload_n 0, 1) := by decide +kernel
theorem dX7_takesItem_19 : decode mX7_takesItem.2.1 19 = .ok (.getfield 96, 3) := by decide +kernel
theorem dX7_takesItem_22 : decode mX7_takesItem.2.1 22 = .ok (.bipush 7, 2) := by decide +kernel
theorem dX7_takesItem_24 : decode mX7_takesItem.2.1 24 = .ok (.if_icmp .ne 19, 3) := by decide +kernel
theorem dX7_takesItem_27 : decode mX7_takesItem.2.1 27 = .ok (.aload_n 0, 1) := by decide +kernel
theorem dX7_takesItem_28 : decode mX7_takesItem.2.1 28 = .ok (.getfield 47, 3) := by decide +kernel
theorem dX7_takesItem_31 : decode mX7_takesItem.2.1 31 = .ok (.iload_n 2, 1) := by decide +kernel
theorem dX7_takesItem_32 : decode mX7_takesItem.2.1 32 = .ok (.iaload, 1) := by decide +kernel
theorem dX7_takesItem_33 : decode mX7_takesItem.2.1 33 = .ok (.ifCond .le 10, 3) := by decide +kernel
theorem dX7_takesItem_36 : decode mX7_takesItem.2.1 36 = .ok (.aload_n 0, 1) := by decide +kernel
theorem dX7_takesItem_37 : decode mX7_takesItem.2.1 37 = .ok (.iconst 4, 1) := by decide +kernel
theorem dX7_takesItem_38 : decode mX7_takesItem.2.1 38 = .ok (.putfield 96, 3) := by decide +kernel
theorem dX7_takesItem_41 : decode mX7_takesItem.2.1 41 = .ok (.iconst 1, 1) := by decide +kernel
theorem dX7_takesItem_42 : decode mX7_takesItem.2.1 42 = .ok (.ireturn, 1) := by decide +kernel
theorem dX7_takesItem_43 : decode mX7_takesItem.2.1 43 = .ok (.aload_n 0, 1) := by decide +kernel
theorem dX7_takesItem_44 : decode mX7_takesItem.2.1 44 = .ok (.getfield 47, 3) := by decide +kernel
theorem dX7_takesItem_47 : decode mX7_takesItem.2.1 47 = .ok (.iload_n 2, 1) := by decide +kernel
theorem dX7_takesItem_48 : decode mX7_takesItem.2.1 48 = .ok (.iaload, 1) := by decide +kernel
theorem dX7_takesItem_49 : decode mX7_takesItem.2.1 49 = .ok (.bipush 6, 2) := by decide +kernel
theorem dX7_takesItem_51 : decode mX7_takesItem.2.1 51 = .ok (.if_icmp .ne 5, 3) := by decide +kernel
theorem dX7_takesItem_54 : decode mX7_takesItem.2.1 54 = .ok (.iconst 0, 1) := by decide +kernel
theorem dX7_takesItem_55 : decode mX7_takesItem.2.1 55 = .ok (.ireturn, 1) := by decide +kernel
theorem dX7_takesItem_56 : decode mX7_takesItem.2.1 56 = .ok (.iload_n 1, 1) := by decide +kernel
theorem dX7_takesItem_57 : decode mX7_takesItem.2.1 57 = .ok (.bipush 94, 2) := by decide +kernel
theorem dX7_takesItem_59 : decode mX7_takesItem.2.1 59 = .ok (.if_icmp .ne 20, 3) := by decide +kernel
theorem dX7_takesItem_62 : decode mX7_takesItem.2.1 62 = .ok (.aload_n 0, 1) := by decide +kernel
theorem dX7_takesItem_63 : decode mX7_takesItem.2.1 63 = .ok (.getfield 96, 3) := by decide +kernel
theorem dX7_takesItem_66 : decode mX7_takesItem.2.1 66 = .ok (.bipush 7, 2) := by decide +kernel
theorem dX7_takesItem_68 : decode mX7_takesItem.2.1 68 = .ok (.if_icmp .ne 11, 3) := by decide +kernel
theorem dX7_takesItem_71 : decode mX7_takesItem.2.1 71 = .ok (.aload_n 0, 1) := by decide +kernel
theorem dX7_takesItem_72 : decode mX7_takesItem.2.1 72 = .ok (.bipush 8, 2) := by decide +kernel
theorem dX7_takesItem_74 : decode mX7_takesItem.2.1 74 = .ok (.putfield 96, 3) := by decide +kernel
theorem dX7_takesItem_77 : decode mX7_takesItem.2.1 77 = .ok (.iconst 1, 1) := by decide +kernel
theorem dX7_takesItem_78 : decode mX7_takesItem.2.1 78 = .ok (.ireturn, 1) := by decide +kernel
theorem dX7_takesItem_79 : decode mX7_takesItem.2.1 79 = .ok (.iload_n 3, 1) := by decide +kernel
theorem dX7_takesItem_80 : decode mX7_takesItem.2.1 80 = .ok (.iconst (-1), 1) := by decide +kernel
theorem dX7_takesItem_81 : decode mX7_takesItem.2.1 81 = .ok (.if_icmp .eq 18, 3) := by decide +kernel
theorem dX7_takesItem_84 : decode mX7_takesItem.2.1 84 = .ok (.aload_n 0, 1) := by decide +kernel
theorem dX7_takesItem_85 : decode mX7_takesItem.2.1 85 = .ok (.getfield 96, 3) := by decide +kernel
theorem dX7_takesItem_88 : decode mX7_takesItem.2.1 88 = .ok (.bipush 8, 2) := by decide +kernel
theorem dX7_takesItem_90 : decode mX7_takesItem.2.1 90 = .ok (.if_icmp .ne 11, 3) := by decide +kernel
theorem dX7_takesItem_93 : decode mX7_takesItem.2.1 93 = .ok (.iload_n 3, 1) := by decide +kernel
theorem dX7_takesItem_94 : decode mX7_takesItem.2.1 94 = .ok (.bipush 6, 2) := by decide +kernel
theorem dX7_takesItem_96 : decode mX7_takesItem.2.1 96 = .ok (.if_icmp .lt 5, 3) := by decide +kernel
theorem dX7_takesItem_99 : decode mX7_takesItem.2.1 99 = .ok (.iconst 0, 1) := by decide +kernel
theorem dX7_takesItem_100 : decode mX7_takesItem.2.1 100 = .ok (.ireturn, 1) := by decide +kernel
theorem dX7_takesItem_101 : decode mX7_takesItem.2.1 101 = .ok (.aload_n 0, 1) := by decide +kernel
theorem dX7_takesItem_102 : decode mX7_takesItem.2.1 102 = .ok (.getfield 50, 3) := by decide +kernel
theorem dX7_takesItem_105 : decode mX7_takesItem.2.1 105 = .ok (.bipush 6, 2) := by decide +kernel
theorem dX7_takesItem_107 : decode mX7_takesItem.2.1 107 = .ok (.iload_n 2, 1) := by decide +kernel
theorem dX7_takesItem_108 : decode mX7_takesItem.2.1 108 = .ok (.imul, 1) := by decide +kernel
theorem dX7_takesItem_109 : decode mX7_takesItem.2.1 109 = .ok (.aload_n 0, 1) := by decide +kernel
theorem dX7_takesItem_110 : decode mX7_takesItem.2.1 110 = .ok (.getfield 47, 3) := by decide +kernel
theorem dX7_takesItem_113 : decode mX7_takesItem.2.1 113 = .ok (.iload_n 2, 1) := by decide +kernel
theorem dX7_takesItem_114 : decode mX7_takesItem.2.1 114 = .ok (.iaload, 1) := by decide +kernel
theorem dX7_takesItem_115 : decode mX7_takesItem.2.1 115 = .ok (.iadd, 1) := by decide +kernel
theorem dX7_takesItem_116 : decode mX7_takesItem.2.1 116 = .ok (.aload_n 0, 1) := by decide +kernel
theorem dX7_takesItem_117 : decode mX7_takesItem.2.1 117 = .ok (.getfield 96, 3) := by decide +kernel
theorem dX7_takesItem_120 : decode mX7_takesItem.2.1 120 = .ok (.bipush 8, 2) := by decide +kernel
theorem dX7_takesItem_122 : decode mX7_takesItem.2.1 122 = .ok (.if_icmp .ne 10, 3) := by decide +kernel
theorem dX7_takesItem_125 : decode mX7_takesItem.2.1 125 = .ok (.bipush 20, 2) := by decide +kernel
theorem dX7_takesItem_127 : decode mX7_takesItem.2.1 127 = .ok (.iload_n 3, 1) := by decide +kernel
theorem dX7_takesItem_128 : decode mX7_takesItem.2.1 128 = .ok (.iadd, 1) := by decide +kernel
theorem dX7_takesItem_129 : decode mX7_takesItem.2.1 129 = .ok (.goto 4, 3) := by decide +kernel
theorem dX7_takesItem_132 : decode mX7_takesItem.2.1 132 = .ok (.iload_n 3, 1) := by decide +kernel
theorem dX7_takesItem_133 : decode mX7_takesItem.2.1 133 = .ok (.iastore, 1) := by decide +kernel
theorem dX7_takesItem_134 : decode mX7_takesItem.2.1 134 = .ok (.aload_n 0, 1) := by decide +kernel
theorem dX7_takesItem_135 : decode mX7_takesItem.2.1 135 = .ok (.getfield 47, 3) := by decide +kernel
theorem dX7_takesItem_138 : decode mX7_takesItem.2.1 138 = .ok (.iload_n 2, 1) := by decide +kernel
theorem dX7_takesItem_139 : decode mX7_takesItem.2.1 139 = .ok (.dup2, 1) := by decide +kernel
theorem dX7_takesItem_140 : decode mX7_takesItem.2.1 140 = .ok (.iaload, 1) := by decide +kernel
theorem dX7_takesItem_141 : decode mX7_takesItem.2.1 141 = .ok (.iconst 1, 1) := by decide +kernel
theorem dX7_takesItem_142 : decode mX7_takesItem.2.1 142 = .ok (.iadd, 1) := by decide +kernel
theorem dX7_takesItem_143 : decode mX7_takesItem.2.1 143 = .ok (.iastore, 1) := by decide +kernel
theorem dX7_takesItem_144 : decode mX7_takesItem.2.1 144 = .ok (.aload_n 0, 1) := by decide +kernel
theorem dX7_takesItem_145 : decode mX7_takesItem.2.1 145 = .ok (.bipush 7, 2) := by decide +kernel
theorem dX7_takesItem_147 : decode mX7_takesItem.2.1 147 = .ok (.putfield 96, 3) := by decide +kernel
theorem dX7_takesItem_150 : decode mX7_takesItem.2.1 150 = .ok (.iconst 1, 1) := by decide +kernel
theorem dX7_takesItem_151 : decode mX7_takesItem.2.1 151 = .ok (.ireturn, 1) := by decide +kernel
theorem dX7_takesHead_0 : decode mX7_takesHead.2.1 0 = .ok (.aload_n 0, 1) := by decide +kernel
theorem dX7_takesHead_1 : decode mX7_takesHead.2.1 1 = .ok (.getfield 96, 3) := by decide +kernel
theorem dX7_takesHead_4 : decode mX7_takesHead.2.1 4 = .ok (.ifCond .ne 25, 3) := by decide +kernel
theorem dX7_takesHead_7 : decode mX7_takesHead.2.1 7 = .ok (.aload_n 0, 1) := by decide +kernel
theorem dX7_takesHead_8 : decode mX7_takesHead.2.1 8 = .ok (.iconst 1, 1) := by decide +kernel
theorem dX7_takesHead_9 : decode mX7_takesHead.2.1 9 = .ok (.putfield 96, 3) := by decide +kernel
theorem dX7_takesHead_12 : decode mX7_takesHead.2.1 12 = .ok (.iload_n 1, 1) := by decide +kernel
theorem dX7_takesHead_13 : decode mX7_takesHead.2.1 13 = .ok (.bipush 65, 2) := by decide +kernel
theorem dX7_takesHead_15 : decode mX7_takesHead.2.1 15 = .ok (.aload_n 0, 1) := by decide +kernel
theorem dX7_takesHead_16 : decode mX7_takesHead.2.1 16 = .ok (.getfield 112, 3) := by decide +kernel
theorem dX7_takesHead_19 : decode mX7_takesHead.2.1 19 = .ok (.iadd, 1) := by decide +kernel
theorem dX7_takesHead_20 : decode mX7_takesHead.2.1 20 = .ok (.if_icmp .ne 7, 3) := by decide +kernel
theorem dX7_takesHead_23 : decode mX7_takesHead.2.1 23 = .ok (.iconst 1, 1) := by decide +kernel
theorem dX7_takesHead_24 : decode mX7_takesHead.2.1 24 = .ok (.goto 4, 3) := by decide +kernel
theorem dX7_takesHead_27 : decode mX7_takesHead.2.1 27 = .ok (.iconst 0, 1) := by decide +kernel
theorem dX7_takesHead_28 : decode mX7_takesHead.2.1 28 = .ok (.ireturn, 1) := by decide +kernel
theorem dX7_takesHead_29 : decode mX7_takesHead.2.1 29 = .ok (.aload_n 0, 1) := by decide +kernel
theorem dX7_takesHead_30 : decode mX7_takesHead.2.1 30 = .ok (.getfield 96, 3) := by decide +kernel
theorem dX7_takesHead_33 : decode mX7_takesHead.2.1 33 = .ok (.iconst 2, 1) := by decide +kernel
theorem dX7_takesHead_34 : decode mX7_takesHead.2.1 34 = .ok (.if_icmp .ne 31, 3) := by decide +kernel
theorem dX7_takesHead_37 : decode mX7_takesHead.2.1 37 = .ok (.aload_n 0, 1) := by decide +kernel
theorem dX7_takesHead_38 : decode mX7_takesHead.2.1 38 = .ok (.iload_n 1, 1) := by decide +kernel
theorem dX7_takesHead_39 : decode mX7_takesHead.2.1 39 = .ok (.bipush 65, 2) := by decide +kernel
theorem dX7_takesHead_41 : decode mX7_takesHead.2.1 41 = .ok (.isub, 1) := by decide +kernel
theorem dX7_takesHead_42 : decode mX7_takesHead.2.1 42 = .ok (.putfield 115, 3) := by decide +kernel
theorem dX7_takesHead_45 : decode mX7_takesHead.2.1 45 = .ok (.aload_n 0, 1) := by decide +kernel
theorem dX7_takesHead_46 : decode mX7_takesHead.2.1 46 = .ok (.iconst 3, 1) := by decide +kernel
theorem dX7_takesHead_47 : decode mX7_takesHead.2.1 47 = .ok (.putfield 96, 3) := by decide +kernel
theorem dX7_takesHead_50 : decode mX7_takesHead.2.1 50 = .ok (.aload_n 0, 1) := by decide +kernel
theorem dX7_takesHead_51 : decode mX7_takesHead.2.1 51 = .ok (.getfield 115, 3) := by decide +kernel
theorem dX7_takesHead_54 : decode mX7_takesHead.2.1 54 = .ok (.iconst 0, 1) := by decide +kernel
theorem dX7_takesHead_55 : decode mX7_takesHead.2.1 55 = .ok (.aload_n 0, 1) := by decide +kernel
theorem dX7_takesHead_56 : decode mX7_takesHead.2.1 56 = .ok (.getfield 112, 3) := by decide +kernel
theorem dX7_takesHead_59 : decode mX7_takesHead.2.1 59 = .ok (.iconst 1, 1) := by decide +kernel
theorem dX7_takesHead_60 : decode mX7_takesHead.2.1 60 = .ok (.isub, 1) := by decide +kernel
theorem dX7_takesHead_61 : decode mX7_takesHead.2.1 61 = .ok (.invokestatic 77, 3) := by decide +kernel
theorem dX7_takesHead_64 : decode mX7_takesHead.2.1 64 = .ok (.ireturn, 1) := by decide +kernel
theorem dX7_takesHead_65 : decode mX7_takesHead.2.1 65 = .ok (.iload_n 1, 1) := by decide +kernel
theorem dX7_takesHead_66 : decode mX7_takesHead.2.1 66 = .ok (.bipush 60, 2) := by decide +kernel
theorem dX7_takesHead_68 : decode mX7_takesHead.2.1 68 = .ok (.if_icmp .ne 25, 3) := by decide +kernel
theorem dX7_takesHead_71 : decode mX7_takesHead.2.1 71 = .ok (.aload_n 0, 1) := by decide +kernel
theorem dX7_takesHead_72 : decode mX7_takesHead.2.1 72 = .ok (.getfield 96, 3) := by decide +kernel
theorem dX7_takesHead_75 : decode mX7_takesHead.2.1 75 = .ok (.iconst 1, 1) := by decide +kernel
theorem dX7_takesHead_76 : decode mX7_takesHead.2.1 76 = .ok (.if_icmp .ne 17, 3) := by decide +kernel
theorem dX7_takesHead_79 : decode mX7_takesHead.2.1 79 = .ok (.aload_n 0, 1) := by decide +kernel
theorem dX7_takesHead_80 : decode mX7_takesHead.2.1 80 = .ok (.getfield 112, 3) := by decide +kernel
theorem dX7_takesHead_83 : decode mX7_takesHead.2.1 83 = .ok (.ifCond .le 10, 3) := by decide +kernel
theorem dX7_takesHead_86 : decode mX7_takesHead.2.1 86 = .ok (.aload_n 0, 1) := by decide +kernel
theorem dX7_takesHead_87 : decode mX7_takesHead.2.1 87 = .ok (.iconst 2, 1) := by decide +kernel
theorem dX7_takesHead_88 : decode mX7_takesHead.2.1 88 = .ok (.putfield 96, 3) := by decide +kernel
theorem dX7_takesHead_91 : decode mX7_takesHead.2.1 91 = .ok (.iconst 1, 1) := by decide +kernel
theorem dX7_takesHead_92 : decode mX7_takesHead.2.1 92 = .ok (.ireturn, 1) := by decide +kernel
theorem dX7_takesHead_93 : decode mX7_takesHead.2.1 93 = .ok (.aload_n 0, 1) := by decide +kernel
theorem dX7_takesHead_94 : decode mX7_takesHead.2.1 94 = .ok (.iconst 4, 1) := by decide +kernel
theorem dX7_takesHead_95 : decode mX7_takesHead.2.1 95 = .ok (.putfield 96, 3) := by decide +kernel
theorem dX7_takesHead_98 : decode mX7_takesHead.2.1 98 = .ok (.iload_n 1, 1) := by decide +kernel
theorem dX7_takesHead_99 : decode mX7_takesHead.2.1 99 = .ok (.bipush 58, 2) := by decide +kernel
theorem dX7_takesHead_101 : decode mX7_takesHead.2.1 101 = .ok (.if_icmp .ne 7, 3) := by decide +kernel
theorem dX7_takesHead_104 : decode mX7_takesHead.2.1 104 = .ok (.iconst 1, 1) := by decide +kernel
theorem dX7_takesHead_105 : decode mX7_takesHead.2.1 105 = .ok (.goto 4, 3) := by decide +kernel
theorem dX7_takesHead_108 : decode mX7_takesHead.2.1 108 = .ok (.iconst 0, 1) := by decide +kernel
theorem dX7_takesHead_109 : decode mX7_takesHead.2.1 109 = .ok (.ireturn, 1) := by decide +kernel
theorem dX7_takes_0 : decode mX7_takes.2.1 0 = .ok (.aload_n 0, 1) := by decide +kernel
theorem dX7_takes_1 : decode mX7_takes.2.1 1 = .ok (.getfield 96, 3) := by decide +kernel
theorem dX7_takes_4 : decode mX7_takes.2.1 4 = .ok (.iconst 4, 1) := by decide +kernel
theorem dX7_takes_5 : decode mX7_takes.2.1 5 = .ok (.if_icmp .ge 9, 3) := by decide +kernel
theorem dX7_takes_8 : decode mX7_takes.2.1 8 = .ok (.aload_n 0, 1) := by decide +kernel
theorem dX7_takes_9 : decode mX7_takes.2.1 9 = .ok (.iload_n 1, 1) := by decide +kernel
theorem dX7_takes_10 : decode mX7_takes.2.1 10 = .ok (.invokevirtual 118, 3) := by decide +kernel
theorem dX7_takes_13 : decode mX7_takes.2.1 13 = .ok (.ireturn, 1) := by decide +kernel
theorem dX7_takes_14 : decode mX7_takes.2.1 14 = .ok (.aload_n 0, 1) := by decide +kernel
theorem dX7_takes_15 : decode mX7_takes.2.1 15 = .ok (.getfield 96, 3) := by decide +kernel
theorem dX7_takes_18 : decode mX7_takes.2.1 18 = .ok (.iconst 4, 1) := by decide +kernel
theorem dX7_takes_19 : decode mX7_takes.2.1 19 = .ok (.if_icmp .ne 9, 3) := by decide +kernel
theorem dX7_takes_22 : decode mX7_takes.2.1 22 = .ok (.aload_n 0, 1) := by decide +kernel
theorem dX7_takes_23 : decode mX7_takes.2.1 23 = .ok (.iload_n 1, 1) := by decide +kernel
theorem dX7_takes_24 : decode mX7_takes.2.1 24 = .ok (.invokevirtual 108, 3) := by decide +kernel
theorem dX7_takes_27 : decode mX7_takes.2.1 27 = .ok (.ireturn, 1) := by decide +kernel
theorem dX7_takes_28 : decode mX7_takes.2.1 28 = .ok (.aload_n 0, 1) := by decide +kernel
theorem dX7_takes_29 : decode mX7_takes.2.1 29 = .ok (.getfield 96, 3) := by decide +kernel
theorem dX7_takes_32 : decode mX7_takes.2.1 32 = .ok (.bipush 7, 2) := by decide +kernel
theorem dX7_takes_34 : decode mX7_takes.2.1 34 = .ok (.if_icmp .ge 11, 3) := by decide +kernel
theorem dX7_takes_37 : decode mX7_takes.2.1 37 = .ok (.aload_n 0, 1) := by decide +kernel
theorem dX7_takes_38 : decode mX7_takes.2.1 38 = .ok (.iload_n 1, 1) := by decide +kernel
theorem dX7_takes_39 : decode mX7_takes.2.1 39 = .ok (.invokevirtual 121, 3) := by decide +kernel
theorem dX7_takes_42 : decode mX7_takes.2.1 42 = .ok (.goto 8, 3) := by decide +kernel
theorem dX7_takes_45 : decode mX7_takes.2.1 45 = .ok (.aload_n 0, 1) := by decide +kernel
theorem dX7_takes_46 : decode mX7_takes.2.1 46 = .ok (.iload_n 1, 1) := by decide +kernel
theorem dX7_takes_47 : decode mX7_takes.2.1 47 = .ok (.invokevirtual 124, 3) := by decide +kernel
theorem dX7_takes_50 : decode mX7_takes.2.1 50 = .ok (.ireturn, 1) := by decide +kernel
theorem dX7_read_0 : decode mX7_read.2.1 0 = .ok (.aload_n 0, 1) := by decide +kernel
theorem dX7_read_1 : decode mX7_read.2.1 1 = .ok (.iconst 0, 1) := by decide +kernel
theorem dX7_read_2 : decode mX7_read.2.1 2 = .ok (.putfield 96, 3) := by decide +kernel
theorem dX7_read_5 : decode mX7_read.2.1 5 = .ok (.aload_n 0, 1) := by decide +kernel
theorem dX7_read_6 : decode mX7_read.2.1 6 = .ok (.iconst (-1), 1) := by decide +kernel
theorem dX7_read_7 : decode mX7_read.2.1 7 = .ok (.putfield 115, 3) := by decide +kernel
theorem dX7_read_10 : decode mX7_read.2.1 10 = .ok (.aload_n 0, 1) := by decide +kernel
theorem dX7_read_11 : decode mX7_read.2.1 11 = .ok (.iconst 0, 1) := by decide +kernel
theorem dX7_read_12 : decode mX7_read.2.1 12 = .ok (.putfield 89, 3) := by decide +kernel
theorem dX7_read_15 : decode mX7_read.2.1 15 = .ok (.aload_n 0, 1) := by decide +kernel
theorem dX7_read_16 : decode mX7_read.2.1 16 = .ok (.iconst 0, 1) := by decide +kernel
theorem dX7_read_17 : decode mX7_read.2.1 17 = .ok (.putfield 105, 3) := by decide +kernel
theorem dX7_read_20 : decode mX7_read.2.1 20 = .ok (.aload_n 0, 1) := by decide +kernel
theorem dX7_read_21 : decode mX7_read.2.1 21 = .ok (.iconst 0, 1) := by decide +kernel
theorem dX7_read_22 : decode mX7_read.2.1 22 = .ok (.putfield 99, 3) := by decide +kernel
theorem dX7_read_25 : decode mX7_read.2.1 25 = .ok (.iconst 0, 1) := by decide +kernel
theorem dX7_read_26 : decode mX7_read.2.1 26 = .ok (.istore_n 1, 1) := by decide +kernel
theorem dX7_read_27 : decode mX7_read.2.1 27 = .ok (.iload_n 1, 1) := by decide +kernel
theorem dX7_read_28 : decode mX7_read.2.1 28 = .ok (.aload_n 0, 1) := by decide +kernel
theorem dX7_read_29 : decode mX7_read.2.1 29 = .ok (.getfield 81, 3) := by decide +kernel
theorem dX7_read_32 : decode mX7_read.2.1 32 = .ok (.if_icmp .ge 22, 3) := by decide +kernel
theorem dX7_read_35 : decode mX7_read.2.1 35 = .ok (.aload_n 0, 1) := by decide +kernel
theorem dX7_read_36 : decode mX7_read.2.1 36 = .ok (.aload_n 0, 1) := by decide +kernel
theorem dX7_read_37 : decode mX7_read.2.1 37 = .ok (.getfield 7, 3) := by decide +kernel
theorem dX7_read_40 : decode mX7_read.2.1 40 = .ok (.iload_n 1, 1) := by decide +kernel
theorem dX7_read_41 : decode mX7_read.2.1 41 = .ok (.iaload, 1) := by decide +kernel
theorem dX7_read_42 : decode mX7_read.2.1 42 = .ok (.invokevirtual 127, 3) := by decide +kernel
theorem dX7_read_45 : decode mX7_read.2.1 45 = .ok (.ifCond .eq 9, 3) := by decide +kernel
theorem dX7_read_48 : decode mX7_read.2.1 48 = .ok (.iinc 1 1, 3) := by decide +kernel
theorem dX7_read_51 : decode mX7_read.2.1 51 = .ok (.goto (-24), 3) := by decide +kernel
theorem dX7_read_54 : decode mX7_read.2.1 54 = .ok (.iload_n 1, 1) := by decide +kernel
theorem dX7_read_55 : decode mX7_read.2.1 55 = .ok (.ireturn, 1) := by decide +kernel
theorem dX7_fault_0 : decode mX7_fault.2.1 0 = .ok (.aload_n 0, 1) := by decide +kernel
theorem dX7_fault_1 : decode mX7_fault.2.1 1 = .ok (.invokevirtual 130, 3) := by decide +kernel
theorem dX7_fault_4 : decode mX7_fault.2.1 4 = .ok (.ireturn, 1) := by decide +kernel
theorem dX7_type_0 : decode mX7_type.2.1 0 = .ok (.aload_n 0, 1) := by decide +kernel
theorem dX7_type_1 : decode mX7_type.2.1 1 = .ok (.invokevirtual 130, 3) := by decide +kernel
theorem dX7_type_4 : decode mX7_type.2.1 4 = .ok (.aload_n 0, 1) := by decide +kernel
theorem dX7_type_5 : decode mX7_type.2.1 5 = .ok (.getfield 81, 3) := by decide +kernel
theorem dX7_type_8 : decode mX7_type.2.1 8 = .ok (.if_icmp .lt 16, 3) := by decide +kernel
theorem dX7_type_11 : decode mX7_type.2.1 11 = .ok (.aload_n 0, 1) := by decide +kernel
theorem dX7_type_12 : decode mX7_type.2.1 12 = .ok (.getfield 96, 3) := by decide +kernel
theorem dX7_type_15 : decode mX7_type.2.1 15 = .ok (.iconst 4, 1) := by decide +kernel
theorem dX7_type_16 : decode mX7_type.2.1 16 = .ok (.bipush 6, 2) := by decide +kernel
theorem dX7_type_18 : decode mX7_type.2.1 18 = .ok (.invokestatic 77, 3) := by decide +kernel
theorem dX7_type_21 : decode mX7_type.2.1 21 = .ok (.ifCond .ne 7, 3) := by decide +kernel
theorem dX7_type_24 : decode mX7_type.2.1 24 = .ok (.sipush (-1003), 3) := by decide +kernel
theorem dX7_type_27 : decode mX7_type.2.1 27 = .ok (.ireturn, 1) := by decide +kernel
theorem dX7_type_28 : decode mX7_type.2.1 28 = .ok (.aload_n 0, 1) := by decide +kernel
theorem dX7_type_29 : decode mX7_type.2.1 29 = .ok (.getfield 112, 3) := by decide +kernel
theorem dX7_type_32 : decode mX7_type.2.1 32 = .ok (.bipush 8, 2) := by decide +kernel
theorem dX7_type_34 : decode mX7_type.2.1 34 = .ok (.if_icmp .eq 17, 3) := by decide +kernel
theorem dX7_type_37 : decode mX7_type.2.1 37 = .ok (.aload_n 0, 1) := by decide +kernel
theorem dX7_type_38 : decode mX7_type.2.1 38 = .ok (.getfield 134, 3) := by decide +kernel
theorem dX7_type_41 : decode mX7_type.2.1 41 = .ok (.aload_n 0, 1) := by decide +kernel
theorem dX7_type_42 : decode mX7_type.2.1 42 = .ok (.getfield 99, 3) := by decide +kernel
theorem dX7_type_45 : decode mX7_type.2.1 45 = .ok (.iadd, 1) := by decide +kernel
theorem dX7_type_46 : decode mX7_type.2.1 46 = .ok (.bipush 40, 2) := by decide +kernel
theorem dX7_type_48 : decode mX7_type.2.1 48 = .ok (.if_icmp .le 7, 3) := by decide +kernel
theorem dX7_type_51 : decode mX7_type.2.1 51 = .ok (.sipush (-1004), 3) := by decide +kernel
theorem dX7_type_54 : decode mX7_type.2.1 54 = .ok (.ireturn, 1) := by decide +kernel
theorem dX7_type_55 : decode mX7_type.2.1 55 = .ok (.aload_n 0, 1) := by decide +kernel
theorem dX7_type_56 : decode mX7_type.2.1 56 = .ok (.getfield 13, 3) := by decide +kernel
theorem dX7_type_59 : decode mX7_type.2.1 59 = .ok (.aload_n 0, 1) := by decide +kernel
theorem dX7_type_60 : decode mX7_type.2.1 60 = .ok (.getfield 112, 3) := by decide +kernel
theorem dX7_type_63 : decode mX7_type.2.1 63 = .ok (.aload_n 0, 1) := by decide +kernel
theorem dX7_type_64 : decode mX7_type.2.1 64 = .ok (.getfield 115, 3) := by decide +kernel
theorem dX7_type_67 : decode mX7_type.2.1 67 = .ok (.iastore, 1) := by decide +kernel
theorem dX7_type_68 : decode mX7_type.2.1 68 = .ok (.aload_n 0, 1) := by decide +kernel
theorem dX7_type_69 : decode mX7_type.2.1 69 = .ok (.getfield 16, 3) := by decide +kernel
theorem dX7_type_72 : decode mX7_type.2.1 72 = .ok (.aload_n 0, 1) := by decide +kernel
theorem dX7_type_73 : decode mX7_type.2.1 73 = .ok (.getfield 112, 3) := by decide +kernel
theorem dX7_type_76 : decode mX7_type.2.1 76 = .ok (.iconst 0, 1) := by decide +kernel
theorem dX7_type_77 : decode mX7_type.2.1 77 = .ok (.bastore, 1) := by decide +kernel
theorem dX7_type_78 : decode mX7_type.2.1 78 = .ok (.aload_n 0, 1) := by decide +kernel
theorem dX7_type_79 : decode mX7_type.2.1 79 = .ok (.getfield 23, 3) := by decide +kernel
theorem dX7_type_82 : decode mX7_type.2.1 82 = .ok (.aload_n 0, 1) := by decide +kernel
theorem dX7_type_83 : decode mX7_type.2.1 83 = .ok (.getfield 112, 3) := by decide +kernel
theorem dX7_type_86 : decode mX7_type.2.1 86 = .ok (.aload_n 0, 1) := by decide +kernel
theorem dX7_type_87 : decode mX7_type.2.1 87 = .ok (.getfield 105, 3) := by decide +kernel
theorem dX7_type_90 : decode mX7_type.2.1 90 = .ok (.iastore, 1) := by decide +kernel
theorem dX7_type_91 : decode mX7_type.2.1 91 = .ok (.iconst 0, 1) := by decide +kernel
theorem dX7_type_92 : decode mX7_type.2.1 92 = .ok (.istore_n 1, 1) := by decide +kernel
theorem dX7_type_93 : decode mX7_type.2.1 93 = .ok (.iload_n 1, 1) := by decide +kernel
theorem dX7_type_94 : decode mX7_type.2.1 94 = .ok (.bipush 12, 2) := by decide +kernel
theorem dX7_type_96 : decode mX7_type.2.1 96 = .ok (.if_icmp .ge 79, 3) := by decide +kernel
theorem dX7_type_99 : decode mX7_type.2.1 99 = .ok (.iload_n 1, 1) := by decide +kernel
theorem dX7_type_100 : decode mX7_type.2.1 100 = .ok (.bipush 6, 2) := by decide +kernel
theorem dX7_type_102 : decode mX7_type.2.1 102 = .ok (.if_icmp .ge 27, 3) := by decide +kernel
theorem dX7_type_105 : decode mX7_type.2.1 105 = .ok (.aload_n 0, 1) := by decide +kernel
theorem dX7_type_106 : decode mX7_type.2.1 106 = .ok (.getfield 134, 3) := by decide +kernel
theorem dX7_type_109 : decode mX7_type.2.1 109 = .ok (.aload_n 0, 1) := by decide +kernel
theorem dX7_type_110 : decode mX7_type.2.1 110 = .ok (.getfield 44, 3) := by decide +kernel
theorem dX7_type_113 : decode mX7_type.2.1 113 = .ok (.iload_n 1, 1) := by decide +kernel
theorem dX7_type_114 : decode mX7_type.2.1 114 = .ok (.bipush 6, 2) := by decide +kernel
theorem dX7_type_116 : decode mX7_type.2.1 116 = .ok (.if_icmp .ge 7, 3) := by decide +kernel
theorem dX7_type_119 : decode mX7_type.2.1 119 = .ok (.iload_n 1, 1) := by decide +kernel
theorem dX7_type_120 : decode mX7_type.2.1 120 = .ok (.goto 4, 3) := by decide +kernel
theorem dX7_type_123 : decode mX7_type.2.1 123 = .ok (.iconst 0, 1) := by decide +kernel
theorem dX7_type_124 : decode mX7_type.2.1 124 = .ok (.iaload, 1) := by decide +kernel
theorem dX7_type_125 : decode mX7_type.2.1 125 = .ok (.iadd, 1) := by decide +kernel
theorem dX7_type_126 : decode mX7_type.2.1 126 = .ok (.goto 12, 3) := by decide +kernel
theorem dX7_type_129 : decode mX7_type.2.1 129 = .ok (.bipush 12, 2) := by decide +kernel
theorem dX7_type_131 : decode mX7_type.2.1 131 = .ok (.aload_n 0, 1) := by decide +kernel
theorem dX7_type_132 : decode mX7_type.2.1 132 = .ok (.getfield 112, 3) := by decide +kernel
theorem dX7_type_135 : decode mX7_type.2.1 135 = .ok (.imul, 1) := by decide +kernel
theorem dX7_type_136 : decode mX7_type.2.1 136 = .ok (.iload_n 1, 1) := by decide +kernel
theorem dX7_type_137 : decode mX7_type.2.1 137 = .ok (.iadd, 1) := by decide +kernel
theorem dX7_type_138 : decode mX7_type.2.1 138 = .ok (.istore_n 2, 1) := by decide +kernel
theorem dX7_type_139 : decode mX7_type.2.1 139 = .ok (.aload_n 0, 1) := by decide +kernel
theorem dX7_type_140 : decode mX7_type.2.1 140 = .ok (.getfield 20, 3) := by decide +kernel
theorem dX7_type_143 : decode mX7_type.2.1 143 = .ok (.bipush 12, 2) := by decide +kernel
theorem dX7_type_145 : decode mX7_type.2.1 145 = .ok (.aload_n 0, 1) := by decide +kernel
theorem dX7_type_146 : decode mX7_type.2.1 146 = .ok (.getfield 112, 3) := by decide +kernel
theorem dX7_type_149 : decode mX7_type.2.1 149 = .ok (.imul, 1) := by decide +kernel
theorem dX7_type_150 : decode mX7_type.2.1 150 = .ok (.iload_n 1, 1) := by decide +kernel
theorem dX7_type_151 : decode mX7_type.2.1 151 = .ok (.iadd, 1) := by decide +kernel
theorem dX7_type_152 : decode mX7_type.2.1 152 = .ok (.aload_n 0, 1) := by decide +kernel
theorem dX7_type_153 : decode mX7_type.2.1 153 = .ok (.getfield 89, 3) := by decide +kernel
theorem dX7_type_156 : decode mX7_type.2.1 156 = .ok (.iload_n 1, 1) := by decide +kernel
theorem dX7_type_157 : decode mX7_type.2.1 157 = .ok (.invokestatic 92, 3) := by decide +kernel
theorem dX7_type_160 : decode mX7_type.2.1 160 = .ok (.ifCond .eq 7, 3) := by decide +kernel
theorem dX7_type_163 : decode mX7_type.2.1 163 = .ok (.iload_n 2, 1) := by decide +kernel
theorem dX7_type_164 : decode mX7_type.2.1 164 = .ok (.goto 4, 3) := by decide +kernel
theorem dX7_type_167 : decode mX7_type.2.1 167 = .ok (.iconst (-1), 1) := by decide +kernel
theorem dX7_type_168 : decode mX7_type.2.1 168 = .ok (.iastore, 1) := by decide +kernel
theorem dX7_type_169 : decode mX7_type.2.1 169 = .ok (.iinc 1 1, 3) := by decide +kernel
theorem dX7_type_172 : decode mX7_type.2.1 172 = .ok (.goto (-79), 3) := by decide +kernel
theorem dX7_type_175 : decode mX7_type.2.1 175 = .ok (.iconst 0, 1) := by decide +kernel
theorem dX7_type_176 : decode mX7_type.2.1 176 = .ok (.istore_n 1, 1) := by decide +kernel
theorem dX7_type_177 : decode mX7_type.2.1 177 = .ok (.iload_n 1, 1) := by decide +kernel
theorem dX7_type_178 : decode mX7_type.2.1 178 = .ok (.aload_n 0, 1) := by decide +kernel
theorem dX7_type_179 : decode mX7_type.2.1 179 = .ok (.getfield 99, 3) := by decide +kernel
theorem dX7_type_182 : decode mX7_type.2.1 182 = .ok (.if_icmp .ge 86, 3) := by decide +kernel
theorem dX7_type_185 : decode mX7_type.2.1 185 = .ok (.aload_n 0, 1) := by decide +kernel
theorem dX7_type_186 : decode mX7_type.2.1 186 = .ok (.getfield 26, 3) := by decide +kernel
theorem dX7_type_189 : decode mX7_type.2.1 189 = .ok (.aload_n 0, 1) := by decide +kernel
theorem dX7_type_190 : decode mX7_type.2.1 190 = .ok (.getfield 134, 3) := by decide +kernel
theorem dX7_type_193 : decode mX7_type.2.1 193 = .ok (.iload_n 1, 1) := by decide +kernel
theorem dX7_type_194 : decode mX7_type.2.1 194 = .ok (.iadd, 1) := by decide +kernel
theorem dX7_type_195 : decode mX7_type.2.1 195 = .ok (.aload_n 0, 1) := by decide +kernel
theorem dX7_type_196 : decode mX7_type.2.1 196 = .ok (.getfield 112, 3) := by decide +kernel
theorem dX7_type_199 : decode mX7_type.2.1 199 = .ok (.iastore, 1) := by decide +kernel
theorem dX7_type_200 : decode mX7_type.2.1 200 = .ok (.aload_n 0, 1) := by decide +kernel
theorem dX7_type_201 : decode mX7_type.2.1 201 = .ok (.getfield 29, 3) := by decide +kernel
theorem dX7_type_204 : decode mX7_type.2.1 204 = .ok (.aload_n 0, 1) := by decide +kernel
theorem dX7_type_205 : decode mX7_type.2.1 205 = .ok (.getfield 134, 3) := by decide +kernel
theorem dX7_type_208 : decode mX7_type.2.1 208 = .ok (.iload_n 1, 1) := by decide +kernel
theorem dX7_type_209 : decode mX7_type.2.1 209 = .ok (.iadd, 1) := by decide +kernel
theorem dX7_type_210 : decode mX7_type.2.1 210 = .ok (.aload_n 0, 1) := by decide +kernel
theorem dX7_type_211 : decode mX7_type.2.1 211 = .ok (.getfield 47, 3) := by decide +kernel
theorem dX7_type_214 : decode mX7_type.2.1 214 = .ok (.iload_n 1, 1) := by decide +kernel
theorem dX7_type_215 : decode mX7_type.2.1 215 = .ok (.iaload, 1) := by decide +kernel
theorem dX7_type_216 : decode mX7_type.2.1 216 = .ok (.iastore, 1) := by decide +kernel
theorem dX7_type_217 : decode mX7_type.2.1 217 = .ok (.iconst 0, 1) := by decide +kernel
theorem dX7_type_218 : decode mX7_type.2.1 218 = .ok (.istore_n 2, 1) := by decide +kernel
theorem dX7_type_219 : decode mX7_type.2.1 219 = .ok (.iload_n 2, 1) := by decide +kernel
theorem dX7_type_220 : decode mX7_type.2.1 220 = .ok (.aload_n 0, 1) := by decide +kernel
theorem dX7_type_221 : decode mX7_type.2.1 221 = .ok (.getfield 47, 3) := by decide +kernel
theorem dX7_type_224 : decode mX7_type.2.1 224 = .ok (.iload_n 1, 1) := by decide +kernel
theorem dX7_type_225 : decode mX7_type.2.1 225 = .ok (.iaload, 1) := by decide +kernel
theorem dX7_type_226 : decode mX7_type.2.1 226 = .ok (.if_icmp .ge 36, 3) := by decide +kernel
theorem dX7_type_229 : decode mX7_type.2.1 229 = .ok (.aload_n 0, 1) := by decide +kernel
theorem dX7_type_230 : decode mX7_type.2.1 230 = .ok (.getfield 32, 3) := by decide +kernel
theorem dX7_type_233 : decode mX7_type.2.1 233 = .ok (.bipush 6, 2) := by decide +kernel
theorem dX7_type_235 : decode mX7_type.2.1 235 = .ok (.aload_n 0, 1) := by decide +kernel
theorem dX7_type_236 : decode mX7_type.2.1 236 = .ok (.getfield 134, 3) := by decide +kernel
theorem dX7_type_239 : decode mX7_type.2.1 239 = .ok (.iload_n 1, 1) := by decide +kernel
theorem dX7_type_240 : decode mX7_type.2.1 240 = .ok (.iadd, 1) := by decide +kernel
theorem dX7_type_241 : decode mX7_type.2.1 241 = .ok (.imul, 1) := by decide +kernel
theorem dX7_type_242 : decode mX7_type.2.1 242 = .ok (.iload_n 2, 1) := by decide +kernel
theorem dX7_type_243 : decode mX7_type.2.1 243 = .ok (.iadd, 1) := by decide +kernel
theorem dX7_type_244 : decode mX7_type.2.1 244 = .ok (.aload_n 0, 1) := by decide +kernel
theorem dX7_type_245 : decode mX7_type.2.1 245 = .ok (.getfield 50, 3) := by decide +kernel
theorem dX7_type_248 : decode mX7_type.2.1 248 = .ok (.bipush 6, 2) := by decide +kernel
theorem dX7_type_250 : decode mX7_type.2.1 250 = .ok (.iload_n 1, 1) := by decide +kernel
theorem dX7_type_251 : decode mX7_type.2.1 251 = .ok (.imul, 1) := by decide +kernel
theorem dX7_type_252 : decode mX7_type.2.1 252 = .ok (.iload_n 2, 1) := by decide +kernel
theorem dX7_type_253 : decode mX7_type.2.1 253 = .ok (.iadd, 1) := by decide +kernel
theorem dX7_type_254 : decode mX7_type.2.1 254 = .ok (.iaload, 1) := by decide +kernel
theorem dX7_type_255 : decode mX7_type.2.1 255 = .ok (.iastore, 1) := by decide +kernel
theorem dX7_type_256 : decode mX7_type.2.1 256 = .ok (.iinc 2 1, 3) := by decide +kernel
theorem dX7_type_259 : decode mX7_type.2.1 259 = .ok (.goto (-40), 3) := by decide +kernel
theorem dX7_type_262 : decode mX7_type.2.1 262 = .ok (.iinc 1 1, 3) := by decide +kernel
theorem dX7_type_265 : decode mX7_type.2.1 265 = .ok (.goto (-88), 3) := by decide +kernel
theorem dX7_type_268 : decode mX7_type.2.1 268 = .ok (.aload_n 0, 1) := by decide +kernel
theorem dX7_type_269 : decode mX7_type.2.1 269 = .ok (.dup, 1) := by decide +kernel
theorem dX7_type_270 : decode mX7_type.2.1 270 = .ok (.getfield 134, 3) := by decide +kernel
theorem dX7_type_273 : decode mX7_type.2.1 273 = .ok (.aload_n 0, 1) := by decide +kernel
theorem dX7_type_274 : decode mX7_type.2.1 274 = .ok (.getfield 99, 3) := by decide +kernel
theorem dX7_type_277 : decode mX7_type.2.1 277 = .ok (.iadd, 1) := by decide +kernel
theorem dX7_type_278 : decode mX7_type.2.1 278 = .ok (.putfield 134, 3) := by decide +kernel
theorem dX7_type_281 : decode mX7_type.2.1 281 = .ok (.aload_n 0, 1) := by decide +kernel
theorem dX7_type_282 : decode mX7_type.2.1 282 = .ok (.dup, 1) := by decide +kernel
theorem dX7_type_283 : decode mX7_type.2.1 283 = .ok (.getfield 112, 3) := by decide +kernel
theorem dX7_type_286 : decode mX7_type.2.1 286 = .ok (.iconst 1, 1) := by decide +kernel
theorem dX7_type_287 : decode mX7_type.2.1 287 = .ok (.iadd, 1) := by decide +kernel
theorem dX7_type_288 : decode mX7_type.2.1 288 = .ok (.putfield 112, 3) := by decide +kernel
theorem dX7_type_291 : decode mX7_type.2.1 291 = .ok (.aload_n 0, 1) := by decide +kernel
theorem dX7_type_292 : decode mX7_type.2.1 292 = .ok (.iconst 0, 1) := by decide +kernel
theorem dX7_type_293 : decode mX7_type.2.1 293 = .ok (.putfield 137, 3) := by decide +kernel
theorem dX7_type_296 : decode mX7_type.2.1 296 = .ok (.aload_n 0, 1) := by decide +kernel
theorem dX7_type_297 : decode mX7_type.2.1 297 = .ok (.iconst 0, 1) := by decide +kernel
theorem dX7_type_298 : decode mX7_type.2.1 298 = .ok (.putfield 81, 3) := by decide +kernel
theorem dX7_type_301 : decode mX7_type.2.1 301 = .ok (.aload_n 0, 1) := by decide +kernel
theorem dX7_type_302 : decode mX7_type.2.1 302 = .ok (.getfield 112, 3) := by decide +kernel
theorem dX7_type_305 : decode mX7_type.2.1 305 = .ok (.iconst 1, 1) := by decide +kernel
theorem dX7_type_306 : decode mX7_type.2.1 306 = .ok (.isub, 1) := by decide +kernel
theorem dX7_type_307 : decode mX7_type.2.1 307 = .ok (.ireturn, 1) := by decide +kernel
theorem dX7_memberOf_0 : decode mX7_memberOf.2.1 0 = .ok (.aload_n 0, 1) := by decide +kernel
theorem dX7_memberOf_1 : decode mX7_memberOf.2.1 1 = .ok (.getfield 20, 3) := by decide +kernel
theorem dX7_memberOf_4 : decode mX7_memberOf.2.1 4 = .ok (.bipush 96, 2) := by decide +kernel
theorem dX7_memberOf_6 : decode mX7_memberOf.2.1 6 = .ok (.aload_n 0, 1) := by decide +kernel
theorem dX7_memberOf_7 : decode mX7_memberOf.2.1 7 = .ok (.getfield 140, 3) := by decide +kernel
theorem dX7_memberOf_10 : decode mX7_memberOf.2.1 10 = .ok (.imul, 1) := by decide +kernel
theorem dX7_memberOf_11 : decode mX7_memberOf.2.1 11 = .ok (.bipush 12, 2) := by decide +kernel
theorem dX7_memberOf_13 : decode mX7_memberOf.2.1 13 = .ok (.iload_n 1, 1) := by decide +kernel
theorem dX7_memberOf_14 : decode mX7_memberOf.2.1 14 = .ok (.imul, 1) := by decide +kernel
theorem dX7_memberOf_15 : decode mX7_memberOf.2.1 15 = .ok (.iadd, 1) := by decide +kernel
theorem dX7_memberOf_16 : decode mX7_memberOf.2.1 16 = .ok (.iload_n 2, 1) := by decide +kernel
theorem dX7_memberOf_17 : decode mX7_memberOf.2.1 17 = .ok (.iadd, 1) := by decide +kernel
theorem dX7_memberOf_18 : decode mX7_memberOf.2.1 18 = .ok (.iaload, 1) := by decide +kernel
theorem dX7_memberOf_19 : decode mX7_memberOf.2.1 19 = .ok (.ireturn, 1) := by decide +kernel
theorem dX7_isHidden_0 : decode mX7_isHidden.2.1 0 = .ok (.aload_n 0, 1) := by decide +kernel
theorem dX7_isHidden_1 : decode mX7_isHidden.2.1 1 = .ok (.getfield 23, 3) := by decide +kernel
theorem dX7_isHidden_4 : decode mX7_isHidden.2.1 4 = .ok (.bipush 8, 2) := by decide +kernel
theorem dX7_isHidden_6 : decode mX7_isHidden.2.1 6 = .ok (.aload_n 0, 1) := by decide +kernel
theorem dX7_isHidden_7 : decode mX7_isHidden.2.1 7 = .ok (.getfield 140, 3) := by decide +kernel
theorem dX7_isHidden_10 : decode mX7_isHidden.2.1 10 = .ok (.imul, 1) := by decide +kernel
theorem dX7_isHidden_11 : decode mX7_isHidden.2.1 11 = .ok (.iload_n 1, 1) := by decide +kernel
theorem dX7_isHidden_12 : decode mX7_isHidden.2.1 12 = .ok (.iadd, 1) := by decide +kernel
theorem dX7_isHidden_13 : decode mX7_isHidden.2.1 13 = .ok (.iaload, 1) := by decide +kernel
theorem dX7_isHidden_14 : decode mX7_isHidden.2.1 14 = .ok (.iload_n 2, 1) := by decide +kernel
theorem dX7_isHidden_15 : decode mX7_isHidden.2.1 15 = .ok (.invokestatic 92, 3) := by decide +kernel
theorem dX7_isHidden_18 : decode mX7_isHidden.2.1 18 = .ok (.ireturn, 1) := by decide +kernel
theorem dX7_isElsewhere_0 : decode mX7_isElsewhere.2.1 0 = .ok (.aload_n 0, 1) := by decide +kernel
theorem dX7_isElsewhere_1 : decode mX7_isElsewhere.2.1 1 = .ok (.getfield 112, 3) := by decide +kernel
theorem dX7_isElsewhere_4 : decode mX7_isElsewhere.2.1 4 = .ok (.iconst 1, 1) := by decide +kernel
theorem dX7_isElsewhere_5 : decode mX7_isElsewhere.2.1 5 = .ok (.isub, 1) := by decide +kernel
theorem dX7_isElsewhere_6 : decode mX7_isElsewhere.2.1 6 = .ok (.istore_n 1, 1) := by decide +kernel
theorem dX7_isElsewhere_7 : decode mX7_isElsewhere.2.1 7 = .ok (.iconst 0, 1) := by decide +kernel
theorem dX7_isElsewhere_8 : decode mX7_isElsewhere.2.1 8 = .ok (.istore_n 2, 1) := by decide +kernel
theorem dX7_isElsewhere_9 : decode mX7_isElsewhere.2.1 9 = .ok (.iconst 0, 1) := by decide +kernel
theorem dX7_isElsewhere_10 : decode mX7_isElsewhere.2.1 10 = .ok (.istore_n 3, 1) := by decide +kernel
theorem dX7_isElsewhere_11 : decode mX7_isElsewhere.2.1 11 = .ok (.iload_n 3, 1) := by decide +kernel
theorem dX7_isElsewhere_12 : decode mX7_isElsewhere.2.1 12 = .ok (.bipush 12, 2) := by decide +kernel
theorem dX7_isElsewhere_14 : decode mX7_isElsewhere.2.1 14 = .ok (.iload_n 1, 1) := by decide +kernel
theorem dX7_isElsewhere_15 : decode mX7_isElsewhere.2.1 15 = .ok (.imul, 1) := by decide +kernel
theorem dX7_isElsewhere_16 : decode mX7_isElsewhere.2.1 16 = .ok (.if_icmp .ge 69, 3) := by decide +kernel
theorem dX7_isElsewhere_19 : decode mX7_isElsewhere.2.1 19 = .ok (.aload_n 0, 1) := by decide +kernel
theorem dX7_isElsewhere_20 : decode mX7_isElsewhere.2.1 20 = .ok (.getfield 20, 3) := by decide +kernel
theorem dX7_isElsewhere_23 : decode mX7_isElsewhere.2.1 23 = .ok (.iload_n 3, 1) := by decide +kernel
theorem dX7_isElsewhere_24 : decode mX7_isElsewhere.2.1 24 = .ok (.iaload, 1) := by decide +kernel
theorem dX7_isElsewhere_25 : decode mX7_isElsewhere.2.1 25 = .ok (.istore 4, 2) := by decide +kernel
theorem dX7_isElsewhere_27 : decode mX7_isElsewhere.2.1 27 = .ok (.iload 4, 2) := by decide +kernel
theorem dX7_isElsewhere_29 : decode mX7_isElsewhere.2.1 29 = .ok (.iconst (-1), 1) := by decide +kernel
theorem dX7_isElsewhere_30 : decode mX7_isElsewhere.2.1 30 = .ok (.if_icmp .ne 7, 3) := by decide +kernel
theorem dX7_isElsewhere_33 : decode mX7_isElsewhere.2.1 33 = .ok (.iconst (-1), 1) := by decide +kernel
theorem dX7_isElsewhere_34 : decode mX7_isElsewhere.2.1 34 = .ok (.goto 27, 3) := by decide +kernel
theorem dX7_isElsewhere_37 : decode mX7_isElsewhere.2.1 37 = .ok (.iload_n 3, 1) := by decide +kernel
theorem dX7_isElsewhere_38 : decode mX7_isElsewhere.2.1 38 = .ok (.bipush 12, 2) := by decide +kernel
theorem dX7_isElsewhere_40 : decode mX7_isElsewhere.2.1 40 = .ok (.irem, 1) := by decide +kernel
theorem dX7_isElsewhere_41 : decode mX7_isElsewhere.2.1 41 = .ok (.bipush 6, 2) := by decide +kernel
theorem dX7_isElsewhere_43 : decode mX7_isElsewhere.2.1 43 = .ok (.if_icmp .ge 13, 3) := by decide +kernel
theorem dX7_isElsewhere_46 : decode mX7_isElsewhere.2.1 46 = .ok (.aload_n 0, 1) := by decide +kernel
theorem dX7_isElsewhere_47 : decode mX7_isElsewhere.2.1 47 = .ok (.getfield 26, 3) := by decide +kernel
theorem dX7_isElsewhere_50 : decode mX7_isElsewhere.2.1 50 = .ok (.iload 4, 2) := by decide +kernel
theorem dX7_isElsewhere_52 : decode mX7_isElsewhere.2.1 52 = .ok (.iaload, 1) := by decide +kernel
theorem dX7_isElsewhere_53 : decode mX7_isElsewhere.2.1 53 = .ok (.goto 8, 3) := by decide +kernel
theorem dX7_isElsewhere_56 : decode mX7_isElsewhere.2.1 56 = .ok (.iload 4, 2) := by decide +kernel
theorem dX7_isElsewhere_58 : decode mX7_isElsewhere.2.1 58 = .ok (.bipush 12, 2) := by decide +kernel
theorem dX7_isElsewhere_60 : decode mX7_isElsewhere.2.1 60 = .ok (.idiv, 1) := by decide +kernel
theorem dX7_isElsewhere_61 : decode mX7_isElsewhere.2.1 61 = .ok (.istore 5, 2) := by decide +kernel
theorem dX7_isElsewhere_63 : decode mX7_isElsewhere.2.1 63 = .ok (.iload_n 2, 1) := by decide +kernel
theorem dX7_isElsewhere_64 : decode mX7_isElsewhere.2.1 64 = .ok (.ifCond .ne 9, 3) := by decide +kernel
theorem dX7_isElsewhere_67 : decode mX7_isElsewhere.2.1 67 = .ok (.iload 5, 2) := by decide +kernel
theorem dX7_isElsewhere_69 : decode mX7_isElsewhere.2.1 69 = .ok (.iload_n 1, 1) := by decide +kernel
theorem dX7_isElsewhere_70 : decode mX7_isElsewhere.2.1 70 = .ok (.if_icmp .ne 7, 3) := by decide +kernel
theorem dX7_isElsewhere_73 : decode mX7_isElsewhere.2.1 73 = .ok (.iconst 1, 1) := by decide +kernel
theorem dX7_isElsewhere_74 : decode mX7_isElsewhere.2.1 74 = .ok (.goto 4, 3) := by decide +kernel
theorem dX7_isElsewhere_77 : decode mX7_isElsewhere.2.1 77 = .ok (.iconst 0, 1) := by decide +kernel
theorem dX7_isElsewhere_78 : decode mX7_isElsewhere.2.1 78 = .ok (.istore_n 2, 1) := by decide +kernel
theorem dX7_isElsewhere_79 : decode mX7_isElsewhere.2.1 79 = .ok (.iinc 3 1, 3) := by decide +kernel
theorem dX7_isElsewhere_82 : decode mX7_isElsewhere.2.1 82 = .ok (.goto (-71), 3) := by decide +kernel
theorem dX7_isElsewhere_85 : decode mX7_isElsewhere.2.1 85 = .ok (.iload_n 2, 1) := by decide +kernel
theorem dX7_isElsewhere_86 : decode mX7_isElsewhere.2.1 86 = .ok (.ireturn, 1) := by decide +kernel
theorem dX7_drop_0 : decode mX7_drop.2.1 0 = .ok (.aload_n 0, 1) := by decide +kernel
theorem dX7_drop_1 : decode mX7_drop.2.1 1 = .ok (.getfield 112, 3) := by decide +kernel
theorem dX7_drop_4 : decode mX7_drop.2.1 4 = .ok (.ifCond .eq 10, 3) := by decide +kernel
theorem dX7_drop_7 : decode mX7_drop.2.1 7 = .ok (.aload_n 0, 1) := by decide +kernel
theorem dX7_drop_8 : decode mX7_drop.2.1 8 = .ok (.invokevirtual 143, 3) := by decide +kernel
theorem dX7_drop_11 : decode mX7_drop.2.1 11 = .ok (.ifCond .eq 7, 3) := by decide +kernel
theorem dX7_drop_14 : decode mX7_drop.2.1 14 = .ok (.sipush (-1003), 3) := by decide +kernel
theorem dX7_drop_17 : decode mX7_drop.2.1 17 = .ok (.ireturn, 1) := by decide +kernel
theorem dX7_drop_18 : decode mX7_drop.2.1 18 = .ok (.aload_n 0, 1) := by decide +kernel
theorem dX7_drop_19 : decode mX7_drop.2.1 19 = .ok (.dup, 1) := by decide +kernel
theorem dX7_drop_20 : decode mX7_drop.2.1 20 = .ok (.getfield 112, 3) := by decide +kernel
theorem dX7_drop_23 : decode mX7_drop.2.1 23 = .ok (.iconst 1, 1) := by decide +kernel
theorem dX7_drop_24 : decode mX7_drop.2.1 24 = .ok (.isub, 1) := by decide +kernel
theorem dX7_drop_25 : decode mX7_drop.2.1 25 = .ok (.putfield 112, 3) := by decide +kernel
theorem dX7_drop_28 : decode mX7_drop.2.1 28 = .ok (.aload_n 0, 1) := by decide +kernel
theorem dX7_drop_29 : decode mX7_drop.2.1 29 = .ok (.getfield 134, 3) := by decide +kernel
theorem dX7_drop_32 : decode mX7_drop.2.1 32 = .ok (.ifCond .le 34, 3) := by decide +kernel
theorem dX7_drop_35 : decode mX7_drop.2.1 35 = .ok (.aload_n 0, 1) := by decide +kernel
theorem dX7_drop_36 : decode mX7_drop.2.1 36 = .ok (.getfield 26, 3) := by decide +kernel
theorem dX7_drop_39 : decode mX7_drop.2.1 39 = .ok (.aload_n 0, 1) := by decide +kernel
theorem dX7_drop_40 : decode mX7_drop.2.1 40 = .ok (.getfield 134, 3) := by decide +kernel
theorem dX7_drop_43 : decode mX7_drop.2.1 43 = .ok (.iconst 1, 1) := by decide +kernel
theorem dX7_drop_44 : decode mX7_drop.2.1 44 = .ok (.isub, 1) := by decide +kernel
theorem dX7_drop_45 : decode mX7_drop.2.1 45 = .ok (.iaload, 1) := by decide +kernel
theorem dX7_drop_46 : decode mX7_drop.2.1 46 = .ok (.aload_n 0, 1) := by decide +kernel
theorem dX7_drop_47 : decode mX7_drop.2.1 47 = .ok (.getfield 112, 3) := by decide +kernel
theorem dX7_drop_50 : decode mX7_drop.2.1 50 = .ok (.if_icmp .ne 16, 3) := by decide +kernel
theorem dX7_drop_53 : decode mX7_drop.2.1 53 = .ok (.aload_n 0, 1) := by decide +kernel
theorem dX7_drop_54 : decode mX7_drop.2.1 54 = .ok (.dup, 1) := by decide +kernel
theorem dX7_drop_55 : decode mX7_drop.2.1 55 = .ok (.getfield 134, 3) := by decide +kernel
theorem dX7_drop_58 : decode mX7_drop.2.1 58 = .ok (.iconst 1, 1) := by decide +kernel
theorem dX7_drop_59 : decode mX7_drop.2.1 59 = .ok (.isub, 1) := by decide +kernel
theorem dX7_drop_60 : decode mX7_drop.2.1 60 = .ok (.putfield 134, 3) := by decide +kernel
theorem dX7_drop_63 : decode mX7_drop.2.1 63 = .ok (.goto (-35), 3) := by decide +kernel
theorem dX7_drop_66 : decode mX7_drop.2.1 66 = .ok (.aload_n 0, 1) := by decide +kernel
theorem dX7_drop_67 : decode mX7_drop.2.1 67 = .ok (.iconst 0, 1) := by decide +kernel
theorem dX7_drop_68 : decode mX7_drop.2.1 68 = .ok (.putfield 137, 3) := by decide +kernel
theorem dX7_drop_71 : decode mX7_drop.2.1 71 = .ok (.aload_n 0, 1) := by decide +kernel
theorem dX7_drop_72 : decode mX7_drop.2.1 72 = .ok (.getfield 112, 3) := by decide +kernel
theorem dX7_drop_75 : decode mX7_drop.2.1 75 = .ok (.ireturn, 1) := by decide +kernel
theorem dX7_isType_0 : decode mX7_isType.2.1 0 = .ok (.iload_n 1, 1) := by decide +kernel
theorem dX7_isType_1 : decode mX7_isType.2.1 1 = .ok (.iconst 0, 1) := by decide +kernel
theorem dX7_isType_2 : decode mX7_isType.2.1 2 = .ok (.aload_n 0, 1) := by decide +kernel
theorem dX7_isType_3 : decode mX7_isType.2.1 3 = .ok (.getfield 112, 3) := by decide +kernel
theorem dX7_isType_6 : decode mX7_isType.2.1 6 = .ok (.iconst 1, 1) := by decide +kernel
theorem dX7_isType_7 : decode mX7_isType.2.1 7 = .ok (.isub, 1) := by decide +kernel
theorem dX7_isType_8 : decode mX7_isType.2.1 8 = .ok (.invokestatic 77, 3) := by decide +kernel
theorem dX7_isType_11 : decode mX7_isType.2.1 11 = .ok (.ireturn, 1) := by decide +kernel
theorem dX7_hollow_0 : decode mX7_hollow.2.1 0 = .ok (.aload_n 0, 1) := by decide +kernel
theorem dX7_hollow_1 : decode mX7_hollow.2.1 1 = .ok (.iload_n 1, 1) := by decide +kernel
theorem dX7_hollow_2 : decode mX7_hollow.2.1 2 = .ok (.invokevirtual 147, 3) := by decide +kernel
theorem dX7_hollow_5 : decode mX7_hollow.2.1 5 = .ok (.ifCond .ne 7, 3) := by decide +kernel
theorem dX7_hollow_8 : decode mX7_hollow.2.1 8 = .ok (.sipush (-1001), 3) := by decide +kernel
theorem dX7_hollow_11 : decode mX7_hollow.2.1 11 = .ok (.ireturn, 1) := by decide +kernel
theorem dX7_hollow_12 : decode mX7_hollow.2.1 12 = .ok (.aload_n 0, 1) := by decide +kernel
theorem dX7_hollow_13 : decode mX7_hollow.2.1 13 = .ok (.getfield 16, 3) := by decide +kernel
theorem dX7_hollow_16 : decode mX7_hollow.2.1 16 = .ok (.iload_n 1, 1) := by decide +kernel
theorem dX7_hollow_17 : decode mX7_hollow.2.1 17 = .ok (.baload, 1) := by decide +kernel
theorem dX7_hollow_18 : decode mX7_hollow.2.1 18 = .ok (.ifCond .eq 7, 3) := by decide +kernel
theorem dX7_hollow_21 : decode mX7_hollow.2.1 21 = .ok (.iconst 1, 1) := by decide +kernel
theorem dX7_hollow_22 : decode mX7_hollow.2.1 22 = .ok (.goto 4, 3) := by decide +kernel
theorem dX7_hollow_25 : decode mX7_hollow.2.1 25 = .ok (.iconst 0, 1) := by decide +kernel
theorem dX7_hollow_26 : decode mX7_hollow.2.1 26 = .ok (.istore_n 3, 1) := by decide +kernel
theorem dX7_hollow_27 : decode mX7_hollow.2.1 27 = .ok (.aload_n 0, 1) := by decide +kernel
theorem dX7_hollow_28 : decode mX7_hollow.2.1 28 = .ok (.getfield 16, 3) := by decide +kernel
theorem dX7_hollow_31 : decode mX7_hollow.2.1 31 = .ok (.iload_n 1, 1) := by decide +kernel
theorem dX7_hollow_32 : decode mX7_hollow.2.1 32 = .ok (.iload_n 2, 1) := by decide +kernel
theorem dX7_hollow_33 : decode mX7_hollow.2.1 33 = .ok (.bastore, 1) := by decide +kernel
theorem dX7_hollow_34 : decode mX7_hollow.2.1 34 = .ok (.aload_n 0, 1) := by decide +kernel
theorem dX7_hollow_35 : decode mX7_hollow.2.1 35 = .ok (.iconst 0, 1) := by decide +kernel
theorem dX7_hollow_36 : decode mX7_hollow.2.1 36 = .ok (.putfield 137, 3) := by decide +kernel
theorem dX7_hollow_39 : decode mX7_hollow.2.1 39 = .ok (.iload_n 3, 1) := by decide +kernel
theorem dX7_hollow_40 : decode mX7_hollow.2.1 40 = .ok (.ireturn, 1) := by decide +kernel
theorem dX7_answersIn_0 : decode mX7_answersIn.2.1 0 = .ok (.iload_n 1, 1) := by decide +kernel
theorem dX7_answersIn_1 : decode mX7_answersIn.2.1 1 = .ok (.istore_n 3, 1) := by decide +kernel
theorem dX7_answersIn_2 : decode mX7_answersIn.2.1 2 = .ok (.iload_n 3, 1) := by decide +kernel
theorem dX7_answersIn_3 : decode mX7_answersIn.2.1 3 = .ok (.iconst (-1), 1) := by decide +kernel
theorem dX7_answersIn_4 : decode mX7_answersIn.2.1 4 = .ok (.if_icmp .eq 32, 3) := by decide +kernel
theorem dX7_answersIn_7 : decode mX7_answersIn.2.1 7 = .ok (.aload_n 0, 1) := by decide +kernel
theorem dX7_answersIn_8 : decode mX7_answersIn.2.1 8 = .ok (.iload_n 3, 1) := by decide +kernel
theorem dX7_answersIn_9 : decode mX7_answersIn.2.1 9 = .ok (.iload_n 2, 1) := by decide +kernel
theorem dX7_answersIn_10 : decode mX7_answersIn.2.1 10 = .ok (.invokevirtual 150, 3) := by decide +kernel
theorem dX7_answersIn_13 : decode mX7_answersIn.2.1 13 = .ok (.iconst (-1), 1) := by decide +kernel
theorem dX7_answersIn_14 : decode mX7_answersIn.2.1 14 = .ok (.if_icmp .eq 12, 3) := by decide +kernel
theorem dX7_answersIn_17 : decode mX7_answersIn.2.1 17 = .ok (.aload_n 0, 1) := by decide +kernel
theorem dX7_answersIn_18 : decode mX7_answersIn.2.1 18 = .ok (.iload_n 3, 1) := by decide +kernel
theorem dX7_answersIn_19 : decode mX7_answersIn.2.1 19 = .ok (.iload_n 2, 1) := by decide +kernel
theorem dX7_answersIn_20 : decode mX7_answersIn.2.1 20 = .ok (.invokevirtual 154, 3) := by decide +kernel
theorem dX7_answersIn_23 : decode mX7_answersIn.2.1 23 = .ok (.ifCond .eq 13, 3) := by decide +kernel
theorem dX7_answersIn_26 : decode mX7_answersIn.2.1 26 = .ok (.aload_n 0, 1) := by decide +kernel
theorem dX7_answersIn_27 : decode mX7_answersIn.2.1 27 = .ok (.getfield 13, 3) := by decide +kernel
theorem dX7_answersIn_30 : decode mX7_answersIn.2.1 30 = .ok (.iload_n 3, 1) := by decide +kernel
theorem dX7_answersIn_31 : decode mX7_answersIn.2.1 31 = .ok (.iaload, 1) := by decide +kernel
theorem dX7_answersIn_32 : decode mX7_answersIn.2.1 32 = .ok (.istore_n 3, 1) := by decide +kernel
theorem dX7_answersIn_33 : decode mX7_answersIn.2.1 33 = .ok (.goto (-31), 3) := by decide +kernel
theorem dX7_answersIn_36 : decode mX7_answersIn.2.1 36 = .ok (.iload_n 3, 1) := by decide +kernel
theorem dX7_answersIn_37 : decode mX7_answersIn.2.1 37 = .ok (.ireturn, 1) := by decide +kernel
theorem dX7_slotFrom_0 : decode mX7_slotFrom.2.1 0 = .ok (.iload_n 1, 1) := by decide +kernel
theorem dX7_slotFrom_1 : decode mX7_slotFrom.2.1 1 = .ok (.istore_n 3, 1) := by decide +kernel
theorem dX7_slotFrom_2 : decode mX7_slotFrom.2.1 2 = .ok (.iload_n 3, 1) := by decide +kernel
theorem dX7_slotFrom_3 : decode mX7_slotFrom.2.1 3 = .ok (.iconst (-1), 1) := by decide +kernel
theorem dX7_slotFrom_4 : decode mX7_slotFrom.2.1 4 = .ok (.if_icmp .eq 23, 3) := by decide +kernel
theorem dX7_slotFrom_7 : decode mX7_slotFrom.2.1 7 = .ok (.aload_n 0, 1) := by decide +kernel
theorem dX7_slotFrom_8 : decode mX7_slotFrom.2.1 8 = .ok (.iload_n 3, 1) := by decide +kernel
theorem dX7_slotFrom_9 : decode mX7_slotFrom.2.1 9 = .ok (.iload_n 2, 1) := by decide +kernel
theorem dX7_slotFrom_10 : decode mX7_slotFrom.2.1 10 = .ok (.invokevirtual 150, 3) := by decide +kernel
theorem dX7_slotFrom_13 : decode mX7_slotFrom.2.1 13 = .ok (.iconst (-1), 1) := by decide +kernel
theorem dX7_slotFrom_14 : decode mX7_slotFrom.2.1 14 = .ok (.if_icmp .ne 13, 3) := by decide +kernel
theorem dX7_slotFrom_17 : decode mX7_slotFrom.2.1 17 = .ok (.aload_n 0, 1) := by decide +kernel
theorem dX7_slotFrom_18 : decode mX7_slotFrom.2.1 18 = .ok (.getfield 13, 3) := by decide +kernel
theorem dX7_slotFrom_21 : decode mX7_slotFrom.2.1 21 = .ok (.iload_n 3, 1) := by decide +kernel
theorem dX7_slotFrom_22 : decode mX7_slotFrom.2.1 22 = .ok (.iaload, 1) := by decide +kernel
theorem dX7_slotFrom_23 : decode mX7_slotFrom.2.1 23 = .ok (.istore_n 3, 1) := by decide +kernel
theorem dX7_slotFrom_24 : decode mX7_slotFrom.2.1 24 = .ok (.goto (-22), 3) := by decide +kernel
theorem dX7_slotFrom_27 : decode mX7_slotFrom.2.1 27 = .ok (.iload_n 3, 1) := by decide +kernel
theorem dX7_slotFrom_28 : decode mX7_slotFrom.2.1 28 = .ok (.iconst (-1), 1) := by decide +kernel
theorem dX7_slotFrom_29 : decode mX7_slotFrom.2.1 29 = .ok (.if_icmp .ne 7, 3) := by decide +kernel
theorem dX7_slotFrom_32 : decode mX7_slotFrom.2.1 32 = .ok (.iconst (-1), 1) := by decide +kernel
theorem dX7_slotFrom_33 : decode mX7_slotFrom.2.1 33 = .ok (.goto 9, 3) := by decide +kernel
theorem dX7_slotFrom_36 : decode mX7_slotFrom.2.1 36 = .ok (.aload_n 0, 1) := by decide +kernel
theorem dX7_slotFrom_37 : decode mX7_slotFrom.2.1 37 = .ok (.iload_n 3, 1) := by decide +kernel
theorem dX7_slotFrom_38 : decode mX7_slotFrom.2.1 38 = .ok (.iload_n 2, 1) := by decide +kernel
theorem dX7_slotFrom_39 : decode mX7_slotFrom.2.1 39 = .ok (.invokevirtual 150, 3) := by decide +kernel
theorem dX7_slotFrom_42 : decode mX7_slotFrom.2.1 42 = .ok (.ireturn, 1) := by decide +kernel
theorem dX7_answered_0 : decode mX7_answered.2.1 0 = .ok (.iconst 0, 1) := by decide +kernel
theorem dX7_answered_1 : decode mX7_answered.2.1 1 = .ok (.istore_n 2, 1) := by decide +kernel
theorem dX7_answered_2 : decode mX7_answered.2.1 2 = .ok (.iconst 0, 1) := by decide +kernel
theorem dX7_answered_3 : decode mX7_answered.2.1 3 = .ok (.istore_n 3, 1) := by decide +kernel
theorem dX7_answered_4 : decode mX7_answered.2.1 4 = .ok (.iload_n 3, 1) := by decide +kernel
theorem dX7_answered_5 : decode mX7_answered.2.1 5 = .ok (.bipush 6, 2) := by decide +kernel
theorem dX7_answered_7 : decode mX7_answered.2.1 7 = .ok (.if_icmp .ge 29, 3) := by decide +kernel
theorem dX7_answered_10 : decode mX7_answered.2.1 10 = .ok (.iload_n 2, 1) := by decide +kernel
theorem dX7_answered_11 : decode mX7_answered.2.1 11 = .ok (.aload_n 0, 1) := by decide +kernel
theorem dX7_answered_12 : decode mX7_answered.2.1 12 = .ok (.iload_n 1, 1) := by decide +kernel
theorem dX7_answered_13 : decode mX7_answered.2.1 13 = .ok (.iload_n 3, 1) := by decide +kernel
theorem dX7_answered_14 : decode mX7_answered.2.1 14 = .ok (.invokevirtual 157, 3) := by decide +kernel
theorem dX7_answered_17 : decode mX7_answered.2.1 17 = .ok (.iconst (-1), 1) := by decide +kernel
theorem dX7_answered_18 : decode mX7_answered.2.1 18 = .ok (.if_icmp .ne 7, 3) := by decide +kernel
theorem dX7_answered_21 : decode mX7_answered.2.1 21 = .ok (.iconst 0, 1) := by decide +kernel
theorem dX7_answered_22 : decode mX7_answered.2.1 22 = .ok (.goto 6, 3) := by decide +kernel
theorem dX7_answered_25 : decode mX7_answered.2.1 25 = .ok (.iconst 1, 1) := by decide +kernel
theorem dX7_answered_26 : decode mX7_answered.2.1 26 = .ok (.iload_n 3, 1) := by decide +kernel
theorem dX7_answered_27 : decode mX7_answered.2.1 27 = .ok (.ishl, 1) := by decide +kernel
theorem dX7_answered_28 : decode mX7_answered.2.1 28 = .ok (.ior, 1) := by decide +kernel
theorem dX7_answered_29 : decode mX7_answered.2.1 29 = .ok (.istore_n 2, 1) := by decide +kernel
theorem dX7_answered_30 : decode mX7_answered.2.1 30 = .ok (.iinc 3 1, 3) := by decide +kernel
theorem dX7_answered_33 : decode mX7_answered.2.1 33 = .ok (.goto (-29), 3) := by decide +kernel
theorem dX7_answered_36 : decode mX7_answered.2.1 36 = .ok (.iload_n 2, 1) := by decide +kernel
theorem dX7_answered_37 : decode mX7_answered.2.1 37 = .ok (.ireturn, 1) := by decide +kernel
theorem dX7_hasOf_0 : decode mX7_hasOf.2.1 0 = .ok (.iconst 0, 1) := by decide +kernel
theorem dX7_hasOf_1 : decode mX7_hasOf.2.1 1 = .ok (.istore 4, 2) := by decide +kernel
theorem dX7_hasOf_3 : decode mX7_hasOf.2.1 3 = .ok (.iconst 0, 1) := by decide +kernel
theorem dX7_hasOf_4 : decode mX7_hasOf.2.1 4 = .ok (.istore 5, 2) := by decide +kernel
theorem dX7_hasOf_6 : decode mX7_hasOf.2.1 6 = .ok (.iload 5, 2) := by decide +kernel
theorem dX7_hasOf_8 : decode mX7_hasOf.2.1 8 = .ok (.iload_n 3, 1) := by decide +kernel
theorem dX7_hasOf_9 : decode mX7_hasOf.2.1 9 = .ok (.if_icmp .ge 35, 3) := by decide +kernel
theorem dX7_hasOf_12 : decode mX7_hasOf.2.1 12 = .ok (.iload 4, 2) := by decide +kernel
theorem dX7_hasOf_14 : decode mX7_hasOf.2.1 14 = .ok (.aload_n 0, 1) := by decide +kernel
theorem dX7_hasOf_15 : decode mX7_hasOf.2.1 15 = .ok (.iload_n 1, 1) := by decide +kernel
theorem dX7_hasOf_16 : decode mX7_hasOf.2.1 16 = .ok (.iload_n 2, 1) := by decide +kernel
theorem dX7_hasOf_17 : decode mX7_hasOf.2.1 17 = .ok (.iload 5, 2) := by decide +kernel
theorem dX7_hasOf_19 : decode mX7_hasOf.2.1 19 = .ok (.iadd, 1) := by decide +kernel
theorem dX7_hasOf_20 : decode mX7_hasOf.2.1 20 = .ok (.invokevirtual 150, 3) := by decide +kernel
theorem dX7_hasOf_23 : decode mX7_hasOf.2.1 23 = .ok (.iconst (-1), 1) := by decide +kernel
theorem dX7_hasOf_24 : decode mX7_hasOf.2.1 24 = .ok (.if_icmp .ne 7, 3) := by decide +kernel
theorem dX7_hasOf_27 : decode mX7_hasOf.2.1 27 = .ok (.iconst 0, 1) := by decide +kernel
theorem dX7_hasOf_28 : decode mX7_hasOf.2.1 28 = .ok (.goto 7, 3) := by decide +kernel
theorem dX7_hasOf_31 : decode mX7_hasOf.2.1 31 = .ok (.iconst 1, 1) := by decide +kernel
theorem dX7_hasOf_32 : decode mX7_hasOf.2.1 32 = .ok (.iload 5, 2) := by decide +kernel
theorem dX7_hasOf_34 : decode mX7_hasOf.2.1 34 = .ok (.ishl, 1) := by decide +kernel
theorem dX7_hasOf_35 : decode mX7_hasOf.2.1 35 = .ok (.ior, 1) := by decide +kernel
theorem dX7_hasOf_36 : decode mX7_hasOf.2.1 36 = .ok (.istore 4, 2) := by decide +kernel
theorem dX7_hasOf_38 : decode mX7_hasOf.2.1 38 = .ok (.iinc 5 1, 3) := by decide +kernel
theorem dX7_hasOf_41 : decode mX7_hasOf.2.1 41 = .ok (.goto (-35), 3) := by decide +kernel
theorem dX7_hasOf_44 : decode mX7_hasOf.2.1 44 = .ok (.iload 4, 2) := by decide +kernel
theorem dX7_hasOf_46 : decode mX7_hasOf.2.1 46 = .ok (.ireturn, 1) := by decide +kernel
theorem dX7_below_0 : decode mX7_below.2.1 0 = .ok (.iconst 0, 1) := by decide +kernel
theorem dX7_below_1 : decode mX7_below.2.1 1 = .ok (.istore_n 2, 1) := by decide +kernel
theorem dX7_below_2 : decode mX7_below.2.1 2 = .ok (.iconst 0, 1) := by decide +kernel
theorem dX7_below_3 : decode mX7_below.2.1 3 = .ok (.istore_n 3, 1) := by decide +kernel
theorem dX7_below_4 : decode mX7_below.2.1 4 = .ok (.iload_n 3, 1) := by decide +kernel
theorem dX7_below_5 : decode mX7_below.2.1 5 = .ok (.aload_n 0, 1) := by decide +kernel
theorem dX7_below_6 : decode mX7_below.2.1 6 = .ok (.getfield 112, 3) := by decide +kernel
theorem dX7_below_9 : decode mX7_below.2.1 9 = .ok (.if_icmp .ge 29, 3) := by decide +kernel
theorem dX7_below_12 : decode mX7_below.2.1 12 = .ok (.iload_n 2, 1) := by decide +kernel
theorem dX7_below_13 : decode mX7_below.2.1 13 = .ok (.aload_n 0, 1) := by decide +kernel
theorem dX7_below_14 : decode mX7_below.2.1 14 = .ok (.getfield 13, 3) := by decide +kernel
theorem dX7_below_17 : decode mX7_below.2.1 17 = .ok (.iload_n 3, 1) := by decide +kernel
theorem dX7_below_18 : decode mX7_below.2.1 18 = .ok (.iaload, 1) := by decide +kernel
theorem dX7_below_19 : decode mX7_below.2.1 19 = .ok (.iload_n 1, 1) := by decide +kernel
theorem dX7_below_20 : decode mX7_below.2.1 20 = .ok (.if_icmp .ne 9, 3) := by decide +kernel
theorem dX7_below_23 : decode mX7_below.2.1 23 = .ok (.iconst 1, 1) := by decide +kernel
theorem dX7_below_24 : decode mX7_below.2.1 24 = .ok (.iload_n 3, 1) := by decide +kernel
theorem dX7_below_25 : decode mX7_below.2.1 25 = .ok (.ishl, 1) := by decide +kernel
theorem dX7_below_26 : decode mX7_below.2.1 26 = .ok (.goto 4, 3) := by decide +kernel
theorem dX7_below_29 : decode mX7_below.2.1 29 = .ok (.iconst 0, 1) := by decide +kernel
theorem dX7_below_30 : decode mX7_below.2.1 30 = .ok (.ior, 1) := by decide +kernel
theorem dX7_below_31 : decode mX7_below.2.1 31 = .ok (.istore_n 2, 1) := by decide +kernel
theorem dX7_below_32 : decode mX7_below.2.1 32 = .ok (.iinc 3 1, 3) := by decide +kernel
theorem dX7_below_35 : decode mX7_below.2.1 35 = .ok (.goto (-31), 3) := by decide +kernel
theorem dX7_below_38 : decode mX7_below.2.1 38 = .ok (.iload_n 2, 1) := by decide +kernel
theorem dX7_below_39 : decode mX7_below.2.1 39 = .ok (.ireturn, 1) := by decide +kernel
theorem dX7_typeNow_0 : decode mX7_typeNow.2.1 0 = .ok (.iload_n 2, 1) := by decide +kernel
theorem dX7_typeNow_1 : decode mX7_typeNow.2.1 1 = .ok (.tableswitch 93 0 5 #[39, 46, 61, 70, 77, 87], 39) := by decide +kernel
theorem dX7_typeNow_40 : decode mX7_typeNow.2.1 40 = .ok (.aload_n 0, 1) := by decide +kernel
theorem dX7_typeNow_41 : decode mX7_typeNow.2.1 41 = .ok (.getfield 13, 3) := by decide +kernel
theorem dX7_typeNow_44 : decode mX7_typeNow.2.1 44 = .ok (.iload_n 1, 1) := by decide +kernel
theorem dX7_typeNow_45 : decode mX7_typeNow.2.1 45 = .ok (.iaload, 1) := by decide +kernel
theorem dX7_typeNow_46 : decode mX7_typeNow.2.1 46 = .ok (.ireturn, 1) := by decide +kernel
theorem dX7_typeNow_47 : decode mX7_typeNow.2.1 47 = .ok (.aload_n 0, 1) := by decide +kernel
theorem dX7_typeNow_48 : decode mX7_typeNow.2.1 48 = .ok (.getfield 16, 3) := by decide +kernel
theorem dX7_typeNow_51 : decode mX7_typeNow.2.1 51 = .ok (.iload_n 1, 1) := by decide +kernel
theorem dX7_typeNow_52 : decode mX7_typeNow.2.1 52 = .ok (.baload, 1) := by decide +kernel
theorem dX7_typeNow_53 : decode mX7_typeNow.2.1 53 = .ok (.ifCond .eq 7, 3) := by decide +kernel
theorem dX7_typeNow_56 : decode mX7_typeNow.2.1 56 = .ok (.iconst 1, 1) := by decide +kernel
theorem dX7_typeNow_57 : decode mX7_typeNow.2.1 57 = .ok (.goto 4, 3) := by decide +kernel
theorem dX7_typeNow_60 : decode mX7_typeNow.2.1 60 = .ok (.iconst 0, 1) := by decide +kernel
theorem dX7_typeNow_61 : decode mX7_typeNow.2.1 61 = .ok (.ireturn, 1) := by decide +kernel
theorem dX7_typeNow_62 : decode mX7_typeNow.2.1 62 = .ok (.aload_n 0, 1) := by decide +kernel
theorem dX7_typeNow_63 : decode mX7_typeNow.2.1 63 = .ok (.iload_n 1, 1) := by decide +kernel
theorem dX7_typeNow_64 : decode mX7_typeNow.2.1 64 = .ok (.iconst 0, 1) := by decide +kernel
theorem dX7_typeNow_65 : decode mX7_typeNow.2.1 65 = .ok (.bipush 6, 2) := by decide +kernel
theorem dX7_typeNow_67 : decode mX7_typeNow.2.1 67 = .ok (.invokevirtual 160, 3) := by decide +kernel
theorem dX7_typeNow_70 : decode mX7_typeNow.2.1 70 = .ok (.ireturn, 1) := by decide +kernel
theorem dX7_typeNow_71 : decode mX7_typeNow.2.1 71 = .ok (.aload_n 0, 1) := by decide +kernel
theorem dX7_typeNow_72 : decode mX7_typeNow.2.1 72 = .ok (.getfield 23, 3) := by decide +kernel
theorem dX7_typeNow_75 : decode mX7_typeNow.2.1 75 = .ok (.iload_n 1, 1) := by decide +kernel
theorem dX7_typeNow_76 : decode mX7_typeNow.2.1 76 = .ok (.iaload, 1) := by decide +kernel
theorem dX7_typeNow_77 : decode mX7_typeNow.2.1 77 = .ok (.ireturn, 1) := by decide +kernel
theorem dX7_typeNow_78 : decode mX7_typeNow.2.1 78 = .ok (.aload_n 0, 1) := by decide +kernel
theorem dX7_typeNow_79 : decode mX7_typeNow.2.1 79 = .ok (.iload_n 1, 1) := by decide +kernel
theorem dX7_typeNow_80 : decode mX7_typeNow.2.1 80 = .ok (.bipush 6, 2) := by decide +kernel
theorem dX7_typeNow_82 : decode mX7_typeNow.2.1 82 = .ok (.bipush 6, 2) := by decide +kernel
theorem dX7_typeNow_84 : decode mX7_typeNow.2.1 84 = .ok (.invokevirtual 160, 3) := by decide +kernel
theorem dX7_typeNow_87 : decode mX7_typeNow.2.1 87 = .ok (.ireturn, 1) := by decide +kernel
theorem dX7_typeNow_88 : decode mX7_typeNow.2.1 88 = .ok (.aload_n 0, 1) := by decide +kernel
theorem dX7_typeNow_89 : decode mX7_typeNow.2.1 89 = .ok (.iload_n 1, 1) := by decide +kernel
theorem dX7_typeNow_90 : decode mX7_typeNow.2.1 90 = .ok (.invokevirtual 164, 3) := by decide +kernel
theorem dX7_typeNow_93 : decode mX7_typeNow.2.1 93 = .ok (.ireturn, 1) := by decide +kernel
theorem dX7_typeNow_94 : decode mX7_typeNow.2.1 94 = .ok (.aload_n 0, 1) := by decide +kernel
theorem dX7_typeNow_95 : decode mX7_typeNow.2.1 95 = .ok (.iload_n 1, 1) := by decide +kernel
theorem dX7_typeNow_96 : decode mX7_typeNow.2.1 96 = .ok (.invokevirtual 167, 3) := by decide +kernel
theorem dX7_typeNow_99 : decode mX7_typeNow.2.1 99 = .ok (.ireturn, 1) := by decide +kernel
theorem dX7_of_0 : decode mX7_of.2.1 0 = .ok (.aload_n 0, 1) := by decide +kernel
theorem dX7_of_1 : decode mX7_of.2.1 1 = .ok (.iload_n 1, 1) := by decide +kernel
theorem dX7_of_2 : decode mX7_of.2.1 2 = .ok (.invokevirtual 147, 3) := by decide +kernel
theorem dX7_of_5 : decode mX7_of.2.1 5 = .ok (.ifCond .ne 7, 3) := by decide +kernel
theorem dX7_of_8 : decode mX7_of.2.1 8 = .ok (.sipush (-1001), 3) := by decide +kernel
theorem dX7_of_11 : decode mX7_of.2.1 11 = .ok (.ireturn, 1) := by decide +kernel
theorem dX7_of_12 : decode mX7_of.2.1 12 = .ok (.iload_n 2, 1) := by decide +kernel
theorem dX7_of_13 : decode mX7_of.2.1 13 = .ok (.iconst 0, 1) := by decide +kernel
theorem dX7_of_14 : decode mX7_of.2.1 14 = .ok (.bipush 6, 2) := by decide +kernel
theorem dX7_of_16 : decode mX7_of.2.1 16 = .ok (.invokestatic 77, 3) := by decide +kernel
theorem dX7_of_19 : decode mX7_of.2.1 19 = .ok (.ifCond .eq 12, 3) := by decide +kernel
theorem dX7_of_22 : decode mX7_of.2.1 22 = .ok (.aload_n 0, 1) := by decide +kernel
theorem dX7_of_23 : decode mX7_of.2.1 23 = .ok (.iload_n 1, 1) := by decide +kernel
theorem dX7_of_24 : decode mX7_of.2.1 24 = .ok (.iload_n 2, 1) := by decide +kernel
theorem dX7_of_25 : decode mX7_of.2.1 25 = .ok (.invokevirtual 170, 3) := by decide +kernel
theorem dX7_of_28 : decode mX7_of.2.1 28 = .ok (.goto 6, 3) := by decide +kernel
theorem dX7_of_31 : decode mX7_of.2.1 31 = .ok (.sipush (-1002), 3) := by decide +kernel
theorem dX7_of_34 : decode mX7_of.2.1 34 = .ok (.ireturn, 1) := by decide +kernel
theorem dX7_isMember_0 : decode mX7_isMember.2.1 0 = .ok (.aload_n 0, 1) := by decide +kernel
theorem dX7_isMember_1 : decode mX7_isMember.2.1 1 = .ok (.iload_n 1, 1) := by decide +kernel
theorem dX7_isMember_2 : decode mX7_isMember.2.1 2 = .ok (.invokevirtual 147, 3) := by decide +kernel
theorem dX7_isMember_5 : decode mX7_isMember.2.1 5 = .ok (.ifCond .eq 17, 3) := by decide +kernel
theorem dX7_isMember_8 : decode mX7_isMember.2.1 8 = .ok (.iload_n 2, 1) := by decide +kernel
theorem dX7_isMember_9 : decode mX7_isMember.2.1 9 = .ok (.iconst 0, 1) := by decide +kernel
theorem dX7_isMember_10 : decode mX7_isMember.2.1 10 = .ok (.bipush 11, 2) := by decide +kernel
theorem dX7_isMember_12 : decode mX7_isMember.2.1 12 = .ok (.invokestatic 77, 3) := by decide +kernel
theorem dX7_isMember_15 : decode mX7_isMember.2.1 15 = .ok (.ifCond .eq 7, 3) := by decide +kernel
theorem dX7_isMember_18 : decode mX7_isMember.2.1 18 = .ok (.iconst 1, 1) := by decide +kernel
theorem dX7_isMember_19 : decode mX7_isMember.2.1 19 = .ok (.goto 4, 3) := by decide +kernel
theorem dX7_isMember_22 : decode mX7_isMember.2.1 22 = .ok (.iconst 0, 1) := by decide +kernel
theorem dX7_isMember_23 : decode mX7_isMember.2.1 23 = .ok (.ireturn, 1) := by decide +kernel
theorem dX7_isMethod_0 : decode mX7_isMethod.2.1 0 = .ok (.aload_n 0, 1) := by decide +kernel
theorem dX7_isMethod_1 : decode mX7_isMethod.2.1 1 = .ok (.iload_n 1, 1) := by decide +kernel
theorem dX7_isMethod_2 : decode mX7_isMethod.2.1 2 = .ok (.invokevirtual 147, 3) := by decide +kernel
theorem dX7_isMethod_5 : decode mX7_isMethod.2.1 5 = .ok (.ifCond .eq 16, 3) := by decide +kernel
theorem dX7_isMethod_8 : decode mX7_isMethod.2.1 8 = .ok (.iload_n 2, 1) := by decide +kernel
theorem dX7_isMethod_9 : decode mX7_isMethod.2.1 9 = .ok (.iconst 0, 1) := by decide +kernel
theorem dX7_isMethod_10 : decode mX7_isMethod.2.1 10 = .ok (.iconst 5, 1) := by decide +kernel
theorem dX7_isMethod_11 : decode mX7_isMethod.2.1 11 = .ok (.invokestatic 77, 3) := by decide +kernel
theorem dX7_isMethod_14 : decode mX7_isMethod.2.1 14 = .ok (.ifCond .eq 7, 3) := by decide +kernel
theorem dX7_isMethod_17 : decode mX7_isMethod.2.1 17 = .ok (.iconst 1, 1) := by decide +kernel
theorem dX7_isMethod_18 : decode mX7_isMethod.2.1 18 = .ok (.goto 4, 3) := by decide +kernel
theorem dX7_isMethod_21 : decode mX7_isMethod.2.1 21 = .ok (.iconst 0, 1) := by decide +kernel
theorem dX7_isMethod_22 : decode mX7_isMethod.2.1 22 = .ok (.ireturn, 1) := by decide +kernel
theorem dX7_has_0 : decode mX7_has.2.1 0 = .ok (.aload_n 0, 1) := by decide +kernel
theorem dX7_has_1 : decode mX7_has.2.1 1 = .ok (.iload_n 1, 1) := by decide +kernel
theorem dX7_has_2 : decode mX7_has.2.1 2 = .ok (.iload_n 2, 1) := by decide +kernel
theorem dX7_has_3 : decode mX7_has.2.1 3 = .ok (.invokevirtual 173, 3) := by decide +kernel
theorem dX7_has_6 : decode mX7_has.2.1 6 = .ok (.ifCond .eq 12, 3) := by decide +kernel
theorem dX7_has_9 : decode mX7_has.2.1 9 = .ok (.aload_n 0, 1) := by decide +kernel
theorem dX7_has_10 : decode mX7_has.2.1 10 = .ok (.iload_n 1, 1) := by decide +kernel
theorem dX7_has_11 : decode mX7_has.2.1 11 = .ok (.iload_n 2, 1) := by decide +kernel
theorem dX7_has_12 : decode mX7_has.2.1 12 = .ok (.invokevirtual 150, 3) := by decide +kernel
theorem dX7_has_15 : decode mX7_has.2.1 15 = .ok (.goto 6, 3) := by decide +kernel
theorem dX7_has_18 : decode mX7_has.2.1 18 = .ok (.sipush (-1001), 3) := by decide +kernel
theorem dX7_has_21 : decode mX7_has.2.1 21 = .ok (.ireturn, 1) := by decide +kernel
theorem dX7_answerNow_0 : decode mX7_answerNow.2.1 0 = .ok (.aload_n 0, 1) := by decide +kernel
theorem dX7_answerNow_1 : decode mX7_answerNow.2.1 1 = .ok (.iload_n 1, 1) := by decide +kernel
theorem dX7_answerNow_2 : decode mX7_answerNow.2.1 2 = .ok (.iload_n 2, 1) := by decide +kernel
theorem dX7_answerNow_3 : decode mX7_answerNow.2.1 3 = .ok (.invokevirtual 157, 3) := by decide +kernel
theorem dX7_answerNow_6 : decode mX7_answerNow.2.1 6 = .ok (.istore 4, 2) := by decide +kernel
theorem dX7_answerNow_8 : decode mX7_answerNow.2.1 8 = .ok (.iload 4, 2) := by decide +kernel
theorem dX7_answerNow_10 : decode mX7_answerNow.2.1 10 = .ok (.iconst (-1), 1) := by decide +kernel
theorem dX7_answerNow_11 : decode mX7_answerNow.2.1 11 = .ok (.if_icmp .ne 7, 3) := by decide +kernel
theorem dX7_answerNow_14 : decode mX7_answerNow.2.1 14 = .ok (.iconst (-1), 1) := by decide +kernel
theorem dX7_answerNow_15 : decode mX7_answerNow.2.1 15 = .ok (.goto 19, 3) := by decide +kernel
theorem dX7_answerNow_18 : decode mX7_answerNow.2.1 18 = .ok (.iload_n 3, 1) := by decide +kernel
theorem dX7_answerNow_19 : decode mX7_answerNow.2.1 19 = .ok (.ifCond .ne 13, 3) := by decide +kernel
theorem dX7_answerNow_22 : decode mX7_answerNow.2.1 22 = .ok (.aload_n 0, 1) := by decide +kernel
theorem dX7_answerNow_23 : decode mX7_answerNow.2.1 23 = .ok (.iload 4, 2) := by decide +kernel
theorem dX7_answerNow_25 : decode mX7_answerNow.2.1 25 = .ok (.iload_n 2, 1) := by decide +kernel
theorem dX7_answerNow_26 : decode mX7_answerNow.2.1 26 = .ok (.invokevirtual 150, 3) := by decide +kernel
theorem dX7_answerNow_29 : decode mX7_answerNow.2.1 29 = .ok (.goto 5, 3) := by decide +kernel
theorem dX7_answerNow_32 : decode mX7_answerNow.2.1 32 = .ok (.iload 4, 2) := by decide +kernel
theorem dX7_answerNow_34 : decode mX7_answerNow.2.1 34 = .ok (.ireturn, 1) := by decide +kernel
theorem dX7_answer_0 : decode mX7_answer.2.1 0 = .ok (.aload_n 0, 1) := by decide +kernel
theorem dX7_answer_1 : decode mX7_answer.2.1 1 = .ok (.iload_n 1, 1) := by decide +kernel
theorem dX7_answer_2 : decode mX7_answer.2.1 2 = .ok (.iload_n 2, 1) := by decide +kernel
theorem dX7_answer_3 : decode mX7_answer.2.1 3 = .ok (.invokevirtual 176, 3) := by decide +kernel
theorem dX7_answer_6 : decode mX7_answer.2.1 6 = .ok (.ifCond .ne 7, 3) := by decide +kernel
theorem dX7_answer_9 : decode mX7_answer.2.1 9 = .ok (.sipush (-1001), 3) := by decide +kernel
theorem dX7_answer_12 : decode mX7_answer.2.1 12 = .ok (.ireturn, 1) := by decide +kernel
theorem dX7_answer_13 : decode mX7_answer.2.1 13 = .ok (.iload_n 3, 1) := by decide +kernel
theorem dX7_answer_14 : decode mX7_answer.2.1 14 = .ok (.iconst 0, 1) := by decide +kernel
theorem dX7_answer_15 : decode mX7_answer.2.1 15 = .ok (.iconst 1, 1) := by decide +kernel
theorem dX7_answer_16 : decode mX7_answer.2.1 16 = .ok (.invokestatic 77, 3) := by decide +kernel
theorem dX7_answer_19 : decode mX7_answer.2.1 19 = .ok (.ifCond .eq 13, 3) := by decide +kernel
theorem dX7_answer_22 : decode mX7_answer.2.1 22 = .ok (.aload_n 0, 1) := by decide +kernel
theorem dX7_answer_23 : decode mX7_answer.2.1 23 = .ok (.iload_n 1, 1) := by decide +kernel
theorem dX7_answer_24 : decode mX7_answer.2.1 24 = .ok (.iload_n 2, 1) := by decide +kernel
theorem dX7_answer_25 : decode mX7_answer.2.1 25 = .ok (.iload_n 3, 1) := by decide +kernel
theorem dX7_answer_26 : decode mX7_answer.2.1 26 = .ok (.invokevirtual 179, 3) := by decide +kernel
theorem dX7_answer_29 : decode mX7_answer.2.1 29 = .ok (.goto 6, 3) := by decide +kernel
theorem dX7_answer_32 : decode mX7_answer.2.1 32 = .ok (.sipush (-1002), 3) := by decide +kernel
theorem dX7_answer_35 : decode mX7_answer.2.1 35 = .ok (.ireturn, 1) := by decide +kernel
theorem dX7_bodyNow_0 : decode mX7_bodyNow.2.1 0 = .ok (.iload_n 2, 1) := by decide +kernel
theorem dX7_bodyNow_1 : decode mX7_bodyNow.2.1 1 = .ok (.ifCond .ne 12, 3) := by decide +kernel
theorem dX7_bodyNow_4 : decode mX7_bodyNow.2.1 4 = .ok (.aload_n 0, 1) := by decide +kernel
theorem dX7_bodyNow_5 : decode mX7_bodyNow.2.1 5 = .ok (.getfield 29, 3) := by decide +kernel
theorem dX7_bodyNow_8 : decode mX7_bodyNow.2.1 8 = .ok (.iload_n 1, 1) := by decide +kernel
theorem dX7_bodyNow_9 : decode mX7_bodyNow.2.1 9 = .ok (.iaload, 1) := by decide +kernel
theorem dX7_bodyNow_10 : decode mX7_bodyNow.2.1 10 = .ok (.goto 34, 3) := by decide +kernel
theorem dX7_bodyNow_13 : decode mX7_bodyNow.2.1 13 = .ok (.iload_n 2, 1) := by decide +kernel
theorem dX7_bodyNow_14 : decode mX7_bodyNow.2.1 14 = .ok (.bipush 10, 2) := by decide +kernel
theorem dX7_bodyNow_16 : decode mX7_bodyNow.2.1 16 = .ok (.isub, 1) := by decide +kernel
theorem dX7_bodyNow_17 : decode mX7_bodyNow.2.1 17 = .ok (.aload_n 0, 1) := by decide +kernel
theorem dX7_bodyNow_18 : decode mX7_bodyNow.2.1 18 = .ok (.getfield 29, 3) := by decide +kernel
theorem dX7_bodyNow_21 : decode mX7_bodyNow.2.1 21 = .ok (.iload_n 1, 1) := by decide +kernel
theorem dX7_bodyNow_22 : decode mX7_bodyNow.2.1 22 = .ok (.iaload, 1) := by decide +kernel
theorem dX7_bodyNow_23 : decode mX7_bodyNow.2.1 23 = .ok (.if_icmp .ge 20, 3) := by decide +kernel
theorem dX7_bodyNow_26 : decode mX7_bodyNow.2.1 26 = .ok (.aload_n 0, 1) := by decide +kernel
theorem dX7_bodyNow_27 : decode mX7_bodyNow.2.1 27 = .ok (.getfield 32, 3) := by decide +kernel
theorem dX7_bodyNow_30 : decode mX7_bodyNow.2.1 30 = .ok (.bipush 6, 2) := by decide +kernel
theorem dX7_bodyNow_32 : decode mX7_bodyNow.2.1 32 = .ok (.iload_n 1, 1) := by decide +kernel
theorem dX7_bodyNow_33 : decode mX7_bodyNow.2.1 33 = .ok (.imul, 1) := by decide +kernel
theorem dX7_bodyNow_34 : decode mX7_bodyNow.2.1 34 = .ok (.iload_n 2, 1) := by decide +kernel
theorem dX7_bodyNow_35 : decode mX7_bodyNow.2.1 35 = .ok (.iadd, 1) := by decide +kernel
theorem dX7_bodyNow_36 : decode mX7_bodyNow.2.1 36 = .ok (.bipush 10, 2) := by decide +kernel
theorem dX7_bodyNow_38 : decode mX7_bodyNow.2.1 38 = .ok (.isub, 1) := by decide +kernel
theorem dX7_bodyNow_39 : decode mX7_bodyNow.2.1 39 = .ok (.iaload, 1) := by decide +kernel
theorem dX7_bodyNow_40 : decode mX7_bodyNow.2.1 40 = .ok (.goto 4, 3) := by decide +kernel
theorem dX7_bodyNow_43 : decode mX7_bodyNow.2.1 43 = .ok (.iconst (-1), 1) := by decide +kernel
theorem dX7_bodyNow_44 : decode mX7_bodyNow.2.1 44 = .ok (.ireturn, 1) := by decide +kernel
theorem dX7_body_0 : decode mX7_body.2.1 0 = .ok (.iload_n 1, 1) := by decide +kernel
theorem dX7_body_1 : decode mX7_body.2.1 1 = .ok (.iconst 0, 1) := by decide +kernel
theorem dX7_body_2 : decode mX7_body.2.1 2 = .ok (.aload_n 0, 1) := by decide +kernel
theorem dX7_body_3 : decode mX7_body.2.1 3 = .ok (.getfield 134, 3) := by decide +kernel
theorem dX7_body_6 : decode mX7_body.2.1 6 = .ok (.iconst 1, 1) := by decide +kernel
theorem dX7_body_7 : decode mX7_body.2.1 7 = .ok (.isub, 1) := by decide +kernel
theorem dX7_body_8 : decode mX7_body.2.1 8 = .ok (.invokestatic 77, 3) := by decide +kernel
theorem dX7_body_11 : decode mX7_body.2.1 11 = .ok (.ifCond .ne 7, 3) := by decide +kernel
theorem dX7_body_14 : decode mX7_body.2.1 14 = .ok (.sipush (-1001), 3) := by decide +kernel
theorem dX7_body_17 : decode mX7_body.2.1 17 = .ok (.ireturn, 1) := by decide +kernel
theorem dX7_body_18 : decode mX7_body.2.1 18 = .ok (.iload_n 2, 1) := by decide +kernel
theorem dX7_body_19 : decode mX7_body.2.1 19 = .ok (.ifCond .eq 14, 3) := by decide +kernel
theorem dX7_body_22 : decode mX7_body.2.1 22 = .ok (.iload_n 2, 1) := by decide +kernel
theorem dX7_body_23 : decode mX7_body.2.1 23 = .ok (.bipush 10, 2) := by decide +kernel
theorem dX7_body_25 : decode mX7_body.2.1 25 = .ok (.bipush 15, 2) := by decide +kernel
theorem dX7_body_27 : decode mX7_body.2.1 27 = .ok (.invokestatic 77, 3) := by decide +kernel
theorem dX7_body_30 : decode mX7_body.2.1 30 = .ok (.ifCond .eq 12, 3) := by decide +kernel
theorem dX7_body_33 : decode mX7_body.2.1 33 = .ok (.aload_n 0, 1) := by decide +kernel
theorem dX7_body_34 : decode mX7_body.2.1 34 = .ok (.iload_n 1, 1) := by decide +kernel
theorem dX7_body_35 : decode mX7_body.2.1 35 = .ok (.iload_n 2, 1) := by decide +kernel
theorem dX7_body_36 : decode mX7_body.2.1 36 = .ok (.invokevirtual 182, 3) := by decide +kernel
theorem dX7_body_39 : decode mX7_body.2.1 39 = .ok (.goto 6, 3) := by decide +kernel
theorem dX7_body_42 : decode mX7_body.2.1 42 = .ok (.sipush (-1002), 3) := by decide +kernel
theorem dX7_body_45 : decode mX7_body.2.1 45 = .ok (.ireturn, 1) := by decide +kernel
theorem dX7_put_0 : decode mX7_put.2.1 0 = .ok (.aload_n 0, 1) := by decide +kernel
theorem dX7_put_1 : decode mX7_put.2.1 1 = .ok (.getfield 185, 3) := by decide +kernel
theorem dX7_put_4 : decode mX7_put.2.1 4 = .ok (.bipush 60, 2) := by decide +kernel
theorem dX7_put_6 : decode mX7_put.2.1 6 = .ok (.if_icmp .ge 33, 3) := by decide +kernel
theorem dX7_put_9 : decode mX7_put.2.1 9 = .ok (.aload_n 0, 1) := by decide +kernel
theorem dX7_put_10 : decode mX7_put.2.1 10 = .ok (.getfield 53, 3) := by decide +kernel
theorem dX7_put_13 : decode mX7_put.2.1 13 = .ok (.aload_n 0, 1) := by decide +kernel
theorem dX7_put_14 : decode mX7_put.2.1 14 = .ok (.getfield 185, 3) := by decide +kernel
theorem dX7_put_17 : decode mX7_put.2.1 17 = .ok (.iload_n 1, 1) := by decide +kernel
theorem dX7_put_18 : decode mX7_put.2.1 18 = .ok (.iastore, 1) := by decide +kernel
theorem dX7_put_19 : decode mX7_put.2.1 19 = .ok (.aload_n 0, 1) := by decide +kernel
theorem dX7_put_20 : decode mX7_put.2.1 20 = .ok (.getfield 56, 3) := by decide +kernel
theorem dX7_put_23 : decode mX7_put.2.1 23 = .ok (.aload_n 0, 1) := by decide +kernel
theorem dX7_put_24 : decode mX7_put.2.1 24 = .ok (.getfield 185, 3) := by decide +kernel
theorem dX7_put_27 : decode mX7_put.2.1 27 = .ok (.iload_n 2, 1) := by decide +kernel
theorem dX7_put_28 : decode mX7_put.2.1 28 = .ok (.iastore, 1) := by decide +kernel
theorem dX7_put_29 : decode mX7_put.2.1 29 = .ok (.aload_n 0, 1) := by decide +kernel
theorem dX7_put_30 : decode mX7_put.2.1 30 = .ok (.dup, 1) := by decide +kernel
theorem dX7_put_31 : decode mX7_put.2.1 31 = .ok (.getfield 185, 3) := by decide +kernel
theorem dX7_put_34 : decode mX7_put.2.1 34 = .ok (.iconst 1, 1) := by decide +kernel
theorem dX7_put_35 : decode mX7_put.2.1 35 = .ok (.iadd, 1) := by decide +kernel
theorem dX7_put_36 : decode mX7_put.2.1 36 = .ok (.putfield 185, 3) := by decide +kernel
theorem dX7_put_39 : decode mX7_put.2.1 39 = .ok (.return_, 1) := by decide +kernel
theorem dX7_isRunning_0 : decode mX7_isRunning.2.1 0 = .ok (.iconst 0, 1) := by decide +kernel
theorem dX7_isRunning_1 : decode mX7_isRunning.2.1 1 = .ok (.istore_n 2, 1) := by decide +kernel
theorem dX7_isRunning_2 : decode mX7_isRunning.2.1 2 = .ok (.iconst 0, 1) := by decide +kernel
theorem dX7_isRunning_3 : decode mX7_isRunning.2.1 3 = .ok (.istore_n 3, 1) := by decide +kernel
theorem dX7_isRunning_4 : decode mX7_isRunning.2.1 4 = .ok (.iload_n 3, 1) := by decide +kernel
theorem dX7_isRunning_5 : decode mX7_isRunning.2.1 5 = .ok (.aload_n 0, 1) := by decide +kernel
theorem dX7_isRunning_6 : decode mX7_isRunning.2.1 6 = .ok (.getfield 188, 3) := by decide +kernel
theorem dX7_isRunning_9 : decode mX7_isRunning.2.1 9 = .ok (.if_icmp .ge 29, 3) := by decide +kernel
theorem dX7_isRunning_12 : decode mX7_isRunning.2.1 12 = .ok (.iload_n 2, 1) := by decide +kernel
theorem dX7_isRunning_13 : decode mX7_isRunning.2.1 13 = .ok (.ifCond .ne 13, 3) := by decide +kernel
theorem dX7_isRunning_16 : decode mX7_isRunning.2.1 16 = .ok (.aload_n 0, 1) := by decide +kernel
theorem dX7_isRunning_17 : decode mX7_isRunning.2.1 17 = .ok (.getfield 59, 3) := by decide +kernel
theorem dX7_isRunning_20 : decode mX7_isRunning.2.1 20 = .ok (.iload_n 3, 1) := by decide +kernel
theorem dX7_isRunning_21 : decode mX7_isRunning.2.1 21 = .ok (.iaload, 1) := by decide +kernel
theorem dX7_isRunning_22 : decode mX7_isRunning.2.1 22 = .ok (.iload_n 1, 1) := by decide +kernel
theorem dX7_isRunning_23 : decode mX7_isRunning.2.1 23 = .ok (.if_icmp .ne 7, 3) := by decide +kernel
theorem dX7_isRunning_26 : decode mX7_isRunning.2.1 26 = .ok (.iconst 1, 1) := by decide +kernel
theorem dX7_isRunning_27 : decode mX7_isRunning.2.1 27 = .ok (.goto 4, 3) := by decide +kernel
theorem dX7_isRunning_30 : decode mX7_isRunning.2.1 30 = .ok (.iconst 0, 1) := by decide +kernel
theorem dX7_isRunning_31 : decode mX7_isRunning.2.1 31 = .ok (.istore_n 2, 1) := by decide +kernel
theorem dX7_isRunning_32 : decode mX7_isRunning.2.1 32 = .ok (.iinc 3 1, 3) := by decide +kernel
theorem dX7_isRunning_35 : decode mX7_isRunning.2.1 35 = .ok (.goto (-31), 3) := by decide +kernel
theorem dX7_isRunning_38 : decode mX7_isRunning.2.1 38 = .ok (.iload_n 2, 1) := by decide +kernel
theorem dX7_isRunning_39 : decode mX7_isRunning.2.1 39 = .ok (.ireturn, 1) := by decide +kernel
theorem dX7_run_0 : decode mX7_run.2.1 0 = .ok (.aload_n 0, 1) := by decide +kernel
theorem dX7_run_1 : decode mX7_run.2.1 1 = .ok (.iload_n 1, 1) := by decide +kernel
theorem dX7_run_2 : decode mX7_run.2.1 2 = .ok (.invokevirtual 191, 3) := by decide +kernel
theorem dX7_run_5 : decode mX7_run.2.1 5 = .ok (.ifCond .eq 10, 3) := by decide +kernel
theorem dX7_run_8 : decode mX7_run.2.1 8 = .ok (.aload_n 0, 1) := by decide +kernel
theorem dX7_run_9 : decode mX7_run.2.1 9 = .ok (.iconst 1, 1) := by decide +kernel
theorem dX7_run_10 : decode mX7_run.2.1 10 = .ok (.iload_n 1, 1) := by decide +kernel
theorem dX7_run_11 : decode mX7_run.2.1 11 = .ok (.invokevirtual 194, 3) := by decide +kernel
theorem dX7_run_14 : decode mX7_run.2.1 14 = .ok (.return_, 1) := by decide +kernel
theorem dX7_run_15 : decode mX7_run.2.1 15 = .ok (.aload_n 0, 1) := by decide +kernel
theorem dX7_run_16 : decode mX7_run.2.1 16 = .ok (.getfield 185, 3) := by decide +kernel
theorem dX7_run_19 : decode mX7_run.2.1 19 = .ok (.bipush 60, 2) := by decide +kernel
theorem dX7_run_21 : decode mX7_run.2.1 21 = .ok (.if_icmp .ne 4, 3) := by decide +kernel
theorem dX7_run_24 : decode mX7_run.2.1 24 = .ok (.return_, 1) := by decide +kernel
theorem dX7_run_25 : decode mX7_run.2.1 25 = .ok (.aload_n 0, 1) := by decide +kernel
theorem dX7_run_26 : decode mX7_run.2.1 26 = .ok (.iconst 0, 1) := by decide +kernel
theorem dX7_run_27 : decode mX7_run.2.1 27 = .ok (.iload_n 1, 1) := by decide +kernel
theorem dX7_run_28 : decode mX7_run.2.1 28 = .ok (.invokevirtual 194, 3) := by decide +kernel
theorem dX7_run_31 : decode mX7_run.2.1 31 = .ok (.aload_n 0, 1) := by decide +kernel
theorem dX7_run_32 : decode mX7_run.2.1 32 = .ok (.getfield 59, 3) := by decide +kernel
theorem dX7_run_35 : decode mX7_run.2.1 35 = .ok (.aload_n 0, 1) := by decide +kernel
theorem dX7_run_36 : decode mX7_run.2.1 36 = .ok (.getfield 188, 3) := by decide +kernel
theorem dX7_run_39 : decode mX7_run.2.1 39 = .ok (.iload_n 1, 1) := by decide +kernel
theorem dX7_run_40 : decode mX7_run.2.1 40 = .ok (.iastore, 1) := by decide +kernel
theorem dX7_run_41 : decode mX7_run.2.1 41 = .ok (.aload_n 0, 1) := by decide +kernel
theorem dX7_run_42 : decode mX7_run.2.1 42 = .ok (.getfield 62, 3) := by decide +kernel
theorem dX7_run_45 : decode mX7_run.2.1 45 = .ok (.aload_n 0, 1) := by decide +kernel
theorem dX7_run_46 : decode mX7_run.2.1 46 = .ok (.getfield 188, 3) := by decide +kernel
theorem dX7_run_49 : decode mX7_run.2.1 49 = .ok (.iload_n 2, 1) := by decide +kernel
theorem dX7_run_50 : decode mX7_run.2.1 50 = .ok (.iastore, 1) := by decide +kernel
theorem dX7_run_51 : decode mX7_run.2.1 51 = .ok (.aload_n 0, 1) := by decide +kernel
theorem dX7_run_52 : decode mX7_run.2.1 52 = .ok (.getfield 65, 3) := by decide +kernel
theorem dX7_run_55 : decode mX7_run.2.1 55 = .ok (.aload_n 0, 1) := by decide +kernel
theorem dX7_run_56 : decode mX7_run.2.1 56 = .ok (.getfield 188, 3) := by decide +kernel
theorem dX7_run_59 : decode mX7_run.2.1 59 = .ok (.iconst 0, 1) := by decide +kernel
theorem dX7_run_60 : decode mX7_run.2.1 60 = .ok (.iastore, 1) := by decide +kernel
theorem dX7_run_61 : decode mX7_run.2.1 61 = .ok (.aload_n 0, 1) := by decide +kernel
theorem dX7_run_62 : decode mX7_run.2.1 62 = .ok (.dup, 1) := by decide +kernel
theorem dX7_run_63 : decode mX7_run.2.1 63 = .ok (.getfield 188, 3) := by decide +kernel
theorem dX7_run_66 : decode mX7_run.2.1 66 = .ok (.iconst 1, 1) := by decide +kernel
theorem dX7_run_67 : decode mX7_run.2.1 67 = .ok (.iadd, 1) := by decide +kernel
theorem dX7_run_68 : decode mX7_run.2.1 68 = .ok (.putfield 188, 3) := by decide +kernel
theorem dX7_run_71 : decode mX7_run.2.1 71 = .ok (.aload_n 0, 1) := by decide +kernel
theorem dX7_run_72 : decode mX7_run.2.1 72 = .ok (.aload_n 0, 1) := by decide +kernel
theorem dX7_run_73 : decode mX7_run.2.1 73 = .ok (.getfield 188, 3) := by decide +kernel
theorem dX7_run_76 : decode mX7_run.2.1 76 = .ok (.aload_n 0, 1) := by decide +kernel
theorem dX7_run_77 : decode mX7_run.2.1 77 = .ok (.getfield 198, 3) := by decide +kernel
theorem dX7_run_80 : decode mX7_run.2.1 80 = .ok (.if_icmp .le 10, 3) := by decide +kernel
theorem dX7_run_83 : decode mX7_run.2.1 83 = .ok (.aload_n 0, 1) := by decide +kernel
theorem dX7_run_84 : decode mX7_run.2.1 84 = .ok (.getfield 188, 3) := by decide +kernel
theorem dX7_run_87 : decode mX7_run.2.1 87 = .ok (.goto 7, 3) := by decide +kernel
theorem dX7_run_90 : decode mX7_run.2.1 90 = .ok (.aload_n 0, 1) := by decide +kernel
theorem dX7_run_91 : decode mX7_run.2.1 91 = .ok (.getfield 198, 3) := by decide +kernel
theorem dX7_run_94 : decode mX7_run.2.1 94 = .ok (.putfield 198, 3) := by decide +kernel
theorem dX7_run_97 : decode mX7_run.2.1 97 = .ok (.return_, 1) := by decide +kernel
theorem dX7_comesTo_0 : decode mX7_comesTo.2.1 0 = .ok (.iload_n 1, 1) := by decide +kernel
theorem dX7_comesTo_1 : decode mX7_comesTo.2.1 1 = .ok (.bipush 20, 2) := by decide +kernel
theorem dX7_comesTo_3 : decode mX7_comesTo.2.1 3 = .ok (.irem, 1) := by decide +kernel
theorem dX7_comesTo_4 : decode mX7_comesTo.2.1 4 = .ok (.istore 4, 2) := by decide +kernel
theorem dX7_comesTo_6 : decode mX7_comesTo.2.1 6 = .ok (.iload 4, 2) := by decide +kernel
theorem dX7_comesTo_8 : decode mX7_comesTo.2.1 8 = .ok (.bipush 6, 2) := by decide +kernel
theorem dX7_comesTo_10 : decode mX7_comesTo.2.1 10 = .ok (.if_icmp .lt 41, 3) := by decide +kernel
theorem dX7_comesTo_13 : decode mX7_comesTo.2.1 13 = .ok (.aload_n 0, 1) := by decide +kernel
theorem dX7_comesTo_14 : decode mX7_comesTo.2.1 14 = .ok (.iload_n 2, 1) := by decide +kernel
theorem dX7_comesTo_15 : decode mX7_comesTo.2.1 15 = .ok (.iload 4, 2) := by decide +kernel
theorem dX7_comesTo_17 : decode mX7_comesTo.2.1 17 = .ok (.invokevirtual 201, 3) := by decide +kernel
theorem dX7_comesTo_20 : decode mX7_comesTo.2.1 20 = .ok (.istore 5, 2) := by decide +kernel
theorem dX7_comesTo_22 : decode mX7_comesTo.2.1 22 = .ok (.aload_n 0, 1) := by decide +kernel
theorem dX7_comesTo_23 : decode mX7_comesTo.2.1 23 = .ok (.iload 5, 2) := by decide +kernel
theorem dX7_comesTo_25 : decode mX7_comesTo.2.1 25 = .ok (.iconst (-1), 1) := by decide +kernel
theorem dX7_comesTo_26 : decode mX7_comesTo.2.1 26 = .ok (.if_icmp .ne 7, 3) := by decide +kernel
theorem dX7_comesTo_29 : decode mX7_comesTo.2.1 29 = .ok (.iconst 3, 1) := by decide +kernel
theorem dX7_comesTo_30 : decode mX7_comesTo.2.1 30 = .ok (.goto 4, 3) := by decide +kernel
theorem dX7_comesTo_33 : decode mX7_comesTo.2.1 33 = .ok (.iconst 2, 1) := by decide +kernel
theorem dX7_comesTo_34 : decode mX7_comesTo.2.1 34 = .ok (.iload 5, 2) := by decide +kernel
theorem dX7_comesTo_36 : decode mX7_comesTo.2.1 36 = .ok (.iconst (-1), 1) := by decide +kernel
theorem dX7_comesTo_37 : decode mX7_comesTo.2.1 37 = .ok (.if_icmp .ne 8, 3) := by decide +kernel
theorem dX7_comesTo_40 : decode mX7_comesTo.2.1 40 = .ok (.iload 4, 2) := by decide +kernel
theorem dX7_comesTo_42 : decode mX7_comesTo.2.1 42 = .ok (.goto 5, 3) := by decide +kernel
theorem dX7_comesTo_45 : decode mX7_comesTo.2.1 45 = .ok (.iload 5, 2) := by decide +kernel
theorem dX7_comesTo_47 : decode mX7_comesTo.2.1 47 = .ok (.invokevirtual 194, 3) := by decide +kernel
theorem dX7_comesTo_50 : decode mX7_comesTo.2.1 50 = .ok (.return_, 1) := by decide +kernel
theorem dX7_comesTo_51 : decode mX7_comesTo.2.1 51 = .ok (.iload_n 1, 1) := by decide +kernel
theorem dX7_comesTo_52 : decode mX7_comesTo.2.1 52 = .ok (.bipush 20, 2) := by decide +kernel
theorem dX7_comesTo_54 : decode mX7_comesTo.2.1 54 = .ok (.if_icmp .ge 28, 3) := by decide +kernel
theorem dX7_comesTo_57 : decode mX7_comesTo.2.1 57 = .ok (.aload_n 0, 1) := by decide +kernel
theorem dX7_comesTo_58 : decode mX7_comesTo.2.1 58 = .ok (.iload_n 2, 1) := by decide +kernel
theorem dX7_comesTo_59 : decode mX7_comesTo.2.1 59 = .ok (.iload 4, 2) := by decide +kernel
theorem dX7_comesTo_61 : decode mX7_comesTo.2.1 61 = .ok (.invokevirtual 150, 3) := by decide +kernel
theorem dX7_comesTo_64 : decode mX7_comesTo.2.1 64 = .ok (.iconst (-1), 1) := by decide +kernel
theorem dX7_comesTo_65 : decode mX7_comesTo.2.1 65 = .ok (.if_icmp .eq 17, 3) := by decide +kernel
theorem dX7_comesTo_68 : decode mX7_comesTo.2.1 68 = .ok (.aload_n 0, 1) := by decide +kernel
theorem dX7_comesTo_69 : decode mX7_comesTo.2.1 69 = .ok (.iload_n 2, 1) := by decide +kernel
theorem dX7_comesTo_70 : decode mX7_comesTo.2.1 70 = .ok (.iload 4, 2) := by decide +kernel
theorem dX7_comesTo_72 : decode mX7_comesTo.2.1 72 = .ok (.invokevirtual 154, 3) := by decide +kernel
theorem dX7_comesTo_75 : decode mX7_comesTo.2.1 75 = .ok (.ifCond .eq 7, 3) := by decide +kernel
theorem dX7_comesTo_78 : decode mX7_comesTo.2.1 78 = .ok (.iconst 1, 1) := by decide +kernel
theorem dX7_comesTo_79 : decode mX7_comesTo.2.1 79 = .ok (.goto 4, 3) := by decide +kernel
theorem dX7_comesTo_82 : decode mX7_comesTo.2.1 82 = .ok (.iconst 0, 1) := by decide +kernel
theorem dX7_comesTo_83 : decode mX7_comesTo.2.1 83 = .ok (.istore 5, 2) := by decide +kernel
theorem dX7_comesTo_85 : decode mX7_comesTo.2.1 85 = .ok (.iload_n 1, 1) := by decide +kernel
theorem dX7_comesTo_86 : decode mX7_comesTo.2.1 86 = .ok (.bipush 20, 2) := by decide +kernel
theorem dX7_comesTo_88 : decode mX7_comesTo.2.1 88 = .ok (.if_icmp .lt 12, 3) := by decide +kernel
theorem dX7_comesTo_91 : decode mX7_comesTo.2.1 91 = .ok (.aload_n 0, 1) := by decide +kernel
theorem dX7_comesTo_92 : decode mX7_comesTo.2.1 92 = .ok (.getfield 13, 3) := by decide +kernel
theorem dX7_comesTo_95 : decode mX7_comesTo.2.1 95 = .ok (.iload_n 2, 1) := by decide +kernel
theorem dX7_comesTo_96 : decode mX7_comesTo.2.1 96 = .ok (.iaload, 1) := by decide +kernel
theorem dX7_comesTo_97 : decode mX7_comesTo.2.1 97 = .ok (.goto 4, 3) := by decide +kernel
theorem dX7_comesTo_100 : decode mX7_comesTo.2.1 100 = .ok (.iload_n 3, 1) := by decide +kernel
theorem dX7_comesTo_101 : decode mX7_comesTo.2.1 101 = .ok (.istore 6, 2) := by decide +kernel
theorem dX7_comesTo_103 : decode mX7_comesTo.2.1 103 = .ok (.iload 5, 2) := by decide +kernel
theorem dX7_comesTo_105 : decode mX7_comesTo.2.1 105 = .ok (.ifCond .eq 7, 3) := by decide +kernel
theorem dX7_comesTo_108 : decode mX7_comesTo.2.1 108 = .ok (.iload_n 2, 1) := by decide +kernel
theorem dX7_comesTo_109 : decode mX7_comesTo.2.1 109 = .ok (.goto 21, 3) := by decide +kernel
theorem dX7_comesTo_112 : decode mX7_comesTo.2.1 112 = .ok (.iload 6, 2) := by decide +kernel
theorem dX7_comesTo_114 : decode mX7_comesTo.2.1 114 = .ok (.iconst (-1), 1) := by decide +kernel
theorem dX7_comesTo_115 : decode mX7_comesTo.2.1 115 = .ok (.if_icmp .ne 7, 3) := by decide +kernel
theorem dX7_comesTo_118 : decode mX7_comesTo.2.1 118 = .ok (.iconst (-1), 1) := by decide +kernel
theorem dX7_comesTo_119 : decode mX7_comesTo.2.1 119 = .ok (.goto 11, 3) := by decide +kernel
theorem dX7_comesTo_122 : decode mX7_comesTo.2.1 122 = .ok (.aload_n 0, 1) := by decide +kernel
theorem dX7_comesTo_123 : decode mX7_comesTo.2.1 123 = .ok (.iload 6, 2) := by decide +kernel
theorem dX7_comesTo_125 : decode mX7_comesTo.2.1 125 = .ok (.iload 4, 2) := by decide +kernel
theorem dX7_comesTo_127 : decode mX7_comesTo.2.1 127 = .ok (.invokevirtual 157, 3) := by decide +kernel
theorem dX7_comesTo_130 : decode mX7_comesTo.2.1 130 = .ok (.istore 7, 2) := by decide +kernel
theorem dX7_comesTo_132 : decode mX7_comesTo.2.1 132 = .ok (.iload 7, 2) := by decide +kernel
theorem dX7_comesTo_134 : decode mX7_comesTo.2.1 134 = .ok (.iconst (-1), 1) := by decide +kernel
theorem dX7_comesTo_135 : decode mX7_comesTo.2.1 135 = .ok (.if_icmp .ne 13, 3) := by decide +kernel
theorem dX7_comesTo_138 : decode mX7_comesTo.2.1 138 = .ok (.aload_n 0, 1) := by decide +kernel
theorem dX7_comesTo_139 : decode mX7_comesTo.2.1 139 = .ok (.iconst 3, 1) := by decide +kernel
theorem dX7_comesTo_140 : decode mX7_comesTo.2.1 140 = .ok (.iload 4, 2) := by decide +kernel
theorem dX7_comesTo_142 : decode mX7_comesTo.2.1 142 = .ok (.invokevirtual 194, 3) := by decide +kernel
theorem dX7_comesTo_145 : decode mX7_comesTo.2.1 145 = .ok (.goto 17, 3) := by decide +kernel
theorem dX7_comesTo_148 : decode mX7_comesTo.2.1 148 = .ok (.aload_n 0, 1) := by decide +kernel
theorem dX7_comesTo_149 : decode mX7_comesTo.2.1 149 = .ok (.aload_n 0, 1) := by decide +kernel
theorem dX7_comesTo_150 : decode mX7_comesTo.2.1 150 = .ok (.iload 7, 2) := by decide +kernel
theorem dX7_comesTo_152 : decode mX7_comesTo.2.1 152 = .ok (.iload 4, 2) := by decide +kernel
theorem dX7_comesTo_154 : decode mX7_comesTo.2.1 154 = .ok (.invokevirtual 150, 3) := by decide +kernel
theorem dX7_comesTo_157 : decode mX7_comesTo.2.1 157 = .ok (.iload 7, 2) := by decide +kernel
theorem dX7_comesTo_159 : decode mX7_comesTo.2.1 159 = .ok (.invokevirtual 204, 3) := by decide +kernel
theorem dX7_comesTo_162 : decode mX7_comesTo.2.1 162 = .ok (.return_, 1) := by decide +kernel
theorem dX7_layTrace_0 : decode mX7_layTrace.2.1 0 = .ok (.aload_n 0, 1) := by decide +kernel
theorem dX7_layTrace_1 : decode mX7_layTrace.2.1 1 = .ok (.iconst 0, 1) := by decide +kernel
theorem dX7_layTrace_2 : decode mX7_layTrace.2.1 2 = .ok (.putfield 185, 3) := by decide +kernel
theorem dX7_layTrace_5 : decode mX7_layTrace.2.1 5 = .ok (.aload_n 0, 1) := by decide +kernel
theorem dX7_layTrace_6 : decode mX7_layTrace.2.1 6 = .ok (.iconst 0, 1) := by decide +kernel
theorem dX7_layTrace_7 : decode mX7_layTrace.2.1 7 = .ok (.putfield 198, 3) := by decide +kernel
theorem dX7_layTrace_10 : decode mX7_layTrace.2.1 10 = .ok (.aload_n 0, 1) := by decide +kernel
theorem dX7_layTrace_11 : decode mX7_layTrace.2.1 11 = .ok (.iconst 0, 1) := by decide +kernel
theorem dX7_layTrace_12 : decode mX7_layTrace.2.1 12 = .ok (.putfield 188, 3) := by decide +kernel
theorem dX7_layTrace_15 : decode mX7_layTrace.2.1 15 = .ok (.aload_n 0, 1) := by decide +kernel
theorem dX7_layTrace_16 : decode mX7_layTrace.2.1 16 = .ok (.iload_n 1, 1) := by decide +kernel
theorem dX7_layTrace_17 : decode mX7_layTrace.2.1 17 = .ok (.iload_n 2, 1) := by decide +kernel
theorem dX7_layTrace_18 : decode mX7_layTrace.2.1 18 = .ok (.invokevirtual 157, 3) := by decide +kernel
theorem dX7_layTrace_21 : decode mX7_layTrace.2.1 21 = .ok (.istore_n 3, 1) := by decide +kernel
theorem dX7_layTrace_22 : decode mX7_layTrace.2.1 22 = .ok (.iload_n 3, 1) := by decide +kernel
theorem dX7_layTrace_23 : decode mX7_layTrace.2.1 23 = .ok (.iconst (-1), 1) := by decide +kernel
theorem dX7_layTrace_24 : decode mX7_layTrace.2.1 24 = .ok (.if_icmp .ne 5, 3) := by decide +kernel
theorem dX7_layTrace_27 : decode mX7_layTrace.2.1 27 = .ok (.iconst 0, 1) := by decide +kernel
theorem dX7_layTrace_28 : decode mX7_layTrace.2.1 28 = .ok (.ireturn, 1) := by decide +kernel
theorem dX7_layTrace_29 : decode mX7_layTrace.2.1 29 = .ok (.aload_n 0, 1) := by decide +kernel
theorem dX7_layTrace_30 : decode mX7_layTrace.2.1 30 = .ok (.aload_n 0, 1) := by decide +kernel
theorem dX7_layTrace_31 : decode mX7_layTrace.2.1 31 = .ok (.iload_n 3, 1) := by decide +kernel
theorem dX7_layTrace_32 : decode mX7_layTrace.2.1 32 = .ok (.iload_n 2, 1) := by decide +kernel
theorem dX7_layTrace_33 : decode mX7_layTrace.2.1 33 = .ok (.invokevirtual 150, 3) := by decide +kernel
theorem dX7_layTrace_36 : decode mX7_layTrace.2.1 36 = .ok (.iload_n 3, 1) := by decide +kernel
theorem dX7_layTrace_37 : decode mX7_layTrace.2.1 37 = .ok (.invokevirtual 204, 3) := by decide +kernel
theorem dX7_layTrace_40 : decode mX7_layTrace.2.1 40 = .ok (.aload_n 0, 1) := by decide +kernel
theorem dX7_layTrace_41 : decode mX7_layTrace.2.1 41 = .ok (.getfield 188, 3) := by decide +kernel
theorem dX7_layTrace_44 : decode mX7_layTrace.2.1 44 = .ok (.ifCond .le 108, 3) := by decide +kernel
theorem dX7_layTrace_47 : decode mX7_layTrace.2.1 47 = .ok (.aload_n 0, 1) := by decide +kernel
theorem dX7_layTrace_48 : decode mX7_layTrace.2.1 48 = .ok (.getfield 185, 3) := by decide +kernel
theorem dX7_layTrace_51 : decode mX7_layTrace.2.1 51 = .ok (.bipush 60, 2) := by decide +kernel
theorem dX7_layTrace_53 : decode mX7_layTrace.2.1 53 = .ok (.if_icmp .ge 99, 3) := by decide +kernel
theorem dX7_layTrace_56 : decode mX7_layTrace.2.1 56 = .ok (.aload_n 0, 1) := by decide +kernel
theorem dX7_layTrace_57 : decode mX7_layTrace.2.1 57 = .ok (.getfield 188, 3) := by decide +kernel
theorem dX7_layTrace_60 : decode mX7_layTrace.2.1 60 = .ok (.iconst 1, 1) := by decide +kernel
theorem dX7_layTrace_61 : decode mX7_layTrace.2.1 61 = .ok (.isub, 1) := by decide +kernel
theorem dX7_layTrace_62 : decode mX7_layTrace.2.1 62 = .ok (.istore 4, 2) := by decide +kernel
theorem dX7_layTrace_64 : decode mX7_layTrace.2.1 64 = .ok (.aload_n 0, 1) := by decide +kernel
theorem dX7_layTrace_65 : decode mX7_layTrace.2.1 65 = .ok (.getfield 65, 3) := by decide +kernel
theorem dX7_layTrace_68 : decode mX7_layTrace.2.1 68 = .ok (.iload 4, 2) := by decide +kernel
theorem dX7_layTrace_70 : decode mX7_layTrace.2.1 70 = .ok (.iaload, 1) := by decide +kernel
theorem dX7_layTrace_71 : decode mX7_layTrace.2.1 71 = .ok (.aload_n 0, 1) := by decide +kernel
theorem dX7_layTrace_72 : decode mX7_layTrace.2.1 72 = .ok (.getfield 29, 3) := by decide +kernel
theorem dX7_layTrace_75 : decode mX7_layTrace.2.1 75 = .ok (.aload_n 0, 1) := by decide +kernel
theorem dX7_layTrace_76 : decode mX7_layTrace.2.1 76 = .ok (.getfield 59, 3) := by decide +kernel
theorem dX7_layTrace_79 : decode mX7_layTrace.2.1 79 = .ok (.iload 4, 2) := by decide +kernel
theorem dX7_layTrace_81 : decode mX7_layTrace.2.1 81 = .ok (.iaload, 1) := by decide +kernel
theorem dX7_layTrace_82 : decode mX7_layTrace.2.1 82 = .ok (.iaload, 1) := by decide +kernel
theorem dX7_layTrace_83 : decode mX7_layTrace.2.1 83 = .ok (.if_icmp .ne 16, 3) := by decide +kernel
theorem dX7_layTrace_86 : decode mX7_layTrace.2.1 86 = .ok (.aload_n 0, 1) := by decide +kernel
theorem dX7_layTrace_87 : decode mX7_layTrace.2.1 87 = .ok (.dup, 1) := by decide +kernel
theorem dX7_layTrace_88 : decode mX7_layTrace.2.1 88 = .ok (.getfield 188, 3) := by decide +kernel
theorem dX7_layTrace_91 : decode mX7_layTrace.2.1 91 = .ok (.iconst 1, 1) := by decide +kernel
theorem dX7_layTrace_92 : decode mX7_layTrace.2.1 92 = .ok (.isub, 1) := by decide +kernel
theorem dX7_layTrace_93 : decode mX7_layTrace.2.1 93 = .ok (.putfield 188, 3) := by decide +kernel
theorem dX7_layTrace_96 : decode mX7_layTrace.2.1 96 = .ok (.goto 53, 3) := by decide +kernel
theorem dX7_layTrace_99 : decode mX7_layTrace.2.1 99 = .ok (.aload_n 0, 1) := by decide +kernel
theorem dX7_layTrace_100 : decode mX7_layTrace.2.1 100 = .ok (.getfield 32, 3) := by decide +kernel
theorem dX7_layTrace_103 : decode mX7_layTrace.2.1 103 = .ok (.bipush 6, 2) := by decide +kernel
theorem dX7_layTrace_105 : decode mX7_layTrace.2.1 105 = .ok (.aload_n 0, 1) := by decide +kernel
theorem dX7_layTrace_106 : decode mX7_layTrace.2.1 106 = .ok (.getfield 59, 3) := by decide +kernel
theorem dX7_layTrace_109 : decode mX7_layTrace.2.1 109 = .ok (.iload 4, 2) := by decide +kernel
theorem dX7_layTrace_111 : decode mX7_layTrace.2.1 111 = .ok (.iaload, 1) := by decide +kernel
theorem dX7_layTrace_112 : decode mX7_layTrace.2.1 112 = .ok (.imul, 1) := by decide +kernel
theorem dX7_layTrace_113 : decode mX7_layTrace.2.1 113 = .ok (.aload_n 0, 1) := by decide +kernel
theorem dX7_layTrace_114 : decode mX7_layTrace.2.1 114 = .ok (.getfield 65, 3) := by decide +kernel
theorem dX7_layTrace_117 : decode mX7_layTrace.2.1 117 = .ok (.iload 4, 2) := by decide +kernel
theorem dX7_layTrace_119 : decode mX7_layTrace.2.1 119 = .ok (.iaload, 1) := by decide +kernel
theorem dX7_layTrace_120 : decode mX7_layTrace.2.1 120 = .ok (.iadd, 1) := by decide +kernel
theorem dX7_layTrace_121 : decode mX7_layTrace.2.1 121 = .ok (.iaload, 1) := by decide +kernel
theorem dX7_layTrace_122 : decode mX7_layTrace.2.1 122 = .ok (.istore 5, 2) := by decide +kernel
theorem dX7_layTrace_124 : decode mX7_layTrace.2.1 124 = .ok (.aload_n 0, 1) := by decide +kernel
theorem dX7_layTrace_125 : decode mX7_layTrace.2.1 125 = .ok (.getfield 65, 3) := by decide +kernel
theorem dX7_layTrace_128 : decode mX7_layTrace.2.1 128 = .ok (.iload 4, 2) := by decide +kernel
theorem dX7_layTrace_130 : decode mX7_layTrace.2.1 130 = .ok (.dup2, 1) := by decide +kernel
theorem dX7_layTrace_131 : decode mX7_layTrace.2.1 131 = .ok (.iaload, 1) := by decide +kernel
theorem dX7_layTrace_132 : decode mX7_layTrace.2.1 132 = .ok (.iconst 1, 1) := by decide +kernel
theorem dX7_layTrace_133 : decode mX7_layTrace.2.1 133 = .ok (.iadd, 1) := by decide +kernel
theorem dX7_layTrace_134 : decode mX7_layTrace.2.1 134 = .ok (.iastore, 1) := by decide +kernel
theorem dX7_layTrace_135 : decode mX7_layTrace.2.1 135 = .ok (.aload_n 0, 1) := by decide +kernel
theorem dX7_layTrace_136 : decode mX7_layTrace.2.1 136 = .ok (.iload 5, 2) := by decide +kernel
theorem dX7_layTrace_138 : decode mX7_layTrace.2.1 138 = .ok (.aload_n 0, 1) := by decide +kernel
theorem dX7_layTrace_139 : decode mX7_layTrace.2.1 139 = .ok (.getfield 62, 3) := by decide +kernel
theorem dX7_layTrace_142 : decode mX7_layTrace.2.1 142 = .ok (.iload 4, 2) := by decide +kernel
theorem dX7_layTrace_144 : decode mX7_layTrace.2.1 144 = .ok (.iaload, 1) := by decide +kernel
theorem dX7_layTrace_145 : decode mX7_layTrace.2.1 145 = .ok (.iload_n 1, 1) := by decide +kernel
theorem dX7_layTrace_146 : decode mX7_layTrace.2.1 146 = .ok (.invokevirtual 207, 3) := by decide +kernel
theorem dX7_layTrace_149 : decode mX7_layTrace.2.1 149 = .ok (.goto (-109), 3) := by decide +kernel
theorem dX7_layTrace_152 : decode mX7_layTrace.2.1 152 = .ok (.iconst 1, 1) := by decide +kernel
theorem dX7_layTrace_153 : decode mX7_layTrace.2.1 153 = .ok (.ireturn, 1) := by decide +kernel
